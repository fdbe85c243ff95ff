section
-- ===== PART A: goes FIRST, ahead of the names: the tables' words, and 'selects' of the private methods out of them =====
/-- a private method of a class that the tables say can be made, by its rows of tables_1 -/
def lw_okq (q : MethodName × Nat) : Prop := (q.1.cls ≠ "java/lang/invoke/MethodHandle" ∧ q.1.cls ≠ "java/lang/invoke/VarHandle") ∧ Cond.instantiable q.1.cls q.2 ∈ tables_1 ∧ Cond.privateMethod q.1 ∈ tables_1 ∧ Cond.instanceMethod q.1 ∈ tables_1
theorem lw_p0 : lw_okq (⟨"GetsOutFirst", "comeIn", "(III)I"⟩, 9) := ⟨⟨by decide +kernel, by decide +kernel⟩, List.mem_of_getElem? (i := 18) (by decide +kernel), List.mem_of_getElem? (i := 259) (by decide +kernel), List.mem_of_getElem? (i := 260) (by decide +kernel)⟩
theorem lw_p1 : lw_okq (⟨"GetsOutFirst", "putDoors", "(I)I"⟩, 9) := ⟨⟨by decide +kernel, by decide +kernel⟩, List.mem_of_getElem? (i := 18) (by decide +kernel), List.mem_of_getElem? (i := 274) (by decide +kernel), List.mem_of_getElem? (i := 275) (by decide +kernel)⟩
theorem lw_p2 : lw_okq (⟨"GetsOutFirst", "leastOf", "(II)I"⟩, 9) := ⟨⟨by decide +kernel, by decide +kernel⟩, List.mem_of_getElem? (i := 18) (by decide +kernel), List.mem_of_getElem? (i := 282) (by decide +kernel), List.mem_of_getElem? (i := 283) (by decide +kernel)⟩
theorem lw_p3 : lw_okq (⟨"GetsOutFirst", "put", "([III)I"⟩, 9) := ⟨⟨by decide +kernel, by decide +kernel⟩, List.mem_of_getElem? (i := 18) (by decide +kernel), List.mem_of_getElem? (i := 293) (by decide +kernel), List.mem_of_getElem? (i := 294) (by decide +kernel)⟩
theorem lw_p4 : lw_okq (⟨"GetsOutFirst$Reader", "step", "()V"⟩, 9) := ⟨⟨by decide +kernel, by decide +kernel⟩, List.mem_of_getElem? (i := 84) (by decide +kernel), List.mem_of_getElem? (i := 321) (by decide +kernel), List.mem_of_getElem? (i := 322) (by decide +kernel)⟩
theorem lw_p5 : lw_okq (⟨"GetsOutFirst$Reader", "stepOverWord", "()V"⟩, 9) := ⟨⟨by decide +kernel, by decide +kernel⟩, List.mem_of_getElem? (i := 84) (by decide +kernel), List.mem_of_getElem? (i := 325) (by decide +kernel), List.mem_of_getElem? (i := 326) (by decide +kernel)⟩
theorem lw_p6 : lw_okq (⟨"GetsOutFirst$Reader", "isWord", "(Ljava/lang/String;)Z"⟩, 9) := ⟨⟨by decide +kernel, by decide +kernel⟩, List.mem_of_getElem? (i := 84) (by decide +kernel), List.mem_of_getElem? (i := 344) (by decide +kernel), List.mem_of_getElem? (i := 345) (by decide +kernel)⟩
theorem lw_p7 : lw_okq (⟨"GetsOutFirst$Reader", "stepOverDigits", "()V"⟩, 9) := ⟨⟨by decide +kernel, by decide +kernel⟩, List.mem_of_getElem? (i := 84) (by decide +kernel), List.mem_of_getElem? (i := 396) (by decide +kernel), List.mem_of_getElem? (i := 397) (by decide +kernel)⟩
theorem lw_p8 : lw_okq (⟨"GetsOutFirst$Reader", "passes", "(I)Z"⟩, 9) := ⟨⟨by decide +kernel, by decide +kernel⟩, List.mem_of_getElem? (i := 84) (by decide +kernel), List.mem_of_getElem? (i := 403) (by decide +kernel), List.mem_of_getElem? (i := 404) (by decide +kernel)⟩
theorem lw_p9 : lw_okq (⟨"GetsOutFirst$Reader", "chain", "(II)Z"⟩, 9) := ⟨⟨by decide +kernel, by decide +kernel⟩, List.mem_of_getElem? (i := 84) (by decide +kernel), List.mem_of_getElem? (i := 407) (by decide +kernel), List.mem_of_getElem? (i := 408) (by decide +kernel)⟩
theorem lw_p10 : lw_okq (⟨"GetsOutFirst$Reader", "perhapsNot", "(I)Z"⟩, 9) := ⟨⟨by decide +kernel, by decide +kernel⟩, List.mem_of_getElem? (i := 84) (by decide +kernel), List.mem_of_getElem? (i := 411) (by decide +kernel), List.mem_of_getElem? (i := 412) (by decide +kernel)⟩
theorem lw_p11 : lw_okq (⟨"GetsOutFirst$Reader", "put", "(I)Z"⟩, 9) := ⟨⟨by decide +kernel, by decide +kernel⟩, List.mem_of_getElem? (i := 84) (by decide +kernel), List.mem_of_getElem? (i := 415) (by decide +kernel), List.mem_of_getElem? (i := 416) (by decide +kernel)⟩
theorem lw_p12 : lw_okq (⟨"GetsOutFirst$Reader", "single", "(I)Z"⟩, 9) := ⟨⟨by decide +kernel, by decide +kernel⟩, List.mem_of_getElem? (i := 84) (by decide +kernel), List.mem_of_getElem? (i := 422) (by decide +kernel), List.mem_of_getElem? (i := 423) (by decide +kernel)⟩
theorem lw_p13 : lw_okq (⟨"GetsOutFirst$Trip", "whoMakesWay", "(II)I"⟩, 12) := ⟨⟨by decide +kernel, by decide +kernel⟩, List.mem_of_getElem? (i := 125) (by decide +kernel), List.mem_of_getElem? (i := 499) (by decide +kernel), List.mem_of_getElem? (i := 500) (by decide +kernel)⟩
theorem lw_p14 : lw_okq (⟨"GetsOutFirst$Trip", "price", "(IIII)I"⟩, 12) := ⟨⟨by decide +kernel, by decide +kernel⟩, List.mem_of_getElem? (i := 125) (by decide +kernel), List.mem_of_getElem? (i := 513) (by decide +kernel), List.mem_of_getElem? (i := 514) (by decide +kernel)⟩
theorem lw_p15 : lw_okq (⟨"GetsOutFirst$Seeker", "putFrom", "(II)V"⟩, 5) := ⟨⟨by decide +kernel, by decide +kernel⟩, List.mem_of_getElem? (i := 172) (by decide +kernel), List.mem_of_getElem? (i := 558) (by decide +kernel), List.mem_of_getElem? (i := 559) (by decide +kernel)⟩
def lw_privs_1 : List (MethodName × Nat) := [(⟨"GetsOutFirst", "comeIn", "(III)I"⟩, 9), (⟨"GetsOutFirst", "putDoors", "(I)I"⟩, 9), (⟨"GetsOutFirst", "leastOf", "(II)I"⟩, 9), (⟨"GetsOutFirst", "put", "([III)I"⟩, 9), (⟨"GetsOutFirst$Reader", "step", "()V"⟩, 9), (⟨"GetsOutFirst$Reader", "stepOverWord", "()V"⟩, 9), (⟨"GetsOutFirst$Reader", "isWord", "(Ljava/lang/String;)Z"⟩, 9), (⟨"GetsOutFirst$Reader", "stepOverDigits", "()V"⟩, 9), (⟨"GetsOutFirst$Reader", "passes", "(I)Z"⟩, 9), (⟨"GetsOutFirst$Reader", "chain", "(II)Z"⟩, 9), (⟨"GetsOutFirst$Reader", "perhapsNot", "(I)Z"⟩, 9), (⟨"GetsOutFirst$Reader", "put", "(I)Z"⟩, 9), (⟨"GetsOutFirst$Reader", "single", "(I)Z"⟩, 9), (⟨"GetsOutFirst$Trip", "whoMakesWay", "(II)I"⟩, 12), (⟨"GetsOutFirst$Trip", "price", "(IIII)I"⟩, 12), (⟨"GetsOutFirst$Seeker", "putFrom", "(II)V"⟩, 5)]
theorem lw_r1 : ∀ q ∈ lw_privs_1, lw_okq q := List.forall_mem_cons.mpr ⟨lw_p0, List.forall_mem_cons.mpr ⟨lw_p1, List.forall_mem_cons.mpr ⟨lw_p2, List.forall_mem_cons.mpr ⟨lw_p3, List.forall_mem_cons.mpr ⟨lw_p4, List.forall_mem_cons.mpr ⟨lw_p5, List.forall_mem_cons.mpr ⟨lw_p6, List.forall_mem_cons.mpr ⟨lw_p7, List.forall_mem_cons.mpr ⟨lw_p8, List.forall_mem_cons.mpr ⟨lw_p9, List.forall_mem_cons.mpr ⟨lw_p10, List.forall_mem_cons.mpr ⟨lw_p11, List.forall_mem_cons.mpr ⟨lw_p12, List.forall_mem_cons.mpr ⟨lw_p13, List.forall_mem_cons.mpr ⟨lw_p14, List.forall_mem_cons.mpr ⟨lw_p15, fun _ h => absurd h List.not_mem_nil⟩⟩⟩⟩⟩⟩⟩⟩⟩⟩⟩⟩⟩⟩⟩⟩
theorem lw_p16 : lw_okq (⟨"GetsOutFirst", "costOfChanging", "(III)I"⟩, 9) := ⟨⟨by decide +kernel, by decide +kernel⟩, List.mem_of_getElem? (i := 18) (by decide +kernel), List.mem_of_getElem? (i := 580) (by decide +kernel), List.mem_of_getElem? (i := 581) (by decide +kernel)⟩
theorem lw_p17 : lw_okq (⟨"GetsOutFirst", "whoShouldWalk", "()I"⟩, 9) := ⟨⟨by decide +kernel, by decide +kernel⟩, List.mem_of_getElem? (i := 18) (by decide +kernel), List.mem_of_getElem? (i := 594) (by decide +kernel), List.mem_of_getElem? (i := 595) (by decide +kernel)⟩
theorem lw_p18 : lw_okq (⟨"GetsOutFirst", "weightOf", "(I)J"⟩, 9) := ⟨⟨by decide +kernel, by decide +kernel⟩, List.mem_of_getElem? (i := 18) (by decide +kernel), List.mem_of_getElem? (i := 609) (by decide +kernel), List.mem_of_getElem? (i := 610) (by decide +kernel)⟩
theorem lw_p19 : lw_okq (⟨"GetsOutFirst", "firstUnlike", "(LGetsOutFirst$Sheet;)I"⟩, 9) := ⟨⟨by decide +kernel, by decide +kernel⟩, List.mem_of_getElem? (i := 18) (by decide +kernel), List.mem_of_getElem? (i := 630) (by decide +kernel), List.mem_of_getElem? (i := 631) (by decide +kernel)⟩
theorem lw_p20 : lw_okq (⟨"GetsOutFirst", "whichFit", "(LGetsOutFirst$Sheet;[IIII)I"⟩, 9) := ⟨⟨by decide +kernel, by decide +kernel⟩, List.mem_of_getElem? (i := 18) (by decide +kernel), List.mem_of_getElem? (i := 638) (by decide +kernel), List.mem_of_getElem? (i := 639) (by decide +kernel)⟩
theorem lw_p21 : lw_okq (⟨"GetsOutFirst", "costOfDrawn", "(I)I"⟩, 9) := ⟨⟨by decide +kernel, by decide +kernel⟩, List.mem_of_getElem? (i := 18) (by decide +kernel), List.mem_of_getElem? (i := 655) (by decide +kernel), List.mem_of_getElem? (i := 656) (by decide +kernel)⟩
theorem lw_p22 : lw_okq (⟨"GetsOutFirstModel", "spell", "(IIIIIIIII)V"⟩, 49) := ⟨⟨by decide +kernel, by decide +kernel⟩, List.mem_of_getElem? (i := 711) (by decide +kernel), List.mem_of_getElem? (i := 717) (by decide +kernel), List.mem_of_getElem? (i := 718) (by decide +kernel)⟩
theorem lw_p23 : lw_okq (⟨"GetsOutFirstModel", "areTwo", "(I)Z"⟩, 49) := ⟨⟨by decide +kernel, by decide +kernel⟩, List.mem_of_getElem? (i := 711) (by decide +kernel), List.mem_of_getElem? (i := 879) (by decide +kernel), List.mem_of_getElem? (i := 880) (by decide +kernel)⟩
theorem lw_p24 : lw_okq (⟨"GetsOutFirstModel", "isRider", "(I)Z"⟩, 49) := ⟨⟨by decide +kernel, by decide +kernel⟩, List.mem_of_getElem? (i := 711) (by decide +kernel), List.mem_of_getElem? (i := 887) (by decide +kernel), List.mem_of_getElem? (i := 888) (by decide +kernel)⟩
theorem lw_p25 : lw_okq (⟨"GetsOutFirstModel", "puts", "(III)V"⟩, 49) := ⟨⟨by decide +kernel, by decide +kernel⟩, List.mem_of_getElem? (i := 711) (by decide +kernel), List.mem_of_getElem? (i := 899) (by decide +kernel), List.mem_of_getElem? (i := 900) (by decide +kernel)⟩
theorem lw_p26 : lw_okq (⟨"GetsOutFirstModel", "doesLet", "(II)Z"⟩, 49) := ⟨⟨by decide +kernel, by decide +kernel⟩, List.mem_of_getElem? (i := 711) (by decide +kernel), List.mem_of_getElem? (i := 908) (by decide +kernel), List.mem_of_getElem? (i := 909) (by decide +kernel)⟩
theorem lw_p27 : lw_okq (⟨"GetsOutFirstModel", "read", "(II)I"⟩, 49) := ⟨⟨by decide +kernel, by decide +kernel⟩, List.mem_of_getElem? (i := 711) (by decide +kernel), List.mem_of_getElem? (i := 921) (by decide +kernel), List.mem_of_getElem? (i := 922) (by decide +kernel)⟩
theorem lw_p28 : lw_okq (⟨"GetsOutFirstModel", "next", "()V"⟩, 49) := ⟨⟨by decide +kernel, by decide +kernel⟩, List.mem_of_getElem? (i := 711) (by decide +kernel), List.mem_of_getElem? (i := 925) (by decide +kernel), List.mem_of_getElem? (i := 926) (by decide +kernel)⟩
theorem lw_p29 : lw_okq (⟨"GetsOutFirstModel", "byteAt", "(I)I"⟩, 49) := ⟨⟨by decide +kernel, by decide +kernel⟩, List.mem_of_getElem? (i := 711) (by decide +kernel), List.mem_of_getElem? (i := 929) (by decide +kernel), List.mem_of_getElem? (i := 930) (by decide +kernel)⟩
theorem lw_p30 : lw_okq (⟨"GetsOutFirstModel", "isWord", "(IIIIIIII)Z"⟩, 49) := ⟨⟨by decide +kernel, by decide +kernel⟩, List.mem_of_getElem? (i := 711) (by decide +kernel), List.mem_of_getElem? (i := 938) (by decide +kernel), List.mem_of_getElem? (i := 939) (by decide +kernel)⟩
theorem lw_p31 : lw_okq (⟨"GetsOutFirstModel", "isLetter", "(II)Z"⟩, 49) := ⟨⟨by decide +kernel, by decide +kernel⟩, List.mem_of_getElem? (i := 711) (by decide +kernel), List.mem_of_getElem? (i := 942) (by decide +kernel), List.mem_of_getElem? (i := 943) (by decide +kernel)⟩
def lw_privs_2 : List (MethodName × Nat) := [(⟨"GetsOutFirst", "costOfChanging", "(III)I"⟩, 9), (⟨"GetsOutFirst", "whoShouldWalk", "()I"⟩, 9), (⟨"GetsOutFirst", "weightOf", "(I)J"⟩, 9), (⟨"GetsOutFirst", "firstUnlike", "(LGetsOutFirst$Sheet;)I"⟩, 9), (⟨"GetsOutFirst", "whichFit", "(LGetsOutFirst$Sheet;[IIII)I"⟩, 9), (⟨"GetsOutFirst", "costOfDrawn", "(I)I"⟩, 9), (⟨"GetsOutFirstModel", "spell", "(IIIIIIIII)V"⟩, 49), (⟨"GetsOutFirstModel", "areTwo", "(I)Z"⟩, 49), (⟨"GetsOutFirstModel", "isRider", "(I)Z"⟩, 49), (⟨"GetsOutFirstModel", "puts", "(III)V"⟩, 49), (⟨"GetsOutFirstModel", "doesLet", "(II)Z"⟩, 49), (⟨"GetsOutFirstModel", "read", "(II)I"⟩, 49), (⟨"GetsOutFirstModel", "next", "()V"⟩, 49), (⟨"GetsOutFirstModel", "byteAt", "(I)I"⟩, 49), (⟨"GetsOutFirstModel", "isWord", "(IIIIIIII)Z"⟩, 49), (⟨"GetsOutFirstModel", "isLetter", "(II)Z"⟩, 49)]
theorem lw_r2 : ∀ q ∈ lw_privs_2, lw_okq q := List.forall_mem_cons.mpr ⟨lw_p16, List.forall_mem_cons.mpr ⟨lw_p17, List.forall_mem_cons.mpr ⟨lw_p18, List.forall_mem_cons.mpr ⟨lw_p19, List.forall_mem_cons.mpr ⟨lw_p20, List.forall_mem_cons.mpr ⟨lw_p21, List.forall_mem_cons.mpr ⟨lw_p22, List.forall_mem_cons.mpr ⟨lw_p23, List.forall_mem_cons.mpr ⟨lw_p24, List.forall_mem_cons.mpr ⟨lw_p25, List.forall_mem_cons.mpr ⟨lw_p26, List.forall_mem_cons.mpr ⟨lw_p27, List.forall_mem_cons.mpr ⟨lw_p28, List.forall_mem_cons.mpr ⟨lw_p29, List.forall_mem_cons.mpr ⟨lw_p30, List.forall_mem_cons.mpr ⟨lw_p31, fun _ h => absurd h List.not_mem_nil⟩⟩⟩⟩⟩⟩⟩⟩⟩⟩⟩⟩⟩⟩⟩⟩
theorem lw_p32 : lw_okq (⟨"GetsOutFirstModel", "part", "(Z)I"⟩, 49) := ⟨⟨by decide +kernel, by decide +kernel⟩, List.mem_of_getElem? (i := 711) (by decide +kernel), List.mem_of_getElem? (i := 946) (by decide +kernel), List.mem_of_getElem? (i := 947) (by decide +kernel)⟩
theorem lw_p33 : lw_okq (⟨"GetsOutFirstModel", "fail", "()V"⟩, 49) := ⟨⟨by decide +kernel, by decide +kernel⟩, List.mem_of_getElem? (i := 711) (by decide +kernel), List.mem_of_getElem? (i := 950) (by decide +kernel), List.mem_of_getElem? (i := 951) (by decide +kernel)⟩
theorem lw_p34 : lw_okq (⟨"GetsOutFirstModel", "either", "()I"⟩, 49) := ⟨⟨by decide +kernel, by decide +kernel⟩, List.mem_of_getElem? (i := 711) (by decide +kernel), List.mem_of_getElem? (i := 954) (by decide +kernel), List.mem_of_getElem? (i := 955) (by decide +kernel)⟩
theorem lw_p35 : lw_okq (⟨"GetsOutFirstModel", "both", "()I"⟩, 49) := ⟨⟨by decide +kernel, by decide +kernel⟩, List.mem_of_getElem? (i := 711) (by decide +kernel), List.mem_of_getElem? (i := 958) (by decide +kernel), List.mem_of_getElem? (i := 959) (by decide +kernel)⟩
theorem lw_p36 : lw_okq (⟨"GetsOutFirstModel", "not", "()I"⟩, 49) := ⟨⟨by decide +kernel, by decide +kernel⟩, List.mem_of_getElem? (i := 711) (by decide +kernel), List.mem_of_getElem? (i := 962) (by decide +kernel), List.mem_of_getElem? (i := 963) (by decide +kernel)⟩
theorem lw_p37 : lw_okq (⟨"GetsOutFirstModel", "opens", "()Z"⟩, 49) := ⟨⟨by decide +kernel, by decide +kernel⟩, List.mem_of_getElem? (i := 711) (by decide +kernel), List.mem_of_getElem? (i := 966) (by decide +kernel), List.mem_of_getElem? (i := 967) (by decide +kernel)⟩
theorem lw_p38 : lw_okq (⟨"GetsOutFirstModel", "added", "()I"⟩, 49) := ⟨⟨by decide +kernel, by decide +kernel⟩, List.mem_of_getElem? (i := 711) (by decide +kernel), List.mem_of_getElem? (i := 970) (by decide +kernel), List.mem_of_getElem? (i := 971) (by decide +kernel)⟩
theorem lw_p39 : lw_okq (⟨"GetsOutFirstModel", "term", "()I"⟩, 49) := ⟨⟨by decide +kernel, by decide +kernel⟩, List.mem_of_getElem? (i := 711) (by decide +kernel), List.mem_of_getElem? (i := 974) (by decide +kernel), List.mem_of_getElem? (i := 975) (by decide +kernel)⟩
theorem lw_p40 : lw_okq (⟨"GetsOutFirstModel", "atom", "()I"⟩, 49) := ⟨⟨by decide +kernel, by decide +kernel⟩, List.mem_of_getElem? (i := 711) (by decide +kernel), List.mem_of_getElem? (i := 978) (by decide +kernel), List.mem_of_getElem? (i := 979) (by decide +kernel)⟩
theorem lw_p41 : lw_okq (⟨"GetsOutFirstModel", "isSign", "(I)Z"⟩, 49) := ⟨⟨by decide +kernel, by decide +kernel⟩, List.mem_of_getElem? (i := 711) (by decide +kernel), List.mem_of_getElem? (i := 982) (by decide +kernel), List.mem_of_getElem? (i := 983) (by decide +kernel)⟩
theorem lw_p42 : lw_okq (⟨"GetsOutFirstModel", "name", "()I"⟩, 49) := ⟨⟨by decide +kernel, by decide +kernel⟩, List.mem_of_getElem? (i := 711) (by decide +kernel), List.mem_of_getElem? (i := 986) (by decide +kernel), List.mem_of_getElem? (i := 987) (by decide +kernel)⟩
theorem lw_p43 : lw_okq (⟨"GetsOutFirstModel", "allRiders", "()I"⟩, 49) := ⟨⟨by decide +kernel, by decide +kernel⟩, List.mem_of_getElem? (i := 711) (by decide +kernel), List.mem_of_getElem? (i := 1000) (by decide +kernel), List.mem_of_getElem? (i := 1001) (by decide +kernel)⟩
theorem lw_p44 : lw_okq (⟨"GetsOutFirstModel", "gathers", "(I)V"⟩, 49) := ⟨⟨by decide +kernel, by decide +kernel⟩, List.mem_of_getElem? (i := 711) (by decide +kernel), List.mem_of_getElem? (i := 1004) (by decide +kernel), List.mem_of_getElem? (i := 1005) (by decide +kernel)⟩
theorem lw_p45 : lw_okq (⟨"GetsOutFirstModel", "insideAt", "(I)I"⟩, 49) := ⟨⟨by decide +kernel, by decide +kernel⟩, List.mem_of_getElem? (i := 711) (by decide +kernel), List.mem_of_getElem? (i := 1008) (by decide +kernel), List.mem_of_getElem? (i := 1009) (by decide +kernel)⟩
theorem lw_p46 : lw_okq (⟨"GetsOutFirstModel", "says", "(IIIII)I"⟩, 49) := ⟨⟨by decide +kernel, by decide +kernel⟩, List.mem_of_getElem? (i := 711) (by decide +kernel), List.mem_of_getElem? (i := 1012) (by decide +kernel), List.mem_of_getElem? (i := 1013) (by decide +kernel)⟩
theorem lw_p47 : lw_okq (⟨"GetsOutFirstModel", "costsOf", "(II)I"⟩, 49) := ⟨⟨by decide +kernel, by decide +kernel⟩, List.mem_of_getElem? (i := 711) (by decide +kernel), List.mem_of_getElem? (i := 1019) (by decide +kernel), List.mem_of_getElem? (i := 1020) (by decide +kernel)⟩
def lw_privs_3 : List (MethodName × Nat) := [(⟨"GetsOutFirstModel", "part", "(Z)I"⟩, 49), (⟨"GetsOutFirstModel", "fail", "()V"⟩, 49), (⟨"GetsOutFirstModel", "either", "()I"⟩, 49), (⟨"GetsOutFirstModel", "both", "()I"⟩, 49), (⟨"GetsOutFirstModel", "not", "()I"⟩, 49), (⟨"GetsOutFirstModel", "opens", "()Z"⟩, 49), (⟨"GetsOutFirstModel", "added", "()I"⟩, 49), (⟨"GetsOutFirstModel", "term", "()I"⟩, 49), (⟨"GetsOutFirstModel", "atom", "()I"⟩, 49), (⟨"GetsOutFirstModel", "isSign", "(I)Z"⟩, 49), (⟨"GetsOutFirstModel", "name", "()I"⟩, 49), (⟨"GetsOutFirstModel", "allRiders", "()I"⟩, 49), (⟨"GetsOutFirstModel", "gathers", "(I)V"⟩, 49), (⟨"GetsOutFirstModel", "insideAt", "(I)I"⟩, 49), (⟨"GetsOutFirstModel", "says", "(IIIII)I"⟩, 49), (⟨"GetsOutFirstModel", "costsOf", "(II)I"⟩, 49)]
theorem lw_r3 : ∀ q ∈ lw_privs_3, lw_okq q := List.forall_mem_cons.mpr ⟨lw_p32, List.forall_mem_cons.mpr ⟨lw_p33, List.forall_mem_cons.mpr ⟨lw_p34, List.forall_mem_cons.mpr ⟨lw_p35, List.forall_mem_cons.mpr ⟨lw_p36, List.forall_mem_cons.mpr ⟨lw_p37, List.forall_mem_cons.mpr ⟨lw_p38, List.forall_mem_cons.mpr ⟨lw_p39, List.forall_mem_cons.mpr ⟨lw_p40, List.forall_mem_cons.mpr ⟨lw_p41, List.forall_mem_cons.mpr ⟨lw_p42, List.forall_mem_cons.mpr ⟨lw_p43, List.forall_mem_cons.mpr ⟨lw_p44, List.forall_mem_cons.mpr ⟨lw_p45, List.forall_mem_cons.mpr ⟨lw_p46, List.forall_mem_cons.mpr ⟨lw_p47, fun _ h => absurd h List.not_mem_nil⟩⟩⟩⟩⟩⟩⟩⟩⟩⟩⟩⟩⟩⟩⟩⟩
theorem lw_p48 : lw_okq (⟨"GetsOutFirstModel", "rides", "()I"⟩, 49) := ⟨⟨by decide +kernel, by decide +kernel⟩, List.mem_of_getElem? (i := 711) (by decide +kernel), List.mem_of_getElem? (i := 1023) (by decide +kernel), List.mem_of_getElem? (i := 1024) (by decide +kernel)⟩
theorem lw_p49 : lw_okq (⟨"GetsOutFirstModel", "stepsAt", "(I)I"⟩, 49) := ⟨⟨by decide +kernel, by decide +kernel⟩, List.mem_of_getElem? (i := 711) (by decide +kernel), List.mem_of_getElem? (i := 1027) (by decide +kernel), List.mem_of_getElem? (i := 1028) (by decide +kernel)⟩
theorem lw_p50 : lw_okq (⟨"GetsOutFirstModel", "stayingAt", "(I)I"⟩, 49) := ⟨⟨by decide +kernel, by decide +kernel⟩, List.mem_of_getElem? (i := 711) (by decide +kernel), List.mem_of_getElem? (i := 1031) (by decide +kernel), List.mem_of_getElem? (i := 1032) (by decide +kernel)⟩
theorem lw_p51 : lw_okq (⟨"GetsOutFirstModel", "mustFor", "(II)I"⟩, 49) := ⟨⟨by decide +kernel, by decide +kernel⟩, List.mem_of_getElem? (i := 711) (by decide +kernel), List.mem_of_getElem? (i := 1035) (by decide +kernel), List.mem_of_getElem? (i := 1036) (by decide +kernel)⟩
theorem lw_p52 : lw_okq (⟨"GetsOutFirstModel", "barring", "(III)I"⟩, 49) := ⟨⟨by decide +kernel, by decide +kernel⟩, List.mem_of_getElem? (i := 711) (by decide +kernel), List.mem_of_getElem? (i := 1039) (by decide +kernel), List.mem_of_getElem? (i := 1040) (by decide +kernel)⟩
theorem lw_p53 : lw_okq (⟨"GetsOutFirstModel", "costAt", "(II)I"⟩, 49) := ⟨⟨by decide +kernel, by decide +kernel⟩, List.mem_of_getElem? (i := 711) (by decide +kernel), List.mem_of_getElem? (i := 1046) (by decide +kernel), List.mem_of_getElem? (i := 1047) (by decide +kernel)⟩
theorem lw_p54 : lw_okq (⟨"GetsOutFirstModel", "seeks", "()V"⟩, 49) := ⟨⟨by decide +kernel, by decide +kernel⟩, List.mem_of_getElem? (i := 711) (by decide +kernel), List.mem_of_getElem? (i := 1058) (by decide +kernel), List.mem_of_getElem? (i := 1059) (by decide +kernel)⟩
theorem lw_p55 : lw_okq (⟨"GetsOutFirstModel", "keeps", "()V"⟩, 49) := ⟨⟨by decide +kernel, by decide +kernel⟩, List.mem_of_getElem? (i := 711) (by decide +kernel), List.mem_of_getElem? (i := 1062) (by decide +kernel), List.mem_of_getElem? (i := 1063) (by decide +kernel)⟩
theorem lw_p56 : lw_okq (⟨"GetsOutFirstModel", "putsFrom", "(I)V"⟩, 49) := ⟨⟨by decide +kernel, by decide +kernel⟩, List.mem_of_getElem? (i := 711) (by decide +kernel), List.mem_of_getElem? (i := 1066) (by decide +kernel), List.mem_of_getElem? (i := 1067) (by decide +kernel)⟩
theorem lw_p57 : lw_okq (⟨"GetsOutFirstModel", "costOfStanding", "()I"⟩, 49) := ⟨⟨by decide +kernel, by decide +kernel⟩, List.mem_of_getElem? (i := 711) (by decide +kernel), List.mem_of_getElem? (i := 1070) (by decide +kernel), List.mem_of_getElem? (i := 1071) (by decide +kernel)⟩
theorem lw_p58 : lw_okq (⟨"GetsOutFirstModel", "laysBack", "()V"⟩, 49) := ⟨⟨by decide +kernel, by decide +kernel⟩, List.mem_of_getElem? (i := 711) (by decide +kernel), List.mem_of_getElem? (i := 1074) (by decide +kernel), List.mem_of_getElem? (i := 1075) (by decide +kernel)⟩
theorem lw_p59 : lw_okq (⟨"GetsOutFirstModel", "landingsBad", "(I)I"⟩, 49) := ⟨⟨by decide +kernel, by decide +kernel⟩, List.mem_of_getElem? (i := 711) (by decide +kernel), List.mem_of_getElem? (i := 1107) (by decide +kernel), List.mem_of_getElem? (i := 1108) (by decide +kernel)⟩
theorem lw_p60 : lw_okq (⟨"GetsOutFirstModel", "unlikeAt", "(I)I"⟩, 49) := ⟨⟨by decide +kernel, by decide +kernel⟩, List.mem_of_getElem? (i := 711) (by decide +kernel), List.mem_of_getElem? (i := 1115) (by decide +kernel), List.mem_of_getElem? (i := 1116) (by decide +kernel)⟩
theorem lw_p61 : lw_okq (⟨"GetsOutFirstModel", "lays", "(III)V"⟩, 49) := ⟨⟨by decide +kernel, by decide +kernel⟩, List.mem_of_getElem? (i := 711) (by decide +kernel), List.mem_of_getElem? (i := 1123) (by decide +kernel), List.mem_of_getElem? (i := 1124) (by decide +kernel)⟩
theorem lw_p62 : lw_okq (⟨"GetsOutFirstModel", "draws", "(I)I"⟩, 49) := ⟨⟨by decide +kernel, by decide +kernel⟩, List.mem_of_getElem? (i := 711) (by decide +kernel), List.mem_of_getElem? (i := 1140) (by decide +kernel), List.mem_of_getElem? (i := 1141) (by decide +kernel)⟩
def lw_privs_4 : List (MethodName × Nat) := [(⟨"GetsOutFirstModel", "rides", "()I"⟩, 49), (⟨"GetsOutFirstModel", "stepsAt", "(I)I"⟩, 49), (⟨"GetsOutFirstModel", "stayingAt", "(I)I"⟩, 49), (⟨"GetsOutFirstModel", "mustFor", "(II)I"⟩, 49), (⟨"GetsOutFirstModel", "barring", "(III)I"⟩, 49), (⟨"GetsOutFirstModel", "costAt", "(II)I"⟩, 49), (⟨"GetsOutFirstModel", "seeks", "()V"⟩, 49), (⟨"GetsOutFirstModel", "keeps", "()V"⟩, 49), (⟨"GetsOutFirstModel", "putsFrom", "(I)V"⟩, 49), (⟨"GetsOutFirstModel", "costOfStanding", "()I"⟩, 49), (⟨"GetsOutFirstModel", "laysBack", "()V"⟩, 49), (⟨"GetsOutFirstModel", "landingsBad", "(I)I"⟩, 49), (⟨"GetsOutFirstModel", "unlikeAt", "(I)I"⟩, 49), (⟨"GetsOutFirstModel", "lays", "(III)V"⟩, 49), (⟨"GetsOutFirstModel", "draws", "(I)I"⟩, 49)]
theorem lw_r4 : ∀ q ∈ lw_privs_4, lw_okq q := List.forall_mem_cons.mpr ⟨lw_p48, List.forall_mem_cons.mpr ⟨lw_p49, List.forall_mem_cons.mpr ⟨lw_p50, List.forall_mem_cons.mpr ⟨lw_p51, List.forall_mem_cons.mpr ⟨lw_p52, List.forall_mem_cons.mpr ⟨lw_p53, List.forall_mem_cons.mpr ⟨lw_p54, List.forall_mem_cons.mpr ⟨lw_p55, List.forall_mem_cons.mpr ⟨lw_p56, List.forall_mem_cons.mpr ⟨lw_p57, List.forall_mem_cons.mpr ⟨lw_p58, List.forall_mem_cons.mpr ⟨lw_p59, List.forall_mem_cons.mpr ⟨lw_p60, List.forall_mem_cons.mpr ⟨lw_p61, List.forall_mem_cons.mpr ⟨lw_p62, fun _ h => absurd h List.not_mem_nil⟩⟩⟩⟩⟩⟩⟩⟩⟩⟩⟩⟩⟩⟩⟩
def lw_privs : List (MethodName × Nat) := lw_privs_1 ++ (lw_privs_2 ++ (lw_privs_3 ++ (lw_privs_4)))
def lw_tbl : List Cond := k2_sels lw_privs ++ tables_1
theorem lw_privs_ok : ∀ q ∈ lw_privs, lw_okq q := by
  show ∀ q ∈ lw_privs_1 ++ (lw_privs_2 ++ (lw_privs_3 ++ (lw_privs_4))), lw_okq q
  exact List.forall_mem_append.mpr ⟨lw_r1, List.forall_mem_append.mpr ⟨lw_r2, List.forall_mem_append.mpr ⟨lw_r3, lw_r4⟩⟩⟩
-- names, as printed
def RX0 : String := "GetsOutFirst$Crew"
def TX0 : u_T := fun k => match k with
  | 0 => ("GetsOutFirst$Crew", "kind", "[I", true)
  | 1 => ("GetsOutFirst$Crew", "number", "[I", true)
  | 2 => ("GetsOutFirst$Crew", "size", "[I", true)
  | 3 => ("GetsOutFirst$Crew", "from", "[I", true)
  | 4 => ("GetsOutFirst$Crew", "to", "[I", true)
  | 5 => ("GetsOutFirst$Crew", "place", "[I", true)
  | 6 => ("GetsOutFirst$Crew", "chance", "[I", true)
  | 7 => ("GetsOutFirst$Crew", "count", "I", false)
  | 8 => ("GetsOutFirst$Crew", "doors", "I", false)
  | _ => ("GetsOutFirst$Crew", "rule", "I", false)
def tyX0 : Nat → FieldType := fun k => match k with
  | 0 => .array .int
  | 1 => .array .int
  | 2 => .array .int
  | 3 => .array .int
  | 4 => .array .int
  | 5 => .array .int
  | 6 => .array .int
  | 7 => .int
  | 8 => .int
  | _ => .int
abbrev wsX00 : List Cond := u_ws RX0 TX0 10
theorem nmX0 : ∀ a, a < 10 → ∀ b, b < 10 → a ≠ b → (TX0 a).2.1 ≠ (TX0 b).2.1 := by decide +kernel
theorem tyX0_ok : ∀ k, k < 10 → parseFieldDescriptor (TX0 k).2.2.1 = some (tyX0 k) := by decide +kernel
abbrev cX0_init : ByteArray := prog_2_method_1_code
def yX0_init : MethodName := ⟨RX0, "<init>", "()V"⟩
abbrev cX0_become : ByteArray := prog_2_method_2_code
def yX0_become : MethodName := ⟨RX0, "become", "(LGetsOutFirst$Crew;)V"⟩
abbrev cX0_rowOf : ByteArray := prog_2_method_3_code
def yX0_rowOf : MethodName := ⟨RX0, "rowOf", "(I)[I"⟩
abbrev cX0_has : ByteArray := prog_2_method_4_code
def yX0_has : MethodName := ⟨RX0, "has", "(I)Z"⟩
abbrev cX0_canStand : ByteArray := prog_2_method_5_code
def yX0_canStand : MethodName := ⟨RX0, "canStand", "(II)Z"⟩
abbrev cX0_allCanStand : ByteArray := prog_2_method_6_code
def yX0_allCanStand : MethodName := ⟨RX0, "allCanStand", "()Z"⟩
abbrev cX0_letsBy : ByteArray := prog_2_method_7_code
def yX0_letsBy : MethodName := ⟨RX0, "letsBy", "(II)Z"⟩
abbrev cX0_costToStepOut : ByteArray := prog_2_method_8_code
def yX0_costToStepOut : MethodName := ⟨RX0, "costToStepOut", "(II)I"⟩
def RX1 : String := "GetsOutFirst$Reader"
def TX1 : u_T := fun k => match k with
  | 0 => ("GetsOutFirst$Reader", "tape", "[I", true)
  | 1 => ("GetsOutFirst$Reader", "length", "I", false)
  | 2 => ("GetsOutFirst$Reader", "tokenAt", "I", false)
  | 3 => ("GetsOutFirst$Reader", "next", "I", false)
  | 4 => ("GetsOutFirst$Reader", "token", "I", false)
  | 5 => ("GetsOutFirst$Reader", "value", "I", false)
  | 6 => ("GetsOutFirst$Reader", "code", "[I", true)
  | 7 => ("GetsOutFirst$Reader", "codeLength", "I", false)
  | _ => ("GetsOutFirst$Reader", "ends", "[I", true)
def tyX1 : Nat → FieldType := fun k => match k with
  | 0 => .array .int
  | 1 => .int
  | 2 => .int
  | 3 => .int
  | 4 => .int
  | 5 => .int
  | 6 => .array .int
  | 7 => .int
  | _ => .array .int
abbrev wsX10 : List Cond := u_ws RX1 TX1 9
theorem nmX1 : ∀ a, a < 9 → ∀ b, b < 9 → a ≠ b → (TX1 a).2.1 ≠ (TX1 b).2.1 := by decide +kernel
theorem tyX1_ok : ∀ k, k < 9 → parseFieldDescriptor (TX1 k).2.2.1 = some (tyX1 k) := by decide +kernel
abbrev cX1_init : ByteArray := prog_3_method_1_code
def yX1_init : MethodName := ⟨RX1, "<init>", "()V"⟩
abbrev cX1_reads : ByteArray := prog_3_method_2_code
def yX1_reads : MethodName := ⟨RX1, "reads", "()Z"⟩
abbrev cX1_whatWasRead : ByteArray := prog_3_method_3_code
def yX1_whatWasRead : MethodName := ⟨RX1, "whatWasRead", "()LGetsOutFirst$Text;"⟩
abbrev cX1_chain : ByteArray := prog_3_method_4_code
def yX1_chain : MethodName := ⟨RX1, "chain", "(II)Z"⟩
abbrev cX1_perhapsNot : ByteArray := prog_3_method_5_code
def yX1_perhapsNot : MethodName := ⟨RX1, "perhapsNot", "(I)Z"⟩
abbrev cX1_single : ByteArray := prog_3_method_6_code
def yX1_single : MethodName := ⟨RX1, "single", "(I)Z"⟩
abbrev cX1_passes : ByteArray := prog_3_method_7_code
def yX1_passes : MethodName := ⟨RX1, "passes", "(I)Z"⟩
abbrev cX1_put : ByteArray := prog_3_method_8_code
def yX1_put : MethodName := ⟨RX1, "put", "(I)Z"⟩
abbrev cX1_levelOf : ByteArray := prog_3_method_9_code
def yX1_levelOf : MethodName := ⟨RX1, "levelOf", "(I)I"⟩
abbrev cX1_codeOf : ByteArray := prog_3_method_10_code
def yX1_codeOf : MethodName := ⟨RX1, "codeOf", "(I)I"⟩
abbrev cX1_step : ByteArray := prog_3_method_11_code
def yX1_step : MethodName := ⟨RX1, "step", "()V"⟩
abbrev cX1_stepOverDigits : ByteArray := prog_3_method_12_code
def yX1_stepOverDigits : MethodName := ⟨RX1, "stepOverDigits", "()V"⟩
abbrev cX1_stepOverWord : ByteArray := prog_3_method_13_code
def yX1_stepOverWord : MethodName := ⟨RX1, "stepOverWord", "()V"⟩
abbrev cX1_isWord : ByteArray := prog_3_method_14_code
def yX1_isWord : MethodName := ⟨RX1, "isWord", "(Ljava/lang/String;)Z"⟩
abbrev cX1_knownWord : ByteArray := prog_3_method_15_code
def yX1_knownWord : MethodName := ⟨RX1, "knownWord", "(I)Ljava/lang/String;"⟩
abbrev cX1_isSign : ByteArray := prog_3_method_16_code
def yX1_isSign : MethodName := ⟨RX1, "isSign", "(I)Z"⟩
def RX2 : String := "GetsOutFirst$Seeker"
def TX2 : u_T := fun k => match k with
  | 0 => ("GetsOutFirst$Seeker", "truth", "LGetsOutFirst$Crew;", true)
  | 1 => ("GetsOutFirst$Seeker", "trip", "LGetsOutFirst$Trip;", true)
  | 2 => ("GetsOutFirst$Seeker", "hasFound", "Z", false)
  | 3 => ("GetsOutFirst$Seeker", "least", "I", false)
  | _ => ("GetsOutFirst$Seeker", "best", "[I", true)
def tyX2 : Nat → FieldType := fun k => match k with
  | 0 => .object "GetsOutFirst$Crew"
  | 1 => .object "GetsOutFirst$Trip"
  | 2 => .boolean
  | 3 => .int
  | _ => .array .int
abbrev wsX20 : List Cond := u_ws RX2 TX2 5
theorem nmX2 : ∀ a, a < 5 → ∀ b, b < 5 → a ≠ b → (TX2 a).2.1 ≠ (TX2 b).2.1 := by decide +kernel
theorem tyX2_ok : ∀ k, k < 5 → parseFieldDescriptor (TX2 k).2.2.1 = some (tyX2 k) := by decide +kernel
abbrev cX2_init : ByteArray := prog_4_method_1_code
def yX2_init : MethodName := ⟨RX2, "<init>", "(LGetsOutFirst$Crew;LGetsOutFirst$Trip;)V"⟩
abbrev cX2_find : ByteArray := prog_4_method_2_code
def yX2_find : MethodName := ⟨RX2, "find", "()V"⟩
abbrev cX2_putFrom : ByteArray := prog_4_method_3_code
def yX2_putFrom : MethodName := ⟨RX2, "putFrom", "(II)V"⟩
def RX3 : String := "GetsOutFirst$Sheet"
def TX3 : u_T := fun k => match k with
  | 0 => ("GetsOutFirst$Sheet", "items", "[I", true)
  | 1 => ("GetsOutFirst$Sheet", "length", "I", false)
  | _ => ("GetsOutFirst$Sheet", "sort", "I", false)
def tyX3 : Nat → FieldType := fun k => match k with
  | 0 => .array .int
  | 1 => .int
  | _ => .int
abbrev wsX30 : List Cond := u_ws RX3 TX3 3
theorem nmX3 : ∀ a, a < 3 → ∀ b, b < 3 → a ≠ b → (TX3 a).2.1 ≠ (TX3 b).2.1 := by decide +kernel
theorem tyX3_ok : ∀ k, k < 3 → parseFieldDescriptor (TX3 k).2.2.1 = some (tyX3 k) := by decide +kernel
abbrev cX3_init : ByteArray := prog_5_method_1_code
def yX3_init : MethodName := ⟨RX3, "<init>", "()V"⟩
abbrev cX3_isMissing : ByteArray := prog_5_method_2_code
def yX3_isMissing : MethodName := ⟨RX3, "isMissing", "()Z"⟩
abbrev cX3_become : ByteArray := prog_5_method_3_code
def yX3_become : MethodName := ⟨RX3, "become", "(II)V"⟩
abbrev cX3_narrowed : ByteArray := prog_5_method_4_code
def yX3_narrowed : MethodName := ⟨RX3, "narrowed", "(I)I"⟩
abbrev cX3_holds : ByteArray := prog_5_method_5_code
def yX3_holds : MethodName := ⟨RX3, "holds", "(II)Z"⟩
def RX4 : String := "GetsOutFirst$Text"
def TX4 : u_T := fun k => match k with
  | 0 => ("GetsOutFirst$Text", "code", "[I", true)
  | _ => ("GetsOutFirst$Text", "ends", "[I", true)
def tyX4 : Nat → FieldType := fun k => match k with
  | 0 => .array .int
  | _ => .array .int
abbrev wsX40 : List Cond := u_ws RX4 TX4 2
theorem nmX4 : ∀ a, a < 2 → ∀ b, b < 2 → a ≠ b → (TX4 a).2.1 ≠ (TX4 b).2.1 := by decide +kernel
theorem tyX4_ok : ∀ k, k < 2 → parseFieldDescriptor (TX4 k).2.2.1 = some (tyX4 k) := by decide +kernel
abbrev cX4_init : ByteArray := prog_6_method_1_code
def yX4_init : MethodName := ⟨RX4, "<init>", "([I[I)V"⟩
abbrev cX4_worth : ByteArray := prog_6_method_2_code
def yX4_worth : MethodName := ⟨RX4, "worth", "(I[I[I)I"⟩
def RX5 : String := "GetsOutFirst$Trip"
def TX5 : u_T := fun k => match k with
  | 0 => ("GetsOutFirst$Trip", "crew", "LGetsOutFirst$Crew;", true)
  | 1 => ("GetsOutFirst$Trip", "truth", "LGetsOutFirst$Crew;", true)
  | 2 => ("GetsOutFirst$Trip", "texts", "[LGetsOutFirst$Text;", true)
  | 3 => ("GetsOutFirst$Trip", "rule", "LGetsOutFirst$Text;", false)
  | 4 => ("GetsOutFirst$Trip", "staying", "[I", true)
  | 5 => ("GetsOutFirst$Trip", "gettingOut", "[I", true)
  | 6 => ("GetsOutFirst$Trip", "gettingIn", "[I", true)
  | 7 => ("GetsOutFirst$Trip", "ahead", "[I", true)
  | 8 => ("GetsOutFirst$Trip", "behind", "[I", true)
  | 9 => ("GetsOutFirst$Trip", "prices", "[I", true)
  | 10 => ("GetsOutFirst$Trip", "names", "[I", true)
  | _ => ("GetsOutFirst$Trip", "stack", "[I", true)
def tyX5 : Nat → FieldType := fun k => match k with
  | 0 => .object "GetsOutFirst$Crew"
  | 1 => .object "GetsOutFirst$Crew"
  | 2 => .array (.object "GetsOutFirst$Text")
  | 3 => .object "GetsOutFirst$Text"
  | 4 => .array .int
  | 5 => .array .int
  | 6 => .array .int
  | 7 => .array .int
  | 8 => .array .int
  | 9 => .array .int
  | 10 => .array .int
  | _ => .array .int
abbrev wsX50 : List Cond := u_ws RX5 TX5 12
theorem nmX5 : ∀ a, a < 12 → ∀ b, b < 12 → a ≠ b → (TX5 a).2.1 ≠ (TX5 b).2.1 := by decide +kernel
theorem tyX5_ok : ∀ k, k < 12 → parseFieldDescriptor (TX5 k).2.2.1 = some (tyX5 k) := by decide +kernel
abbrev cX5_init : ByteArray := prog_7_method_1_code
def yX5_init : MethodName := ⟨RX5, "<init>", "(LGetsOutFirst$Crew;[LGetsOutFirst$Text;)V"⟩
abbrev cX5_start : ByteArray := prog_7_method_2_code
def yX5_start : MethodName := ⟨RX5, "start", "()V"⟩
abbrev cX5_gather : ByteArray := prog_7_method_3_code
def yX5_gather : MethodName := ⟨RX5, "gather", "(I)V"⟩
abbrev cX5_settle : ByteArray := prog_7_method_4_code
def yX5_settle : MethodName := ⟨RX5, "settle", "()V"⟩
abbrev cX5_meet : ByteArray := prog_7_method_5_code
def yX5_meet : MethodName := ⟨RX5, "meet", "(I)V"⟩
abbrev cX5_whoStepsOut : ByteArray := prog_7_method_6_code
def yX5_whoStepsOut : MethodName := ⟨RX5, "whoStepsOut", "(I)I"⟩
abbrev cX5_whoMakesWay : ByteArray := prog_7_method_7_code
def yX5_whoMakesWay : MethodName := ⟨RX5, "whoMakesWay", "(II)I"⟩
abbrev cX5_whoGoesOn : ByteArray := prog_7_method_8_code
def yX5_whoGoesOn : MethodName := ⟨RX5, "whoGoesOn", "(I)I"⟩
abbrev cX5_costAt : ByteArray := prog_7_method_9_code
def yX5_costAt : MethodName := ⟨RX5, "costAt", "(II)I"⟩
abbrev cX5_cost : ByteArray := prog_7_method_10_code
def yX5_cost : MethodName := ⟨RX5, "cost", "()I"⟩
abbrev cX5_costBelow : ByteArray := prog_7_method_11_code
def yX5_costBelow : MethodName := ⟨RX5, "costBelow", "(I)I"⟩
abbrev cX5_steps : ByteArray := prog_7_method_12_code
def yX5_steps : MethodName := ⟨RX5, "steps", "()I"⟩
abbrev cX5_floorsWithSteps : ByteArray := prog_7_method_13_code
def yX5_floorsWithSteps : MethodName := ⟨RX5, "floorsWithSteps", "()I"⟩
abbrev cX5_costToMove : ByteArray := prog_7_method_14_code
def yX5_costToMove : MethodName := ⟨RX5, "costToMove", "(I)I"⟩
abbrev cX5_price : ByteArray := prog_7_method_15_code
def yX5_price : MethodName := ⟨RX5, "price", "(IIII)I"⟩
def RX6 : String := "GetsOutFirst"
def TX6 : u_T := fun k => match k with
  | 0 => ("GetsOutFirst", "crew", "LGetsOutFirst$Crew;", true)
  | 1 => ("GetsOutFirst", "kept", "LGetsOutFirst$Crew;", true)
  | 2 => ("GetsOutFirst", "hasImage", "Z", false)
  | 3 => ("GetsOutFirst", "reader", "LGetsOutFirst$Reader;", true)
  | 4 => ("GetsOutFirst", "texts", "[LGetsOutFirst$Text;", true)
  | 5 => ("GetsOutFirst", "textCount", "I", false)
  | 6 => ("GetsOutFirst", "sheets", "[LGetsOutFirst$Sheet;", true)
  | 7 => ("GetsOutFirst", "trip", "LGetsOutFirst$Trip;", true)
  | _ => ("GetsOutFirst", "seeker", "LGetsOutFirst$Seeker;", true)
def tyX6 : Nat → FieldType := fun k => match k with
  | 0 => .object "GetsOutFirst$Crew"
  | 1 => .object "GetsOutFirst$Crew"
  | 2 => .boolean
  | 3 => .object "GetsOutFirst$Reader"
  | 4 => .array (.object "GetsOutFirst$Text")
  | 5 => .int
  | 6 => .array (.object "GetsOutFirst$Sheet")
  | 7 => .object "GetsOutFirst$Trip"
  | _ => .object "GetsOutFirst$Seeker"
abbrev wsX60 : List Cond := u_ws RX6 TX6 9
theorem nmX6 : ∀ a, a < 9 → ∀ b, b < 9 → a ≠ b → (TX6 a).2.1 ≠ (TX6 b).2.1 := by decide +kernel
theorem tyX6_ok : ∀ k, k < 9 → parseFieldDescriptor (TX6 k).2.2.1 = some (tyX6 k) := by decide +kernel
abbrev cX6_init : ByteArray := prog_1_method_1_code
def yX6_init : MethodName := ⟨RX6, "<init>", "()V"⟩
abbrev cX6_rider : ByteArray := prog_1_method_2_code
def yX6_rider : MethodName := ⟨RX6, "rider", "(III)I"⟩
abbrev cX6_set : ByteArray := prog_1_method_3_code
def yX6_set : MethodName := ⟨RX6, "set", "(III)I"⟩
abbrev cX6_told : ByteArray := prog_1_method_4_code
def yX6_told : MethodName := ⟨RX6, "told", "(II)I"⟩
abbrev cX6_lets : ByteArray := prog_1_method_5_code
def yX6_lets : MethodName := ⟨RX6, "lets", "(II)I"⟩
abbrev cX6_comeIn : ByteArray := prog_1_method_6_code
def yX6_comeIn : MethodName := ⟨RX6, "comeIn", "(III)I"⟩
abbrev cX6_isWay : ByteArray := prog_1_method_7_code
def yX6_isWay : MethodName := ⟨RX6, "isWay", "(I)Z"⟩
abbrev cX6_putDoors : ByteArray := prog_1_method_8_code
def yX6_putDoors : MethodName := ⟨RX6, "putDoors", "(I)I"⟩
abbrev cX6_put : ByteArray := prog_1_method_9_code
def yX6_put : MethodName := ⟨RX6, "put", "([III)I"⟩
abbrev cX6_leastOf : ByteArray := prog_1_method_10_code
def yX6_leastOf : MethodName := ⟨RX6, "leastOf", "(II)I"⟩
abbrev cX6_mostOf : ByteArray := prog_1_method_11_code
def yX6_mostOf : MethodName := ⟨RX6, "mostOf", "(I)I"⟩
abbrev cX6_feed : ByteArray := prog_1_method_12_code
def yX6_feed : MethodName := ⟨RX6, "feed", "(I)I"⟩
abbrev cX6_text : ByteArray := prog_1_method_13_code
def yX6_text : MethodName := ⟨RX6, "text", "()I"⟩
abbrev cX6_force : ByteArray := prog_1_method_14_code
def yX6_force : MethodName := ⟨RX6, "force", "(I)I"⟩
abbrev cX6_ride : ByteArray := prog_1_method_15_code
def yX6_ride : MethodName := ⟨RX6, "ride", "(I)I"⟩
abbrev cX6_floor : ByteArray := prog_1_method_16_code
def yX6_floor : MethodName := ⟨RX6, "floor", "(II)I"⟩
abbrev cX6_stand : ByteArray := prog_1_method_17_code
def yX6_stand : MethodName := ⟨RX6, "stand", "(I)I"⟩
abbrev cX6_one : ByteArray := prog_1_method_18_code
def yX6_one : MethodName := ⟨RX6, "one", "(II)I"⟩
abbrev cX6_change : ByteArray := prog_1_method_19_code
def yX6_change : MethodName := ⟨RX6, "change", "(I)I"⟩
abbrev cX6_second : ByteArray := prog_1_method_20_code
def yX6_second : MethodName := ⟨RX6, "second", "(I)I"⟩
abbrev cX6_stands : ByteArray := prog_1_method_21_code
def yX6_stands : MethodName := ⟨RX6, "stands", "()I"⟩
abbrev cX6_mean : ByteArray := prog_1_method_22_code
def yX6_mean : MethodName := ⟨RX6, "mean", "(II)J"⟩
abbrev cX6_costOfChanging : ByteArray := prog_1_method_23_code
def yX6_costOfChanging : MethodName := ⟨RX6, "costOfChanging", "(III)I"⟩
abbrev cX6_whoShouldWalk : ByteArray := prog_1_method_24_code
def yX6_whoShouldWalk : MethodName := ⟨RX6, "whoShouldWalk", "()I"⟩
abbrev cX6_weightOf : ByteArray := prog_1_method_25_code
def yX6_weightOf : MethodName := ⟨RX6, "weightOf", "(I)J"⟩
abbrev cX6_inLowestTerms : ByteArray := prog_1_method_26_code
def yX6_inLowestTerms : MethodName := ⟨RX6, "inLowestTerms", "(JJI)J"⟩
abbrev cX6_landings : ByteArray := prog_1_method_27_code
def yX6_landings : MethodName := ⟨RX6, "landings", "(I)I"⟩
abbrev cX6_seen : ByteArray := prog_1_method_28_code
def yX6_seen : MethodName := ⟨RX6, "seen", "(III)I"⟩
abbrev cX6_film : ByteArray := prog_1_method_29_code
def yX6_film : MethodName := ⟨RX6, "film", "(II)I"⟩
abbrev cX6_drawn : ByteArray := prog_1_method_30_code
def yX6_drawn : MethodName := ⟨RX6, "drawn", "(I)I"⟩
abbrev cX6_chance : ByteArray := prog_1_method_31_code
def yX6_chance : MethodName := ⟨RX6, "chance", "(III)J"⟩
abbrev cX6_image : ByteArray := prog_1_method_32_code
def yX6_image : MethodName := ⟨RX6, "image", "()I"⟩
abbrev cX6_back : ByteArray := prog_1_method_33_code
def yX6_back : MethodName := ⟨RX6, "back", "()I"⟩
abbrev cX6_count : ByteArray := prog_1_method_34_code
def yX6_count : MethodName := ⟨RX6, "count", "(I)I"⟩
abbrev cX6_refusalToRead : ByteArray := prog_1_method_35_code
def yX6_refusalToRead : MethodName := ⟨RX6, "refusalToRead", "(LGetsOutFirst$Sheet;)I"⟩
abbrev cX6_firstUnlike : ByteArray := prog_1_method_36_code
def yX6_firstUnlike : MethodName := ⟨RX6, "firstUnlike", "(LGetsOutFirst$Sheet;)I"⟩
abbrev cX6_whichFit : ByteArray := prog_1_method_37_code
def yX6_whichFit : MethodName := ⟨RX6, "whichFit", "(LGetsOutFirst$Sheet;[IIII)I"⟩
abbrev cX6_costOfDrawn : ByteArray := prog_1_method_38_code
def yX6_costOfDrawn : MethodName := ⟨RX6, "costOfDrawn", "(I)I"⟩
abbrev cX6_sheet : ByteArray := prog_1_method_39_code
def yX6_sheet : MethodName := ⟨RX6, "sheet", "(III)I"⟩
abbrev cX6_cell : ByteArray := prog_1_method_40_code
def yX6_cell : MethodName := ⟨RX6, "cell", "(III)I"⟩
abbrev cX6_copy : ByteArray := prog_1_method_41_code
def yX6_copy : MethodName := ⟨RX6, "copy", "(IIIII)I"⟩
abbrev cX6_riders : ByteArray := prog_1_method_42_code
def yX6_riders : MethodName := ⟨RX6, "riders", "(IIII)I"⟩
abbrev cX6_taken : ByteArray := prog_1_method_43_code
def yX6_taken : MethodName := ⟨RX6, "taken", "(II)I"⟩
abbrev cX6_isSheet : ByteArray := prog_1_method_44_code
def yX6_isSheet : MethodName := ⟨RX6, "isSheet", "(I)Z"⟩
abbrev cX6_isUnder : ByteArray := prog_1_method_45_code
def yX6_isUnder : MethodName := ⟨RX6, "isUnder", "(II)Z"⟩
def RX7 : String := "GetsOutFirstModel"
def TX7 : u_T := fun k => match k with
  | 0 => ("GetsOutFirstModel", "thrown", "I", false)
  | 1 => ("GetsOutFirstModel", "texts", "[I", true)
  | 2 => ("GetsOutFirstModel", "textSize", "[I", true)
  | 3 => ("GetsOutFirstModel", "textCount", "I", false)
  | 4 => ("GetsOutFirstModel", "rule", "I", false)
  | 5 => ("GetsOutFirstModel", "tape", "[I", true)
  | 6 => ("GetsOutFirstModel", "taped", "I", false)
  | 7 => ("GetsOutFirstModel", "doors", "I", false)
  | 8 => ("GetsOutFirstModel", "kinds", "[I", true)
  | 9 => ("GetsOutFirstModel", "numbers", "[I", true)
  | 10 => ("GetsOutFirstModel", "sizes", "[I", true)
  | 11 => ("GetsOutFirstModel", "froms", "[I", true)
  | 12 => ("GetsOutFirstModel", "tos", "[I", true)
  | 13 => ("GetsOutFirstModel", "places", "[I", true)
  | 14 => ("GetsOutFirstModel", "chances", "[I", true)
  | 15 => ("GetsOutFirstModel", "riderMany", "I", false)
  | 16 => ("GetsOutFirstModel", "ofRider", "I", false)
  | 17 => ("GetsOutFirstModel", "ofFloor", "I", false)
  | 18 => ("GetsOutFirstModel", "ofSize", "I", false)
  | 19 => ("GetsOutFirstModel", "ofRow", "I", false)
  | 20 => ("GetsOutFirstModel", "ofNumber", "I", false)
  | 21 => ("GetsOutFirstModel", "ofInside", "I", false)
  | 22 => ("GetsOutFirstModel", "from", "I", false)
  | 23 => ("GetsOutFirstModel", "size", "I", false)
  | 24 => ("GetsOutFirstModel", "here", "I", false)
  | 25 => ("GetsOutFirstModel", "token", "I", false)
  | 26 => ("GetsOutFirstModel", "tokenAt", "I", false)
  | 27 => ("GetsOutFirstModel", "tokenWorth", "J", false)
  | 28 => ("GetsOutFirstModel", "open", "I", false)
  | 29 => ("GetsOutFirstModel", "bad", "Z", false)
  | 30 => ("GetsOutFirstModel", "fault", "I", false)
  | 31 => ("GetsOutFirstModel", "stepping", "[I", true)
  | 32 => ("GetsOutFirstModel", "being", "[I", true)
  | 33 => ("GetsOutFirstModel", "moving", "[I", true)
  | 34 => ("GetsOutFirstModel", "there", "I", false)
  | 35 => ("GetsOutFirstModel", "steps", "I", false)
  | 36 => ("GetsOutFirstModel", "floors", "I", false)
  | 37 => ("GetsOutFirstModel", "placesWas", "[I", true)
  | 38 => ("GetsOutFirstModel", "bestPlaces", "[I", true)
  | 39 => ("GetsOutFirstModel", "bestCost", "I", false)
  | 40 => ("GetsOutFirstModel", "isFound", "Z", false)
  | 41 => ("GetsOutFirstModel", "kept", "[I", true)
  | 42 => ("GetsOutFirstModel", "manyKept", "I", false)
  | 43 => ("GetsOutFirstModel", "doorsKept", "I", false)
  | 44 => ("GetsOutFirstModel", "ruleKept", "I", false)
  | 45 => ("GetsOutFirstModel", "isThere", "[Z", true)
  | 46 => ("GetsOutFirstModel", "sorts", "[I", true)
  | 47 => ("GetsOutFirstModel", "sheetSize", "[I", true)
  | _ => ("GetsOutFirstModel", "items", "[I", true)
def tyX7 : Nat → FieldType := fun k => match k with
  | 0 => .int
  | 1 => .array .int
  | 2 => .array .int
  | 3 => .int
  | 4 => .int
  | 5 => .array .int
  | 6 => .int
  | 7 => .int
  | 8 => .array .int
  | 9 => .array .int
  | 10 => .array .int
  | 11 => .array .int
  | 12 => .array .int
  | 13 => .array .int
  | 14 => .array .int
  | 15 => .int
  | 16 => .int
  | 17 => .int
  | 18 => .int
  | 19 => .int
  | 20 => .int
  | 21 => .int
  | 22 => .int
  | 23 => .int
  | 24 => .int
  | 25 => .int
  | 26 => .int
  | 27 => .long
  | 28 => .int
  | 29 => .boolean
  | 30 => .int
  | 31 => .array .int
  | 32 => .array .int
  | 33 => .array .int
  | 34 => .int
  | 35 => .int
  | 36 => .int
  | 37 => .array .int
  | 38 => .array .int
  | 39 => .int
  | 40 => .boolean
  | 41 => .array .int
  | 42 => .int
  | 43 => .int
  | 44 => .int
  | 45 => .array .boolean
  | 46 => .array .int
  | 47 => .array .int
  | _ => .array .int
abbrev wsX70 : List Cond := u_ws RX7 TX7 49
theorem nmX7 : ∀ a, a < 49 → ∀ b, b < 49 → a ≠ b → (TX7 a).2.1 ≠ (TX7 b).2.1 := by decide +kernel
theorem tyX7_ok : ∀ k, k < 49 → parseFieldDescriptor (TX7 k).2.2.1 = some (tyX7 k) := by decide +kernel
abbrev cX7_in : ByteArray := prog_9_method_2_code
def yX7_in : MethodName := ⟨RX7, "in", "(JJJ)Z"⟩
abbrev cX7_within : ByteArray := prog_9_method_3_code
def yX7_within : MethodName := ⟨RX7, "within", "(III)I"⟩
abbrev cX7_bitsOf : ByteArray := prog_9_method_4_code
def yX7_bitsOf : MethodName := ⟨RX7, "bitsOf", "(I)I"⟩
abbrev cX7_init : ByteArray := prog_9_method_5_code
def yX7_init : MethodName := ⟨RX7, "<init>", "()V"⟩
abbrev cX7_spell : ByteArray := prog_9_method_6_code
def yX7_spell : MethodName := ⟨RX7, "spell", "(IIIIIIIII)V"⟩
abbrev cX7_isRider : ByteArray := prog_9_method_7_code
def yX7_isRider : MethodName := ⟨RX7, "isRider", "(I)Z"⟩
abbrev cX7_allRiders : ByteArray := prog_9_method_8_code
def yX7_allRiders : MethodName := ⟨RX7, "allRiders", "()I"⟩
abbrev cX7_areTwo : ByteArray := prog_9_method_9_code
def yX7_areTwo : MethodName := ⟨RX7, "areTwo", "(I)Z"⟩
abbrev cX7_rider : ByteArray := prog_9_method_10_code
def yX7_rider : MethodName := ⟨RX7, "rider", "(III)I"⟩
abbrev cX7_set : ByteArray := prog_9_method_11_code
def yX7_set : MethodName := ⟨RX7, "set", "(III)I"⟩
abbrev cX7_puts : ByteArray := prog_9_method_12_code
def yX7_puts : MethodName := ⟨RX7, "puts", "(III)V"⟩
abbrev cX7_told : ByteArray := prog_9_method_13_code
def yX7_told : MethodName := ⟨RX7, "told", "(II)I"⟩
abbrev cX7_doesLet : ByteArray := prog_9_method_14_code
def yX7_doesLet : MethodName := ⟨RX7, "doesLet", "(II)Z"⟩
abbrev cX7_lets : ByteArray := prog_9_method_15_code
def yX7_lets : MethodName := ⟨RX7, "lets", "(II)I"⟩
abbrev cX7_costsOf : ByteArray := prog_9_method_16_code
def yX7_costsOf : MethodName := ⟨RX7, "costsOf", "(II)I"⟩
abbrev cX7_feed : ByteArray := prog_9_method_17_code
def yX7_feed : MethodName := ⟨RX7, "feed", "(I)I"⟩
abbrev cX7_byteAt : ByteArray := prog_9_method_18_code
def yX7_byteAt : MethodName := ⟨RX7, "byteAt", "(I)I"⟩
abbrev cX7_next : ByteArray := prog_9_method_19_code
def yX7_next : MethodName := ⟨RX7, "next", "()V"⟩
abbrev cX7_fail : ByteArray := prog_9_method_20_code
def yX7_fail : MethodName := ⟨RX7, "fail", "()V"⟩
abbrev cX7_isLetter : ByteArray := prog_9_method_21_code
def yX7_isLetter : MethodName := ⟨RX7, "isLetter", "(II)Z"⟩
abbrev cX7_isWord : ByteArray := prog_9_method_22_code
def yX7_isWord : MethodName := ⟨RX7, "isWord", "(IIIIIIII)Z"⟩
abbrev cX7_isSign : ByteArray := prog_9_method_23_code
def yX7_isSign : MethodName := ⟨RX7, "isSign", "(I)Z"⟩
abbrev cX7_opens : ByteArray := prog_9_method_24_code
def yX7_opens : MethodName := ⟨RX7, "opens", "()Z"⟩
abbrev cX7_name : ByteArray := prog_9_method_25_code
def yX7_name : MethodName := ⟨RX7, "name", "()I"⟩
abbrev cX7_atom : ByteArray := prog_9_method_26_code
def yX7_atom : MethodName := ⟨RX7, "atom", "()I"⟩
abbrev cX7_term : ByteArray := prog_9_method_27_code
def yX7_term : MethodName := ⟨RX7, "term", "()I"⟩
abbrev cX7_added : ByteArray := prog_9_method_28_code
def yX7_added : MethodName := ⟨RX7, "added", "()I"⟩
abbrev cX7_not : ByteArray := prog_9_method_29_code
def yX7_not : MethodName := ⟨RX7, "not", "()I"⟩
abbrev cX7_both : ByteArray := prog_9_method_30_code
def yX7_both : MethodName := ⟨RX7, "both", "()I"⟩
abbrev cX7_either : ByteArray := prog_9_method_31_code
def yX7_either : MethodName := ⟨RX7, "either", "()I"⟩
abbrev cX7_part : ByteArray := prog_9_method_32_code
def yX7_part : MethodName := ⟨RX7, "part", "(Z)I"⟩
abbrev cX7_read : ByteArray := prog_9_method_33_code
def yX7_read : MethodName := ⟨RX7, "read", "(II)I"⟩
abbrev cX7_text : ByteArray := prog_9_method_34_code
def yX7_text : MethodName := ⟨RX7, "text", "()I"⟩
abbrev cX7_force : ByteArray := prog_9_method_35_code
def yX7_force : MethodName := ⟨RX7, "force", "(I)I"⟩
abbrev cX7_says : ByteArray := prog_9_method_36_code
def yX7_says : MethodName := ⟨RX7, "says", "(IIIII)I"⟩
abbrev cX7_insideAt : ByteArray := prog_9_method_37_code
def yX7_insideAt : MethodName := ⟨RX7, "insideAt", "(I)I"⟩
abbrev cX7_gathers : ByteArray := prog_9_method_38_code
def yX7_gathers : MethodName := ⟨RX7, "gathers", "(I)V"⟩
abbrev cX7_stayingAt : ByteArray := prog_9_method_39_code
def yX7_stayingAt : MethodName := ⟨RX7, "stayingAt", "(I)I"⟩
abbrev cX7_barring : ByteArray := prog_9_method_40_code
def yX7_barring : MethodName := ⟨RX7, "barring", "(III)I"⟩
abbrev cX7_mustFor : ByteArray := prog_9_method_41_code
def yX7_mustFor : MethodName := ⟨RX7, "mustFor", "(II)I"⟩
abbrev cX7_stepsAt : ByteArray := prog_9_method_42_code
def yX7_stepsAt : MethodName := ⟨RX7, "stepsAt", "(I)I"⟩
abbrev cX7_costAt : ByteArray := prog_9_method_43_code
def yX7_costAt : MethodName := ⟨RX7, "costAt", "(II)I"⟩
abbrev cX7_rides : ByteArray := prog_9_method_44_code
def yX7_rides : MethodName := ⟨RX7, "rides", "()I"⟩
abbrev cX7_ride : ByteArray := prog_9_method_45_code
def yX7_ride : MethodName := ⟨RX7, "ride", "(I)I"⟩
abbrev cX7_floor : ByteArray := prog_9_method_46_code
def yX7_floor : MethodName := ⟨RX7, "floor", "(II)I"⟩
abbrev cX7_keeps : ByteArray := prog_9_method_47_code
def yX7_keeps : MethodName := ⟨RX7, "keeps", "()V"⟩
abbrev cX7_laysBack : ByteArray := prog_9_method_48_code
def yX7_laysBack : MethodName := ⟨RX7, "laysBack", "()V"⟩
abbrev cX7_costOfStanding : ByteArray := prog_9_method_49_code
def yX7_costOfStanding : MethodName := ⟨RX7, "costOfStanding", "()I"⟩
abbrev cX7_putsFrom : ByteArray := prog_9_method_50_code
def yX7_putsFrom : MethodName := ⟨RX7, "putsFrom", "(I)V"⟩
abbrev cX7_seeks : ByteArray := prog_9_method_51_code
def yX7_seeks : MethodName := ⟨RX7, "seeks", "()V"⟩
abbrev cX7_stand : ByteArray := prog_9_method_52_code
def yX7_stand : MethodName := ⟨RX7, "stand", "(I)I"⟩
abbrev cX7_stands : ByteArray := prog_9_method_53_code
def yX7_stands : MethodName := ⟨RX7, "stands", "()I"⟩
abbrev cX7_one : ByteArray := prog_9_method_54_code
def yX7_one : MethodName := ⟨RX7, "one", "(II)I"⟩
abbrev cX7_change : ByteArray := prog_9_method_55_code
def yX7_change : MethodName := ⟨RX7, "change", "(I)I"⟩
abbrev cX7_second : ByteArray := prog_9_method_56_code
def yX7_second : MethodName := ⟨RX7, "second", "(I)I"⟩
abbrev cX7_lowest : ByteArray := prog_9_method_57_code
def yX7_lowest : MethodName := ⟨RX7, "lowest", "(JJI)J"⟩
abbrev cX7_mean : ByteArray := prog_9_method_58_code
def yX7_mean : MethodName := ⟨RX7, "mean", "(II)J"⟩
abbrev cX7_unlikeAt : ByteArray := prog_9_method_59_code
def yX7_unlikeAt : MethodName := ⟨RX7, "unlikeAt", "(I)I"⟩
abbrev cX7_landingsBad : ByteArray := prog_9_method_60_code
def yX7_landingsBad : MethodName := ⟨RX7, "landingsBad", "(I)I"⟩
abbrev cX7_landings : ByteArray := prog_9_method_61_code
def yX7_landings : MethodName := ⟨RX7, "landings", "(I)I"⟩
abbrev cX7_seen : ByteArray := prog_9_method_62_code
def yX7_seen : MethodName := ⟨RX7, "seen", "(III)I"⟩
abbrev cX7_lays : ByteArray := prog_9_method_63_code
def yX7_lays : MethodName := ⟨RX7, "lays", "(III)V"⟩
abbrev cX7_film : ByteArray := prog_9_method_64_code
def yX7_film : MethodName := ⟨RX7, "film", "(II)I"⟩
abbrev cX7_draws : ByteArray := prog_9_method_65_code
def yX7_draws : MethodName := ⟨RX7, "draws", "(I)I"⟩
abbrev cX7_drawn : ByteArray := prog_9_method_66_code
def yX7_drawn : MethodName := ⟨RX7, "drawn", "(I)I"⟩
abbrev cX7_chance : ByteArray := prog_9_method_67_code
def yX7_chance : MethodName := ⟨RX7, "chance", "(III)J"⟩
abbrev cX7_image : ByteArray := prog_9_method_68_code
def yX7_image : MethodName := ⟨RX7, "image", "()I"⟩
abbrev cX7_back : ByteArray := prog_9_method_69_code
def yX7_back : MethodName := ⟨RX7, "back", "()I"⟩
abbrev cX7_count : ByteArray := prog_9_method_70_code
def yX7_count : MethodName := ⟨RX7, "count", "(I)I"⟩
abbrev cX7_isSheet : ByteArray := prog_9_method_71_code
def yX7_isSheet : MethodName := ⟨RX7, "isSheet", "(I)Z"⟩
abbrev cX7_sheet : ByteArray := prog_9_method_72_code
def yX7_sheet : MethodName := ⟨RX7, "sheet", "(III)I"⟩
abbrev cX7_cell : ByteArray := prog_9_method_73_code
def yX7_cell : MethodName := ⟨RX7, "cell", "(III)I"⟩
abbrev cX7_copy : ByteArray := prog_9_method_74_code
def yX7_copy : MethodName := ⟨RX7, "copy", "(IIIII)I"⟩
abbrev cX7_riders : ByteArray := prog_9_method_75_code
def yX7_riders : MethodName := ⟨RX7, "riders", "(IIII)I"⟩
abbrev cX7_over : ByteArray := prog_9_method_76_code
def yX7_over : MethodName := ⟨RX7, "over", "(I)I"⟩
abbrev cX7_taken : ByteArray := prog_9_method_77_code
def yX7_taken : MethodName := ⟨RX7, "taken", "(II)I"⟩
def RJ6 : String := "java/lang/Integer"
abbrev cJ6_bitCount_0f7a4 : ByteArray := prog_11_method_49_code
def yJ6_bitCount_0f7a4 : MethodName := ⟨RJ6, "bitCount", "(I)I"⟩
def RJ9 : String := "java/lang/Math"
abbrev cJ9_max_7cf53 : ByteArray := prog_12_method_65_code
def yJ9_max_7cf53 : MethodName := ⟨RJ9, "max", "(II)I"⟩
abbrev cJ9_min_7cf53 : ByteArray := prog_12_method_69_code
def yJ9_min_7cf53 : MethodName := ⟨RJ9, "min", "(II)I"⟩
def RJ0 : String := "java/lang/String"
abbrev cJ0_length_8abf5 : ByteArray := prog_13_method_54_code
def yJ0_length_8abf5 : MethodName := ⟨RJ0, "length", "()I"⟩
abbrev cJ0_charAt_5068e : ByteArray := prog_13_method_56_code
def yJ0_charAt_5068e : MethodName := ⟨RJ0, "charAt", "(I)C"⟩
abbrev cJ0_coder_7d493 : ByteArray := prog_13_method_152_code
def yJ0_coder_7d493 : MethodName := ⟨RJ0, "coder", "()B"⟩
abbrev cJ0_isLatin1_aae02 : ByteArray := prog_13_method_154_code
def yJ0_isLatin1_aae02 : MethodName := ⟨RJ0, "isLatin1", "()Z"⟩
abbrev cJ0_checkIndex_df160 : ByteArray := prog_13_method_155_code
def yJ0_checkIndex_df160 : MethodName := ⟨RJ0, "checkIndex", "(II)V"⟩
def RJ1 : String := "java/lang/StringLatin1"
abbrev cJ1_charAt_3b067 : ByteArray := prog_14_method_2_code
def yJ1_charAt_3b067 : MethodName := ⟨RJ1, "charAt", "([BI)C"⟩
def RJ7 : String := "java/util/Arrays"
abbrev cJ7_fill_53178 : ByteArray := prog_17_method_103_code
def yJ7_fill_53178 : MethodName := ⟨RJ7, "fill", "([II)V"⟩
abbrev cJ7_copyOf_59c91 : ByteArray := prog_17_method_123_code
def yJ7_copyOf_59c91 : MethodName := ⟨RJ7, "copyOf", "([II)[I"⟩
def RJ3 : String := "jdk/internal/util/Preconditions"
abbrev cJ3_checkIndex_8e157 : ByteArray := prog_18_method_11_code
def yJ3_checkIndex_8e157 : MethodName := ⟨RJ3, "checkIndex", "(IILjava/util/function/BiFunction;)I"⟩
def RL : String := "GetsOutFirstLaw"
abbrev cL_law : ByteArray := code
def yL_law : MethodName := ⟨RL, "law", "([I)Z"⟩
abbrev vwCl : List vw_C := [(RX0, TX0, 10), (RX1, TX1, 9), (RX2, TX2, 5), (RX3, TX3, 3), (RX4, TX4, 2), (RX5, TX5, 12), (RX6, TX6, 9), (RX7, TX7, 49)]
end
section
theorem dJ0_charAt_5068e_0 : decode cJ0_charAt_5068e 0 = .ok (.aload_n 0, 1) := by decide +kernel
theorem dJ0_charAt_5068e_1 : decode cJ0_charAt_5068e 1 = .ok (.invokevirtual 492, 3) := by decide +kernel
theorem dJ0_charAt_5068e_4 : decode cJ0_charAt_5068e 4 = .ok (.ifCond .eq 12, 3) := by decide +kernel
theorem dJ0_charAt_5068e_7 : decode cJ0_charAt_5068e 7 = .ok (.aload_n 0, 1) := by decide +kernel
theorem dJ0_charAt_5068e_8 : decode cJ0_charAt_5068e 8 = .ok (.getfield 9, 3) := by decide +kernel
theorem dJ0_charAt_5068e_11 : decode cJ0_charAt_5068e 11 = .ok (.iload_n 1, 1) := by decide +kernel
theorem dJ0_charAt_5068e_12 : decode cJ0_charAt_5068e 12 = .ok (.invokestatic 495, 3) := by decide +kernel
theorem dJ0_charAt_5068e_15 : decode cJ0_charAt_5068e 15 = .ok (.ireturn, 1) := by decide +kernel
theorem dJ0_charAt_5068e_16 : decode cJ0_charAt_5068e 16 = .ok (.aload_n 0, 1) := by decide +kernel
theorem dJ0_charAt_5068e_17 : decode cJ0_charAt_5068e 17 = .ok (.getfield 9, 3) := by decide +kernel
theorem dJ0_charAt_5068e_20 : decode cJ0_charAt_5068e 20 = .ok (.iload_n 1, 1) := by decide +kernel
theorem dJ0_charAt_5068e_21 : decode cJ0_charAt_5068e 21 = .ok (.invokestatic 498, 3) := by decide +kernel
theorem dJ0_charAt_5068e_24 : decode cJ0_charAt_5068e 24 = .ok (.ireturn, 1) := by decide +kernel
theorem dJ0_checkIndex_df160_0 : decode cJ0_checkIndex_df160 0 = .ok (.iload_n 0, 1) := by decide +kernel
theorem dJ0_checkIndex_df160_1 : decode cJ0_checkIndex_df160 1 = .ok (.iload_n 1, 1) := by decide +kernel
theorem dJ0_checkIndex_df160_2 : decode cJ0_checkIndex_df160 2 = .ok (.getstatic 1053, 3) := by decide +kernel
theorem dJ0_checkIndex_df160_5 : decode cJ0_checkIndex_df160 5 = .ok (.invokestatic 1059, 3) := by decide +kernel
theorem dJ0_checkIndex_df160_8 : decode cJ0_checkIndex_df160 8 = .ok (.pop, 1) := by decide +kernel
theorem dJ0_checkIndex_df160_9 : decode cJ0_checkIndex_df160 9 = .ok (.return_, 1) := by decide +kernel
theorem dJ0_coder_7d493_0 : decode cJ0_coder_7d493 0 = .ok (.getstatic 38, 3) := by decide +kernel
theorem dJ0_coder_7d493_3 : decode cJ0_coder_7d493 3 = .ok (.ifCond .eq 10, 3) := by decide +kernel
theorem dJ0_coder_7d493_6 : decode cJ0_coder_7d493 6 = .ok (.aload_n 0, 1) := by decide +kernel
theorem dJ0_coder_7d493_7 : decode cJ0_coder_7d493 7 = .ok (.getfield 15, 3) := by decide +kernel
theorem dJ0_coder_7d493_10 : decode cJ0_coder_7d493 10 = .ok (.goto 4, 3) := by decide +kernel
theorem dJ0_coder_7d493_13 : decode cJ0_coder_7d493 13 = .ok (.iconst 1, 1) := by decide +kernel
theorem dJ0_coder_7d493_14 : decode cJ0_coder_7d493 14 = .ok (.ireturn, 1) := by decide +kernel
theorem dJ0_isLatin1_aae02_0 : decode cJ0_isLatin1_aae02 0 = .ok (.getstatic 38, 3) := by decide +kernel
theorem dJ0_isLatin1_aae02_3 : decode cJ0_isLatin1_aae02 3 = .ok (.ifCond .eq 14, 3) := by decide +kernel
theorem dJ0_isLatin1_aae02_6 : decode cJ0_isLatin1_aae02 6 = .ok (.aload_n 0, 1) := by decide +kernel
theorem dJ0_isLatin1_aae02_7 : decode cJ0_isLatin1_aae02 7 = .ok (.getfield 15, 3) := by decide +kernel
theorem dJ0_isLatin1_aae02_10 : decode cJ0_isLatin1_aae02 10 = .ok (.ifCond .ne 7, 3) := by decide +kernel
theorem dJ0_isLatin1_aae02_13 : decode cJ0_isLatin1_aae02 13 = .ok (.iconst 1, 1) := by decide +kernel
theorem dJ0_isLatin1_aae02_14 : decode cJ0_isLatin1_aae02 14 = .ok (.goto 4, 3) := by decide +kernel
theorem dJ0_isLatin1_aae02_17 : decode cJ0_isLatin1_aae02 17 = .ok (.iconst 0, 1) := by decide +kernel
theorem dJ0_isLatin1_aae02_18 : decode cJ0_isLatin1_aae02 18 = .ok (.ireturn, 1) := by decide +kernel
theorem dJ0_length_8abf5_0 : decode cJ0_length_8abf5 0 = .ok (.aload_n 0, 1) := by decide +kernel
theorem dJ0_length_8abf5_1 : decode cJ0_length_8abf5 1 = .ok (.getfield 9, 3) := by decide +kernel
theorem dJ0_length_8abf5_4 : decode cJ0_length_8abf5 4 = .ok (.arraylength, 1) := by decide +kernel
theorem dJ0_length_8abf5_5 : decode cJ0_length_8abf5 5 = .ok (.aload_n 0, 1) := by decide +kernel
theorem dJ0_length_8abf5_6 : decode cJ0_length_8abf5 6 = .ok (.invokevirtual 335, 3) := by decide +kernel
theorem dJ0_length_8abf5_9 : decode cJ0_length_8abf5 9 = .ok (.ishr, 1) := by decide +kernel
theorem dJ0_length_8abf5_10 : decode cJ0_length_8abf5 10 = .ok (.ireturn, 1) := by decide +kernel
theorem dJ1_charAt_3b067_0 : decode cJ1_charAt_3b067 0 = .ok (.iload_n 1, 1) := by decide +kernel
theorem dJ1_charAt_3b067_1 : decode cJ1_charAt_3b067 1 = .ok (.aload_n 0, 1) := by decide +kernel
theorem dJ1_charAt_3b067_2 : decode cJ1_charAt_3b067 2 = .ok (.arraylength, 1) := by decide +kernel
theorem dJ1_charAt_3b067_3 : decode cJ1_charAt_3b067 3 = .ok (.invokestatic 9, 3) := by decide +kernel
theorem dJ1_charAt_3b067_6 : decode cJ1_charAt_3b067 6 = .ok (.aload_n 0, 1) := by decide +kernel
theorem dJ1_charAt_3b067_7 : decode cJ1_charAt_3b067 7 = .ok (.iload_n 1, 1) := by decide +kernel
theorem dJ1_charAt_3b067_8 : decode cJ1_charAt_3b067 8 = .ok (.baload, 1) := by decide +kernel
theorem dJ1_charAt_3b067_9 : decode cJ1_charAt_3b067 9 = .ok (.sipush 255, 3) := by decide +kernel
theorem dJ1_charAt_3b067_12 : decode cJ1_charAt_3b067 12 = .ok (.iand, 1) := by decide +kernel
theorem dJ1_charAt_3b067_13 : decode cJ1_charAt_3b067 13 = .ok (.i2c, 1) := by decide +kernel
theorem dJ1_charAt_3b067_14 : decode cJ1_charAt_3b067 14 = .ok (.ireturn, 1) := by decide +kernel
theorem dJ3_checkIndex_8e157_0 : decode cJ3_checkIndex_8e157 0 = .ok (.iload_n 0, 1) := by decide +kernel
theorem dJ3_checkIndex_8e157_1 : decode cJ3_checkIndex_8e157 1 = .ok (.ifCond .lt 8, 3) := by decide +kernel
theorem dJ3_checkIndex_8e157_4 : decode cJ3_checkIndex_8e157 4 = .ok (.iload_n 0, 1) := by decide +kernel
theorem dJ3_checkIndex_8e157_5 : decode cJ3_checkIndex_8e157 5 = .ok (.iload_n 1, 1) := by decide +kernel
theorem dJ3_checkIndex_8e157_6 : decode cJ3_checkIndex_8e157 6 = .ok (.if_icmp .lt 10, 3) := by decide +kernel
theorem dJ3_checkIndex_8e157_9 : decode cJ3_checkIndex_8e157 9 = .ok (.aload_n 2, 1) := by decide +kernel
theorem dJ3_checkIndex_8e157_10 : decode cJ3_checkIndex_8e157 10 = .ok (.iload_n 0, 1) := by decide +kernel
theorem dJ3_checkIndex_8e157_11 : decode cJ3_checkIndex_8e157 11 = .ok (.iload_n 1, 1) := by decide +kernel
theorem dJ3_checkIndex_8e157_12 : decode cJ3_checkIndex_8e157 12 = .ok (.invokestatic 95, 3) := by decide +kernel
theorem dJ3_checkIndex_8e157_15 : decode cJ3_checkIndex_8e157 15 = .ok (.athrow, 1) := by decide +kernel
theorem dJ3_checkIndex_8e157_16 : decode cJ3_checkIndex_8e157 16 = .ok (.iload_n 0, 1) := by decide +kernel
theorem dJ3_checkIndex_8e157_17 : decode cJ3_checkIndex_8e157 17 = .ok (.ireturn, 1) := by decide +kernel
theorem dJ6_bitCount_0f7a4_0 : decode cJ6_bitCount_0f7a4 0 = .ok (.iload_n 0, 1) := by decide +kernel
theorem dJ6_bitCount_0f7a4_1 : decode cJ6_bitCount_0f7a4 1 = .ok (.iload_n 0, 1) := by decide +kernel
theorem dJ6_bitCount_0f7a4_2 : decode cJ6_bitCount_0f7a4 2 = .ok (.iconst 1, 1) := by decide +kernel
theorem dJ6_bitCount_0f7a4_3 : decode cJ6_bitCount_0f7a4 3 = .ok (.iushr, 1) := by decide +kernel
theorem dJ6_bitCount_0f7a4_4 : decode cJ6_bitCount_0f7a4 4 = .ok (.ldc_w 265, 3) := by decide +kernel
theorem dJ6_bitCount_0f7a4_7 : decode cJ6_bitCount_0f7a4 7 = .ok (.iand, 1) := by decide +kernel
theorem dJ6_bitCount_0f7a4_8 : decode cJ6_bitCount_0f7a4 8 = .ok (.isub, 1) := by decide +kernel
theorem dJ6_bitCount_0f7a4_9 : decode cJ6_bitCount_0f7a4 9 = .ok (.istore_n 0, 1) := by decide +kernel
theorem dJ6_bitCount_0f7a4_10 : decode cJ6_bitCount_0f7a4 10 = .ok (.iload_n 0, 1) := by decide +kernel
theorem dJ6_bitCount_0f7a4_11 : decode cJ6_bitCount_0f7a4 11 = .ok (.ldc_w 266, 3) := by decide +kernel
theorem dJ6_bitCount_0f7a4_14 : decode cJ6_bitCount_0f7a4 14 = .ok (.iand, 1) := by decide +kernel
theorem dJ6_bitCount_0f7a4_15 : decode cJ6_bitCount_0f7a4 15 = .ok (.iload_n 0, 1) := by decide +kernel
theorem dJ6_bitCount_0f7a4_16 : decode cJ6_bitCount_0f7a4 16 = .ok (.iconst 2, 1) := by decide +kernel
theorem dJ6_bitCount_0f7a4_17 : decode cJ6_bitCount_0f7a4 17 = .ok (.iushr, 1) := by decide +kernel
theorem dJ6_bitCount_0f7a4_18 : decode cJ6_bitCount_0f7a4 18 = .ok (.ldc_w 266, 3) := by decide +kernel
theorem dJ6_bitCount_0f7a4_21 : decode cJ6_bitCount_0f7a4 21 = .ok (.iand, 1) := by decide +kernel
theorem dJ6_bitCount_0f7a4_22 : decode cJ6_bitCount_0f7a4 22 = .ok (.iadd, 1) := by decide +kernel
theorem dJ6_bitCount_0f7a4_23 : decode cJ6_bitCount_0f7a4 23 = .ok (.istore_n 0, 1) := by decide +kernel
theorem dJ6_bitCount_0f7a4_24 : decode cJ6_bitCount_0f7a4 24 = .ok (.iload_n 0, 1) := by decide +kernel
theorem dJ6_bitCount_0f7a4_25 : decode cJ6_bitCount_0f7a4 25 = .ok (.iload_n 0, 1) := by decide +kernel
theorem dJ6_bitCount_0f7a4_26 : decode cJ6_bitCount_0f7a4 26 = .ok (.iconst 4, 1) := by decide +kernel
theorem dJ6_bitCount_0f7a4_27 : decode cJ6_bitCount_0f7a4 27 = .ok (.iushr, 1) := by decide +kernel
theorem dJ6_bitCount_0f7a4_28 : decode cJ6_bitCount_0f7a4 28 = .ok (.iadd, 1) := by decide +kernel
theorem dJ6_bitCount_0f7a4_29 : decode cJ6_bitCount_0f7a4 29 = .ok (.ldc_w 267, 3) := by decide +kernel
theorem dJ6_bitCount_0f7a4_32 : decode cJ6_bitCount_0f7a4 32 = .ok (.iand, 1) := by decide +kernel
theorem dJ6_bitCount_0f7a4_33 : decode cJ6_bitCount_0f7a4 33 = .ok (.istore_n 0, 1) := by decide +kernel
theorem dJ6_bitCount_0f7a4_34 : decode cJ6_bitCount_0f7a4 34 = .ok (.iload_n 0, 1) := by decide +kernel
theorem dJ6_bitCount_0f7a4_35 : decode cJ6_bitCount_0f7a4 35 = .ok (.iload_n 0, 1) := by decide +kernel
theorem dJ6_bitCount_0f7a4_36 : decode cJ6_bitCount_0f7a4 36 = .ok (.bipush 8, 2) := by decide +kernel
theorem dJ6_bitCount_0f7a4_38 : decode cJ6_bitCount_0f7a4 38 = .ok (.iushr, 1) := by decide +kernel
theorem dJ6_bitCount_0f7a4_39 : decode cJ6_bitCount_0f7a4 39 = .ok (.iadd, 1) := by decide +kernel
theorem dJ6_bitCount_0f7a4_40 : decode cJ6_bitCount_0f7a4 40 = .ok (.istore_n 0, 1) := by decide +kernel
theorem dJ6_bitCount_0f7a4_41 : decode cJ6_bitCount_0f7a4 41 = .ok (.iload_n 0, 1) := by decide +kernel
theorem dJ6_bitCount_0f7a4_42 : decode cJ6_bitCount_0f7a4 42 = .ok (.iload_n 0, 1) := by decide +kernel
theorem dJ6_bitCount_0f7a4_43 : decode cJ6_bitCount_0f7a4 43 = .ok (.bipush 16, 2) := by decide +kernel
theorem dJ6_bitCount_0f7a4_45 : decode cJ6_bitCount_0f7a4 45 = .ok (.iushr, 1) := by decide +kernel
theorem dJ6_bitCount_0f7a4_46 : decode cJ6_bitCount_0f7a4 46 = .ok (.iadd, 1) := by decide +kernel
theorem dJ6_bitCount_0f7a4_47 : decode cJ6_bitCount_0f7a4 47 = .ok (.istore_n 0, 1) := by decide +kernel
theorem dJ6_bitCount_0f7a4_48 : decode cJ6_bitCount_0f7a4 48 = .ok (.iload_n 0, 1) := by decide +kernel
theorem dJ6_bitCount_0f7a4_49 : decode cJ6_bitCount_0f7a4 49 = .ok (.bipush 63, 2) := by decide +kernel
theorem dJ6_bitCount_0f7a4_51 : decode cJ6_bitCount_0f7a4 51 = .ok (.iand, 1) := by decide +kernel
theorem dJ6_bitCount_0f7a4_52 : decode cJ6_bitCount_0f7a4 52 = .ok (.ireturn, 1) := by decide +kernel
theorem dJ7_copyOf_59c91_0 : decode cJ7_copyOf_59c91 0 = .ok (.iload_n 1, 1) := by decide +kernel
theorem dJ7_copyOf_59c91_1 : decode cJ7_copyOf_59c91 1 = .ok (.aload_n 0, 1) := by decide +kernel
theorem dJ7_copyOf_59c91_2 : decode cJ7_copyOf_59c91 2 = .ok (.arraylength, 1) := by decide +kernel
theorem dJ7_copyOf_59c91_3 : decode cJ7_copyOf_59c91 3 = .ok (.if_icmp .ne 11, 3) := by decide +kernel
theorem dJ7_copyOf_59c91_6 : decode cJ7_copyOf_59c91 6 = .ok (.aload_n 0, 1) := by decide +kernel
theorem dJ7_copyOf_59c91_7 : decode cJ7_copyOf_59c91 7 = .ok (.invokevirtual 316, 3) := by decide +kernel
theorem dJ7_copyOf_59c91_10 : decode cJ7_copyOf_59c91 10 = .ok (.checkcast 317, 3) := by decide +kernel
theorem dJ7_copyOf_59c91_13 : decode cJ7_copyOf_59c91 13 = .ok (.areturn, 1) := by decide +kernel
theorem dJ7_copyOf_59c91_14 : decode cJ7_copyOf_59c91 14 = .ok (.iload_n 1, 1) := by decide +kernel
theorem dJ7_copyOf_59c91_15 : decode cJ7_copyOf_59c91 15 = .ok (.newarray .int, 2) := by decide +kernel
theorem dJ7_copyOf_59c91_17 : decode cJ7_copyOf_59c91 17 = .ok (.astore_n 2, 1) := by decide +kernel
theorem dJ7_copyOf_59c91_18 : decode cJ7_copyOf_59c91 18 = .ok (.aload_n 0, 1) := by decide +kernel
theorem dJ7_copyOf_59c91_19 : decode cJ7_copyOf_59c91 19 = .ok (.iconst 0, 1) := by decide +kernel
theorem dJ7_copyOf_59c91_20 : decode cJ7_copyOf_59c91 20 = .ok (.aload_n 2, 1) := by decide +kernel
theorem dJ7_copyOf_59c91_21 : decode cJ7_copyOf_59c91 21 = .ok (.iconst 0, 1) := by decide +kernel
theorem dJ7_copyOf_59c91_22 : decode cJ7_copyOf_59c91 22 = .ok (.aload_n 0, 1) := by decide +kernel
theorem dJ7_copyOf_59c91_23 : decode cJ7_copyOf_59c91 23 = .ok (.arraylength, 1) := by decide +kernel
theorem dJ7_copyOf_59c91_24 : decode cJ7_copyOf_59c91 24 = .ok (.iload_n 1, 1) := by decide +kernel
theorem dJ7_copyOf_59c91_25 : decode cJ7_copyOf_59c91 25 = .ok (.invokestatic 304, 3) := by decide +kernel
theorem dJ7_copyOf_59c91_28 : decode cJ7_copyOf_59c91 28 = .ok (.invokestatic 150, 3) := by decide +kernel
theorem dJ7_copyOf_59c91_31 : decode cJ7_copyOf_59c91 31 = .ok (.aload_n 2, 1) := by decide +kernel
theorem dJ7_copyOf_59c91_32 : decode cJ7_copyOf_59c91 32 = .ok (.areturn, 1) := by decide +kernel
theorem dJ7_fill_53178_0 : decode cJ7_fill_53178 0 = .ok (.iconst 0, 1) := by decide +kernel
theorem dJ7_fill_53178_1 : decode cJ7_fill_53178 1 = .ok (.istore_n 2, 1) := by decide +kernel
theorem dJ7_fill_53178_2 : decode cJ7_fill_53178 2 = .ok (.aload_n 0, 1) := by decide +kernel
theorem dJ7_fill_53178_3 : decode cJ7_fill_53178 3 = .ok (.arraylength, 1) := by decide +kernel
theorem dJ7_fill_53178_4 : decode cJ7_fill_53178 4 = .ok (.istore_n 3, 1) := by decide +kernel
theorem dJ7_fill_53178_5 : decode cJ7_fill_53178 5 = .ok (.iload_n 2, 1) := by decide +kernel
theorem dJ7_fill_53178_6 : decode cJ7_fill_53178 6 = .ok (.iload_n 3, 1) := by decide +kernel
theorem dJ7_fill_53178_7 : decode cJ7_fill_53178 7 = .ok (.if_icmp .ge 13, 3) := by decide +kernel
theorem dJ7_fill_53178_10 : decode cJ7_fill_53178 10 = .ok (.aload_n 0, 1) := by decide +kernel
theorem dJ7_fill_53178_11 : decode cJ7_fill_53178 11 = .ok (.iload_n 2, 1) := by decide +kernel
theorem dJ7_fill_53178_12 : decode cJ7_fill_53178 12 = .ok (.iload_n 1, 1) := by decide +kernel
theorem dJ7_fill_53178_13 : decode cJ7_fill_53178 13 = .ok (.iastore, 1) := by decide +kernel
theorem dJ7_fill_53178_14 : decode cJ7_fill_53178 14 = .ok (.iinc 2 1, 3) := by decide +kernel
theorem dJ7_fill_53178_17 : decode cJ7_fill_53178 17 = .ok (.goto (-12), 3) := by decide +kernel
theorem dJ7_fill_53178_20 : decode cJ7_fill_53178 20 = .ok (.return_, 1) := by decide +kernel
theorem dJ9_max_7cf53_0 : decode cJ9_max_7cf53 0 = .ok (.iload_n 0, 1) := by decide +kernel
theorem dJ9_max_7cf53_1 : decode cJ9_max_7cf53 1 = .ok (.iload_n 1, 1) := by decide +kernel
theorem dJ9_max_7cf53_2 : decode cJ9_max_7cf53 2 = .ok (.if_icmp .lt 7, 3) := by decide +kernel
theorem dJ9_max_7cf53_5 : decode cJ9_max_7cf53 5 = .ok (.iload_n 0, 1) := by decide +kernel
theorem dJ9_max_7cf53_6 : decode cJ9_max_7cf53 6 = .ok (.goto 4, 3) := by decide +kernel
theorem dJ9_max_7cf53_9 : decode cJ9_max_7cf53 9 = .ok (.iload_n 1, 1) := by decide +kernel
theorem dJ9_max_7cf53_10 : decode cJ9_max_7cf53 10 = .ok (.ireturn, 1) := by decide +kernel
theorem dJ9_min_7cf53_0 : decode cJ9_min_7cf53 0 = .ok (.iload_n 0, 1) := by decide +kernel
theorem dJ9_min_7cf53_1 : decode cJ9_min_7cf53 1 = .ok (.iload_n 1, 1) := by decide +kernel
theorem dJ9_min_7cf53_2 : decode cJ9_min_7cf53 2 = .ok (.if_icmp .gt 7, 3) := by decide +kernel
theorem dJ9_min_7cf53_5 : decode cJ9_min_7cf53 5 = .ok (.iload_n 0, 1) := by decide +kernel
theorem dJ9_min_7cf53_6 : decode cJ9_min_7cf53 6 = .ok (.goto 4, 3) := by decide +kernel
theorem dJ9_min_7cf53_9 : decode cJ9_min_7cf53 9 = .ok (.iload_n 1, 1) := by decide +kernel
theorem dJ9_min_7cf53_10 : decode cJ9_min_7cf53 10 = .ok (.ireturn, 1) := by decide +kernel
theorem dL_law_0 : decode cL_law 0 = .ok (.new 7, 3) := by decide +kernel
theorem dL_law_3 : decode cL_law 3 = .ok (.dup, 1) := by decide +kernel
theorem dL_law_4 : decode cL_law 4 = .ok (.invokespecial 9, 3) := by decide +kernel
theorem dL_law_7 : decode cL_law 7 = .ok (.astore_n 1, 1) := by decide +kernel
theorem dL_law_8 : decode cL_law 8 = .ok (.new 10, 3) := by decide +kernel
theorem dL_law_11 : decode cL_law 11 = .ok (.dup, 1) := by decide +kernel
theorem dL_law_12 : decode cL_law 12 = .ok (.invokespecial 12, 3) := by decide +kernel
theorem dL_law_15 : decode cL_law 15 = .ok (.astore_n 2, 1) := by decide +kernel
theorem dL_law_16 : decode cL_law 16 = .ok (.iconst 0, 1) := by decide +kernel
theorem dL_law_17 : decode cL_law 17 = .ok (.istore_n 3, 1) := by decide +kernel
theorem dL_law_18 : decode cL_law 18 = .ok (.iload_n 3, 1) := by decide +kernel
theorem dL_law_19 : decode cL_law 19 = .ok (.aload_n 0, 1) := by decide +kernel
theorem dL_law_20 : decode cL_law 20 = .ok (.arraylength, 1) := by decide +kernel
theorem dL_law_21 : decode cL_law 21 = .ok (.bipush 6, 2) := by decide +kernel
theorem dL_law_23 : decode cL_law 23 = .ok (.isub, 1) := by decide +kernel
theorem dL_law_24 : decode cL_law 24 = .ok (.if_icmp .gt 1008, 3) := by decide +kernel
theorem dL_law_27 : decode cL_law 27 = .ok (.aload_n 0, 1) := by decide +kernel
theorem dL_law_28 : decode cL_law 28 = .ok (.iload_n 3, 1) := by decide +kernel
theorem dL_law_29 : decode cL_law 29 = .ok (.iaload, 1) := by decide +kernel
theorem dL_law_30 : decode cL_law 30 = .ok (.bipush 31, 2) := by decide +kernel
theorem dL_law_32 : decode cL_law 32 = .ok (.iand, 1) := by decide +kernel
theorem dL_law_33 : decode cL_law 33 = .ok (.tableswitch 993 0 27 #[127, 170, 213, 246, 279, 302, 315, 338, 361, 394, 417, 450, 473, 496, 509, 543, 566, 609, 642, 665, 709, 722, 735, 758, 801, 844, 907, 960], 127) := by decide +kernel
theorem dL_law_160 : decode cL_law 160 = .ok (.aload_n 1, 1) := by decide +kernel
theorem dL_law_161 : decode cL_law 161 = .ok (.aload_n 0, 1) := by decide +kernel
theorem dL_law_162 : decode cL_law 162 = .ok (.iload_n 3, 1) := by decide +kernel
theorem dL_law_163 : decode cL_law 163 = .ok (.iconst 1, 1) := by decide +kernel
theorem dL_law_164 : decode cL_law 164 = .ok (.iadd, 1) := by decide +kernel
theorem dL_law_165 : decode cL_law 165 = .ok (.iaload, 1) := by decide +kernel
theorem dL_law_166 : decode cL_law 166 = .ok (.aload_n 0, 1) := by decide +kernel
theorem dL_law_167 : decode cL_law 167 = .ok (.iload_n 3, 1) := by decide +kernel
theorem dL_law_168 : decode cL_law 168 = .ok (.iconst 2, 1) := by decide +kernel
theorem dL_law_169 : decode cL_law 169 = .ok (.iadd, 1) := by decide +kernel
theorem dL_law_170 : decode cL_law 170 = .ok (.iaload, 1) := by decide +kernel
theorem dL_law_171 : decode cL_law 171 = .ok (.aload_n 0, 1) := by decide +kernel
theorem dL_law_172 : decode cL_law 172 = .ok (.iload_n 3, 1) := by decide +kernel
theorem dL_law_173 : decode cL_law 173 = .ok (.iconst 3, 1) := by decide +kernel
theorem dL_law_174 : decode cL_law 174 = .ok (.iadd, 1) := by decide +kernel
theorem dL_law_175 : decode cL_law 175 = .ok (.iaload, 1) := by decide +kernel
theorem dL_law_176 : decode cL_law 176 = .ok (.invokevirtual 13, 3) := by decide +kernel
theorem dL_law_179 : decode cL_law 179 = .ok (.aload_n 2, 1) := by decide +kernel
theorem dL_law_180 : decode cL_law 180 = .ok (.aload_n 0, 1) := by decide +kernel
theorem dL_law_181 : decode cL_law 181 = .ok (.iload_n 3, 1) := by decide +kernel
theorem dL_law_182 : decode cL_law 182 = .ok (.iconst 1, 1) := by decide +kernel
theorem dL_law_183 : decode cL_law 183 = .ok (.iadd, 1) := by decide +kernel
theorem dL_law_184 : decode cL_law 184 = .ok (.iaload, 1) := by decide +kernel
theorem dL_law_185 : decode cL_law 185 = .ok (.aload_n 0, 1) := by decide +kernel
theorem dL_law_186 : decode cL_law 186 = .ok (.iload_n 3, 1) := by decide +kernel
theorem dL_law_187 : decode cL_law 187 = .ok (.iconst 2, 1) := by decide +kernel
theorem dL_law_188 : decode cL_law 188 = .ok (.iadd, 1) := by decide +kernel
theorem dL_law_189 : decode cL_law 189 = .ok (.iaload, 1) := by decide +kernel
theorem dL_law_190 : decode cL_law 190 = .ok (.aload_n 0, 1) := by decide +kernel
theorem dL_law_191 : decode cL_law 191 = .ok (.iload_n 3, 1) := by decide +kernel
theorem dL_law_192 : decode cL_law 192 = .ok (.iconst 3, 1) := by decide +kernel
theorem dL_law_193 : decode cL_law 193 = .ok (.iadd, 1) := by decide +kernel
theorem dL_law_194 : decode cL_law 194 = .ok (.iaload, 1) := by decide +kernel
theorem dL_law_195 : decode cL_law 195 = .ok (.invokevirtual 17, 3) := by decide +kernel
theorem dL_law_198 : decode cL_law 198 = .ok (.if_icmp .eq 828, 3) := by decide +kernel
theorem dL_law_201 : decode cL_law 201 = .ok (.iconst 0, 1) := by decide +kernel
theorem dL_law_202 : decode cL_law 202 = .ok (.ireturn, 1) := by decide +kernel
theorem dL_law_203 : decode cL_law 203 = .ok (.aload_n 1, 1) := by decide +kernel
theorem dL_law_204 : decode cL_law 204 = .ok (.aload_n 0, 1) := by decide +kernel
theorem dL_law_205 : decode cL_law 205 = .ok (.iload_n 3, 1) := by decide +kernel
theorem dL_law_206 : decode cL_law 206 = .ok (.iconst 1, 1) := by decide +kernel
theorem dL_law_207 : decode cL_law 207 = .ok (.iadd, 1) := by decide +kernel
theorem dL_law_208 : decode cL_law 208 = .ok (.iaload, 1) := by decide +kernel
theorem dL_law_209 : decode cL_law 209 = .ok (.aload_n 0, 1) := by decide +kernel
theorem dL_law_210 : decode cL_law 210 = .ok (.iload_n 3, 1) := by decide +kernel
theorem dL_law_211 : decode cL_law 211 = .ok (.iconst 2, 1) := by decide +kernel
theorem dL_law_212 : decode cL_law 212 = .ok (.iadd, 1) := by decide +kernel
theorem dL_law_213 : decode cL_law 213 = .ok (.iaload, 1) := by decide +kernel
theorem dL_law_214 : decode cL_law 214 = .ok (.aload_n 0, 1) := by decide +kernel
theorem dL_law_215 : decode cL_law 215 = .ok (.iload_n 3, 1) := by decide +kernel
theorem dL_law_216 : decode cL_law 216 = .ok (.iconst 3, 1) := by decide +kernel
theorem dL_law_217 : decode cL_law 217 = .ok (.iadd, 1) := by decide +kernel
theorem dL_law_218 : decode cL_law 218 = .ok (.iaload, 1) := by decide +kernel
theorem dL_law_219 : decode cL_law 219 = .ok (.invokevirtual 18, 3) := by decide +kernel
theorem dL_law_222 : decode cL_law 222 = .ok (.aload_n 2, 1) := by decide +kernel
theorem dL_law_223 : decode cL_law 223 = .ok (.aload_n 0, 1) := by decide +kernel
theorem dL_law_224 : decode cL_law 224 = .ok (.iload_n 3, 1) := by decide +kernel
theorem dL_law_225 : decode cL_law 225 = .ok (.iconst 1, 1) := by decide +kernel
theorem dL_law_226 : decode cL_law 226 = .ok (.iadd, 1) := by decide +kernel
theorem dL_law_227 : decode cL_law 227 = .ok (.iaload, 1) := by decide +kernel
theorem dL_law_228 : decode cL_law 228 = .ok (.aload_n 0, 1) := by decide +kernel
theorem dL_law_229 : decode cL_law 229 = .ok (.iload_n 3, 1) := by decide +kernel
theorem dL_law_230 : decode cL_law 230 = .ok (.iconst 2, 1) := by decide +kernel
theorem dL_law_231 : decode cL_law 231 = .ok (.iadd, 1) := by decide +kernel
theorem dL_law_232 : decode cL_law 232 = .ok (.iaload, 1) := by decide +kernel
theorem dL_law_233 : decode cL_law 233 = .ok (.aload_n 0, 1) := by decide +kernel
theorem dL_law_234 : decode cL_law 234 = .ok (.iload_n 3, 1) := by decide +kernel
theorem dL_law_235 : decode cL_law 235 = .ok (.iconst 3, 1) := by decide +kernel
theorem dL_law_236 : decode cL_law 236 = .ok (.iadd, 1) := by decide +kernel
theorem dL_law_237 : decode cL_law 237 = .ok (.iaload, 1) := by decide +kernel
theorem dL_law_238 : decode cL_law 238 = .ok (.invokevirtual 21, 3) := by decide +kernel
theorem dL_law_241 : decode cL_law 241 = .ok (.if_icmp .eq 785, 3) := by decide +kernel
theorem dL_law_244 : decode cL_law 244 = .ok (.iconst 0, 1) := by decide +kernel
theorem dL_law_245 : decode cL_law 245 = .ok (.ireturn, 1) := by decide +kernel
theorem dL_law_246 : decode cL_law 246 = .ok (.aload_n 1, 1) := by decide +kernel
theorem dL_law_247 : decode cL_law 247 = .ok (.aload_n 0, 1) := by decide +kernel
theorem dL_law_248 : decode cL_law 248 = .ok (.iload_n 3, 1) := by decide +kernel
theorem dL_law_249 : decode cL_law 249 = .ok (.iconst 1, 1) := by decide +kernel
theorem dL_law_250 : decode cL_law 250 = .ok (.iadd, 1) := by decide +kernel
theorem dL_law_251 : decode cL_law 251 = .ok (.iaload, 1) := by decide +kernel
theorem dL_law_252 : decode cL_law 252 = .ok (.aload_n 0, 1) := by decide +kernel
theorem dL_law_253 : decode cL_law 253 = .ok (.iload_n 3, 1) := by decide +kernel
theorem dL_law_254 : decode cL_law 254 = .ok (.iconst 2, 1) := by decide +kernel
theorem dL_law_255 : decode cL_law 255 = .ok (.iadd, 1) := by decide +kernel
theorem dL_law_256 : decode cL_law 256 = .ok (.iaload, 1) := by decide +kernel
theorem dL_law_257 : decode cL_law 257 = .ok (.invokevirtual 22, 3) := by decide +kernel
theorem dL_law_260 : decode cL_law 260 = .ok (.aload_n 2, 1) := by decide +kernel
theorem dL_law_261 : decode cL_law 261 = .ok (.aload_n 0, 1) := by decide +kernel
theorem dL_law_262 : decode cL_law 262 = .ok (.iload_n 3, 1) := by decide +kernel
theorem dL_law_263 : decode cL_law 263 = .ok (.iconst 1, 1) := by decide +kernel
theorem dL_law_264 : decode cL_law 264 = .ok (.iadd, 1) := by decide +kernel
theorem dL_law_265 : decode cL_law 265 = .ok (.iaload, 1) := by decide +kernel
theorem dL_law_266 : decode cL_law 266 = .ok (.aload_n 0, 1) := by decide +kernel
theorem dL_law_267 : decode cL_law 267 = .ok (.iload_n 3, 1) := by decide +kernel
theorem dL_law_268 : decode cL_law 268 = .ok (.iconst 2, 1) := by decide +kernel
theorem dL_law_269 : decode cL_law 269 = .ok (.iadd, 1) := by decide +kernel
theorem dL_law_270 : decode cL_law 270 = .ok (.iaload, 1) := by decide +kernel
theorem dL_law_271 : decode cL_law 271 = .ok (.invokevirtual 26, 3) := by decide +kernel
theorem dL_law_274 : decode cL_law 274 = .ok (.if_icmp .eq 752, 3) := by decide +kernel
theorem dL_law_277 : decode cL_law 277 = .ok (.iconst 0, 1) := by decide +kernel
theorem dL_law_278 : decode cL_law 278 = .ok (.ireturn, 1) := by decide +kernel
theorem dL_law_279 : decode cL_law 279 = .ok (.aload_n 1, 1) := by decide +kernel
theorem dL_law_280 : decode cL_law 280 = .ok (.aload_n 0, 1) := by decide +kernel
theorem dL_law_281 : decode cL_law 281 = .ok (.iload_n 3, 1) := by decide +kernel
theorem dL_law_282 : decode cL_law 282 = .ok (.iconst 1, 1) := by decide +kernel
theorem dL_law_283 : decode cL_law 283 = .ok (.iadd, 1) := by decide +kernel
theorem dL_law_284 : decode cL_law 284 = .ok (.iaload, 1) := by decide +kernel
theorem dL_law_285 : decode cL_law 285 = .ok (.aload_n 0, 1) := by decide +kernel
theorem dL_law_286 : decode cL_law 286 = .ok (.iload_n 3, 1) := by decide +kernel
theorem dL_law_287 : decode cL_law 287 = .ok (.iconst 2, 1) := by decide +kernel
theorem dL_law_288 : decode cL_law 288 = .ok (.iadd, 1) := by decide +kernel
theorem dL_law_289 : decode cL_law 289 = .ok (.iaload, 1) := by decide +kernel
theorem dL_law_290 : decode cL_law 290 = .ok (.invokevirtual 27, 3) := by decide +kernel
theorem dL_law_293 : decode cL_law 293 = .ok (.aload_n 2, 1) := by decide +kernel
theorem dL_law_294 : decode cL_law 294 = .ok (.aload_n 0, 1) := by decide +kernel
theorem dL_law_295 : decode cL_law 295 = .ok (.iload_n 3, 1) := by decide +kernel
theorem dL_law_296 : decode cL_law 296 = .ok (.iconst 1, 1) := by decide +kernel
theorem dL_law_297 : decode cL_law 297 = .ok (.iadd, 1) := by decide +kernel
theorem dL_law_298 : decode cL_law 298 = .ok (.iaload, 1) := by decide +kernel
theorem dL_law_299 : decode cL_law 299 = .ok (.aload_n 0, 1) := by decide +kernel
theorem dL_law_300 : decode cL_law 300 = .ok (.iload_n 3, 1) := by decide +kernel
theorem dL_law_301 : decode cL_law 301 = .ok (.iconst 2, 1) := by decide +kernel
theorem dL_law_302 : decode cL_law 302 = .ok (.iadd, 1) := by decide +kernel
theorem dL_law_303 : decode cL_law 303 = .ok (.iaload, 1) := by decide +kernel
theorem dL_law_304 : decode cL_law 304 = .ok (.invokevirtual 30, 3) := by decide +kernel
theorem dL_law_307 : decode cL_law 307 = .ok (.if_icmp .eq 719, 3) := by decide +kernel
theorem dL_law_310 : decode cL_law 310 = .ok (.iconst 0, 1) := by decide +kernel
theorem dL_law_311 : decode cL_law 311 = .ok (.ireturn, 1) := by decide +kernel
theorem dL_law_312 : decode cL_law 312 = .ok (.aload_n 1, 1) := by decide +kernel
theorem dL_law_313 : decode cL_law 313 = .ok (.aload_n 0, 1) := by decide +kernel
theorem dL_law_314 : decode cL_law 314 = .ok (.iload_n 3, 1) := by decide +kernel
theorem dL_law_315 : decode cL_law 315 = .ok (.iconst 1, 1) := by decide +kernel
theorem dL_law_316 : decode cL_law 316 = .ok (.iadd, 1) := by decide +kernel
theorem dL_law_317 : decode cL_law 317 = .ok (.iaload, 1) := by decide +kernel
theorem dL_law_318 : decode cL_law 318 = .ok (.invokevirtual 31, 3) := by decide +kernel
theorem dL_law_321 : decode cL_law 321 = .ok (.aload_n 2, 1) := by decide +kernel
theorem dL_law_322 : decode cL_law 322 = .ok (.aload_n 0, 1) := by decide +kernel
theorem dL_law_323 : decode cL_law 323 = .ok (.iload_n 3, 1) := by decide +kernel
theorem dL_law_324 : decode cL_law 324 = .ok (.iconst 1, 1) := by decide +kernel
theorem dL_law_325 : decode cL_law 325 = .ok (.iadd, 1) := by decide +kernel
theorem dL_law_326 : decode cL_law 326 = .ok (.iaload, 1) := by decide +kernel
theorem dL_law_327 : decode cL_law 327 = .ok (.invokevirtual 35, 3) := by decide +kernel
theorem dL_law_330 : decode cL_law 330 = .ok (.if_icmp .eq 696, 3) := by decide +kernel
theorem dL_law_333 : decode cL_law 333 = .ok (.iconst 0, 1) := by decide +kernel
theorem dL_law_334 : decode cL_law 334 = .ok (.ireturn, 1) := by decide +kernel
theorem dL_law_335 : decode cL_law 335 = .ok (.aload_n 1, 1) := by decide +kernel
theorem dL_law_336 : decode cL_law 336 = .ok (.invokevirtual 36, 3) := by decide +kernel
theorem dL_law_339 : decode cL_law 339 = .ok (.aload_n 2, 1) := by decide +kernel
theorem dL_law_340 : decode cL_law 340 = .ok (.invokevirtual 40, 3) := by decide +kernel
theorem dL_law_343 : decode cL_law 343 = .ok (.if_icmp .eq 683, 3) := by decide +kernel
theorem dL_law_346 : decode cL_law 346 = .ok (.iconst 0, 1) := by decide +kernel
theorem dL_law_347 : decode cL_law 347 = .ok (.ireturn, 1) := by decide +kernel
theorem dL_law_348 : decode cL_law 348 = .ok (.aload_n 1, 1) := by decide +kernel
theorem dL_law_349 : decode cL_law 349 = .ok (.aload_n 0, 1) := by decide +kernel
theorem dL_law_350 : decode cL_law 350 = .ok (.iload_n 3, 1) := by decide +kernel
theorem dL_law_351 : decode cL_law 351 = .ok (.iconst 1, 1) := by decide +kernel
theorem dL_law_352 : decode cL_law 352 = .ok (.iadd, 1) := by decide +kernel
theorem dL_law_353 : decode cL_law 353 = .ok (.iaload, 1) := by decide +kernel
theorem dL_law_354 : decode cL_law 354 = .ok (.invokevirtual 41, 3) := by decide +kernel
theorem dL_law_357 : decode cL_law 357 = .ok (.aload_n 2, 1) := by decide +kernel
theorem dL_law_358 : decode cL_law 358 = .ok (.aload_n 0, 1) := by decide +kernel
theorem dL_law_359 : decode cL_law 359 = .ok (.iload_n 3, 1) := by decide +kernel
theorem dL_law_360 : decode cL_law 360 = .ok (.iconst 1, 1) := by decide +kernel
theorem dL_law_361 : decode cL_law 361 = .ok (.iadd, 1) := by decide +kernel
theorem dL_law_362 : decode cL_law 362 = .ok (.iaload, 1) := by decide +kernel
theorem dL_law_363 : decode cL_law 363 = .ok (.invokevirtual 44, 3) := by decide +kernel
theorem dL_law_366 : decode cL_law 366 = .ok (.if_icmp .eq 660, 3) := by decide +kernel
theorem dL_law_369 : decode cL_law 369 = .ok (.iconst 0, 1) := by decide +kernel
theorem dL_law_370 : decode cL_law 370 = .ok (.ireturn, 1) := by decide +kernel
theorem dL_law_371 : decode cL_law 371 = .ok (.aload_n 1, 1) := by decide +kernel
theorem dL_law_372 : decode cL_law 372 = .ok (.aload_n 0, 1) := by decide +kernel
theorem dL_law_373 : decode cL_law 373 = .ok (.iload_n 3, 1) := by decide +kernel
theorem dL_law_374 : decode cL_law 374 = .ok (.iconst 1, 1) := by decide +kernel
theorem dL_law_375 : decode cL_law 375 = .ok (.iadd, 1) := by decide +kernel
theorem dL_law_376 : decode cL_law 376 = .ok (.iaload, 1) := by decide +kernel
theorem dL_law_377 : decode cL_law 377 = .ok (.invokevirtual 45, 3) := by decide +kernel
theorem dL_law_380 : decode cL_law 380 = .ok (.aload_n 2, 1) := by decide +kernel
theorem dL_law_381 : decode cL_law 381 = .ok (.aload_n 0, 1) := by decide +kernel
theorem dL_law_382 : decode cL_law 382 = .ok (.iload_n 3, 1) := by decide +kernel
theorem dL_law_383 : decode cL_law 383 = .ok (.iconst 1, 1) := by decide +kernel
theorem dL_law_384 : decode cL_law 384 = .ok (.iadd, 1) := by decide +kernel
theorem dL_law_385 : decode cL_law 385 = .ok (.iaload, 1) := by decide +kernel
theorem dL_law_386 : decode cL_law 386 = .ok (.invokevirtual 48, 3) := by decide +kernel
theorem dL_law_389 : decode cL_law 389 = .ok (.if_icmp .eq 637, 3) := by decide +kernel
theorem dL_law_392 : decode cL_law 392 = .ok (.iconst 0, 1) := by decide +kernel
theorem dL_law_393 : decode cL_law 393 = .ok (.ireturn, 1) := by decide +kernel
theorem dL_law_394 : decode cL_law 394 = .ok (.aload_n 1, 1) := by decide +kernel
theorem dL_law_395 : decode cL_law 395 = .ok (.aload_n 0, 1) := by decide +kernel
theorem dL_law_396 : decode cL_law 396 = .ok (.iload_n 3, 1) := by decide +kernel
theorem dL_law_397 : decode cL_law 397 = .ok (.iconst 1, 1) := by decide +kernel
theorem dL_law_398 : decode cL_law 398 = .ok (.iadd, 1) := by decide +kernel
theorem dL_law_399 : decode cL_law 399 = .ok (.iaload, 1) := by decide +kernel
theorem dL_law_400 : decode cL_law 400 = .ok (.aload_n 0, 1) := by decide +kernel
theorem dL_law_401 : decode cL_law 401 = .ok (.iload_n 3, 1) := by decide +kernel
theorem dL_law_402 : decode cL_law 402 = .ok (.iconst 2, 1) := by decide +kernel
theorem dL_law_403 : decode cL_law 403 = .ok (.iadd, 1) := by decide +kernel
theorem dL_law_404 : decode cL_law 404 = .ok (.iaload, 1) := by decide +kernel
theorem dL_law_405 : decode cL_law 405 = .ok (.invokevirtual 49, 3) := by decide +kernel
theorem dL_law_408 : decode cL_law 408 = .ok (.aload_n 2, 1) := by decide +kernel
theorem dL_law_409 : decode cL_law 409 = .ok (.aload_n 0, 1) := by decide +kernel
theorem dL_law_410 : decode cL_law 410 = .ok (.iload_n 3, 1) := by decide +kernel
theorem dL_law_411 : decode cL_law 411 = .ok (.iconst 1, 1) := by decide +kernel
theorem dL_law_412 : decode cL_law 412 = .ok (.iadd, 1) := by decide +kernel
theorem dL_law_413 : decode cL_law 413 = .ok (.iaload, 1) := by decide +kernel
theorem dL_law_414 : decode cL_law 414 = .ok (.aload_n 0, 1) := by decide +kernel
theorem dL_law_415 : decode cL_law 415 = .ok (.iload_n 3, 1) := by decide +kernel
theorem dL_law_416 : decode cL_law 416 = .ok (.iconst 2, 1) := by decide +kernel
theorem dL_law_417 : decode cL_law 417 = .ok (.iadd, 1) := by decide +kernel
theorem dL_law_418 : decode cL_law 418 = .ok (.iaload, 1) := by decide +kernel
theorem dL_law_419 : decode cL_law 419 = .ok (.invokevirtual 52, 3) := by decide +kernel
theorem dL_law_422 : decode cL_law 422 = .ok (.if_icmp .eq 604, 3) := by decide +kernel
theorem dL_law_425 : decode cL_law 425 = .ok (.iconst 0, 1) := by decide +kernel
theorem dL_law_426 : decode cL_law 426 = .ok (.ireturn, 1) := by decide +kernel
theorem dL_law_427 : decode cL_law 427 = .ok (.aload_n 1, 1) := by decide +kernel
theorem dL_law_428 : decode cL_law 428 = .ok (.aload_n 0, 1) := by decide +kernel
theorem dL_law_429 : decode cL_law 429 = .ok (.iload_n 3, 1) := by decide +kernel
theorem dL_law_430 : decode cL_law 430 = .ok (.iconst 1, 1) := by decide +kernel
theorem dL_law_431 : decode cL_law 431 = .ok (.iadd, 1) := by decide +kernel
theorem dL_law_432 : decode cL_law 432 = .ok (.iaload, 1) := by decide +kernel
theorem dL_law_433 : decode cL_law 433 = .ok (.invokevirtual 53, 3) := by decide +kernel
theorem dL_law_436 : decode cL_law 436 = .ok (.aload_n 2, 1) := by decide +kernel
theorem dL_law_437 : decode cL_law 437 = .ok (.aload_n 0, 1) := by decide +kernel
theorem dL_law_438 : decode cL_law 438 = .ok (.iload_n 3, 1) := by decide +kernel
theorem dL_law_439 : decode cL_law 439 = .ok (.iconst 1, 1) := by decide +kernel
theorem dL_law_440 : decode cL_law 440 = .ok (.iadd, 1) := by decide +kernel
theorem dL_law_441 : decode cL_law 441 = .ok (.iaload, 1) := by decide +kernel
theorem dL_law_442 : decode cL_law 442 = .ok (.invokevirtual 56, 3) := by decide +kernel
theorem dL_law_445 : decode cL_law 445 = .ok (.if_icmp .eq 581, 3) := by decide +kernel
theorem dL_law_448 : decode cL_law 448 = .ok (.iconst 0, 1) := by decide +kernel
theorem dL_law_449 : decode cL_law 449 = .ok (.ireturn, 1) := by decide +kernel
theorem dL_law_450 : decode cL_law 450 = .ok (.aload_n 1, 1) := by decide +kernel
theorem dL_law_451 : decode cL_law 451 = .ok (.aload_n 0, 1) := by decide +kernel
theorem dL_law_452 : decode cL_law 452 = .ok (.iload_n 3, 1) := by decide +kernel
theorem dL_law_453 : decode cL_law 453 = .ok (.iconst 1, 1) := by decide +kernel
theorem dL_law_454 : decode cL_law 454 = .ok (.iadd, 1) := by decide +kernel
theorem dL_law_455 : decode cL_law 455 = .ok (.iaload, 1) := by decide +kernel
theorem dL_law_456 : decode cL_law 456 = .ok (.aload_n 0, 1) := by decide +kernel
theorem dL_law_457 : decode cL_law 457 = .ok (.iload_n 3, 1) := by decide +kernel
theorem dL_law_458 : decode cL_law 458 = .ok (.iconst 2, 1) := by decide +kernel
theorem dL_law_459 : decode cL_law 459 = .ok (.iadd, 1) := by decide +kernel
theorem dL_law_460 : decode cL_law 460 = .ok (.iaload, 1) := by decide +kernel
theorem dL_law_461 : decode cL_law 461 = .ok (.invokevirtual 57, 3) := by decide +kernel
theorem dL_law_464 : decode cL_law 464 = .ok (.aload_n 2, 1) := by decide +kernel
theorem dL_law_465 : decode cL_law 465 = .ok (.aload_n 0, 1) := by decide +kernel
theorem dL_law_466 : decode cL_law 466 = .ok (.iload_n 3, 1) := by decide +kernel
theorem dL_law_467 : decode cL_law 467 = .ok (.iconst 1, 1) := by decide +kernel
theorem dL_law_468 : decode cL_law 468 = .ok (.iadd, 1) := by decide +kernel
theorem dL_law_469 : decode cL_law 469 = .ok (.iaload, 1) := by decide +kernel
theorem dL_law_470 : decode cL_law 470 = .ok (.aload_n 0, 1) := by decide +kernel
theorem dL_law_471 : decode cL_law 471 = .ok (.iload_n 3, 1) := by decide +kernel
theorem dL_law_472 : decode cL_law 472 = .ok (.iconst 2, 1) := by decide +kernel
theorem dL_law_473 : decode cL_law 473 = .ok (.iadd, 1) := by decide +kernel
theorem dL_law_474 : decode cL_law 474 = .ok (.iaload, 1) := by decide +kernel
theorem dL_law_475 : decode cL_law 475 = .ok (.invokevirtual 60, 3) := by decide +kernel
theorem dL_law_478 : decode cL_law 478 = .ok (.if_icmp .eq 548, 3) := by decide +kernel
theorem dL_law_481 : decode cL_law 481 = .ok (.iconst 0, 1) := by decide +kernel
theorem dL_law_482 : decode cL_law 482 = .ok (.ireturn, 1) := by decide +kernel
theorem dL_law_483 : decode cL_law 483 = .ok (.aload_n 1, 1) := by decide +kernel
theorem dL_law_484 : decode cL_law 484 = .ok (.aload_n 0, 1) := by decide +kernel
theorem dL_law_485 : decode cL_law 485 = .ok (.iload_n 3, 1) := by decide +kernel
theorem dL_law_486 : decode cL_law 486 = .ok (.iconst 1, 1) := by decide +kernel
theorem dL_law_487 : decode cL_law 487 = .ok (.iadd, 1) := by decide +kernel
theorem dL_law_488 : decode cL_law 488 = .ok (.iaload, 1) := by decide +kernel
theorem dL_law_489 : decode cL_law 489 = .ok (.invokevirtual 61, 3) := by decide +kernel
theorem dL_law_492 : decode cL_law 492 = .ok (.aload_n 2, 1) := by decide +kernel
theorem dL_law_493 : decode cL_law 493 = .ok (.aload_n 0, 1) := by decide +kernel
theorem dL_law_494 : decode cL_law 494 = .ok (.iload_n 3, 1) := by decide +kernel
theorem dL_law_495 : decode cL_law 495 = .ok (.iconst 1, 1) := by decide +kernel
theorem dL_law_496 : decode cL_law 496 = .ok (.iadd, 1) := by decide +kernel
theorem dL_law_497 : decode cL_law 497 = .ok (.iaload, 1) := by decide +kernel
theorem dL_law_498 : decode cL_law 498 = .ok (.invokevirtual 64, 3) := by decide +kernel
theorem dL_law_501 : decode cL_law 501 = .ok (.if_icmp .eq 525, 3) := by decide +kernel
theorem dL_law_504 : decode cL_law 504 = .ok (.iconst 0, 1) := by decide +kernel
theorem dL_law_505 : decode cL_law 505 = .ok (.ireturn, 1) := by decide +kernel
theorem dL_law_506 : decode cL_law 506 = .ok (.aload_n 1, 1) := by decide +kernel
theorem dL_law_507 : decode cL_law 507 = .ok (.aload_n 0, 1) := by decide +kernel
theorem dL_law_508 : decode cL_law 508 = .ok (.iload_n 3, 1) := by decide +kernel
theorem dL_law_509 : decode cL_law 509 = .ok (.iconst 1, 1) := by decide +kernel
theorem dL_law_510 : decode cL_law 510 = .ok (.iadd, 1) := by decide +kernel
theorem dL_law_511 : decode cL_law 511 = .ok (.iaload, 1) := by decide +kernel
theorem dL_law_512 : decode cL_law 512 = .ok (.invokevirtual 65, 3) := by decide +kernel
theorem dL_law_515 : decode cL_law 515 = .ok (.aload_n 2, 1) := by decide +kernel
theorem dL_law_516 : decode cL_law 516 = .ok (.aload_n 0, 1) := by decide +kernel
theorem dL_law_517 : decode cL_law 517 = .ok (.iload_n 3, 1) := by decide +kernel
theorem dL_law_518 : decode cL_law 518 = .ok (.iconst 1, 1) := by decide +kernel
theorem dL_law_519 : decode cL_law 519 = .ok (.iadd, 1) := by decide +kernel
theorem dL_law_520 : decode cL_law 520 = .ok (.iaload, 1) := by decide +kernel
theorem dL_law_521 : decode cL_law 521 = .ok (.invokevirtual 68, 3) := by decide +kernel
theorem dL_law_524 : decode cL_law 524 = .ok (.if_icmp .eq 502, 3) := by decide +kernel
theorem dL_law_527 : decode cL_law 527 = .ok (.iconst 0, 1) := by decide +kernel
theorem dL_law_528 : decode cL_law 528 = .ok (.ireturn, 1) := by decide +kernel
theorem dL_law_529 : decode cL_law 529 = .ok (.aload_n 1, 1) := by decide +kernel
theorem dL_law_530 : decode cL_law 530 = .ok (.invokevirtual 69, 3) := by decide +kernel
theorem dL_law_533 : decode cL_law 533 = .ok (.aload_n 2, 1) := by decide +kernel
theorem dL_law_534 : decode cL_law 534 = .ok (.invokevirtual 72, 3) := by decide +kernel
theorem dL_law_537 : decode cL_law 537 = .ok (.if_icmp .eq 489, 3) := by decide +kernel
theorem dL_law_540 : decode cL_law 540 = .ok (.iconst 0, 1) := by decide +kernel
theorem dL_law_541 : decode cL_law 541 = .ok (.ireturn, 1) := by decide +kernel
theorem dL_law_542 : decode cL_law 542 = .ok (.aload_n 1, 1) := by decide +kernel
theorem dL_law_543 : decode cL_law 543 = .ok (.aload_n 0, 1) := by decide +kernel
theorem dL_law_544 : decode cL_law 544 = .ok (.iload_n 3, 1) := by decide +kernel
theorem dL_law_545 : decode cL_law 545 = .ok (.iconst 1, 1) := by decide +kernel
theorem dL_law_546 : decode cL_law 546 = .ok (.iadd, 1) := by decide +kernel
theorem dL_law_547 : decode cL_law 547 = .ok (.iaload, 1) := by decide +kernel
theorem dL_law_548 : decode cL_law 548 = .ok (.aload_n 0, 1) := by decide +kernel
theorem dL_law_549 : decode cL_law 549 = .ok (.iload_n 3, 1) := by decide +kernel
theorem dL_law_550 : decode cL_law 550 = .ok (.iconst 2, 1) := by decide +kernel
theorem dL_law_551 : decode cL_law 551 = .ok (.iadd, 1) := by decide +kernel
theorem dL_law_552 : decode cL_law 552 = .ok (.iaload, 1) := by decide +kernel
theorem dL_law_553 : decode cL_law 553 = .ok (.invokevirtual 73, 3) := by decide +kernel
theorem dL_law_556 : decode cL_law 556 = .ok (.aload_n 2, 1) := by decide +kernel
theorem dL_law_557 : decode cL_law 557 = .ok (.aload_n 0, 1) := by decide +kernel
theorem dL_law_558 : decode cL_law 558 = .ok (.iload_n 3, 1) := by decide +kernel
theorem dL_law_559 : decode cL_law 559 = .ok (.iconst 1, 1) := by decide +kernel
theorem dL_law_560 : decode cL_law 560 = .ok (.iadd, 1) := by decide +kernel
theorem dL_law_561 : decode cL_law 561 = .ok (.iaload, 1) := by decide +kernel
theorem dL_law_562 : decode cL_law 562 = .ok (.aload_n 0, 1) := by decide +kernel
theorem dL_law_563 : decode cL_law 563 = .ok (.iload_n 3, 1) := by decide +kernel
theorem dL_law_564 : decode cL_law 564 = .ok (.iconst 2, 1) := by decide +kernel
theorem dL_law_565 : decode cL_law 565 = .ok (.iadd, 1) := by decide +kernel
theorem dL_law_566 : decode cL_law 566 = .ok (.iaload, 1) := by decide +kernel
theorem dL_law_567 : decode cL_law 567 = .ok (.invokevirtual 77, 3) := by decide +kernel
theorem dL_law_570 : decode cL_law 570 = .ok (.lcmp, 1) := by decide +kernel
theorem dL_law_571 : decode cL_law 571 = .ok (.ifCond .eq 455, 3) := by decide +kernel
theorem dL_law_574 : decode cL_law 574 = .ok (.iconst 0, 1) := by decide +kernel
theorem dL_law_575 : decode cL_law 575 = .ok (.ireturn, 1) := by decide +kernel
theorem dL_law_576 : decode cL_law 576 = .ok (.aload_n 1, 1) := by decide +kernel
theorem dL_law_577 : decode cL_law 577 = .ok (.aload_n 0, 1) := by decide +kernel
theorem dL_law_578 : decode cL_law 578 = .ok (.iload_n 3, 1) := by decide +kernel
theorem dL_law_579 : decode cL_law 579 = .ok (.iconst 1, 1) := by decide +kernel
theorem dL_law_580 : decode cL_law 580 = .ok (.iadd, 1) := by decide +kernel
theorem dL_law_581 : decode cL_law 581 = .ok (.iaload, 1) := by decide +kernel
theorem dL_law_582 : decode cL_law 582 = .ok (.invokevirtual 78, 3) := by decide +kernel
theorem dL_law_585 : decode cL_law 585 = .ok (.aload_n 2, 1) := by decide +kernel
theorem dL_law_586 : decode cL_law 586 = .ok (.aload_n 0, 1) := by decide +kernel
theorem dL_law_587 : decode cL_law 587 = .ok (.iload_n 3, 1) := by decide +kernel
theorem dL_law_588 : decode cL_law 588 = .ok (.iconst 1, 1) := by decide +kernel
theorem dL_law_589 : decode cL_law 589 = .ok (.iadd, 1) := by decide +kernel
theorem dL_law_590 : decode cL_law 590 = .ok (.iaload, 1) := by decide +kernel
theorem dL_law_591 : decode cL_law 591 = .ok (.invokevirtual 81, 3) := by decide +kernel
theorem dL_law_594 : decode cL_law 594 = .ok (.if_icmp .eq 432, 3) := by decide +kernel
theorem dL_law_597 : decode cL_law 597 = .ok (.iconst 0, 1) := by decide +kernel
theorem dL_law_598 : decode cL_law 598 = .ok (.ireturn, 1) := by decide +kernel
theorem dL_law_599 : decode cL_law 599 = .ok (.aload_n 1, 1) := by decide +kernel
theorem dL_law_600 : decode cL_law 600 = .ok (.aload_n 0, 1) := by decide +kernel
theorem dL_law_601 : decode cL_law 601 = .ok (.iload_n 3, 1) := by decide +kernel
theorem dL_law_602 : decode cL_law 602 = .ok (.iconst 1, 1) := by decide +kernel
theorem dL_law_603 : decode cL_law 603 = .ok (.iadd, 1) := by decide +kernel
theorem dL_law_604 : decode cL_law 604 = .ok (.iaload, 1) := by decide +kernel
theorem dL_law_605 : decode cL_law 605 = .ok (.aload_n 0, 1) := by decide +kernel
theorem dL_law_606 : decode cL_law 606 = .ok (.iload_n 3, 1) := by decide +kernel
theorem dL_law_607 : decode cL_law 607 = .ok (.iconst 2, 1) := by decide +kernel
theorem dL_law_608 : decode cL_law 608 = .ok (.iadd, 1) := by decide +kernel
theorem dL_law_609 : decode cL_law 609 = .ok (.iaload, 1) := by decide +kernel
theorem dL_law_610 : decode cL_law 610 = .ok (.aload_n 0, 1) := by decide +kernel
theorem dL_law_611 : decode cL_law 611 = .ok (.iload_n 3, 1) := by decide +kernel
theorem dL_law_612 : decode cL_law 612 = .ok (.iconst 3, 1) := by decide +kernel
theorem dL_law_613 : decode cL_law 613 = .ok (.iadd, 1) := by decide +kernel
theorem dL_law_614 : decode cL_law 614 = .ok (.iaload, 1) := by decide +kernel
theorem dL_law_615 : decode cL_law 615 = .ok (.invokevirtual 82, 3) := by decide +kernel
theorem dL_law_618 : decode cL_law 618 = .ok (.aload_n 2, 1) := by decide +kernel
theorem dL_law_619 : decode cL_law 619 = .ok (.aload_n 0, 1) := by decide +kernel
theorem dL_law_620 : decode cL_law 620 = .ok (.iload_n 3, 1) := by decide +kernel
theorem dL_law_621 : decode cL_law 621 = .ok (.iconst 1, 1) := by decide +kernel
theorem dL_law_622 : decode cL_law 622 = .ok (.iadd, 1) := by decide +kernel
theorem dL_law_623 : decode cL_law 623 = .ok (.iaload, 1) := by decide +kernel
theorem dL_law_624 : decode cL_law 624 = .ok (.aload_n 0, 1) := by decide +kernel
theorem dL_law_625 : decode cL_law 625 = .ok (.iload_n 3, 1) := by decide +kernel
theorem dL_law_626 : decode cL_law 626 = .ok (.iconst 2, 1) := by decide +kernel
theorem dL_law_627 : decode cL_law 627 = .ok (.iadd, 1) := by decide +kernel
theorem dL_law_628 : decode cL_law 628 = .ok (.iaload, 1) := by decide +kernel
theorem dL_law_629 : decode cL_law 629 = .ok (.aload_n 0, 1) := by decide +kernel
theorem dL_law_630 : decode cL_law 630 = .ok (.iload_n 3, 1) := by decide +kernel
theorem dL_law_631 : decode cL_law 631 = .ok (.iconst 3, 1) := by decide +kernel
theorem dL_law_632 : decode cL_law 632 = .ok (.iadd, 1) := by decide +kernel
theorem dL_law_633 : decode cL_law 633 = .ok (.iaload, 1) := by decide +kernel
theorem dL_law_634 : decode cL_law 634 = .ok (.invokevirtual 85, 3) := by decide +kernel
theorem dL_law_637 : decode cL_law 637 = .ok (.if_icmp .eq 389, 3) := by decide +kernel
theorem dL_law_640 : decode cL_law 640 = .ok (.iconst 0, 1) := by decide +kernel
theorem dL_law_641 : decode cL_law 641 = .ok (.ireturn, 1) := by decide +kernel
theorem dL_law_642 : decode cL_law 642 = .ok (.aload_n 1, 1) := by decide +kernel
theorem dL_law_643 : decode cL_law 643 = .ok (.aload_n 0, 1) := by decide +kernel
theorem dL_law_644 : decode cL_law 644 = .ok (.iload_n 3, 1) := by decide +kernel
theorem dL_law_645 : decode cL_law 645 = .ok (.iconst 1, 1) := by decide +kernel
theorem dL_law_646 : decode cL_law 646 = .ok (.iadd, 1) := by decide +kernel
theorem dL_law_647 : decode cL_law 647 = .ok (.iaload, 1) := by decide +kernel
theorem dL_law_648 : decode cL_law 648 = .ok (.aload_n 0, 1) := by decide +kernel
theorem dL_law_649 : decode cL_law 649 = .ok (.iload_n 3, 1) := by decide +kernel
theorem dL_law_650 : decode cL_law 650 = .ok (.iconst 2, 1) := by decide +kernel
theorem dL_law_651 : decode cL_law 651 = .ok (.iadd, 1) := by decide +kernel
theorem dL_law_652 : decode cL_law 652 = .ok (.iaload, 1) := by decide +kernel
theorem dL_law_653 : decode cL_law 653 = .ok (.invokevirtual 86, 3) := by decide +kernel
theorem dL_law_656 : decode cL_law 656 = .ok (.aload_n 2, 1) := by decide +kernel
theorem dL_law_657 : decode cL_law 657 = .ok (.aload_n 0, 1) := by decide +kernel
theorem dL_law_658 : decode cL_law 658 = .ok (.iload_n 3, 1) := by decide +kernel
theorem dL_law_659 : decode cL_law 659 = .ok (.iconst 1, 1) := by decide +kernel
theorem dL_law_660 : decode cL_law 660 = .ok (.iadd, 1) := by decide +kernel
theorem dL_law_661 : decode cL_law 661 = .ok (.iaload, 1) := by decide +kernel
theorem dL_law_662 : decode cL_law 662 = .ok (.aload_n 0, 1) := by decide +kernel
theorem dL_law_663 : decode cL_law 663 = .ok (.iload_n 3, 1) := by decide +kernel
theorem dL_law_664 : decode cL_law 664 = .ok (.iconst 2, 1) := by decide +kernel
theorem dL_law_665 : decode cL_law 665 = .ok (.iadd, 1) := by decide +kernel
theorem dL_law_666 : decode cL_law 666 = .ok (.iaload, 1) := by decide +kernel
theorem dL_law_667 : decode cL_law 667 = .ok (.invokevirtual 89, 3) := by decide +kernel
theorem dL_law_670 : decode cL_law 670 = .ok (.if_icmp .eq 356, 3) := by decide +kernel
theorem dL_law_673 : decode cL_law 673 = .ok (.iconst 0, 1) := by decide +kernel
theorem dL_law_674 : decode cL_law 674 = .ok (.ireturn, 1) := by decide +kernel
theorem dL_law_675 : decode cL_law 675 = .ok (.aload_n 1, 1) := by decide +kernel
theorem dL_law_676 : decode cL_law 676 = .ok (.aload_n 0, 1) := by decide +kernel
theorem dL_law_677 : decode cL_law 677 = .ok (.iload_n 3, 1) := by decide +kernel
theorem dL_law_678 : decode cL_law 678 = .ok (.iconst 1, 1) := by decide +kernel
theorem dL_law_679 : decode cL_law 679 = .ok (.iadd, 1) := by decide +kernel
theorem dL_law_680 : decode cL_law 680 = .ok (.iaload, 1) := by decide +kernel
theorem dL_law_681 : decode cL_law 681 = .ok (.invokevirtual 90, 3) := by decide +kernel
theorem dL_law_684 : decode cL_law 684 = .ok (.aload_n 2, 1) := by decide +kernel
theorem dL_law_685 : decode cL_law 685 = .ok (.aload_n 0, 1) := by decide +kernel
theorem dL_law_686 : decode cL_law 686 = .ok (.iload_n 3, 1) := by decide +kernel
theorem dL_law_687 : decode cL_law 687 = .ok (.iconst 1, 1) := by decide +kernel
theorem dL_law_688 : decode cL_law 688 = .ok (.iadd, 1) := by decide +kernel
theorem dL_law_689 : decode cL_law 689 = .ok (.iaload, 1) := by decide +kernel
theorem dL_law_690 : decode cL_law 690 = .ok (.invokevirtual 93, 3) := by decide +kernel
theorem dL_law_693 : decode cL_law 693 = .ok (.if_icmp .eq 333, 3) := by decide +kernel
theorem dL_law_696 : decode cL_law 696 = .ok (.iconst 0, 1) := by decide +kernel
theorem dL_law_697 : decode cL_law 697 = .ok (.ireturn, 1) := by decide +kernel
theorem dL_law_698 : decode cL_law 698 = .ok (.aload_n 1, 1) := by decide +kernel
theorem dL_law_699 : decode cL_law 699 = .ok (.aload_n 0, 1) := by decide +kernel
theorem dL_law_700 : decode cL_law 700 = .ok (.iload_n 3, 1) := by decide +kernel
theorem dL_law_701 : decode cL_law 701 = .ok (.iconst 1, 1) := by decide +kernel
theorem dL_law_702 : decode cL_law 702 = .ok (.iadd, 1) := by decide +kernel
theorem dL_law_703 : decode cL_law 703 = .ok (.iaload, 1) := by decide +kernel
theorem dL_law_704 : decode cL_law 704 = .ok (.aload_n 0, 1) := by decide +kernel
theorem dL_law_705 : decode cL_law 705 = .ok (.iload_n 3, 1) := by decide +kernel
theorem dL_law_706 : decode cL_law 706 = .ok (.iconst 2, 1) := by decide +kernel
theorem dL_law_707 : decode cL_law 707 = .ok (.iadd, 1) := by decide +kernel
theorem dL_law_708 : decode cL_law 708 = .ok (.iaload, 1) := by decide +kernel
theorem dL_law_709 : decode cL_law 709 = .ok (.aload_n 0, 1) := by decide +kernel
theorem dL_law_710 : decode cL_law 710 = .ok (.iload_n 3, 1) := by decide +kernel
theorem dL_law_711 : decode cL_law 711 = .ok (.iconst 3, 1) := by decide +kernel
theorem dL_law_712 : decode cL_law 712 = .ok (.iadd, 1) := by decide +kernel
theorem dL_law_713 : decode cL_law 713 = .ok (.iaload, 1) := by decide +kernel
theorem dL_law_714 : decode cL_law 714 = .ok (.invokevirtual 94, 3) := by decide +kernel
theorem dL_law_717 : decode cL_law 717 = .ok (.aload_n 2, 1) := by decide +kernel
theorem dL_law_718 : decode cL_law 718 = .ok (.aload_n 0, 1) := by decide +kernel
theorem dL_law_719 : decode cL_law 719 = .ok (.iload_n 3, 1) := by decide +kernel
theorem dL_law_720 : decode cL_law 720 = .ok (.iconst 1, 1) := by decide +kernel
theorem dL_law_721 : decode cL_law 721 = .ok (.iadd, 1) := by decide +kernel
theorem dL_law_722 : decode cL_law 722 = .ok (.iaload, 1) := by decide +kernel
theorem dL_law_723 : decode cL_law 723 = .ok (.aload_n 0, 1) := by decide +kernel
theorem dL_law_724 : decode cL_law 724 = .ok (.iload_n 3, 1) := by decide +kernel
theorem dL_law_725 : decode cL_law 725 = .ok (.iconst 2, 1) := by decide +kernel
theorem dL_law_726 : decode cL_law 726 = .ok (.iadd, 1) := by decide +kernel
theorem dL_law_727 : decode cL_law 727 = .ok (.iaload, 1) := by decide +kernel
theorem dL_law_728 : decode cL_law 728 = .ok (.aload_n 0, 1) := by decide +kernel
theorem dL_law_729 : decode cL_law 729 = .ok (.iload_n 3, 1) := by decide +kernel
theorem dL_law_730 : decode cL_law 730 = .ok (.iconst 3, 1) := by decide +kernel
theorem dL_law_731 : decode cL_law 731 = .ok (.iadd, 1) := by decide +kernel
theorem dL_law_732 : decode cL_law 732 = .ok (.iaload, 1) := by decide +kernel
theorem dL_law_733 : decode cL_law 733 = .ok (.invokevirtual 98, 3) := by decide +kernel
theorem dL_law_736 : decode cL_law 736 = .ok (.lcmp, 1) := by decide +kernel
theorem dL_law_737 : decode cL_law 737 = .ok (.ifCond .eq 289, 3) := by decide +kernel
theorem dL_law_740 : decode cL_law 740 = .ok (.iconst 0, 1) := by decide +kernel
theorem dL_law_741 : decode cL_law 741 = .ok (.ireturn, 1) := by decide +kernel
theorem dL_law_742 : decode cL_law 742 = .ok (.aload_n 1, 1) := by decide +kernel
theorem dL_law_743 : decode cL_law 743 = .ok (.invokevirtual 99, 3) := by decide +kernel
theorem dL_law_746 : decode cL_law 746 = .ok (.aload_n 2, 1) := by decide +kernel
theorem dL_law_747 : decode cL_law 747 = .ok (.invokevirtual 102, 3) := by decide +kernel
theorem dL_law_750 : decode cL_law 750 = .ok (.if_icmp .eq 276, 3) := by decide +kernel
theorem dL_law_753 : decode cL_law 753 = .ok (.iconst 0, 1) := by decide +kernel
theorem dL_law_754 : decode cL_law 754 = .ok (.ireturn, 1) := by decide +kernel
theorem dL_law_755 : decode cL_law 755 = .ok (.aload_n 1, 1) := by decide +kernel
theorem dL_law_756 : decode cL_law 756 = .ok (.invokevirtual 103, 3) := by decide +kernel
theorem dL_law_759 : decode cL_law 759 = .ok (.aload_n 2, 1) := by decide +kernel
theorem dL_law_760 : decode cL_law 760 = .ok (.invokevirtual 106, 3) := by decide +kernel
theorem dL_law_763 : decode cL_law 763 = .ok (.if_icmp .eq 263, 3) := by decide +kernel
theorem dL_law_766 : decode cL_law 766 = .ok (.iconst 0, 1) := by decide +kernel
theorem dL_law_767 : decode cL_law 767 = .ok (.ireturn, 1) := by decide +kernel
theorem dL_law_768 : decode cL_law 768 = .ok (.aload_n 1, 1) := by decide +kernel
theorem dL_law_769 : decode cL_law 769 = .ok (.aload_n 0, 1) := by decide +kernel
theorem dL_law_770 : decode cL_law 770 = .ok (.iload_n 3, 1) := by decide +kernel
theorem dL_law_771 : decode cL_law 771 = .ok (.iconst 1, 1) := by decide +kernel
theorem dL_law_772 : decode cL_law 772 = .ok (.iadd, 1) := by decide +kernel
theorem dL_law_773 : decode cL_law 773 = .ok (.iaload, 1) := by decide +kernel
theorem dL_law_774 : decode cL_law 774 = .ok (.invokevirtual 107, 3) := by decide +kernel
theorem dL_law_777 : decode cL_law 777 = .ok (.aload_n 2, 1) := by decide +kernel
theorem dL_law_778 : decode cL_law 778 = .ok (.aload_n 0, 1) := by decide +kernel
theorem dL_law_779 : decode cL_law 779 = .ok (.iload_n 3, 1) := by decide +kernel
theorem dL_law_780 : decode cL_law 780 = .ok (.iconst 1, 1) := by decide +kernel
theorem dL_law_781 : decode cL_law 781 = .ok (.iadd, 1) := by decide +kernel
theorem dL_law_782 : decode cL_law 782 = .ok (.iaload, 1) := by decide +kernel
theorem dL_law_783 : decode cL_law 783 = .ok (.invokevirtual 110, 3) := by decide +kernel
theorem dL_law_786 : decode cL_law 786 = .ok (.if_icmp .eq 240, 3) := by decide +kernel
theorem dL_law_789 : decode cL_law 789 = .ok (.iconst 0, 1) := by decide +kernel
theorem dL_law_790 : decode cL_law 790 = .ok (.ireturn, 1) := by decide +kernel
theorem dL_law_791 : decode cL_law 791 = .ok (.aload_n 1, 1) := by decide +kernel
theorem dL_law_792 : decode cL_law 792 = .ok (.aload_n 0, 1) := by decide +kernel
theorem dL_law_793 : decode cL_law 793 = .ok (.iload_n 3, 1) := by decide +kernel
theorem dL_law_794 : decode cL_law 794 = .ok (.iconst 1, 1) := by decide +kernel
theorem dL_law_795 : decode cL_law 795 = .ok (.iadd, 1) := by decide +kernel
theorem dL_law_796 : decode cL_law 796 = .ok (.iaload, 1) := by decide +kernel
theorem dL_law_797 : decode cL_law 797 = .ok (.aload_n 0, 1) := by decide +kernel
theorem dL_law_798 : decode cL_law 798 = .ok (.iload_n 3, 1) := by decide +kernel
theorem dL_law_799 : decode cL_law 799 = .ok (.iconst 2, 1) := by decide +kernel
theorem dL_law_800 : decode cL_law 800 = .ok (.iadd, 1) := by decide +kernel
theorem dL_law_801 : decode cL_law 801 = .ok (.iaload, 1) := by decide +kernel
theorem dL_law_802 : decode cL_law 802 = .ok (.aload_n 0, 1) := by decide +kernel
theorem dL_law_803 : decode cL_law 803 = .ok (.iload_n 3, 1) := by decide +kernel
theorem dL_law_804 : decode cL_law 804 = .ok (.iconst 3, 1) := by decide +kernel
theorem dL_law_805 : decode cL_law 805 = .ok (.iadd, 1) := by decide +kernel
theorem dL_law_806 : decode cL_law 806 = .ok (.iaload, 1) := by decide +kernel
theorem dL_law_807 : decode cL_law 807 = .ok (.invokevirtual 111, 3) := by decide +kernel
theorem dL_law_810 : decode cL_law 810 = .ok (.aload_n 2, 1) := by decide +kernel
theorem dL_law_811 : decode cL_law 811 = .ok (.aload_n 0, 1) := by decide +kernel
theorem dL_law_812 : decode cL_law 812 = .ok (.iload_n 3, 1) := by decide +kernel
theorem dL_law_813 : decode cL_law 813 = .ok (.iconst 1, 1) := by decide +kernel
theorem dL_law_814 : decode cL_law 814 = .ok (.iadd, 1) := by decide +kernel
theorem dL_law_815 : decode cL_law 815 = .ok (.iaload, 1) := by decide +kernel
theorem dL_law_816 : decode cL_law 816 = .ok (.aload_n 0, 1) := by decide +kernel
theorem dL_law_817 : decode cL_law 817 = .ok (.iload_n 3, 1) := by decide +kernel
theorem dL_law_818 : decode cL_law 818 = .ok (.iconst 2, 1) := by decide +kernel
theorem dL_law_819 : decode cL_law 819 = .ok (.iadd, 1) := by decide +kernel
theorem dL_law_820 : decode cL_law 820 = .ok (.iaload, 1) := by decide +kernel
theorem dL_law_821 : decode cL_law 821 = .ok (.aload_n 0, 1) := by decide +kernel
theorem dL_law_822 : decode cL_law 822 = .ok (.iload_n 3, 1) := by decide +kernel
theorem dL_law_823 : decode cL_law 823 = .ok (.iconst 3, 1) := by decide +kernel
theorem dL_law_824 : decode cL_law 824 = .ok (.iadd, 1) := by decide +kernel
theorem dL_law_825 : decode cL_law 825 = .ok (.iaload, 1) := by decide +kernel
theorem dL_law_826 : decode cL_law 826 = .ok (.invokevirtual 114, 3) := by decide +kernel
theorem dL_law_829 : decode cL_law 829 = .ok (.if_icmp .eq 197, 3) := by decide +kernel
theorem dL_law_832 : decode cL_law 832 = .ok (.iconst 0, 1) := by decide +kernel
theorem dL_law_833 : decode cL_law 833 = .ok (.ireturn, 1) := by decide +kernel
theorem dL_law_834 : decode cL_law 834 = .ok (.aload_n 1, 1) := by decide +kernel
theorem dL_law_835 : decode cL_law 835 = .ok (.aload_n 0, 1) := by decide +kernel
theorem dL_law_836 : decode cL_law 836 = .ok (.iload_n 3, 1) := by decide +kernel
theorem dL_law_837 : decode cL_law 837 = .ok (.iconst 1, 1) := by decide +kernel
theorem dL_law_838 : decode cL_law 838 = .ok (.iadd, 1) := by decide +kernel
theorem dL_law_839 : decode cL_law 839 = .ok (.iaload, 1) := by decide +kernel
theorem dL_law_840 : decode cL_law 840 = .ok (.aload_n 0, 1) := by decide +kernel
theorem dL_law_841 : decode cL_law 841 = .ok (.iload_n 3, 1) := by decide +kernel
theorem dL_law_842 : decode cL_law 842 = .ok (.iconst 2, 1) := by decide +kernel
theorem dL_law_843 : decode cL_law 843 = .ok (.iadd, 1) := by decide +kernel
theorem dL_law_844 : decode cL_law 844 = .ok (.iaload, 1) := by decide +kernel
theorem dL_law_845 : decode cL_law 845 = .ok (.aload_n 0, 1) := by decide +kernel
theorem dL_law_846 : decode cL_law 846 = .ok (.iload_n 3, 1) := by decide +kernel
theorem dL_law_847 : decode cL_law 847 = .ok (.iconst 3, 1) := by decide +kernel
theorem dL_law_848 : decode cL_law 848 = .ok (.iadd, 1) := by decide +kernel
theorem dL_law_849 : decode cL_law 849 = .ok (.iaload, 1) := by decide +kernel
theorem dL_law_850 : decode cL_law 850 = .ok (.invokevirtual 115, 3) := by decide +kernel
theorem dL_law_853 : decode cL_law 853 = .ok (.aload_n 2, 1) := by decide +kernel
theorem dL_law_854 : decode cL_law 854 = .ok (.aload_n 0, 1) := by decide +kernel
theorem dL_law_855 : decode cL_law 855 = .ok (.iload_n 3, 1) := by decide +kernel
theorem dL_law_856 : decode cL_law 856 = .ok (.iconst 1, 1) := by decide +kernel
theorem dL_law_857 : decode cL_law 857 = .ok (.iadd, 1) := by decide +kernel
theorem dL_law_858 : decode cL_law 858 = .ok (.iaload, 1) := by decide +kernel
theorem dL_law_859 : decode cL_law 859 = .ok (.aload_n 0, 1) := by decide +kernel
theorem dL_law_860 : decode cL_law 860 = .ok (.iload_n 3, 1) := by decide +kernel
theorem dL_law_861 : decode cL_law 861 = .ok (.iconst 2, 1) := by decide +kernel
theorem dL_law_862 : decode cL_law 862 = .ok (.iadd, 1) := by decide +kernel
theorem dL_law_863 : decode cL_law 863 = .ok (.iaload, 1) := by decide +kernel
theorem dL_law_864 : decode cL_law 864 = .ok (.aload_n 0, 1) := by decide +kernel
theorem dL_law_865 : decode cL_law 865 = .ok (.iload_n 3, 1) := by decide +kernel
theorem dL_law_866 : decode cL_law 866 = .ok (.iconst 3, 1) := by decide +kernel
theorem dL_law_867 : decode cL_law 867 = .ok (.iadd, 1) := by decide +kernel
theorem dL_law_868 : decode cL_law 868 = .ok (.iaload, 1) := by decide +kernel
theorem dL_law_869 : decode cL_law 869 = .ok (.invokevirtual 118, 3) := by decide +kernel
theorem dL_law_872 : decode cL_law 872 = .ok (.if_icmp .eq 154, 3) := by decide +kernel
theorem dL_law_875 : decode cL_law 875 = .ok (.iconst 0, 1) := by decide +kernel
theorem dL_law_876 : decode cL_law 876 = .ok (.ireturn, 1) := by decide +kernel
theorem dL_law_877 : decode cL_law 877 = .ok (.aload_n 1, 1) := by decide +kernel
theorem dL_law_878 : decode cL_law 878 = .ok (.aload_n 0, 1) := by decide +kernel
theorem dL_law_879 : decode cL_law 879 = .ok (.iload_n 3, 1) := by decide +kernel
theorem dL_law_880 : decode cL_law 880 = .ok (.iconst 1, 1) := by decide +kernel
theorem dL_law_881 : decode cL_law 881 = .ok (.iadd, 1) := by decide +kernel
theorem dL_law_882 : decode cL_law 882 = .ok (.iaload, 1) := by decide +kernel
theorem dL_law_883 : decode cL_law 883 = .ok (.aload_n 0, 1) := by decide +kernel
theorem dL_law_884 : decode cL_law 884 = .ok (.iload_n 3, 1) := by decide +kernel
theorem dL_law_885 : decode cL_law 885 = .ok (.iconst 2, 1) := by decide +kernel
theorem dL_law_886 : decode cL_law 886 = .ok (.iadd, 1) := by decide +kernel
theorem dL_law_887 : decode cL_law 887 = .ok (.iaload, 1) := by decide +kernel
theorem dL_law_888 : decode cL_law 888 = .ok (.aload_n 0, 1) := by decide +kernel
theorem dL_law_889 : decode cL_law 889 = .ok (.iload_n 3, 1) := by decide +kernel
theorem dL_law_890 : decode cL_law 890 = .ok (.iconst 3, 1) := by decide +kernel
theorem dL_law_891 : decode cL_law 891 = .ok (.iadd, 1) := by decide +kernel
theorem dL_law_892 : decode cL_law 892 = .ok (.iaload, 1) := by decide +kernel
theorem dL_law_893 : decode cL_law 893 = .ok (.aload_n 0, 1) := by decide +kernel
theorem dL_law_894 : decode cL_law 894 = .ok (.iload_n 3, 1) := by decide +kernel
theorem dL_law_895 : decode cL_law 895 = .ok (.iconst 4, 1) := by decide +kernel
theorem dL_law_896 : decode cL_law 896 = .ok (.iadd, 1) := by decide +kernel
theorem dL_law_897 : decode cL_law 897 = .ok (.iaload, 1) := by decide +kernel
theorem dL_law_898 : decode cL_law 898 = .ok (.aload_n 0, 1) := by decide +kernel
theorem dL_law_899 : decode cL_law 899 = .ok (.iload_n 3, 1) := by decide +kernel
theorem dL_law_900 : decode cL_law 900 = .ok (.iconst 5, 1) := by decide +kernel
theorem dL_law_901 : decode cL_law 901 = .ok (.iadd, 1) := by decide +kernel
theorem dL_law_902 : decode cL_law 902 = .ok (.iaload, 1) := by decide +kernel
theorem dL_law_903 : decode cL_law 903 = .ok (.invokevirtual 119, 3) := by decide +kernel
theorem dL_law_906 : decode cL_law 906 = .ok (.aload_n 2, 1) := by decide +kernel
theorem dL_law_907 : decode cL_law 907 = .ok (.aload_n 0, 1) := by decide +kernel
theorem dL_law_908 : decode cL_law 908 = .ok (.iload_n 3, 1) := by decide +kernel
theorem dL_law_909 : decode cL_law 909 = .ok (.iconst 1, 1) := by decide +kernel
theorem dL_law_910 : decode cL_law 910 = .ok (.iadd, 1) := by decide +kernel
theorem dL_law_911 : decode cL_law 911 = .ok (.iaload, 1) := by decide +kernel
theorem dL_law_912 : decode cL_law 912 = .ok (.aload_n 0, 1) := by decide +kernel
theorem dL_law_913 : decode cL_law 913 = .ok (.iload_n 3, 1) := by decide +kernel
theorem dL_law_914 : decode cL_law 914 = .ok (.iconst 2, 1) := by decide +kernel
theorem dL_law_915 : decode cL_law 915 = .ok (.iadd, 1) := by decide +kernel
theorem dL_law_916 : decode cL_law 916 = .ok (.iaload, 1) := by decide +kernel
theorem dL_law_917 : decode cL_law 917 = .ok (.aload_n 0, 1) := by decide +kernel
theorem dL_law_918 : decode cL_law 918 = .ok (.iload_n 3, 1) := by decide +kernel
theorem dL_law_919 : decode cL_law 919 = .ok (.iconst 3, 1) := by decide +kernel
theorem dL_law_920 : decode cL_law 920 = .ok (.iadd, 1) := by decide +kernel
theorem dL_law_921 : decode cL_law 921 = .ok (.iaload, 1) := by decide +kernel
theorem dL_law_922 : decode cL_law 922 = .ok (.aload_n 0, 1) := by decide +kernel
theorem dL_law_923 : decode cL_law 923 = .ok (.iload_n 3, 1) := by decide +kernel
theorem dL_law_924 : decode cL_law 924 = .ok (.iconst 4, 1) := by decide +kernel
theorem dL_law_925 : decode cL_law 925 = .ok (.iadd, 1) := by decide +kernel
theorem dL_law_926 : decode cL_law 926 = .ok (.iaload, 1) := by decide +kernel
theorem dL_law_927 : decode cL_law 927 = .ok (.aload_n 0, 1) := by decide +kernel
theorem dL_law_928 : decode cL_law 928 = .ok (.iload_n 3, 1) := by decide +kernel
theorem dL_law_929 : decode cL_law 929 = .ok (.iconst 5, 1) := by decide +kernel
theorem dL_law_930 : decode cL_law 930 = .ok (.iadd, 1) := by decide +kernel
theorem dL_law_931 : decode cL_law 931 = .ok (.iaload, 1) := by decide +kernel
theorem dL_law_932 : decode cL_law 932 = .ok (.invokevirtual 123, 3) := by decide +kernel
theorem dL_law_935 : decode cL_law 935 = .ok (.if_icmp .eq 91, 3) := by decide +kernel
theorem dL_law_938 : decode cL_law 938 = .ok (.iconst 0, 1) := by decide +kernel
theorem dL_law_939 : decode cL_law 939 = .ok (.ireturn, 1) := by decide +kernel
theorem dL_law_940 : decode cL_law 940 = .ok (.aload_n 1, 1) := by decide +kernel
theorem dL_law_941 : decode cL_law 941 = .ok (.aload_n 0, 1) := by decide +kernel
theorem dL_law_942 : decode cL_law 942 = .ok (.iload_n 3, 1) := by decide +kernel
theorem dL_law_943 : decode cL_law 943 = .ok (.iconst 1, 1) := by decide +kernel
theorem dL_law_944 : decode cL_law 944 = .ok (.iadd, 1) := by decide +kernel
theorem dL_law_945 : decode cL_law 945 = .ok (.iaload, 1) := by decide +kernel
theorem dL_law_946 : decode cL_law 946 = .ok (.aload_n 0, 1) := by decide +kernel
theorem dL_law_947 : decode cL_law 947 = .ok (.iload_n 3, 1) := by decide +kernel
theorem dL_law_948 : decode cL_law 948 = .ok (.iconst 2, 1) := by decide +kernel
theorem dL_law_949 : decode cL_law 949 = .ok (.iadd, 1) := by decide +kernel
theorem dL_law_950 : decode cL_law 950 = .ok (.iaload, 1) := by decide +kernel
theorem dL_law_951 : decode cL_law 951 = .ok (.aload_n 0, 1) := by decide +kernel
theorem dL_law_952 : decode cL_law 952 = .ok (.iload_n 3, 1) := by decide +kernel
theorem dL_law_953 : decode cL_law 953 = .ok (.iconst 3, 1) := by decide +kernel
theorem dL_law_954 : decode cL_law 954 = .ok (.iadd, 1) := by decide +kernel
theorem dL_law_955 : decode cL_law 955 = .ok (.iaload, 1) := by decide +kernel
theorem dL_law_956 : decode cL_law 956 = .ok (.aload_n 0, 1) := by decide +kernel
theorem dL_law_957 : decode cL_law 957 = .ok (.iload_n 3, 1) := by decide +kernel
theorem dL_law_958 : decode cL_law 958 = .ok (.iconst 4, 1) := by decide +kernel
theorem dL_law_959 : decode cL_law 959 = .ok (.iadd, 1) := by decide +kernel
theorem dL_law_960 : decode cL_law 960 = .ok (.iaload, 1) := by decide +kernel
theorem dL_law_961 : decode cL_law 961 = .ok (.invokevirtual 124, 3) := by decide +kernel
theorem dL_law_964 : decode cL_law 964 = .ok (.aload_n 2, 1) := by decide +kernel
theorem dL_law_965 : decode cL_law 965 = .ok (.aload_n 0, 1) := by decide +kernel
theorem dL_law_966 : decode cL_law 966 = .ok (.iload_n 3, 1) := by decide +kernel
theorem dL_law_967 : decode cL_law 967 = .ok (.iconst 1, 1) := by decide +kernel
theorem dL_law_968 : decode cL_law 968 = .ok (.iadd, 1) := by decide +kernel
theorem dL_law_969 : decode cL_law 969 = .ok (.iaload, 1) := by decide +kernel
theorem dL_law_970 : decode cL_law 970 = .ok (.aload_n 0, 1) := by decide +kernel
theorem dL_law_971 : decode cL_law 971 = .ok (.iload_n 3, 1) := by decide +kernel
theorem dL_law_972 : decode cL_law 972 = .ok (.iconst 2, 1) := by decide +kernel
theorem dL_law_973 : decode cL_law 973 = .ok (.iadd, 1) := by decide +kernel
theorem dL_law_974 : decode cL_law 974 = .ok (.iaload, 1) := by decide +kernel
theorem dL_law_975 : decode cL_law 975 = .ok (.aload_n 0, 1) := by decide +kernel
theorem dL_law_976 : decode cL_law 976 = .ok (.iload_n 3, 1) := by decide +kernel
theorem dL_law_977 : decode cL_law 977 = .ok (.iconst 3, 1) := by decide +kernel
theorem dL_law_978 : decode cL_law 978 = .ok (.iadd, 1) := by decide +kernel
theorem dL_law_979 : decode cL_law 979 = .ok (.iaload, 1) := by decide +kernel
theorem dL_law_980 : decode cL_law 980 = .ok (.aload_n 0, 1) := by decide +kernel
theorem dL_law_981 : decode cL_law 981 = .ok (.iload_n 3, 1) := by decide +kernel
theorem dL_law_982 : decode cL_law 982 = .ok (.iconst 4, 1) := by decide +kernel
theorem dL_law_983 : decode cL_law 983 = .ok (.iadd, 1) := by decide +kernel
theorem dL_law_984 : decode cL_law 984 = .ok (.iaload, 1) := by decide +kernel
theorem dL_law_985 : decode cL_law 985 = .ok (.invokevirtual 128, 3) := by decide +kernel
theorem dL_law_988 : decode cL_law 988 = .ok (.if_icmp .eq 38, 3) := by decide +kernel
theorem dL_law_991 : decode cL_law 991 = .ok (.iconst 0, 1) := by decide +kernel
theorem dL_law_992 : decode cL_law 992 = .ok (.ireturn, 1) := by decide +kernel
theorem dL_law_993 : decode cL_law 993 = .ok (.aload_n 1, 1) := by decide +kernel
theorem dL_law_994 : decode cL_law 994 = .ok (.aload_n 0, 1) := by decide +kernel
theorem dL_law_995 : decode cL_law 995 = .ok (.iload_n 3, 1) := by decide +kernel
theorem dL_law_996 : decode cL_law 996 = .ok (.iconst 1, 1) := by decide +kernel
theorem dL_law_997 : decode cL_law 997 = .ok (.iadd, 1) := by decide +kernel
theorem dL_law_998 : decode cL_law 998 = .ok (.iaload, 1) := by decide +kernel
theorem dL_law_999 : decode cL_law 999 = .ok (.aload_n 0, 1) := by decide +kernel
theorem dL_law_1000 : decode cL_law 1000 = .ok (.iload_n 3, 1) := by decide +kernel
theorem dL_law_1001 : decode cL_law 1001 = .ok (.iconst 2, 1) := by decide +kernel
theorem dL_law_1002 : decode cL_law 1002 = .ok (.iadd, 1) := by decide +kernel
theorem dL_law_1003 : decode cL_law 1003 = .ok (.iaload, 1) := by decide +kernel
theorem dL_law_1004 : decode cL_law 1004 = .ok (.invokevirtual 129, 3) := by decide +kernel
theorem dL_law_1007 : decode cL_law 1007 = .ok (.aload_n 2, 1) := by decide +kernel
theorem dL_law_1008 : decode cL_law 1008 = .ok (.aload_n 0, 1) := by decide +kernel
theorem dL_law_1009 : decode cL_law 1009 = .ok (.iload_n 3, 1) := by decide +kernel
theorem dL_law_1010 : decode cL_law 1010 = .ok (.iconst 1, 1) := by decide +kernel
theorem dL_law_1011 : decode cL_law 1011 = .ok (.iadd, 1) := by decide +kernel
theorem dL_law_1012 : decode cL_law 1012 = .ok (.iaload, 1) := by decide +kernel
theorem dL_law_1013 : decode cL_law 1013 = .ok (.aload_n 0, 1) := by decide +kernel
theorem dL_law_1014 : decode cL_law 1014 = .ok (.iload_n 3, 1) := by decide +kernel
theorem dL_law_1015 : decode cL_law 1015 = .ok (.iconst 2, 1) := by decide +kernel
theorem dL_law_1016 : decode cL_law 1016 = .ok (.iadd, 1) := by decide +kernel
theorem dL_law_1017 : decode cL_law 1017 = .ok (.iaload, 1) := by decide +kernel
theorem dL_law_1018 : decode cL_law 1018 = .ok (.invokevirtual 132, 3) := by decide +kernel
theorem dL_law_1021 : decode cL_law 1021 = .ok (.if_icmp .eq 5, 3) := by decide +kernel
theorem dL_law_1024 : decode cL_law 1024 = .ok (.iconst 0, 1) := by decide +kernel
theorem dL_law_1025 : decode cL_law 1025 = .ok (.ireturn, 1) := by decide +kernel
theorem dL_law_1026 : decode cL_law 1026 = .ok (.iinc 3 6, 3) := by decide +kernel
theorem dL_law_1029 : decode cL_law 1029 = .ok (.goto (-1011), 3) := by decide +kernel
theorem dL_law_1032 : decode cL_law 1032 = .ok (.iconst 1, 1) := by decide +kernel
theorem dL_law_1033 : decode cL_law 1033 = .ok (.ireturn, 1) := by decide +kernel
theorem dX0_allCanStand_0 : decode cX0_allCanStand 0 = .ok (.iconst 0, 1) := by decide +kernel
theorem dX0_allCanStand_1 : decode cX0_allCanStand 1 = .ok (.istore_n 1, 1) := by decide +kernel
theorem dX0_allCanStand_2 : decode cX0_allCanStand 2 = .ok (.iload_n 1, 1) := by decide +kernel
theorem dX0_allCanStand_3 : decode cX0_allCanStand 3 = .ok (.aload_n 0, 1) := by decide +kernel
theorem dX0_allCanStand_4 : decode cX0_allCanStand 4 = .ok (.getfield 47, 3) := by decide +kernel
theorem dX0_allCanStand_7 : decode cX0_allCanStand 7 = .ok (.if_icmp .ge 20, 3) := by decide +kernel
theorem dX0_allCanStand_10 : decode cX0_allCanStand 10 = .ok (.aload_n 0, 1) := by decide +kernel
theorem dX0_allCanStand_11 : decode cX0_allCanStand 11 = .ok (.iload_n 1, 1) := by decide +kernel
theorem dX0_allCanStand_12 : decode cX0_allCanStand 12 = .ok (.iload_n 1, 1) := by decide +kernel
theorem dX0_allCanStand_13 : decode cX0_allCanStand 13 = .ok (.invokevirtual 53, 3) := by decide +kernel
theorem dX0_allCanStand_16 : decode cX0_allCanStand 16 = .ok (.ifCond .ne 5, 3) := by decide +kernel
theorem dX0_allCanStand_19 : decode cX0_allCanStand 19 = .ok (.iconst 0, 1) := by decide +kernel
theorem dX0_allCanStand_20 : decode cX0_allCanStand 20 = .ok (.ireturn, 1) := by decide +kernel
theorem dX0_allCanStand_21 : decode cX0_allCanStand 21 = .ok (.iinc 1 1, 3) := by decide +kernel
theorem dX0_allCanStand_24 : decode cX0_allCanStand 24 = .ok (.goto (-22), 3) := by decide +kernel
theorem dX0_allCanStand_27 : decode cX0_allCanStand 27 = .ok (.iconst 1, 1) := by decide +kernel
theorem dX0_allCanStand_28 : decode cX0_allCanStand 28 = .ok (.ireturn, 1) := by decide +kernel
theorem dX0_become_0 : decode cX0_become 0 = .ok (.iconst 0, 1) := by decide +kernel
theorem dX0_become_1 : decode cX0_become 1 = .ok (.istore_n 2, 1) := by decide +kernel
theorem dX0_become_2 : decode cX0_become 2 = .ok (.iload_n 2, 1) := by decide +kernel
theorem dX0_become_3 : decode cX0_become 3 = .ok (.bipush 6, 2) := by decide +kernel
theorem dX0_become_5 : decode cX0_become 5 = .ok (.if_icmp .gt 25, 3) := by decide +kernel
theorem dX0_become_8 : decode cX0_become 8 = .ok (.aload_n 1, 1) := by decide +kernel
theorem dX0_become_9 : decode cX0_become 9 = .ok (.iload_n 2, 1) := by decide +kernel
theorem dX0_become_10 : decode cX0_become 10 = .ok (.invokevirtual 37, 3) := by decide +kernel
theorem dX0_become_13 : decode cX0_become 13 = .ok (.iconst 0, 1) := by decide +kernel
theorem dX0_become_14 : decode cX0_become 14 = .ok (.aload_n 0, 1) := by decide +kernel
theorem dX0_become_15 : decode cX0_become 15 = .ok (.iload_n 2, 1) := by decide +kernel
theorem dX0_become_16 : decode cX0_become 16 = .ok (.invokevirtual 37, 3) := by decide +kernel
theorem dX0_become_19 : decode cX0_become 19 = .ok (.iconst 0, 1) := by decide +kernel
theorem dX0_become_20 : decode cX0_become 20 = .ok (.iconst 5, 1) := by decide +kernel
theorem dX0_become_21 : decode cX0_become 21 = .ok (.invokestatic 41, 3) := by decide +kernel
theorem dX0_become_24 : decode cX0_become 24 = .ok (.iinc 2 1, 3) := by decide +kernel
theorem dX0_become_27 : decode cX0_become 27 = .ok (.goto (-25), 3) := by decide +kernel
theorem dX0_become_30 : decode cX0_become 30 = .ok (.aload_n 0, 1) := by decide +kernel
theorem dX0_become_31 : decode cX0_become 31 = .ok (.aload_n 1, 1) := by decide +kernel
theorem dX0_become_32 : decode cX0_become 32 = .ok (.getfield 47, 3) := by decide +kernel
theorem dX0_become_35 : decode cX0_become 35 = .ok (.putfield 47, 3) := by decide +kernel
theorem dX0_become_38 : decode cX0_become 38 = .ok (.aload_n 0, 1) := by decide +kernel
theorem dX0_become_39 : decode cX0_become 39 = .ok (.aload_n 1, 1) := by decide +kernel
theorem dX0_become_40 : decode cX0_become 40 = .ok (.getfield 33, 3) := by decide +kernel
theorem dX0_become_43 : decode cX0_become 43 = .ok (.putfield 33, 3) := by decide +kernel
theorem dX0_become_46 : decode cX0_become 46 = .ok (.aload_n 0, 1) := by decide +kernel
theorem dX0_become_47 : decode cX0_become 47 = .ok (.aload_n 1, 1) := by decide +kernel
theorem dX0_become_48 : decode cX0_become 48 = .ok (.getfield 50, 3) := by decide +kernel
theorem dX0_become_51 : decode cX0_become 51 = .ok (.putfield 50, 3) := by decide +kernel
theorem dX0_become_54 : decode cX0_become 54 = .ok (.return_, 1) := by decide +kernel
theorem dX0_canStand_0 : decode cX0_canStand 0 = .ok (.iconst 0, 1) := by decide +kernel
theorem dX0_canStand_1 : decode cX0_canStand 1 = .ok (.istore_n 3, 1) := by decide +kernel
theorem dX0_canStand_2 : decode cX0_canStand 2 = .ok (.iload_n 3, 1) := by decide +kernel
theorem dX0_canStand_3 : decode cX0_canStand 3 = .ok (.iload_n 2, 1) := by decide +kernel
theorem dX0_canStand_4 : decode cX0_canStand 4 = .ok (.if_icmp .ge 66, 3) := by decide +kernel
theorem dX0_canStand_7 : decode cX0_canStand 7 = .ok (.iload_n 3, 1) := by decide +kernel
theorem dX0_canStand_8 : decode cX0_canStand 8 = .ok (.iconst 5, 1) := by decide +kernel
theorem dX0_canStand_9 : decode cX0_canStand 9 = .ok (.if_icmp .ge 61, 3) := by decide +kernel
theorem dX0_canStand_12 : decode cX0_canStand 12 = .ok (.iload_n 3, 1) := by decide +kernel
theorem dX0_canStand_13 : decode cX0_canStand 13 = .ok (.iload_n 1, 1) := by decide +kernel
theorem dX0_canStand_14 : decode cX0_canStand 14 = .ok (.if_icmp .eq 50, 3) := by decide +kernel
theorem dX0_canStand_17 : decode cX0_canStand 17 = .ok (.aload_n 0, 1) := by decide +kernel
theorem dX0_canStand_18 : decode cX0_canStand 18 = .ok (.getfield 27, 3) := by decide +kernel
theorem dX0_canStand_21 : decode cX0_canStand 21 = .ok (.iload_n 3, 1) := by decide +kernel
theorem dX0_canStand_22 : decode cX0_canStand 22 = .ok (.iaload, 1) := by decide +kernel
theorem dX0_canStand_23 : decode cX0_canStand 23 = .ok (.aload_n 0, 1) := by decide +kernel
theorem dX0_canStand_24 : decode cX0_canStand 24 = .ok (.getfield 27, 3) := by decide +kernel
theorem dX0_canStand_27 : decode cX0_canStand 27 = .ok (.iload_n 1, 1) := by decide +kernel
theorem dX0_canStand_28 : decode cX0_canStand 28 = .ok (.iaload, 1) := by decide +kernel
theorem dX0_canStand_29 : decode cX0_canStand 29 = .ok (.if_icmp .ne 35, 3) := by decide +kernel
theorem dX0_canStand_32 : decode cX0_canStand 32 = .ok (.aload_n 0, 1) := by decide +kernel
theorem dX0_canStand_33 : decode cX0_canStand 33 = .ok (.getfield 21, 3) := by decide +kernel
theorem dX0_canStand_36 : decode cX0_canStand 36 = .ok (.iload_n 3, 1) := by decide +kernel
theorem dX0_canStand_37 : decode cX0_canStand 37 = .ok (.iaload, 1) := by decide +kernel
theorem dX0_canStand_38 : decode cX0_canStand 38 = .ok (.aload_n 0, 1) := by decide +kernel
theorem dX0_canStand_39 : decode cX0_canStand 39 = .ok (.getfield 24, 3) := by decide +kernel
theorem dX0_canStand_42 : decode cX0_canStand 42 = .ok (.iload_n 1, 1) := by decide +kernel
theorem dX0_canStand_43 : decode cX0_canStand 43 = .ok (.iaload, 1) := by decide +kernel
theorem dX0_canStand_44 : decode cX0_canStand 44 = .ok (.if_icmp .ge 20, 3) := by decide +kernel
theorem dX0_canStand_47 : decode cX0_canStand 47 = .ok (.aload_n 0, 1) := by decide +kernel
theorem dX0_canStand_48 : decode cX0_canStand 48 = .ok (.getfield 21, 3) := by decide +kernel
theorem dX0_canStand_51 : decode cX0_canStand 51 = .ok (.iload_n 1, 1) := by decide +kernel
theorem dX0_canStand_52 : decode cX0_canStand 52 = .ok (.iaload, 1) := by decide +kernel
theorem dX0_canStand_53 : decode cX0_canStand 53 = .ok (.aload_n 0, 1) := by decide +kernel
theorem dX0_canStand_54 : decode cX0_canStand 54 = .ok (.getfield 24, 3) := by decide +kernel
theorem dX0_canStand_57 : decode cX0_canStand 57 = .ok (.iload_n 3, 1) := by decide +kernel
theorem dX0_canStand_58 : decode cX0_canStand 58 = .ok (.iaload, 1) := by decide +kernel
theorem dX0_canStand_59 : decode cX0_canStand 59 = .ok (.if_icmp .ge 5, 3) := by decide +kernel
theorem dX0_canStand_62 : decode cX0_canStand 62 = .ok (.iconst 0, 1) := by decide +kernel
theorem dX0_canStand_63 : decode cX0_canStand 63 = .ok (.ireturn, 1) := by decide +kernel
theorem dX0_canStand_64 : decode cX0_canStand 64 = .ok (.iinc 3 1, 3) := by decide +kernel
theorem dX0_canStand_67 : decode cX0_canStand 67 = .ok (.goto (-65), 3) := by decide +kernel
theorem dX0_canStand_70 : decode cX0_canStand 70 = .ok (.iconst 1, 1) := by decide +kernel
theorem dX0_canStand_71 : decode cX0_canStand 71 = .ok (.ireturn, 1) := by decide +kernel
theorem dX0_costToStepOut_0 : decode cX0_costToStepOut 0 = .ok (.aload_n 0, 1) := by decide +kernel
theorem dX0_costToStepOut_1 : decode cX0_costToStepOut 1 = .ok (.getfield 9, 3) := by decide +kernel
theorem dX0_costToStepOut_4 : decode cX0_costToStepOut 4 = .ok (.iload_n 1, 1) := by decide +kernel
theorem dX0_costToStepOut_5 : decode cX0_costToStepOut 5 = .ok (.iaload, 1) := by decide +kernel
theorem dX0_costToStepOut_6 : decode cX0_costToStepOut 6 = .ok (.tableswitch 57 2 5 #[30, 34, 42, 53], 30) := by decide +kernel
theorem dX0_costToStepOut_36 : decode cX0_costToStepOut 36 = .ok (.iconst 2, 1) := by decide +kernel
theorem dX0_costToStepOut_37 : decode cX0_costToStepOut 37 = .ok (.iload_n 2, 1) := by decide +kernel
theorem dX0_costToStepOut_38 : decode cX0_costToStepOut 38 = .ok (.imul, 1) := by decide +kernel
theorem dX0_costToStepOut_39 : decode cX0_costToStepOut 39 = .ok (.ireturn, 1) := by decide +kernel
theorem dX0_costToStepOut_40 : decode cX0_costToStepOut 40 = .ok (.iconst 0, 1) := by decide +kernel
theorem dX0_costToStepOut_41 : decode cX0_costToStepOut 41 = .ok (.iload_n 2, 1) := by decide +kernel
theorem dX0_costToStepOut_42 : decode cX0_costToStepOut 42 = .ok (.iconst 1, 1) := by decide +kernel
theorem dX0_costToStepOut_43 : decode cX0_costToStepOut 43 = .ok (.isub, 1) := by decide +kernel
theorem dX0_costToStepOut_44 : decode cX0_costToStepOut 44 = .ok (.invokestatic 57, 3) := by decide +kernel
theorem dX0_costToStepOut_47 : decode cX0_costToStepOut 47 = .ok (.ireturn, 1) := by decide +kernel
theorem dX0_costToStepOut_48 : decode cX0_costToStepOut 48 = .ok (.iconst 2, 1) := by decide +kernel
theorem dX0_costToStepOut_49 : decode cX0_costToStepOut 49 = .ok (.iload_n 2, 1) := by decide +kernel
theorem dX0_costToStepOut_50 : decode cX0_costToStepOut 50 = .ok (.imul, 1) := by decide +kernel
theorem dX0_costToStepOut_51 : decode cX0_costToStepOut 51 = .ok (.aload_n 0, 1) := by decide +kernel
theorem dX0_costToStepOut_52 : decode cX0_costToStepOut 52 = .ok (.getfield 18, 3) := by decide +kernel
theorem dX0_costToStepOut_55 : decode cX0_costToStepOut 55 = .ok (.iload_n 1, 1) := by decide +kernel
theorem dX0_costToStepOut_56 : decode cX0_costToStepOut 56 = .ok (.iaload, 1) := by decide +kernel
theorem dX0_costToStepOut_57 : decode cX0_costToStepOut 57 = .ok (.iadd, 1) := by decide +kernel
theorem dX0_costToStepOut_58 : decode cX0_costToStepOut 58 = .ok (.ireturn, 1) := by decide +kernel
theorem dX0_costToStepOut_59 : decode cX0_costToStepOut 59 = .ok (.iload_n 2, 1) := by decide +kernel
theorem dX0_costToStepOut_60 : decode cX0_costToStepOut 60 = .ok (.iconst 2, 1) := by decide +kernel
theorem dX0_costToStepOut_61 : decode cX0_costToStepOut 61 = .ok (.idiv, 1) := by decide +kernel
theorem dX0_costToStepOut_62 : decode cX0_costToStepOut 62 = .ok (.ireturn, 1) := by decide +kernel
theorem dX0_costToStepOut_63 : decode cX0_costToStepOut 63 = .ok (.iload_n 2, 1) := by decide +kernel
theorem dX0_costToStepOut_64 : decode cX0_costToStepOut 64 = .ok (.ireturn, 1) := by decide +kernel
theorem dX0_has_0 : decode cX0_has 0 = .ok (.iload_n 1, 1) := by decide +kernel
theorem dX0_has_1 : decode cX0_has 1 = .ok (.ifCond .lt 20, 3) := by decide +kernel
theorem dX0_has_4 : decode cX0_has 4 = .ok (.iload_n 1, 1) := by decide +kernel
theorem dX0_has_5 : decode cX0_has 5 = .ok (.aload_n 0, 1) := by decide +kernel
theorem dX0_has_6 : decode cX0_has 6 = .ok (.getfield 47, 3) := by decide +kernel
theorem dX0_has_9 : decode cX0_has 9 = .ok (.if_icmp .ge 12, 3) := by decide +kernel
theorem dX0_has_12 : decode cX0_has 12 = .ok (.iload_n 1, 1) := by decide +kernel
theorem dX0_has_13 : decode cX0_has 13 = .ok (.iconst 5, 1) := by decide +kernel
theorem dX0_has_14 : decode cX0_has 14 = .ok (.if_icmp .ge 7, 3) := by decide +kernel
theorem dX0_has_17 : decode cX0_has 17 = .ok (.iconst 1, 1) := by decide +kernel
theorem dX0_has_18 : decode cX0_has 18 = .ok (.goto 4, 3) := by decide +kernel
theorem dX0_has_21 : decode cX0_has 21 = .ok (.iconst 0, 1) := by decide +kernel
theorem dX0_has_22 : decode cX0_has 22 = .ok (.ireturn, 1) := by decide +kernel
theorem dX0_init_0 : decode cX0_init 0 = .ok (.aload_n 0, 1) := by decide +kernel
theorem dX0_init_1 : decode cX0_init 1 = .ok (.invokespecial 3, 3) := by decide +kernel
theorem dX0_init_4 : decode cX0_init 4 = .ok (.aload_n 0, 1) := by decide +kernel
theorem dX0_init_5 : decode cX0_init 5 = .ok (.iconst 5, 1) := by decide +kernel
theorem dX0_init_6 : decode cX0_init 6 = .ok (.newarray .int, 2) := by decide +kernel
theorem dX0_init_8 : decode cX0_init 8 = .ok (.putfield 9, 3) := by decide +kernel
theorem dX0_init_11 : decode cX0_init 11 = .ok (.aload_n 0, 1) := by decide +kernel
theorem dX0_init_12 : decode cX0_init 12 = .ok (.iconst 5, 1) := by decide +kernel
theorem dX0_init_13 : decode cX0_init 13 = .ok (.newarray .int, 2) := by decide +kernel
theorem dX0_init_15 : decode cX0_init 15 = .ok (.putfield 15, 3) := by decide +kernel
theorem dX0_init_18 : decode cX0_init 18 = .ok (.aload_n 0, 1) := by decide +kernel
theorem dX0_init_19 : decode cX0_init 19 = .ok (.iconst 5, 1) := by decide +kernel
theorem dX0_init_20 : decode cX0_init 20 = .ok (.newarray .int, 2) := by decide +kernel
theorem dX0_init_22 : decode cX0_init 22 = .ok (.putfield 18, 3) := by decide +kernel
theorem dX0_init_25 : decode cX0_init 25 = .ok (.aload_n 0, 1) := by decide +kernel
theorem dX0_init_26 : decode cX0_init 26 = .ok (.iconst 5, 1) := by decide +kernel
theorem dX0_init_27 : decode cX0_init 27 = .ok (.newarray .int, 2) := by decide +kernel
theorem dX0_init_29 : decode cX0_init 29 = .ok (.putfield 21, 3) := by decide +kernel
theorem dX0_init_32 : decode cX0_init 32 = .ok (.aload_n 0, 1) := by decide +kernel
theorem dX0_init_33 : decode cX0_init 33 = .ok (.iconst 5, 1) := by decide +kernel
theorem dX0_init_34 : decode cX0_init 34 = .ok (.newarray .int, 2) := by decide +kernel
theorem dX0_init_36 : decode cX0_init 36 = .ok (.putfield 24, 3) := by decide +kernel
theorem dX0_init_39 : decode cX0_init 39 = .ok (.aload_n 0, 1) := by decide +kernel
theorem dX0_init_40 : decode cX0_init 40 = .ok (.iconst 5, 1) := by decide +kernel
theorem dX0_init_41 : decode cX0_init 41 = .ok (.newarray .int, 2) := by decide +kernel
theorem dX0_init_43 : decode cX0_init 43 = .ok (.putfield 27, 3) := by decide +kernel
theorem dX0_init_46 : decode cX0_init 46 = .ok (.aload_n 0, 1) := by decide +kernel
theorem dX0_init_47 : decode cX0_init 47 = .ok (.iconst 5, 1) := by decide +kernel
theorem dX0_init_48 : decode cX0_init 48 = .ok (.newarray .int, 2) := by decide +kernel
theorem dX0_init_50 : decode cX0_init 50 = .ok (.putfield 30, 3) := by decide +kernel
theorem dX0_init_53 : decode cX0_init 53 = .ok (.aload_n 0, 1) := by decide +kernel
theorem dX0_init_54 : decode cX0_init 54 = .ok (.iconst 1, 1) := by decide +kernel
theorem dX0_init_55 : decode cX0_init 55 = .ok (.putfield 33, 3) := by decide +kernel
theorem dX0_init_58 : decode cX0_init 58 = .ok (.return_, 1) := by decide +kernel
theorem dX0_letsBy_0 : decode cX0_letsBy 0 = .ok (.aload_n 0, 1) := by decide +kernel
theorem dX0_letsBy_1 : decode cX0_letsBy 1 = .ok (.getfield 9, 3) := by decide +kernel
theorem dX0_letsBy_4 : decode cX0_letsBy 4 = .ok (.iload_n 1, 1) := by decide +kernel
theorem dX0_letsBy_5 : decode cX0_letsBy 5 = .ok (.iaload, 1) := by decide +kernel
theorem dX0_letsBy_6 : decode cX0_letsBy 6 = .ok (.tableswitch 106 1 5 #[34, 106, 50, 106, 77], 34) := by decide +kernel
theorem dX0_letsBy_40 : decode cX0_letsBy 40 = .ok (.iload_n 2, 1) := by decide +kernel
theorem dX0_letsBy_41 : decode cX0_letsBy 41 = .ok (.aload_n 0, 1) := by decide +kernel
theorem dX0_letsBy_42 : decode cX0_letsBy 42 = .ok (.getfield 15, 3) := by decide +kernel
theorem dX0_letsBy_45 : decode cX0_letsBy 45 = .ok (.iload_n 1, 1) := by decide +kernel
theorem dX0_letsBy_46 : decode cX0_letsBy 46 = .ok (.iaload, 1) := by decide +kernel
theorem dX0_letsBy_47 : decode cX0_letsBy 47 = .ok (.if_icmp .ge 7, 3) := by decide +kernel
theorem dX0_letsBy_50 : decode cX0_letsBy 50 = .ok (.iconst 1, 1) := by decide +kernel
theorem dX0_letsBy_51 : decode cX0_letsBy 51 = .ok (.goto 4, 3) := by decide +kernel
theorem dX0_letsBy_54 : decode cX0_letsBy 54 = .ok (.iconst 0, 1) := by decide +kernel
theorem dX0_letsBy_55 : decode cX0_letsBy 55 = .ok (.ireturn, 1) := by decide +kernel
theorem dX0_letsBy_56 : decode cX0_letsBy 56 = .ok (.aload_n 0, 1) := by decide +kernel
theorem dX0_letsBy_57 : decode cX0_letsBy 57 = .ok (.getfield 27, 3) := by decide +kernel
theorem dX0_letsBy_60 : decode cX0_letsBy 60 = .ok (.iload_n 1, 1) := by decide +kernel
theorem dX0_letsBy_61 : decode cX0_letsBy 61 = .ok (.iaload, 1) := by decide +kernel
theorem dX0_letsBy_62 : decode cX0_letsBy 62 = .ok (.iconst 1, 1) := by decide +kernel
theorem dX0_letsBy_63 : decode cX0_letsBy 63 = .ok (.ishr, 1) := by decide +kernel
theorem dX0_letsBy_64 : decode cX0_letsBy 64 = .ok (.ifCond .eq 13, 3) := by decide +kernel
theorem dX0_letsBy_67 : decode cX0_letsBy 67 = .ok (.iload_n 2, 1) := by decide +kernel
theorem dX0_letsBy_68 : decode cX0_letsBy 68 = .ok (.aload_n 0, 1) := by decide +kernel
theorem dX0_letsBy_69 : decode cX0_letsBy 69 = .ok (.getfield 15, 3) := by decide +kernel
theorem dX0_letsBy_72 : decode cX0_letsBy 72 = .ok (.iload_n 1, 1) := by decide +kernel
theorem dX0_letsBy_73 : decode cX0_letsBy 73 = .ok (.iaload, 1) := by decide +kernel
theorem dX0_letsBy_74 : decode cX0_letsBy 74 = .ok (.if_icmp .ge 7, 3) := by decide +kernel
theorem dX0_letsBy_77 : decode cX0_letsBy 77 = .ok (.iconst 1, 1) := by decide +kernel
theorem dX0_letsBy_78 : decode cX0_letsBy 78 = .ok (.goto 4, 3) := by decide +kernel
theorem dX0_letsBy_81 : decode cX0_letsBy 81 = .ok (.iconst 0, 1) := by decide +kernel
theorem dX0_letsBy_82 : decode cX0_letsBy 82 = .ok (.ireturn, 1) := by decide +kernel
theorem dX0_letsBy_83 : decode cX0_letsBy 83 = .ok (.iload_n 2, 1) := by decide +kernel
theorem dX0_letsBy_84 : decode cX0_letsBy 84 = .ok (.aload_n 0, 1) := by decide +kernel
theorem dX0_letsBy_85 : decode cX0_letsBy 85 = .ok (.getfield 18, 3) := by decide +kernel
theorem dX0_letsBy_88 : decode cX0_letsBy 88 = .ok (.iload_n 1, 1) := by decide +kernel
theorem dX0_letsBy_89 : decode cX0_letsBy 89 = .ok (.iaload, 1) := by decide +kernel
theorem dX0_letsBy_90 : decode cX0_letsBy 90 = .ok (.iadd, 1) := by decide +kernel
theorem dX0_letsBy_91 : decode cX0_letsBy 91 = .ok (.bipush 10, 2) := by decide +kernel
theorem dX0_letsBy_93 : decode cX0_letsBy 93 = .ok (.if_icmp .lt 13, 3) := by decide +kernel
theorem dX0_letsBy_96 : decode cX0_letsBy 96 = .ok (.iload_n 2, 1) := by decide +kernel
theorem dX0_letsBy_97 : decode cX0_letsBy 97 = .ok (.aload_n 0, 1) := by decide +kernel
theorem dX0_letsBy_98 : decode cX0_letsBy 98 = .ok (.getfield 15, 3) := by decide +kernel
theorem dX0_letsBy_101 : decode cX0_letsBy 101 = .ok (.iload_n 1, 1) := by decide +kernel
theorem dX0_letsBy_102 : decode cX0_letsBy 102 = .ok (.iaload, 1) := by decide +kernel
theorem dX0_letsBy_103 : decode cX0_letsBy 103 = .ok (.if_icmp .ge 7, 3) := by decide +kernel
theorem dX0_letsBy_106 : decode cX0_letsBy 106 = .ok (.iconst 1, 1) := by decide +kernel
theorem dX0_letsBy_107 : decode cX0_letsBy 107 = .ok (.goto 4, 3) := by decide +kernel
theorem dX0_letsBy_110 : decode cX0_letsBy 110 = .ok (.iconst 0, 1) := by decide +kernel
theorem dX0_letsBy_111 : decode cX0_letsBy 111 = .ok (.ireturn, 1) := by decide +kernel
theorem dX0_letsBy_112 : decode cX0_letsBy 112 = .ok (.iconst 0, 1) := by decide +kernel
theorem dX0_letsBy_113 : decode cX0_letsBy 113 = .ok (.ireturn, 1) := by decide +kernel
theorem dX0_rowOf_0 : decode cX0_rowOf 0 = .ok (.iload_n 1, 1) := by decide +kernel
theorem dX0_rowOf_1 : decode cX0_rowOf 1 = .ok (.tableswitch 69 1 6 #[39, 44, 49, 54, 59, 64], 39) := by decide +kernel
theorem dX0_rowOf_40 : decode cX0_rowOf 40 = .ok (.aload_n 0, 1) := by decide +kernel
theorem dX0_rowOf_41 : decode cX0_rowOf 41 = .ok (.getfield 15, 3) := by decide +kernel
theorem dX0_rowOf_44 : decode cX0_rowOf 44 = .ok (.areturn, 1) := by decide +kernel
theorem dX0_rowOf_45 : decode cX0_rowOf 45 = .ok (.aload_n 0, 1) := by decide +kernel
theorem dX0_rowOf_46 : decode cX0_rowOf 46 = .ok (.getfield 18, 3) := by decide +kernel
theorem dX0_rowOf_49 : decode cX0_rowOf 49 = .ok (.areturn, 1) := by decide +kernel
theorem dX0_rowOf_50 : decode cX0_rowOf 50 = .ok (.aload_n 0, 1) := by decide +kernel
theorem dX0_rowOf_51 : decode cX0_rowOf 51 = .ok (.getfield 24, 3) := by decide +kernel
theorem dX0_rowOf_54 : decode cX0_rowOf 54 = .ok (.areturn, 1) := by decide +kernel
theorem dX0_rowOf_55 : decode cX0_rowOf 55 = .ok (.aload_n 0, 1) := by decide +kernel
theorem dX0_rowOf_56 : decode cX0_rowOf 56 = .ok (.getfield 27, 3) := by decide +kernel
theorem dX0_rowOf_59 : decode cX0_rowOf 59 = .ok (.areturn, 1) := by decide +kernel
theorem dX0_rowOf_60 : decode cX0_rowOf 60 = .ok (.aload_n 0, 1) := by decide +kernel
theorem dX0_rowOf_61 : decode cX0_rowOf 61 = .ok (.getfield 30, 3) := by decide +kernel
theorem dX0_rowOf_64 : decode cX0_rowOf 64 = .ok (.areturn, 1) := by decide +kernel
theorem dX0_rowOf_65 : decode cX0_rowOf 65 = .ok (.aload_n 0, 1) := by decide +kernel
theorem dX0_rowOf_66 : decode cX0_rowOf 66 = .ok (.getfield 21, 3) := by decide +kernel
theorem dX0_rowOf_69 : decode cX0_rowOf 69 = .ok (.areturn, 1) := by decide +kernel
theorem dX0_rowOf_70 : decode cX0_rowOf 70 = .ok (.aload_n 0, 1) := by decide +kernel
theorem dX0_rowOf_71 : decode cX0_rowOf 71 = .ok (.getfield 9, 3) := by decide +kernel
theorem dX0_rowOf_74 : decode cX0_rowOf 74 = .ok (.areturn, 1) := by decide +kernel
theorem dX1_chain_0 : decode cX1_chain 0 = .ok (.iconst 0, 1) := by decide +kernel
theorem dX1_chain_1 : decode cX1_chain 1 = .ok (.istore_n 3, 1) := by decide +kernel
theorem dX1_chain_2 : decode cX1_chain 2 = .ok (.iconst 0, 1) := by decide +kernel
theorem dX1_chain_3 : decode cX1_chain 3 = .ok (.istore 4, 2) := by decide +kernel
theorem dX1_chain_5 : decode cX1_chain 5 = .ok (.iload 4, 2) := by decide +kernel
theorem dX1_chain_7 : decode cX1_chain 7 = .ok (.sipush 160, 3) := by decide +kernel
theorem dX1_chain_10 : decode cX1_chain 10 = .ok (.if_icmp .ge 90, 3) := by decide +kernel
theorem dX1_chain_13 : decode cX1_chain 13 = .ok (.iload_n 1, 1) := by decide +kernel
theorem dX1_chain_14 : decode cX1_chain 14 = .ok (.iconst 1, 1) := by decide +kernel
theorem dX1_chain_15 : decode cX1_chain 15 = .ok (.if_icmp .ne 11, 3) := by decide +kernel
theorem dX1_chain_18 : decode cX1_chain 18 = .ok (.aload_n 0, 1) := by decide +kernel
theorem dX1_chain_19 : decode cX1_chain 19 = .ok (.iload_n 2, 1) := by decide +kernel
theorem dX1_chain_20 : decode cX1_chain 20 = .ok (.invokevirtual 53, 3) := by decide +kernel
theorem dX1_chain_23 : decode cX1_chain 23 = .ok (.goto 24, 3) := by decide +kernel
theorem dX1_chain_26 : decode cX1_chain 26 = .ok (.iload_n 1, 1) := by decide +kernel
theorem dX1_chain_27 : decode cX1_chain 27 = .ok (.iconst 3, 1) := by decide +kernel
theorem dX1_chain_28 : decode cX1_chain 28 = .ok (.if_icmp .ne 11, 3) := by decide +kernel
theorem dX1_chain_31 : decode cX1_chain 31 = .ok (.aload_n 0, 1) := by decide +kernel
theorem dX1_chain_32 : decode cX1_chain 32 = .ok (.iload_n 2, 1) := by decide +kernel
theorem dX1_chain_33 : decode cX1_chain 33 = .ok (.invokevirtual 56, 3) := by decide +kernel
theorem dX1_chain_36 : decode cX1_chain 36 = .ok (.goto 11, 3) := by decide +kernel
theorem dX1_chain_39 : decode cX1_chain 39 = .ok (.aload_n 0, 1) := by decide +kernel
theorem dX1_chain_40 : decode cX1_chain 40 = .ok (.iload_n 1, 1) := by decide +kernel
theorem dX1_chain_41 : decode cX1_chain 41 = .ok (.iconst 1, 1) := by decide +kernel
theorem dX1_chain_42 : decode cX1_chain 42 = .ok (.iadd, 1) := by decide +kernel
theorem dX1_chain_43 : decode cX1_chain 43 = .ok (.iload_n 2, 1) := by decide +kernel
theorem dX1_chain_44 : decode cX1_chain 44 = .ok (.invokevirtual 35, 3) := by decide +kernel
theorem dX1_chain_47 : decode cX1_chain 47 = .ok (.istore 5, 2) := by decide +kernel
theorem dX1_chain_49 : decode cX1_chain 49 = .ok (.iload 5, 2) := by decide +kernel
theorem dX1_chain_51 : decode cX1_chain 51 = .ok (.ifCond .eq 16, 3) := by decide +kernel
theorem dX1_chain_54 : decode cX1_chain 54 = .ok (.iload 4, 2) := by decide +kernel
theorem dX1_chain_56 : decode cX1_chain 56 = .ok (.ifCond .le 13, 3) := by decide +kernel
theorem dX1_chain_59 : decode cX1_chain 59 = .ok (.aload_n 0, 1) := by decide +kernel
theorem dX1_chain_60 : decode cX1_chain 60 = .ok (.iload_n 3, 1) := by decide +kernel
theorem dX1_chain_61 : decode cX1_chain 61 = .ok (.invokevirtual 59, 3) := by decide +kernel
theorem dX1_chain_64 : decode cX1_chain 64 = .ok (.ifCond .ne 5, 3) := by decide +kernel
theorem dX1_chain_67 : decode cX1_chain 67 = .ok (.iconst 0, 1) := by decide +kernel
theorem dX1_chain_68 : decode cX1_chain 68 = .ok (.ireturn, 1) := by decide +kernel
theorem dX1_chain_69 : decode cX1_chain 69 = .ok (.aload_n 0, 1) := by decide +kernel
theorem dX1_chain_70 : decode cX1_chain 70 = .ok (.getfield 39, 3) := by decide +kernel
theorem dX1_chain_73 : decode cX1_chain 73 = .ok (.invokestatic 62, 3) := by decide +kernel
theorem dX1_chain_76 : decode cX1_chain 76 = .ok (.iload_n 1, 1) := by decide +kernel
theorem dX1_chain_77 : decode cX1_chain 77 = .ok (.if_icmp .eq 5, 3) := by decide +kernel
theorem dX1_chain_80 : decode cX1_chain 80 = .ok (.iconst 1, 1) := by decide +kernel
theorem dX1_chain_81 : decode cX1_chain 81 = .ok (.ireturn, 1) := by decide +kernel
theorem dX1_chain_82 : decode cX1_chain 82 = .ok (.aload_n 0, 1) := by decide +kernel
theorem dX1_chain_83 : decode cX1_chain 83 = .ok (.getfield 39, 3) := by decide +kernel
theorem dX1_chain_86 : decode cX1_chain 86 = .ok (.invokestatic 66, 3) := by decide +kernel
theorem dX1_chain_89 : decode cX1_chain 89 = .ok (.istore_n 3, 1) := by decide +kernel
theorem dX1_chain_90 : decode cX1_chain 90 = .ok (.aload_n 0, 1) := by decide +kernel
theorem dX1_chain_91 : decode cX1_chain 91 = .ok (.invokevirtual 28, 3) := by decide +kernel
theorem dX1_chain_94 : decode cX1_chain 94 = .ok (.iinc 4 1, 3) := by decide +kernel
theorem dX1_chain_97 : decode cX1_chain 97 = .ok (.goto (-92), 3) := by decide +kernel
theorem dX1_chain_100 : decode cX1_chain 100 = .ok (.iconst 0, 1) := by decide +kernel
theorem dX1_chain_101 : decode cX1_chain 101 = .ok (.ireturn, 1) := by decide +kernel
theorem dX1_codeOf_0 : decode cX1_codeOf 0 = .ok (.iload_n 0, 1) := by decide +kernel
theorem dX1_codeOf_1 : decode cX1_codeOf 1 = .ok (.lookupswitch 77 #[(7, 59), (8, 62), (43, 71), (45, 74), (60, 65), (61, 68)], 59) := by decide +kernel
theorem dX1_codeOf_60 : decode cX1_codeOf 60 = .ok (.bipush (-7), 2) := by decide +kernel
theorem dX1_codeOf_62 : decode cX1_codeOf 62 = .ok (.ireturn, 1) := by decide +kernel
theorem dX1_codeOf_63 : decode cX1_codeOf 63 = .ok (.bipush (-8), 2) := by decide +kernel
theorem dX1_codeOf_65 : decode cX1_codeOf 65 = .ok (.ireturn, 1) := by decide +kernel
theorem dX1_codeOf_66 : decode cX1_codeOf 66 = .ok (.bipush (-9), 2) := by decide +kernel
theorem dX1_codeOf_68 : decode cX1_codeOf 68 = .ok (.ireturn, 1) := by decide +kernel
theorem dX1_codeOf_69 : decode cX1_codeOf 69 = .ok (.bipush (-10), 2) := by decide +kernel
theorem dX1_codeOf_71 : decode cX1_codeOf 71 = .ok (.ireturn, 1) := by decide +kernel
theorem dX1_codeOf_72 : decode cX1_codeOf 72 = .ok (.bipush (-11), 2) := by decide +kernel
theorem dX1_codeOf_74 : decode cX1_codeOf 74 = .ok (.ireturn, 1) := by decide +kernel
theorem dX1_codeOf_75 : decode cX1_codeOf 75 = .ok (.bipush (-12), 2) := by decide +kernel
theorem dX1_codeOf_77 : decode cX1_codeOf 77 = .ok (.ireturn, 1) := by decide +kernel
theorem dX1_codeOf_78 : decode cX1_codeOf 78 = .ok (.bipush (-13), 2) := by decide +kernel
theorem dX1_codeOf_80 : decode cX1_codeOf 80 = .ok (.ireturn, 1) := by decide +kernel
theorem dX1_init_0 : decode cX1_init 0 = .ok (.aload_n 0, 1) := by decide +kernel
theorem dX1_init_1 : decode cX1_init 1 = .ok (.invokespecial 3, 3) := by decide +kernel
theorem dX1_init_4 : decode cX1_init 4 = .ok (.aload_n 0, 1) := by decide +kernel
theorem dX1_init_5 : decode cX1_init 5 = .ok (.sipush 160, 3) := by decide +kernel
theorem dX1_init_8 : decode cX1_init 8 = .ok (.newarray .int, 2) := by decide +kernel
theorem dX1_init_10 : decode cX1_init 10 = .ok (.putfield 9, 3) := by decide +kernel
theorem dX1_init_13 : decode cX1_init 13 = .ok (.aload_n 0, 1) := by decide +kernel
theorem dX1_init_14 : decode cX1_init 14 = .ok (.sipush 160, 3) := by decide +kernel
theorem dX1_init_17 : decode cX1_init 17 = .ok (.newarray .int, 2) := by decide +kernel
theorem dX1_init_19 : decode cX1_init 19 = .ok (.putfield 15, 3) := by decide +kernel
theorem dX1_init_22 : decode cX1_init 22 = .ok (.aload_n 0, 1) := by decide +kernel
theorem dX1_init_23 : decode cX1_init 23 = .ok (.iconst 3, 1) := by decide +kernel
theorem dX1_init_24 : decode cX1_init 24 = .ok (.newarray .int, 2) := by decide +kernel
theorem dX1_init_26 : decode cX1_init 26 = .ok (.putfield 18, 3) := by decide +kernel
theorem dX1_init_29 : decode cX1_init 29 = .ok (.return_, 1) := by decide +kernel
theorem dX1_isSign_0 : decode cX1_isSign 0 = .ok (.iload_n 0, 1) := by decide +kernel
theorem dX1_isSign_1 : decode cX1_isSign 1 = .ok (.tableswitch 105 40 61 #[103, 103, 103, 103, 105, 103, 105, 105, 105, 105, 105, 105, 105, 105, 105, 105, 105, 105, 105, 103, 103, 103], 103) := by decide +kernel
theorem dX1_isSign_104 : decode cX1_isSign 104 = .ok (.iconst 1, 1) := by decide +kernel
theorem dX1_isSign_105 : decode cX1_isSign 105 = .ok (.ireturn, 1) := by decide +kernel
theorem dX1_isSign_106 : decode cX1_isSign 106 = .ok (.iconst 0, 1) := by decide +kernel
theorem dX1_isSign_107 : decode cX1_isSign 107 = .ok (.ireturn, 1) := by decide +kernel
theorem dX1_isWord_0 : decode cX1_isWord 0 = .ok (.aload_n 1, 1) := by decide +kernel
theorem dX1_isWord_1 : decode cX1_isWord 1 = .ok (.invokevirtual 95, 3) := by decide +kernel
theorem dX1_isWord_4 : decode cX1_isWord 4 = .ok (.aload_n 0, 1) := by decide +kernel
theorem dX1_isWord_5 : decode cX1_isWord 5 = .ok (.getfield 21, 3) := by decide +kernel
theorem dX1_isWord_8 : decode cX1_isWord 8 = .ok (.aload_n 0, 1) := by decide +kernel
theorem dX1_isWord_9 : decode cX1_isWord 9 = .ok (.getfield 75, 3) := by decide +kernel
theorem dX1_isWord_12 : decode cX1_isWord 12 = .ok (.isub, 1) := by decide +kernel
theorem dX1_isWord_13 : decode cX1_isWord 13 = .ok (.if_icmp .eq 5, 3) := by decide +kernel
theorem dX1_isWord_16 : decode cX1_isWord 16 = .ok (.iconst 0, 1) := by decide +kernel
theorem dX1_isWord_17 : decode cX1_isWord 17 = .ok (.ireturn, 1) := by decide +kernel
theorem dX1_isWord_18 : decode cX1_isWord 18 = .ok (.iconst 0, 1) := by decide +kernel
theorem dX1_isWord_19 : decode cX1_isWord 19 = .ok (.istore_n 2, 1) := by decide +kernel
theorem dX1_isWord_20 : decode cX1_isWord 20 = .ok (.iload_n 2, 1) := by decide +kernel
theorem dX1_isWord_21 : decode cX1_isWord 21 = .ok (.aload_n 1, 1) := by decide +kernel
theorem dX1_isWord_22 : decode cX1_isWord 22 = .ok (.invokevirtual 95, 3) := by decide +kernel
theorem dX1_isWord_25 : decode cX1_isWord 25 = .ok (.if_icmp .ge 43, 3) := by decide +kernel
theorem dX1_isWord_28 : decode cX1_isWord 28 = .ok (.aload_n 0, 1) := by decide +kernel
theorem dX1_isWord_29 : decode cX1_isWord 29 = .ok (.getfield 75, 3) := by decide +kernel
theorem dX1_isWord_32 : decode cX1_isWord 32 = .ok (.iload_n 2, 1) := by decide +kernel
theorem dX1_isWord_33 : decode cX1_isWord 33 = .ok (.iadd, 1) := by decide +kernel
theorem dX1_isWord_34 : decode cX1_isWord 34 = .ok (.aload_n 0, 1) := by decide +kernel
theorem dX1_isWord_35 : decode cX1_isWord 35 = .ok (.getfield 72, 3) := by decide +kernel
theorem dX1_isWord_38 : decode cX1_isWord 38 = .ok (.if_icmp .ge 30, 3) := by decide +kernel
theorem dX1_isWord_41 : decode cX1_isWord 41 = .ok (.aload_n 1, 1) := by decide +kernel
theorem dX1_isWord_42 : decode cX1_isWord 42 = .ok (.iload_n 2, 1) := by decide +kernel
theorem dX1_isWord_43 : decode cX1_isWord 43 = .ok (.invokevirtual 100, 3) := by decide +kernel
theorem dX1_isWord_46 : decode cX1_isWord 46 = .ok (.aload_n 0, 1) := by decide +kernel
theorem dX1_isWord_47 : decode cX1_isWord 47 = .ok (.getfield 9, 3) := by decide +kernel
theorem dX1_isWord_50 : decode cX1_isWord 50 = .ok (.aload_n 0, 1) := by decide +kernel
theorem dX1_isWord_51 : decode cX1_isWord 51 = .ok (.getfield 75, 3) := by decide +kernel
theorem dX1_isWord_54 : decode cX1_isWord 54 = .ok (.iload_n 2, 1) := by decide +kernel
theorem dX1_isWord_55 : decode cX1_isWord 55 = .ok (.iadd, 1) := by decide +kernel
theorem dX1_isWord_56 : decode cX1_isWord 56 = .ok (.iaload, 1) := by decide +kernel
theorem dX1_isWord_57 : decode cX1_isWord 57 = .ok (.if_icmp .eq 5, 3) := by decide +kernel
theorem dX1_isWord_60 : decode cX1_isWord 60 = .ok (.iconst 0, 1) := by decide +kernel
theorem dX1_isWord_61 : decode cX1_isWord 61 = .ok (.ireturn, 1) := by decide +kernel
theorem dX1_isWord_62 : decode cX1_isWord 62 = .ok (.iinc 2 1, 3) := by decide +kernel
theorem dX1_isWord_65 : decode cX1_isWord 65 = .ok (.goto (-45), 3) := by decide +kernel
theorem dX1_isWord_68 : decode cX1_isWord 68 = .ok (.iconst 1, 1) := by decide +kernel
theorem dX1_isWord_69 : decode cX1_isWord 69 = .ok (.ireturn, 1) := by decide +kernel
theorem dX1_knownWord_0 : decode cX1_knownWord 0 = .ok (.iload_n 0, 1) := by decide +kernel
theorem dX1_knownWord_1 : decode cX1_knownWord 1 = .ok (.tableswitch 92 0 10 #[59, 62, 65, 68, 71, 74, 77, 80, 83, 86, 89], 59) := by decide +kernel
theorem dX1_knownWord_60 : decode cX1_knownWord 60 = .ok (.ldc 104, 2) := by decide +kernel
theorem dX1_knownWord_62 : decode cX1_knownWord 62 = .ok (.areturn, 1) := by decide +kernel
theorem dX1_knownWord_63 : decode cX1_knownWord 63 = .ok (.ldc 106, 2) := by decide +kernel
theorem dX1_knownWord_65 : decode cX1_knownWord 65 = .ok (.areturn, 1) := by decide +kernel
theorem dX1_knownWord_66 : decode cX1_knownWord 66 = .ok (.ldc 108, 2) := by decide +kernel
theorem dX1_knownWord_68 : decode cX1_knownWord 68 = .ok (.areturn, 1) := by decide +kernel
theorem dX1_knownWord_69 : decode cX1_knownWord 69 = .ok (.ldc 110, 2) := by decide +kernel
theorem dX1_knownWord_71 : decode cX1_knownWord 71 = .ok (.areturn, 1) := by decide +kernel
theorem dX1_knownWord_72 : decode cX1_knownWord 72 = .ok (.ldc 112, 2) := by decide +kernel
theorem dX1_knownWord_74 : decode cX1_knownWord 74 = .ok (.areturn, 1) := by decide +kernel
theorem dX1_knownWord_75 : decode cX1_knownWord 75 = .ok (.ldc 114, 2) := by decide +kernel
theorem dX1_knownWord_77 : decode cX1_knownWord 77 = .ok (.areturn, 1) := by decide +kernel
theorem dX1_knownWord_78 : decode cX1_knownWord 78 = .ok (.ldc 116, 2) := by decide +kernel
theorem dX1_knownWord_80 : decode cX1_knownWord 80 = .ok (.areturn, 1) := by decide +kernel
theorem dX1_knownWord_81 : decode cX1_knownWord 81 = .ok (.ldc 118, 2) := by decide +kernel
theorem dX1_knownWord_83 : decode cX1_knownWord 83 = .ok (.areturn, 1) := by decide +kernel
theorem dX1_knownWord_84 : decode cX1_knownWord 84 = .ok (.ldc 120, 2) := by decide +kernel
theorem dX1_knownWord_86 : decode cX1_knownWord 86 = .ok (.areturn, 1) := by decide +kernel
theorem dX1_knownWord_87 : decode cX1_knownWord 87 = .ok (.ldc 122, 2) := by decide +kernel
theorem dX1_knownWord_89 : decode cX1_knownWord 89 = .ok (.areturn, 1) := by decide +kernel
theorem dX1_knownWord_90 : decode cX1_knownWord 90 = .ok (.ldc 124, 2) := by decide +kernel
theorem dX1_knownWord_92 : decode cX1_knownWord 92 = .ok (.areturn, 1) := by decide +kernel
theorem dX1_knownWord_93 : decode cX1_knownWord 93 = .ok (.ldc 126, 2) := by decide +kernel
theorem dX1_knownWord_95 : decode cX1_knownWord 95 = .ok (.areturn, 1) := by decide +kernel
theorem dX1_levelOf_0 : decode cX1_levelOf 0 = .ok (.iload_n 0, 1) := by decide +kernel
theorem dX1_levelOf_1 : decode cX1_levelOf 1 = .ok (.lookupswitch 59 #[(7, 51), (8, 53), (42, 57), (43, 55), (45, 55)], 51) := by decide +kernel
theorem dX1_levelOf_52 : decode cX1_levelOf 52 = .ok (.iconst 0, 1) := by decide +kernel
theorem dX1_levelOf_53 : decode cX1_levelOf 53 = .ok (.ireturn, 1) := by decide +kernel
theorem dX1_levelOf_54 : decode cX1_levelOf 54 = .ok (.iconst 1, 1) := by decide +kernel
theorem dX1_levelOf_55 : decode cX1_levelOf 55 = .ok (.ireturn, 1) := by decide +kernel
theorem dX1_levelOf_56 : decode cX1_levelOf 56 = .ok (.iconst 2, 1) := by decide +kernel
theorem dX1_levelOf_57 : decode cX1_levelOf 57 = .ok (.ireturn, 1) := by decide +kernel
theorem dX1_levelOf_58 : decode cX1_levelOf 58 = .ok (.iconst 3, 1) := by decide +kernel
theorem dX1_levelOf_59 : decode cX1_levelOf 59 = .ok (.ireturn, 1) := by decide +kernel
theorem dX1_levelOf_60 : decode cX1_levelOf 60 = .ok (.iconst (-1), 1) := by decide +kernel
theorem dX1_levelOf_61 : decode cX1_levelOf 61 = .ok (.ireturn, 1) := by decide +kernel
theorem dX1_passes_0 : decode cX1_passes 0 = .ok (.aload_n 0, 1) := by decide +kernel
theorem dX1_passes_1 : decode cX1_passes 1 = .ok (.getfield 39, 3) := by decide +kernel
theorem dX1_passes_4 : decode cX1_passes 4 = .ok (.iload_n 1, 1) := by decide +kernel
theorem dX1_passes_5 : decode cX1_passes 5 = .ok (.if_icmp .eq 5, 3) := by decide +kernel
theorem dX1_passes_8 : decode cX1_passes 8 = .ok (.iconst 0, 1) := by decide +kernel
theorem dX1_passes_9 : decode cX1_passes 9 = .ok (.ireturn, 1) := by decide +kernel
theorem dX1_passes_10 : decode cX1_passes 10 = .ok (.aload_n 0, 1) := by decide +kernel
theorem dX1_passes_11 : decode cX1_passes 11 = .ok (.invokevirtual 28, 3) := by decide +kernel
theorem dX1_passes_14 : decode cX1_passes 14 = .ok (.iconst 1, 1) := by decide +kernel
theorem dX1_passes_15 : decode cX1_passes 15 = .ok (.ireturn, 1) := by decide +kernel
theorem dX1_perhapsNot_0 : decode cX1_perhapsNot 0 = .ok (.aload_n 0, 1) := by decide +kernel
theorem dX1_perhapsNot_1 : decode cX1_perhapsNot 1 = .ok (.getfield 39, 3) := by decide +kernel
theorem dX1_perhapsNot_4 : decode cX1_perhapsNot 4 = .ok (.bipush 9, 2) := by decide +kernel
theorem dX1_perhapsNot_6 : decode cX1_perhapsNot 6 = .ok (.if_icmp .ne 39, 3) := by decide +kernel
theorem dX1_perhapsNot_9 : decode cX1_perhapsNot 9 = .ok (.iload_n 1, 1) := by decide +kernel
theorem dX1_perhapsNot_10 : decode cX1_perhapsNot 10 = .ok (.iconst 5, 1) := by decide +kernel
theorem dX1_perhapsNot_11 : decode cX1_perhapsNot 11 = .ok (.if_icmp .lt 5, 3) := by decide +kernel
theorem dX1_perhapsNot_14 : decode cX1_perhapsNot 14 = .ok (.iconst 0, 1) := by decide +kernel
theorem dX1_perhapsNot_15 : decode cX1_perhapsNot 15 = .ok (.ireturn, 1) := by decide +kernel
theorem dX1_perhapsNot_16 : decode cX1_perhapsNot 16 = .ok (.aload_n 0, 1) := by decide +kernel
theorem dX1_perhapsNot_17 : decode cX1_perhapsNot 17 = .ok (.invokevirtual 28, 3) := by decide +kernel
theorem dX1_perhapsNot_20 : decode cX1_perhapsNot 20 = .ok (.aload_n 0, 1) := by decide +kernel
theorem dX1_perhapsNot_21 : decode cX1_perhapsNot 21 = .ok (.iload_n 1, 1) := by decide +kernel
theorem dX1_perhapsNot_22 : decode cX1_perhapsNot 22 = .ok (.iconst 1, 1) := by decide +kernel
theorem dX1_perhapsNot_23 : decode cX1_perhapsNot 23 = .ok (.iadd, 1) := by decide +kernel
theorem dX1_perhapsNot_24 : decode cX1_perhapsNot 24 = .ok (.invokevirtual 53, 3) := by decide +kernel
theorem dX1_perhapsNot_27 : decode cX1_perhapsNot 27 = .ok (.ifCond .eq 16, 3) := by decide +kernel
theorem dX1_perhapsNot_30 : decode cX1_perhapsNot 30 = .ok (.aload_n 0, 1) := by decide +kernel
theorem dX1_perhapsNot_31 : decode cX1_perhapsNot 31 = .ok (.bipush (-14), 2) := by decide +kernel
theorem dX1_perhapsNot_33 : decode cX1_perhapsNot 33 = .ok (.invokevirtual 59, 3) := by decide +kernel
theorem dX1_perhapsNot_36 : decode cX1_perhapsNot 36 = .ok (.ifCond .eq 7, 3) := by decide +kernel
theorem dX1_perhapsNot_39 : decode cX1_perhapsNot 39 = .ok (.iconst 1, 1) := by decide +kernel
theorem dX1_perhapsNot_40 : decode cX1_perhapsNot 40 = .ok (.goto 4, 3) := by decide +kernel
theorem dX1_perhapsNot_43 : decode cX1_perhapsNot 43 = .ok (.iconst 0, 1) := by decide +kernel
theorem dX1_perhapsNot_44 : decode cX1_perhapsNot 44 = .ok (.ireturn, 1) := by decide +kernel
theorem dX1_perhapsNot_45 : decode cX1_perhapsNot 45 = .ok (.aload_n 0, 1) := by decide +kernel
theorem dX1_perhapsNot_46 : decode cX1_perhapsNot 46 = .ok (.iconst 2, 1) := by decide +kernel
theorem dX1_perhapsNot_47 : decode cX1_perhapsNot 47 = .ok (.iload_n 1, 1) := by decide +kernel
theorem dX1_perhapsNot_48 : decode cX1_perhapsNot 48 = .ok (.invokevirtual 35, 3) := by decide +kernel
theorem dX1_perhapsNot_51 : decode cX1_perhapsNot 51 = .ok (.ifCond .ne 5, 3) := by decide +kernel
theorem dX1_perhapsNot_54 : decode cX1_perhapsNot 54 = .ok (.iconst 0, 1) := by decide +kernel
theorem dX1_perhapsNot_55 : decode cX1_perhapsNot 55 = .ok (.ireturn, 1) := by decide +kernel
theorem dX1_perhapsNot_56 : decode cX1_perhapsNot 56 = .ok (.aload_n 0, 1) := by decide +kernel
theorem dX1_perhapsNot_57 : decode cX1_perhapsNot 57 = .ok (.getfield 39, 3) := by decide +kernel
theorem dX1_perhapsNot_60 : decode cX1_perhapsNot 60 = .ok (.bipush 60, 2) := by decide +kernel
theorem dX1_perhapsNot_62 : decode cX1_perhapsNot 62 = .ok (.if_icmp .eq 14, 3) := by decide +kernel
theorem dX1_perhapsNot_65 : decode cX1_perhapsNot 65 = .ok (.aload_n 0, 1) := by decide +kernel
theorem dX1_perhapsNot_66 : decode cX1_perhapsNot 66 = .ok (.getfield 39, 3) := by decide +kernel
theorem dX1_perhapsNot_69 : decode cX1_perhapsNot 69 = .ok (.bipush 61, 2) := by decide +kernel
theorem dX1_perhapsNot_71 : decode cX1_perhapsNot 71 = .ok (.if_icmp .eq 5, 3) := by decide +kernel
theorem dX1_perhapsNot_74 : decode cX1_perhapsNot 74 = .ok (.iconst 1, 1) := by decide +kernel
theorem dX1_perhapsNot_75 : decode cX1_perhapsNot 75 = .ok (.ireturn, 1) := by decide +kernel
theorem dX1_perhapsNot_76 : decode cX1_perhapsNot 76 = .ok (.aload_n 0, 1) := by decide +kernel
theorem dX1_perhapsNot_77 : decode cX1_perhapsNot 77 = .ok (.getfield 39, 3) := by decide +kernel
theorem dX1_perhapsNot_80 : decode cX1_perhapsNot 80 = .ok (.invokestatic 66, 3) := by decide +kernel
theorem dX1_perhapsNot_83 : decode cX1_perhapsNot 83 = .ok (.istore_n 2, 1) := by decide +kernel
theorem dX1_perhapsNot_84 : decode cX1_perhapsNot 84 = .ok (.aload_n 0, 1) := by decide +kernel
theorem dX1_perhapsNot_85 : decode cX1_perhapsNot 85 = .ok (.invokevirtual 28, 3) := by decide +kernel
theorem dX1_perhapsNot_88 : decode cX1_perhapsNot 88 = .ok (.aload_n 0, 1) := by decide +kernel
theorem dX1_perhapsNot_89 : decode cX1_perhapsNot 89 = .ok (.iconst 2, 1) := by decide +kernel
theorem dX1_perhapsNot_90 : decode cX1_perhapsNot 90 = .ok (.iload_n 1, 1) := by decide +kernel
theorem dX1_perhapsNot_91 : decode cX1_perhapsNot 91 = .ok (.invokevirtual 35, 3) := by decide +kernel
theorem dX1_perhapsNot_94 : decode cX1_perhapsNot 94 = .ok (.ifCond .eq 15, 3) := by decide +kernel
theorem dX1_perhapsNot_97 : decode cX1_perhapsNot 97 = .ok (.aload_n 0, 1) := by decide +kernel
theorem dX1_perhapsNot_98 : decode cX1_perhapsNot 98 = .ok (.iload_n 2, 1) := by decide +kernel
theorem dX1_perhapsNot_99 : decode cX1_perhapsNot 99 = .ok (.invokevirtual 59, 3) := by decide +kernel
theorem dX1_perhapsNot_102 : decode cX1_perhapsNot 102 = .ok (.ifCond .eq 7, 3) := by decide +kernel
theorem dX1_perhapsNot_105 : decode cX1_perhapsNot 105 = .ok (.iconst 1, 1) := by decide +kernel
theorem dX1_perhapsNot_106 : decode cX1_perhapsNot 106 = .ok (.goto 4, 3) := by decide +kernel
theorem dX1_perhapsNot_109 : decode cX1_perhapsNot 109 = .ok (.iconst 0, 1) := by decide +kernel
theorem dX1_perhapsNot_110 : decode cX1_perhapsNot 110 = .ok (.ireturn, 1) := by decide +kernel
theorem dX1_put_0 : decode cX1_put 0 = .ok (.aload_n 0, 1) := by decide +kernel
theorem dX1_put_1 : decode cX1_put 1 = .ok (.getfield 25, 3) := by decide +kernel
theorem dX1_put_4 : decode cX1_put 4 = .ok (.sipush 160, 3) := by decide +kernel
theorem dX1_put_7 : decode cX1_put 7 = .ok (.if_icmp .lt 5, 3) := by decide +kernel
theorem dX1_put_10 : decode cX1_put 10 = .ok (.iconst 0, 1) := by decide +kernel
theorem dX1_put_11 : decode cX1_put 11 = .ok (.ireturn, 1) := by decide +kernel
theorem dX1_put_12 : decode cX1_put 12 = .ok (.aload_n 0, 1) := by decide +kernel
theorem dX1_put_13 : decode cX1_put 13 = .ok (.getfield 15, 3) := by decide +kernel
theorem dX1_put_16 : decode cX1_put 16 = .ok (.aload_n 0, 1) := by decide +kernel
theorem dX1_put_17 : decode cX1_put 17 = .ok (.getfield 25, 3) := by decide +kernel
theorem dX1_put_20 : decode cX1_put 20 = .ok (.iload_n 1, 1) := by decide +kernel
theorem dX1_put_21 : decode cX1_put 21 = .ok (.iastore, 1) := by decide +kernel
theorem dX1_put_22 : decode cX1_put 22 = .ok (.aload_n 0, 1) := by decide +kernel
theorem dX1_put_23 : decode cX1_put 23 = .ok (.dup, 1) := by decide +kernel
theorem dX1_put_24 : decode cX1_put 24 = .ok (.getfield 25, 3) := by decide +kernel
theorem dX1_put_27 : decode cX1_put 27 = .ok (.iconst 1, 1) := by decide +kernel
theorem dX1_put_28 : decode cX1_put 28 = .ok (.iadd, 1) := by decide +kernel
theorem dX1_put_29 : decode cX1_put 29 = .ok (.putfield 25, 3) := by decide +kernel
theorem dX1_put_32 : decode cX1_put 32 = .ok (.iconst 1, 1) := by decide +kernel
theorem dX1_put_33 : decode cX1_put 33 = .ok (.ireturn, 1) := by decide +kernel
theorem dX1_reads_0 : decode cX1_reads 0 = .ok (.aload_n 0, 1) := by decide +kernel
theorem dX1_reads_1 : decode cX1_reads 1 = .ok (.iconst 0, 1) := by decide +kernel
theorem dX1_reads_2 : decode cX1_reads 2 = .ok (.putfield 21, 3) := by decide +kernel
theorem dX1_reads_5 : decode cX1_reads 5 = .ok (.aload_n 0, 1) := by decide +kernel
theorem dX1_reads_6 : decode cX1_reads 6 = .ok (.iconst 0, 1) := by decide +kernel
theorem dX1_reads_7 : decode cX1_reads 7 = .ok (.putfield 25, 3) := by decide +kernel
theorem dX1_reads_10 : decode cX1_reads 10 = .ok (.aload_n 0, 1) := by decide +kernel
theorem dX1_reads_11 : decode cX1_reads 11 = .ok (.invokevirtual 28, 3) := by decide +kernel
theorem dX1_reads_14 : decode cX1_reads 14 = .ok (.iconst 0, 1) := by decide +kernel
theorem dX1_reads_15 : decode cX1_reads 15 = .ok (.istore_n 1, 1) := by decide +kernel
theorem dX1_reads_16 : decode cX1_reads 16 = .ok (.iload_n 1, 1) := by decide +kernel
theorem dX1_reads_17 : decode cX1_reads 17 = .ok (.iconst 3, 1) := by decide +kernel
theorem dX1_reads_18 : decode cX1_reads 18 = .ok (.if_icmp .ge 49, 3) := by decide +kernel
theorem dX1_reads_21 : decode cX1_reads 21 = .ok (.aload_n 0, 1) := by decide +kernel
end
section
theorem dX1_reads_22 : decode cX1_reads 22 = .ok (.iconst 4, 1) := by decide +kernel
theorem dX1_reads_23 : decode cX1_reads 23 = .ok (.iload_n 1, 1) := by decide +kernel
theorem dX1_reads_24 : decode cX1_reads 24 = .ok (.iadd, 1) := by decide +kernel
theorem dX1_reads_25 : decode cX1_reads 25 = .ok (.invokevirtual 31, 3) := by decide +kernel
theorem dX1_reads_28 : decode cX1_reads 28 = .ok (.ifCond .eq 21, 3) := by decide +kernel
theorem dX1_reads_31 : decode cX1_reads 31 = .ok (.aload_n 0, 1) := by decide +kernel
theorem dX1_reads_32 : decode cX1_reads 32 = .ok (.iconst 0, 1) := by decide +kernel
theorem dX1_reads_33 : decode cX1_reads 33 = .ok (.iconst 0, 1) := by decide +kernel
theorem dX1_reads_34 : decode cX1_reads 34 = .ok (.invokevirtual 35, 3) := by decide +kernel
theorem dX1_reads_37 : decode cX1_reads 37 = .ok (.ifCond .eq 12, 3) := by decide +kernel
theorem dX1_reads_40 : decode cX1_reads 40 = .ok (.aload_n 0, 1) := by decide +kernel
theorem dX1_reads_41 : decode cX1_reads 41 = .ok (.bipush 59, 2) := by decide +kernel
theorem dX1_reads_43 : decode cX1_reads 43 = .ok (.invokevirtual 31, 3) := by decide +kernel
theorem dX1_reads_46 : decode cX1_reads 46 = .ok (.ifCond .ne 5, 3) := by decide +kernel
theorem dX1_reads_49 : decode cX1_reads 49 = .ok (.iconst 0, 1) := by decide +kernel
theorem dX1_reads_50 : decode cX1_reads 50 = .ok (.ireturn, 1) := by decide +kernel
theorem dX1_reads_51 : decode cX1_reads 51 = .ok (.aload_n 0, 1) := by decide +kernel
theorem dX1_reads_52 : decode cX1_reads 52 = .ok (.getfield 18, 3) := by decide +kernel
theorem dX1_reads_55 : decode cX1_reads 55 = .ok (.iload_n 1, 1) := by decide +kernel
theorem dX1_reads_56 : decode cX1_reads 56 = .ok (.aload_n 0, 1) := by decide +kernel
theorem dX1_reads_57 : decode cX1_reads 57 = .ok (.getfield 25, 3) := by decide +kernel
theorem dX1_reads_60 : decode cX1_reads 60 = .ok (.iastore, 1) := by decide +kernel
theorem dX1_reads_61 : decode cX1_reads 61 = .ok (.iinc 1 1, 3) := by decide +kernel
theorem dX1_reads_64 : decode cX1_reads 64 = .ok (.goto (-48), 3) := by decide +kernel
theorem dX1_reads_67 : decode cX1_reads 67 = .ok (.aload_n 0, 1) := by decide +kernel
theorem dX1_reads_68 : decode cX1_reads 68 = .ok (.getfield 39, 3) := by decide +kernel
theorem dX1_reads_71 : decode cX1_reads 71 = .ok (.ifCond .ne 7, 3) := by decide +kernel
theorem dX1_reads_74 : decode cX1_reads 74 = .ok (.iconst 1, 1) := by decide +kernel
theorem dX1_reads_75 : decode cX1_reads 75 = .ok (.goto 4, 3) := by decide +kernel
theorem dX1_reads_78 : decode cX1_reads 78 = .ok (.iconst 0, 1) := by decide +kernel
theorem dX1_reads_79 : decode cX1_reads 79 = .ok (.ireturn, 1) := by decide +kernel
theorem dX1_single_0 : decode cX1_single 0 = .ok (.aload_n 0, 1) := by decide +kernel
theorem dX1_single_1 : decode cX1_single 1 = .ok (.getfield 39, 3) := by decide +kernel
theorem dX1_single_4 : decode cX1_single 4 = .ok (.iconst 2, 1) := by decide +kernel
theorem dX1_single_5 : decode cX1_single 5 = .ok (.if_icmp .eq 11, 3) := by decide +kernel
theorem dX1_single_8 : decode cX1_single 8 = .ok (.aload_n 0, 1) := by decide +kernel
theorem dX1_single_9 : decode cX1_single 9 = .ok (.getfield 39, 3) := by decide +kernel
theorem dX1_single_12 : decode cX1_single 12 = .ok (.iconst 3, 1) := by decide +kernel
theorem dX1_single_13 : decode cX1_single 13 = .ok (.if_icmp .ne 35, 3) := by decide +kernel
theorem dX1_single_16 : decode cX1_single 16 = .ok (.aload_n 0, 1) := by decide +kernel
theorem dX1_single_17 : decode cX1_single 17 = .ok (.getfield 39, 3) := by decide +kernel
theorem dX1_single_20 : decode cX1_single 20 = .ok (.iconst 2, 1) := by decide +kernel
theorem dX1_single_21 : decode cX1_single 21 = .ok (.if_icmp .ne 10, 3) := by decide +kernel
theorem dX1_single_24 : decode cX1_single 24 = .ok (.aload_n 0, 1) := by decide +kernel
theorem dX1_single_25 : decode cX1_single 25 = .ok (.getfield 69, 3) := by decide +kernel
theorem dX1_single_28 : decode cX1_single 28 = .ok (.goto 9, 3) := by decide +kernel
theorem dX1_single_31 : decode cX1_single 31 = .ok (.iconst (-1), 1) := by decide +kernel
theorem dX1_single_32 : decode cX1_single 32 = .ok (.aload_n 0, 1) := by decide +kernel
theorem dX1_single_33 : decode cX1_single 33 = .ok (.getfield 69, 3) := by decide +kernel
theorem dX1_single_36 : decode cX1_single 36 = .ok (.isub, 1) := by decide +kernel
theorem dX1_single_37 : decode cX1_single 37 = .ok (.istore_n 2, 1) := by decide +kernel
theorem dX1_single_38 : decode cX1_single 38 = .ok (.aload_n 0, 1) := by decide +kernel
theorem dX1_single_39 : decode cX1_single 39 = .ok (.invokevirtual 28, 3) := by decide +kernel
theorem dX1_single_42 : decode cX1_single 42 = .ok (.aload_n 0, 1) := by decide +kernel
theorem dX1_single_43 : decode cX1_single 43 = .ok (.iload_n 2, 1) := by decide +kernel
theorem dX1_single_44 : decode cX1_single 44 = .ok (.invokevirtual 59, 3) := by decide +kernel
theorem dX1_single_47 : decode cX1_single 47 = .ok (.ireturn, 1) := by decide +kernel
theorem dX1_single_48 : decode cX1_single 48 = .ok (.aload_n 0, 1) := by decide +kernel
theorem dX1_single_49 : decode cX1_single 49 = .ok (.getfield 39, 3) := by decide +kernel
theorem dX1_single_52 : decode cX1_single 52 = .ok (.bipush 45, 2) := by decide +kernel
theorem dX1_single_54 : decode cX1_single 54 = .ok (.if_icmp .eq 12, 3) := by decide +kernel
theorem dX1_single_57 : decode cX1_single 57 = .ok (.aload_n 0, 1) := by decide +kernel
theorem dX1_single_58 : decode cX1_single 58 = .ok (.getfield 39, 3) := by decide +kernel
theorem dX1_single_61 : decode cX1_single 61 = .ok (.bipush 40, 2) := by decide +kernel
theorem dX1_single_63 : decode cX1_single 63 = .ok (.if_icmp .ne 8, 3) := by decide +kernel
theorem dX1_single_66 : decode cX1_single 66 = .ok (.iload_n 1, 1) := by decide +kernel
theorem dX1_single_67 : decode cX1_single 67 = .ok (.iconst 5, 1) := by decide +kernel
theorem dX1_single_68 : decode cX1_single 68 = .ok (.if_icmp .lt 5, 3) := by decide +kernel
theorem dX1_single_71 : decode cX1_single 71 = .ok (.iconst 0, 1) := by decide +kernel
theorem dX1_single_72 : decode cX1_single 72 = .ok (.ireturn, 1) := by decide +kernel
theorem dX1_single_73 : decode cX1_single 73 = .ok (.aload_n 0, 1) := by decide +kernel
theorem dX1_single_74 : decode cX1_single 74 = .ok (.getfield 39, 3) := by decide +kernel
theorem dX1_single_77 : decode cX1_single 77 = .ok (.bipush 45, 2) := by decide +kernel
theorem dX1_single_79 : decode cX1_single 79 = .ok (.if_icmp .ne 7, 3) := by decide +kernel
theorem dX1_single_82 : decode cX1_single 82 = .ok (.iconst 1, 1) := by decide +kernel
theorem dX1_single_83 : decode cX1_single 83 = .ok (.goto 4, 3) := by decide +kernel
theorem dX1_single_86 : decode cX1_single 86 = .ok (.iconst 0, 1) := by decide +kernel
theorem dX1_single_87 : decode cX1_single 87 = .ok (.istore_n 2, 1) := by decide +kernel
theorem dX1_single_88 : decode cX1_single 88 = .ok (.aload_n 0, 1) := by decide +kernel
theorem dX1_single_89 : decode cX1_single 89 = .ok (.invokevirtual 28, 3) := by decide +kernel
theorem dX1_single_92 : decode cX1_single 92 = .ok (.iload_n 2, 1) := by decide +kernel
theorem dX1_single_93 : decode cX1_single 93 = .ok (.ifCond .eq 28, 3) := by decide +kernel
theorem dX1_single_96 : decode cX1_single 96 = .ok (.aload_n 0, 1) := by decide +kernel
theorem dX1_single_97 : decode cX1_single 97 = .ok (.iload_n 1, 1) := by decide +kernel
theorem dX1_single_98 : decode cX1_single 98 = .ok (.iconst 1, 1) := by decide +kernel
theorem dX1_single_99 : decode cX1_single 99 = .ok (.iadd, 1) := by decide +kernel
theorem dX1_single_100 : decode cX1_single 100 = .ok (.invokevirtual 56, 3) := by decide +kernel
theorem dX1_single_103 : decode cX1_single 103 = .ok (.ifCond .eq 16, 3) := by decide +kernel
theorem dX1_single_106 : decode cX1_single 106 = .ok (.aload_n 0, 1) := by decide +kernel
theorem dX1_single_107 : decode cX1_single 107 = .ok (.bipush (-15), 2) := by decide +kernel
theorem dX1_single_109 : decode cX1_single 109 = .ok (.invokevirtual 59, 3) := by decide +kernel
theorem dX1_single_112 : decode cX1_single 112 = .ok (.ifCond .eq 7, 3) := by decide +kernel
theorem dX1_single_115 : decode cX1_single 115 = .ok (.iconst 1, 1) := by decide +kernel
theorem dX1_single_116 : decode cX1_single 116 = .ok (.goto 4, 3) := by decide +kernel
theorem dX1_single_119 : decode cX1_single 119 = .ok (.iconst 0, 1) := by decide +kernel
theorem dX1_single_120 : decode cX1_single 120 = .ok (.ireturn, 1) := by decide +kernel
theorem dX1_single_121 : decode cX1_single 121 = .ok (.aload_n 0, 1) := by decide +kernel
theorem dX1_single_122 : decode cX1_single 122 = .ok (.iconst 0, 1) := by decide +kernel
theorem dX1_single_123 : decode cX1_single 123 = .ok (.iload_n 1, 1) := by decide +kernel
theorem dX1_single_124 : decode cX1_single 124 = .ok (.iconst 1, 1) := by decide +kernel
theorem dX1_single_125 : decode cX1_single 125 = .ok (.iadd, 1) := by decide +kernel
theorem dX1_single_126 : decode cX1_single 126 = .ok (.invokevirtual 35, 3) := by decide +kernel
theorem dX1_single_129 : decode cX1_single 129 = .ok (.ifCond .eq 16, 3) := by decide +kernel
theorem dX1_single_132 : decode cX1_single 132 = .ok (.aload_n 0, 1) := by decide +kernel
theorem dX1_single_133 : decode cX1_single 133 = .ok (.bipush 41, 2) := by decide +kernel
theorem dX1_single_135 : decode cX1_single 135 = .ok (.invokevirtual 31, 3) := by decide +kernel
theorem dX1_single_138 : decode cX1_single 138 = .ok (.ifCond .eq 7, 3) := by decide +kernel
theorem dX1_single_141 : decode cX1_single 141 = .ok (.iconst 1, 1) := by decide +kernel
theorem dX1_single_142 : decode cX1_single 142 = .ok (.goto 4, 3) := by decide +kernel
theorem dX1_single_145 : decode cX1_single 145 = .ok (.iconst 0, 1) := by decide +kernel
theorem dX1_single_146 : decode cX1_single 146 = .ok (.ireturn, 1) := by decide +kernel
theorem dX1_step_0 : decode cX1_step 0 = .ok (.aload_n 0, 1) := by decide +kernel
theorem dX1_step_1 : decode cX1_step 1 = .ok (.getfield 21, 3) := by decide +kernel
theorem dX1_step_4 : decode cX1_step 4 = .ok (.aload_n 0, 1) := by decide +kernel
theorem dX1_step_5 : decode cX1_step 5 = .ok (.getfield 72, 3) := by decide +kernel
theorem dX1_step_8 : decode cX1_step 8 = .ok (.if_icmp .ge 44, 3) := by decide +kernel
theorem dX1_step_11 : decode cX1_step 11 = .ok (.aload_n 0, 1) := by decide +kernel
theorem dX1_step_12 : decode cX1_step 12 = .ok (.getfield 9, 3) := by decide +kernel
theorem dX1_step_15 : decode cX1_step 15 = .ok (.aload_n 0, 1) := by decide +kernel
theorem dX1_step_16 : decode cX1_step 16 = .ok (.getfield 21, 3) := by decide +kernel
theorem dX1_step_19 : decode cX1_step 19 = .ok (.iaload, 1) := by decide +kernel
theorem dX1_step_20 : decode cX1_step 20 = .ok (.bipush 32, 2) := by decide +kernel
theorem dX1_step_22 : decode cX1_step 22 = .ok (.if_icmp .eq 17, 3) := by decide +kernel
theorem dX1_step_25 : decode cX1_step 25 = .ok (.aload_n 0, 1) := by decide +kernel
theorem dX1_step_26 : decode cX1_step 26 = .ok (.getfield 9, 3) := by decide +kernel
theorem dX1_step_29 : decode cX1_step 29 = .ok (.aload_n 0, 1) := by decide +kernel
theorem dX1_step_30 : decode cX1_step 30 = .ok (.getfield 21, 3) := by decide +kernel
theorem dX1_step_33 : decode cX1_step 33 = .ok (.iaload, 1) := by decide +kernel
theorem dX1_step_34 : decode cX1_step 34 = .ok (.bipush 10, 2) := by decide +kernel
theorem dX1_step_36 : decode cX1_step 36 = .ok (.if_icmp .ne 16, 3) := by decide +kernel
theorem dX1_step_39 : decode cX1_step 39 = .ok (.aload_n 0, 1) := by decide +kernel
theorem dX1_step_40 : decode cX1_step 40 = .ok (.dup, 1) := by decide +kernel
theorem dX1_step_41 : decode cX1_step 41 = .ok (.getfield 21, 3) := by decide +kernel
theorem dX1_step_44 : decode cX1_step 44 = .ok (.iconst 1, 1) := by decide +kernel
theorem dX1_step_45 : decode cX1_step 45 = .ok (.iadd, 1) := by decide +kernel
theorem dX1_step_46 : decode cX1_step 46 = .ok (.putfield 21, 3) := by decide +kernel
theorem dX1_step_49 : decode cX1_step 49 = .ok (.goto (-49), 3) := by decide +kernel
theorem dX1_step_52 : decode cX1_step 52 = .ok (.aload_n 0, 1) := by decide +kernel
theorem dX1_step_53 : decode cX1_step 53 = .ok (.aload_n 0, 1) := by decide +kernel
theorem dX1_step_54 : decode cX1_step 54 = .ok (.getfield 21, 3) := by decide +kernel
theorem dX1_step_57 : decode cX1_step 57 = .ok (.putfield 75, 3) := by decide +kernel
theorem dX1_step_60 : decode cX1_step 60 = .ok (.aload_n 0, 1) := by decide +kernel
theorem dX1_step_61 : decode cX1_step 61 = .ok (.getfield 21, 3) := by decide +kernel
theorem dX1_step_64 : decode cX1_step 64 = .ok (.aload_n 0, 1) := by decide +kernel
theorem dX1_step_65 : decode cX1_step 65 = .ok (.getfield 72, 3) := by decide +kernel
theorem dX1_step_68 : decode cX1_step 68 = .ok (.if_icmp .lt 9, 3) := by decide +kernel
theorem dX1_step_71 : decode cX1_step 71 = .ok (.aload_n 0, 1) := by decide +kernel
theorem dX1_step_72 : decode cX1_step 72 = .ok (.iconst 0, 1) := by decide +kernel
theorem dX1_step_73 : decode cX1_step 73 = .ok (.putfield 39, 3) := by decide +kernel
theorem dX1_step_76 : decode cX1_step 76 = .ok (.return_, 1) := by decide +kernel
theorem dX1_step_77 : decode cX1_step 77 = .ok (.aload_n 0, 1) := by decide +kernel
theorem dX1_step_78 : decode cX1_step 78 = .ok (.getfield 9, 3) := by decide +kernel
theorem dX1_step_81 : decode cX1_step 81 = .ok (.aload_n 0, 1) := by decide +kernel
theorem dX1_step_82 : decode cX1_step 82 = .ok (.getfield 21, 3) := by decide +kernel
theorem dX1_step_85 : decode cX1_step 85 = .ok (.iaload, 1) := by decide +kernel
theorem dX1_step_86 : decode cX1_step 86 = .ok (.istore_n 1, 1) := by decide +kernel
theorem dX1_step_87 : decode cX1_step 87 = .ok (.iload_n 1, 1) := by decide +kernel
theorem dX1_step_88 : decode cX1_step 88 = .ok (.bipush 97, 2) := by decide +kernel
theorem dX1_step_90 : decode cX1_step 90 = .ok (.if_icmp .lt 16, 3) := by decide +kernel
theorem dX1_step_93 : decode cX1_step 93 = .ok (.iload_n 1, 1) := by decide +kernel
theorem dX1_step_94 : decode cX1_step 94 = .ok (.bipush 122, 2) := by decide +kernel
theorem dX1_step_96 : decode cX1_step 96 = .ok (.if_icmp .gt 10, 3) := by decide +kernel
theorem dX1_step_99 : decode cX1_step 99 = .ok (.aload_n 0, 1) := by decide +kernel
theorem dX1_step_100 : decode cX1_step 100 = .ok (.invokevirtual 78, 3) := by decide +kernel
theorem dX1_step_103 : decode cX1_step 103 = .ok (.goto 48, 3) := by decide +kernel
theorem dX1_step_106 : decode cX1_step 106 = .ok (.iload_n 1, 1) := by decide +kernel
theorem dX1_step_107 : decode cX1_step 107 = .ok (.bipush 48, 2) := by decide +kernel
theorem dX1_step_109 : decode cX1_step 109 = .ok (.if_icmp .lt 16, 3) := by decide +kernel
theorem dX1_step_112 : decode cX1_step 112 = .ok (.iload_n 1, 1) := by decide +kernel
theorem dX1_step_113 : decode cX1_step 113 = .ok (.bipush 57, 2) := by decide +kernel
theorem dX1_step_115 : decode cX1_step 115 = .ok (.if_icmp .gt 10, 3) := by decide +kernel
theorem dX1_step_118 : decode cX1_step 118 = .ok (.aload_n 0, 1) := by decide +kernel
theorem dX1_step_119 : decode cX1_step 119 = .ok (.invokevirtual 81, 3) := by decide +kernel
theorem dX1_step_122 : decode cX1_step 122 = .ok (.goto 29, 3) := by decide +kernel
theorem dX1_step_125 : decode cX1_step 125 = .ok (.aload_n 0, 1) := by decide +kernel
theorem dX1_step_126 : decode cX1_step 126 = .ok (.dup, 1) := by decide +kernel
theorem dX1_step_127 : decode cX1_step 127 = .ok (.getfield 21, 3) := by decide +kernel
theorem dX1_step_130 : decode cX1_step 130 = .ok (.iconst 1, 1) := by decide +kernel
theorem dX1_step_131 : decode cX1_step 131 = .ok (.iadd, 1) := by decide +kernel
theorem dX1_step_132 : decode cX1_step 132 = .ok (.putfield 21, 3) := by decide +kernel
theorem dX1_step_135 : decode cX1_step 135 = .ok (.aload_n 0, 1) := by decide +kernel
theorem dX1_step_136 : decode cX1_step 136 = .ok (.iload_n 1, 1) := by decide +kernel
theorem dX1_step_137 : decode cX1_step 137 = .ok (.invokestatic 84, 3) := by decide +kernel
theorem dX1_step_140 : decode cX1_step 140 = .ok (.ifCond .eq 7, 3) := by decide +kernel
theorem dX1_step_143 : decode cX1_step 143 = .ok (.iload_n 1, 1) := by decide +kernel
theorem dX1_step_144 : decode cX1_step 144 = .ok (.goto 4, 3) := by decide +kernel
theorem dX1_step_147 : decode cX1_step 147 = .ok (.iconst 1, 1) := by decide +kernel
theorem dX1_step_148 : decode cX1_step 148 = .ok (.putfield 39, 3) := by decide +kernel
theorem dX1_step_151 : decode cX1_step 151 = .ok (.return_, 1) := by decide +kernel
theorem dX1_stepOverDigits_0 : decode cX1_stepOverDigits 0 = .ok (.aload_n 0, 1) := by decide +kernel
theorem dX1_stepOverDigits_1 : decode cX1_stepOverDigits 1 = .ok (.iconst 0, 1) := by decide +kernel
theorem dX1_stepOverDigits_2 : decode cX1_stepOverDigits 2 = .ok (.putfield 69, 3) := by decide +kernel
theorem dX1_stepOverDigits_5 : decode cX1_stepOverDigits 5 = .ok (.aload_n 0, 1) := by decide +kernel
theorem dX1_stepOverDigits_6 : decode cX1_stepOverDigits 6 = .ok (.getfield 21, 3) := by decide +kernel
theorem dX1_stepOverDigits_9 : decode cX1_stepOverDigits 9 = .ok (.aload_n 0, 1) := by decide +kernel
theorem dX1_stepOverDigits_10 : decode cX1_stepOverDigits 10 = .ok (.getfield 72, 3) := by decide +kernel
theorem dX1_stepOverDigits_13 : decode cX1_stepOverDigits 13 = .ok (.if_icmp .ge 68, 3) := by decide +kernel
theorem dX1_stepOverDigits_16 : decode cX1_stepOverDigits 16 = .ok (.aload_n 0, 1) := by decide +kernel
theorem dX1_stepOverDigits_17 : decode cX1_stepOverDigits 17 = .ok (.getfield 9, 3) := by decide +kernel
theorem dX1_stepOverDigits_20 : decode cX1_stepOverDigits 20 = .ok (.aload_n 0, 1) := by decide +kernel
theorem dX1_stepOverDigits_21 : decode cX1_stepOverDigits 21 = .ok (.getfield 21, 3) := by decide +kernel
theorem dX1_stepOverDigits_24 : decode cX1_stepOverDigits 24 = .ok (.iaload, 1) := by decide +kernel
theorem dX1_stepOverDigits_25 : decode cX1_stepOverDigits 25 = .ok (.bipush 48, 2) := by decide +kernel
theorem dX1_stepOverDigits_27 : decode cX1_stepOverDigits 27 = .ok (.if_icmp .lt 54, 3) := by decide +kernel
theorem dX1_stepOverDigits_30 : decode cX1_stepOverDigits 30 = .ok (.aload_n 0, 1) := by decide +kernel
theorem dX1_stepOverDigits_31 : decode cX1_stepOverDigits 31 = .ok (.getfield 9, 3) := by decide +kernel
theorem dX1_stepOverDigits_34 : decode cX1_stepOverDigits 34 = .ok (.aload_n 0, 1) := by decide +kernel
theorem dX1_stepOverDigits_35 : decode cX1_stepOverDigits 35 = .ok (.getfield 21, 3) := by decide +kernel
theorem dX1_stepOverDigits_38 : decode cX1_stepOverDigits 38 = .ok (.iaload, 1) := by decide +kernel
theorem dX1_stepOverDigits_39 : decode cX1_stepOverDigits 39 = .ok (.bipush 57, 2) := by decide +kernel
theorem dX1_stepOverDigits_41 : decode cX1_stepOverDigits 41 = .ok (.if_icmp .gt 40, 3) := by decide +kernel
theorem dX1_stepOverDigits_44 : decode cX1_stepOverDigits 44 = .ok (.aload_n 0, 1) := by decide +kernel
theorem dX1_stepOverDigits_45 : decode cX1_stepOverDigits 45 = .ok (.aload_n 0, 1) := by decide +kernel
theorem dX1_stepOverDigits_46 : decode cX1_stepOverDigits 46 = .ok (.getfield 69, 3) := by decide +kernel
theorem dX1_stepOverDigits_49 : decode cX1_stepOverDigits 49 = .ok (.bipush 10, 2) := by decide +kernel
theorem dX1_stepOverDigits_51 : decode cX1_stepOverDigits 51 = .ok (.imul, 1) := by decide +kernel
theorem dX1_stepOverDigits_52 : decode cX1_stepOverDigits 52 = .ok (.aload_n 0, 1) := by decide +kernel
theorem dX1_stepOverDigits_53 : decode cX1_stepOverDigits 53 = .ok (.getfield 9, 3) := by decide +kernel
theorem dX1_stepOverDigits_56 : decode cX1_stepOverDigits 56 = .ok (.aload_n 0, 1) := by decide +kernel
theorem dX1_stepOverDigits_57 : decode cX1_stepOverDigits 57 = .ok (.getfield 21, 3) := by decide +kernel
theorem dX1_stepOverDigits_60 : decode cX1_stepOverDigits 60 = .ok (.iaload, 1) := by decide +kernel
theorem dX1_stepOverDigits_61 : decode cX1_stepOverDigits 61 = .ok (.iadd, 1) := by decide +kernel
theorem dX1_stepOverDigits_62 : decode cX1_stepOverDigits 62 = .ok (.bipush 48, 2) := by decide +kernel
theorem dX1_stepOverDigits_64 : decode cX1_stepOverDigits 64 = .ok (.isub, 1) := by decide +kernel
theorem dX1_stepOverDigits_65 : decode cX1_stepOverDigits 65 = .ok (.putfield 69, 3) := by decide +kernel
theorem dX1_stepOverDigits_68 : decode cX1_stepOverDigits 68 = .ok (.aload_n 0, 1) := by decide +kernel
theorem dX1_stepOverDigits_69 : decode cX1_stepOverDigits 69 = .ok (.dup, 1) := by decide +kernel
theorem dX1_stepOverDigits_70 : decode cX1_stepOverDigits 70 = .ok (.getfield 21, 3) := by decide +kernel
theorem dX1_stepOverDigits_73 : decode cX1_stepOverDigits 73 = .ok (.iconst 1, 1) := by decide +kernel
theorem dX1_stepOverDigits_74 : decode cX1_stepOverDigits 74 = .ok (.iadd, 1) := by decide +kernel
theorem dX1_stepOverDigits_75 : decode cX1_stepOverDigits 75 = .ok (.putfield 21, 3) := by decide +kernel
theorem dX1_stepOverDigits_78 : decode cX1_stepOverDigits 78 = .ok (.goto (-73), 3) := by decide +kernel
theorem dX1_stepOverDigits_81 : decode cX1_stepOverDigits 81 = .ok (.aload_n 0, 1) := by decide +kernel
theorem dX1_stepOverDigits_82 : decode cX1_stepOverDigits 82 = .ok (.aload_n 0, 1) := by decide +kernel
theorem dX1_stepOverDigits_83 : decode cX1_stepOverDigits 83 = .ok (.getfield 21, 3) := by decide +kernel
theorem dX1_stepOverDigits_86 : decode cX1_stepOverDigits 86 = .ok (.aload_n 0, 1) := by decide +kernel
theorem dX1_stepOverDigits_87 : decode cX1_stepOverDigits 87 = .ok (.getfield 75, 3) := by decide +kernel
theorem dX1_stepOverDigits_90 : decode cX1_stepOverDigits 90 = .ok (.isub, 1) := by decide +kernel
theorem dX1_stepOverDigits_91 : decode cX1_stepOverDigits 91 = .ok (.iconst 4, 1) := by decide +kernel
theorem dX1_stepOverDigits_92 : decode cX1_stepOverDigits 92 = .ok (.if_icmp .le 7, 3) := by decide +kernel
theorem dX1_stepOverDigits_95 : decode cX1_stepOverDigits 95 = .ok (.iconst 1, 1) := by decide +kernel
theorem dX1_stepOverDigits_96 : decode cX1_stepOverDigits 96 = .ok (.goto 4, 3) := by decide +kernel
theorem dX1_stepOverDigits_99 : decode cX1_stepOverDigits 99 = .ok (.iconst 2, 1) := by decide +kernel
theorem dX1_stepOverDigits_100 : decode cX1_stepOverDigits 100 = .ok (.putfield 39, 3) := by decide +kernel
theorem dX1_stepOverDigits_103 : decode cX1_stepOverDigits 103 = .ok (.return_, 1) := by decide +kernel
theorem dX1_stepOverWord_0 : decode cX1_stepOverWord 0 = .ok (.aload_n 0, 1) := by decide +kernel
theorem dX1_stepOverWord_1 : decode cX1_stepOverWord 1 = .ok (.getfield 21, 3) := by decide +kernel
theorem dX1_stepOverWord_4 : decode cX1_stepOverWord 4 = .ok (.aload_n 0, 1) := by decide +kernel
theorem dX1_stepOverWord_5 : decode cX1_stepOverWord 5 = .ok (.getfield 72, 3) := by decide +kernel
theorem dX1_stepOverWord_8 : decode cX1_stepOverWord 8 = .ok (.if_icmp .ge 44, 3) := by decide +kernel
theorem dX1_stepOverWord_11 : decode cX1_stepOverWord 11 = .ok (.aload_n 0, 1) := by decide +kernel
theorem dX1_stepOverWord_12 : decode cX1_stepOverWord 12 = .ok (.getfield 9, 3) := by decide +kernel
theorem dX1_stepOverWord_15 : decode cX1_stepOverWord 15 = .ok (.aload_n 0, 1) := by decide +kernel
theorem dX1_stepOverWord_16 : decode cX1_stepOverWord 16 = .ok (.getfield 21, 3) := by decide +kernel
theorem dX1_stepOverWord_19 : decode cX1_stepOverWord 19 = .ok (.iaload, 1) := by decide +kernel
theorem dX1_stepOverWord_20 : decode cX1_stepOverWord 20 = .ok (.bipush 97, 2) := by decide +kernel
theorem dX1_stepOverWord_22 : decode cX1_stepOverWord 22 = .ok (.if_icmp .lt 30, 3) := by decide +kernel
theorem dX1_stepOverWord_25 : decode cX1_stepOverWord 25 = .ok (.aload_n 0, 1) := by decide +kernel
theorem dX1_stepOverWord_26 : decode cX1_stepOverWord 26 = .ok (.getfield 9, 3) := by decide +kernel
theorem dX1_stepOverWord_29 : decode cX1_stepOverWord 29 = .ok (.aload_n 0, 1) := by decide +kernel
theorem dX1_stepOverWord_30 : decode cX1_stepOverWord 30 = .ok (.getfield 21, 3) := by decide +kernel
theorem dX1_stepOverWord_33 : decode cX1_stepOverWord 33 = .ok (.iaload, 1) := by decide +kernel
theorem dX1_stepOverWord_34 : decode cX1_stepOverWord 34 = .ok (.bipush 122, 2) := by decide +kernel
theorem dX1_stepOverWord_36 : decode cX1_stepOverWord 36 = .ok (.if_icmp .gt 16, 3) := by decide +kernel
theorem dX1_stepOverWord_39 : decode cX1_stepOverWord 39 = .ok (.aload_n 0, 1) := by decide +kernel
theorem dX1_stepOverWord_40 : decode cX1_stepOverWord 40 = .ok (.dup, 1) := by decide +kernel
theorem dX1_stepOverWord_41 : decode cX1_stepOverWord 41 = .ok (.getfield 21, 3) := by decide +kernel
theorem dX1_stepOverWord_44 : decode cX1_stepOverWord 44 = .ok (.iconst 1, 1) := by decide +kernel
theorem dX1_stepOverWord_45 : decode cX1_stepOverWord 45 = .ok (.iadd, 1) := by decide +kernel
theorem dX1_stepOverWord_46 : decode cX1_stepOverWord 46 = .ok (.putfield 21, 3) := by decide +kernel
theorem dX1_stepOverWord_49 : decode cX1_stepOverWord 49 = .ok (.goto (-49), 3) := by decide +kernel
theorem dX1_stepOverWord_52 : decode cX1_stepOverWord 52 = .ok (.aload_n 0, 1) := by decide +kernel
theorem dX1_stepOverWord_53 : decode cX1_stepOverWord 53 = .ok (.iconst 1, 1) := by decide +kernel
theorem dX1_stepOverWord_54 : decode cX1_stepOverWord 54 = .ok (.putfield 39, 3) := by decide +kernel
theorem dX1_stepOverWord_57 : decode cX1_stepOverWord 57 = .ok (.iconst 0, 1) := by decide +kernel
theorem dX1_stepOverWord_58 : decode cX1_stepOverWord 58 = .ok (.istore_n 1, 1) := by decide +kernel
theorem dX1_stepOverWord_59 : decode cX1_stepOverWord 59 = .ok (.iload_n 1, 1) := by decide +kernel
theorem dX1_stepOverWord_60 : decode cX1_stepOverWord 60 = .ok (.bipush 12, 2) := by decide +kernel
theorem dX1_stepOverWord_62 : decode cX1_stepOverWord 62 = .ok (.if_icmp .ge 45, 3) := by decide +kernel
theorem dX1_stepOverWord_65 : decode cX1_stepOverWord 65 = .ok (.aload_n 0, 1) := by decide +kernel
theorem dX1_stepOverWord_66 : decode cX1_stepOverWord 66 = .ok (.iload_n 1, 1) := by decide +kernel
theorem dX1_stepOverWord_67 : decode cX1_stepOverWord 67 = .ok (.invokestatic 87, 3) := by decide +kernel
theorem dX1_stepOverWord_70 : decode cX1_stepOverWord 70 = .ok (.invokevirtual 91, 3) := by decide +kernel
theorem dX1_stepOverWord_73 : decode cX1_stepOverWord 73 = .ok (.ifCond .eq 28, 3) := by decide +kernel
theorem dX1_stepOverWord_76 : decode cX1_stepOverWord 76 = .ok (.aload_n 0, 1) := by decide +kernel
theorem dX1_stepOverWord_77 : decode cX1_stepOverWord 77 = .ok (.iload_n 1, 1) := by decide +kernel
theorem dX1_stepOverWord_78 : decode cX1_stepOverWord 78 = .ok (.bipush 6, 2) := by decide +kernel
theorem dX1_stepOverWord_80 : decode cX1_stepOverWord 80 = .ok (.if_icmp .ge 7, 3) := by decide +kernel
theorem dX1_stepOverWord_83 : decode cX1_stepOverWord 83 = .ok (.iconst 3, 1) := by decide +kernel
theorem dX1_stepOverWord_84 : decode cX1_stepOverWord 84 = .ok (.goto 9, 3) := by decide +kernel
theorem dX1_stepOverWord_87 : decode cX1_stepOverWord 87 = .ok (.iconst 4, 1) := by decide +kernel
theorem dX1_stepOverWord_88 : decode cX1_stepOverWord 88 = .ok (.iload_n 1, 1) := by decide +kernel
theorem dX1_stepOverWord_89 : decode cX1_stepOverWord 89 = .ok (.iadd, 1) := by decide +kernel
theorem dX1_stepOverWord_90 : decode cX1_stepOverWord 90 = .ok (.bipush 6, 2) := by decide +kernel
theorem dX1_stepOverWord_92 : decode cX1_stepOverWord 92 = .ok (.isub, 1) := by decide +kernel
theorem dX1_stepOverWord_93 : decode cX1_stepOverWord 93 = .ok (.putfield 39, 3) := by decide +kernel
theorem dX1_stepOverWord_96 : decode cX1_stepOverWord 96 = .ok (.aload_n 0, 1) := by decide +kernel
theorem dX1_stepOverWord_97 : decode cX1_stepOverWord 97 = .ok (.iload_n 1, 1) := by decide +kernel
theorem dX1_stepOverWord_98 : decode cX1_stepOverWord 98 = .ok (.putfield 69, 3) := by decide +kernel
theorem dX1_stepOverWord_101 : decode cX1_stepOverWord 101 = .ok (.iinc 1 1, 3) := by decide +kernel
theorem dX1_stepOverWord_104 : decode cX1_stepOverWord 104 = .ok (.goto (-45), 3) := by decide +kernel
theorem dX1_stepOverWord_107 : decode cX1_stepOverWord 107 = .ok (.return_, 1) := by decide +kernel
theorem dX1_whatWasRead_0 : decode cX1_whatWasRead 0 = .ok (.new 42, 3) := by decide +kernel
theorem dX1_whatWasRead_3 : decode cX1_whatWasRead 3 = .ok (.dup, 1) := by decide +kernel
theorem dX1_whatWasRead_4 : decode cX1_whatWasRead 4 = .ok (.aload_n 0, 1) := by decide +kernel
theorem dX1_whatWasRead_5 : decode cX1_whatWasRead 5 = .ok (.getfield 15, 3) := by decide +kernel
theorem dX1_whatWasRead_8 : decode cX1_whatWasRead 8 = .ok (.aload_n 0, 1) := by decide +kernel
theorem dX1_whatWasRead_9 : decode cX1_whatWasRead 9 = .ok (.getfield 25, 3) := by decide +kernel
theorem dX1_whatWasRead_12 : decode cX1_whatWasRead 12 = .ok (.invokestatic 44, 3) := by decide +kernel
theorem dX1_whatWasRead_15 : decode cX1_whatWasRead 15 = .ok (.aload_n 0, 1) := by decide +kernel
theorem dX1_whatWasRead_16 : decode cX1_whatWasRead 16 = .ok (.getfield 18, 3) := by decide +kernel
theorem dX1_whatWasRead_19 : decode cX1_whatWasRead 19 = .ok (.iconst 3, 1) := by decide +kernel
theorem dX1_whatWasRead_20 : decode cX1_whatWasRead 20 = .ok (.invokestatic 44, 3) := by decide +kernel
theorem dX1_whatWasRead_23 : decode cX1_whatWasRead 23 = .ok (.invokespecial 50, 3) := by decide +kernel
theorem dX1_whatWasRead_26 : decode cX1_whatWasRead 26 = .ok (.areturn, 1) := by decide +kernel
theorem dX2_find_0 : decode cX2_find 0 = .ok (.aload_n 0, 1) := by decide +kernel
theorem dX2_find_1 : decode cX2_find 1 = .ok (.getfield 23, 3) := by decide +kernel
theorem dX2_find_4 : decode cX2_find 4 = .ok (.ifCond .eq 4, 3) := by decide +kernel
theorem dX2_find_7 : decode cX2_find 7 = .ok (.return_, 1) := by decide +kernel
theorem dX2_find_8 : decode cX2_find 8 = .ok (.aload_n 0, 1) := by decide +kernel
theorem dX2_find_9 : decode cX2_find 9 = .ok (.getfield 19, 3) := by decide +kernel
theorem dX2_find_12 : decode cX2_find 12 = .ok (.invokevirtual 27, 3) := by decide +kernel
theorem dX2_find_15 : decode cX2_find 15 = .ok (.aload_n 0, 1) := by decide +kernel
theorem dX2_find_16 : decode cX2_find 16 = .ok (.aload_n 0, 1) := by decide +kernel
theorem dX2_find_17 : decode cX2_find 17 = .ok (.getfield 19, 3) := by decide +kernel
theorem dX2_find_20 : decode cX2_find 20 = .ok (.invokevirtual 32, 3) := by decide +kernel
theorem dX2_find_23 : decode cX2_find 23 = .ok (.iconst 1, 1) := by decide +kernel
theorem dX2_find_24 : decode cX2_find 24 = .ok (.iadd, 1) := by decide +kernel
theorem dX2_find_25 : decode cX2_find 25 = .ok (.putfield 36, 3) := by decide +kernel
theorem dX2_find_28 : decode cX2_find 28 = .ok (.aload_n 0, 1) := by decide +kernel
theorem dX2_find_29 : decode cX2_find 29 = .ok (.iconst 0, 1) := by decide +kernel
theorem dX2_find_30 : decode cX2_find 30 = .ok (.iconst 0, 1) := by decide +kernel
theorem dX2_find_31 : decode cX2_find 31 = .ok (.invokevirtual 40, 3) := by decide +kernel
theorem dX2_find_34 : decode cX2_find 34 = .ok (.aload_n 0, 1) := by decide +kernel
theorem dX2_find_35 : decode cX2_find 35 = .ok (.iconst 1, 1) := by decide +kernel
theorem dX2_find_36 : decode cX2_find 36 = .ok (.putfield 23, 3) := by decide +kernel
theorem dX2_find_39 : decode cX2_find 39 = .ok (.return_, 1) := by decide +kernel
theorem dX2_init_0 : decode cX2_init 0 = .ok (.aload_n 0, 1) := by decide +kernel
theorem dX2_init_1 : decode cX2_init 1 = .ok (.invokespecial 3, 3) := by decide +kernel
theorem dX2_init_4 : decode cX2_init 4 = .ok (.aload_n 0, 1) := by decide +kernel
theorem dX2_init_5 : decode cX2_init 5 = .ok (.iconst 5, 1) := by decide +kernel
theorem dX2_init_6 : decode cX2_init 6 = .ok (.newarray .int, 2) := by decide +kernel
theorem dX2_init_8 : decode cX2_init 8 = .ok (.putfield 9, 3) := by decide +kernel
theorem dX2_init_11 : decode cX2_init 11 = .ok (.aload_n 0, 1) := by decide +kernel
theorem dX2_init_12 : decode cX2_init 12 = .ok (.aload_n 1, 1) := by decide +kernel
theorem dX2_init_13 : decode cX2_init 13 = .ok (.putfield 15, 3) := by decide +kernel
theorem dX2_init_16 : decode cX2_init 16 = .ok (.aload_n 0, 1) := by decide +kernel
theorem dX2_init_17 : decode cX2_init 17 = .ok (.aload_n 2, 1) := by decide +kernel
theorem dX2_init_18 : decode cX2_init 18 = .ok (.putfield 19, 3) := by decide +kernel
theorem dX2_init_21 : decode cX2_init 21 = .ok (.return_, 1) := by decide +kernel
theorem dX2_putFrom_0 : decode cX2_putFrom 0 = .ok (.iload_n 2, 1) := by decide +kernel
theorem dX2_putFrom_1 : decode cX2_putFrom 1 = .ok (.aload_n 0, 1) := by decide +kernel
theorem dX2_putFrom_2 : decode cX2_putFrom 2 = .ok (.getfield 36, 3) := by decide +kernel
theorem dX2_putFrom_5 : decode cX2_putFrom 5 = .ok (.if_icmp .lt 4, 3) := by decide +kernel
theorem dX2_putFrom_8 : decode cX2_putFrom 8 = .ok (.return_, 1) := by decide +kernel
theorem dX2_putFrom_9 : decode cX2_putFrom 9 = .ok (.iload_n 1, 1) := by decide +kernel
theorem dX2_putFrom_10 : decode cX2_putFrom 10 = .ok (.aload_n 0, 1) := by decide +kernel
theorem dX2_putFrom_11 : decode cX2_putFrom 11 = .ok (.getfield 15, 3) := by decide +kernel
theorem dX2_putFrom_14 : decode cX2_putFrom 14 = .ok (.getfield 44, 3) := by decide +kernel
theorem dX2_putFrom_17 : decode cX2_putFrom 17 = .ok (.if_icmp .ge 8, 3) := by decide +kernel
theorem dX2_putFrom_20 : decode cX2_putFrom 20 = .ok (.iload_n 1, 1) := by decide +kernel
theorem dX2_putFrom_21 : decode cX2_putFrom 21 = .ok (.iconst 5, 1) := by decide +kernel
theorem dX2_putFrom_22 : decode cX2_putFrom 22 = .ok (.if_icmp .lt 53, 3) := by decide +kernel
theorem dX2_putFrom_25 : decode cX2_putFrom 25 = .ok (.iload_n 2, 1) := by decide +kernel
theorem dX2_putFrom_26 : decode cX2_putFrom 26 = .ok (.aload_n 0, 1) := by decide +kernel
theorem dX2_putFrom_27 : decode cX2_putFrom 27 = .ok (.getfield 19, 3) := by decide +kernel
theorem dX2_putFrom_30 : decode cX2_putFrom 30 = .ok (.aload_n 0, 1) := by decide +kernel
theorem dX2_putFrom_31 : decode cX2_putFrom 31 = .ok (.getfield 36, 3) := by decide +kernel
theorem dX2_putFrom_34 : decode cX2_putFrom 34 = .ok (.iload_n 2, 1) := by decide +kernel
theorem dX2_putFrom_35 : decode cX2_putFrom 35 = .ok (.isub, 1) := by decide +kernel
theorem dX2_putFrom_36 : decode cX2_putFrom 36 = .ok (.invokevirtual 49, 3) := by decide +kernel
theorem dX2_putFrom_39 : decode cX2_putFrom 39 = .ok (.iadd, 1) := by decide +kernel
theorem dX2_putFrom_40 : decode cX2_putFrom 40 = .ok (.istore_n 3, 1) := by decide +kernel
theorem dX2_putFrom_41 : decode cX2_putFrom 41 = .ok (.iload_n 3, 1) := by decide +kernel
theorem dX2_putFrom_42 : decode cX2_putFrom 42 = .ok (.aload_n 0, 1) := by decide +kernel
theorem dX2_putFrom_43 : decode cX2_putFrom 43 = .ok (.getfield 36, 3) := by decide +kernel
theorem dX2_putFrom_46 : decode cX2_putFrom 46 = .ok (.if_icmp .ge 28, 3) := by decide +kernel
theorem dX2_putFrom_49 : decode cX2_putFrom 49 = .ok (.aload_n 0, 1) := by decide +kernel
theorem dX2_putFrom_50 : decode cX2_putFrom 50 = .ok (.iload_n 3, 1) := by decide +kernel
theorem dX2_putFrom_51 : decode cX2_putFrom 51 = .ok (.putfield 36, 3) := by decide +kernel
theorem dX2_putFrom_54 : decode cX2_putFrom 54 = .ok (.aload_n 0, 1) := by decide +kernel
theorem dX2_putFrom_55 : decode cX2_putFrom 55 = .ok (.getfield 19, 3) := by decide +kernel
theorem dX2_putFrom_58 : decode cX2_putFrom 58 = .ok (.getfield 53, 3) := by decide +kernel
theorem dX2_putFrom_61 : decode cX2_putFrom 61 = .ok (.getfield 56, 3) := by decide +kernel
theorem dX2_putFrom_64 : decode cX2_putFrom 64 = .ok (.iconst 0, 1) := by decide +kernel
theorem dX2_putFrom_65 : decode cX2_putFrom 65 = .ok (.aload_n 0, 1) := by decide +kernel
theorem dX2_putFrom_66 : decode cX2_putFrom 66 = .ok (.getfield 9, 3) := by decide +kernel
theorem dX2_putFrom_69 : decode cX2_putFrom 69 = .ok (.iconst 0, 1) := by decide +kernel
theorem dX2_putFrom_70 : decode cX2_putFrom 70 = .ok (.iconst 5, 1) := by decide +kernel
theorem dX2_putFrom_71 : decode cX2_putFrom 71 = .ok (.invokestatic 59, 3) := by decide +kernel
theorem dX2_putFrom_74 : decode cX2_putFrom 74 = .ok (.return_, 1) := by decide +kernel
theorem dX2_putFrom_75 : decode cX2_putFrom 75 = .ok (.iconst 0, 1) := by decide +kernel
theorem dX2_putFrom_76 : decode cX2_putFrom 76 = .ok (.istore_n 3, 1) := by decide +kernel
theorem dX2_putFrom_77 : decode cX2_putFrom 77 = .ok (.iload_n 3, 1) := by decide +kernel
theorem dX2_putFrom_78 : decode cX2_putFrom 78 = .ok (.bipush 6, 2) := by decide +kernel
theorem dX2_putFrom_80 : decode cX2_putFrom 80 = .ok (.if_icmp .ge 79, 3) := by decide +kernel
theorem dX2_putFrom_83 : decode cX2_putFrom 83 = .ok (.aload_n 0, 1) := by decide +kernel
theorem dX2_putFrom_84 : decode cX2_putFrom 84 = .ok (.getfield 19, 3) := by decide +kernel
theorem dX2_putFrom_87 : decode cX2_putFrom 87 = .ok (.getfield 53, 3) := by decide +kernel
theorem dX2_putFrom_90 : decode cX2_putFrom 90 = .ok (.getfield 56, 3) := by decide +kernel
theorem dX2_putFrom_93 : decode cX2_putFrom 93 = .ok (.iload_n 1, 1) := by decide +kernel
theorem dX2_putFrom_94 : decode cX2_putFrom 94 = .ok (.iload_n 3, 1) := by decide +kernel
theorem dX2_putFrom_95 : decode cX2_putFrom 95 = .ok (.iastore, 1) := by decide +kernel
theorem dX2_putFrom_96 : decode cX2_putFrom 96 = .ok (.aload_n 0, 1) := by decide +kernel
theorem dX2_putFrom_97 : decode cX2_putFrom 97 = .ok (.getfield 19, 3) := by decide +kernel
theorem dX2_putFrom_100 : decode cX2_putFrom 100 = .ok (.getfield 53, 3) := by decide +kernel
theorem dX2_putFrom_103 : decode cX2_putFrom 103 = .ok (.iload_n 1, 1) := by decide +kernel
theorem dX2_putFrom_104 : decode cX2_putFrom 104 = .ok (.iload_n 1, 1) := by decide +kernel
theorem dX2_putFrom_105 : decode cX2_putFrom 105 = .ok (.invokevirtual 65, 3) := by decide +kernel
theorem dX2_putFrom_108 : decode cX2_putFrom 108 = .ok (.ifCond .eq 45, 3) := by decide +kernel
theorem dX2_putFrom_111 : decode cX2_putFrom 111 = .ok (.aload_n 0, 1) := by decide +kernel
theorem dX2_putFrom_112 : decode cX2_putFrom 112 = .ok (.getfield 19, 3) := by decide +kernel
theorem dX2_putFrom_115 : decode cX2_putFrom 115 = .ok (.iload_n 1, 1) := by decide +kernel
theorem dX2_putFrom_116 : decode cX2_putFrom 116 = .ok (.invokevirtual 69, 3) := by decide +kernel
theorem dX2_putFrom_119 : decode cX2_putFrom 119 = .ok (.aload_n 0, 1) := by decide +kernel
theorem dX2_putFrom_120 : decode cX2_putFrom 120 = .ok (.iload_n 1, 1) := by decide +kernel
theorem dX2_putFrom_121 : decode cX2_putFrom 121 = .ok (.iconst 1, 1) := by decide +kernel
theorem dX2_putFrom_122 : decode cX2_putFrom 122 = .ok (.iadd, 1) := by decide +kernel
theorem dX2_putFrom_123 : decode cX2_putFrom 123 = .ok (.iload_n 2, 1) := by decide +kernel
theorem dX2_putFrom_124 : decode cX2_putFrom 124 = .ok (.iload_n 3, 1) := by decide +kernel
theorem dX2_putFrom_125 : decode cX2_putFrom 125 = .ok (.aload_n 0, 1) := by decide +kernel
theorem dX2_putFrom_126 : decode cX2_putFrom 126 = .ok (.getfield 15, 3) := by decide +kernel
theorem dX2_putFrom_129 : decode cX2_putFrom 129 = .ok (.getfield 56, 3) := by decide +kernel
theorem dX2_putFrom_132 : decode cX2_putFrom 132 = .ok (.iload_n 1, 1) := by decide +kernel
theorem dX2_putFrom_133 : decode cX2_putFrom 133 = .ok (.iaload, 1) := by decide +kernel
theorem dX2_putFrom_134 : decode cX2_putFrom 134 = .ok (.if_icmp .ne 7, 3) := by decide +kernel
theorem dX2_putFrom_137 : decode cX2_putFrom 137 = .ok (.iconst 0, 1) := by decide +kernel
theorem dX2_putFrom_138 : decode cX2_putFrom 138 = .ok (.goto 11, 3) := by decide +kernel
theorem dX2_putFrom_141 : decode cX2_putFrom 141 = .ok (.aload_n 0, 1) := by decide +kernel
theorem dX2_putFrom_142 : decode cX2_putFrom 142 = .ok (.getfield 19, 3) := by decide +kernel
theorem dX2_putFrom_145 : decode cX2_putFrom 145 = .ok (.iload_n 1, 1) := by decide +kernel
theorem dX2_putFrom_146 : decode cX2_putFrom 146 = .ok (.invokevirtual 73, 3) := by decide +kernel
theorem dX2_putFrom_149 : decode cX2_putFrom 149 = .ok (.iadd, 1) := by decide +kernel
theorem dX2_putFrom_150 : decode cX2_putFrom 150 = .ok (.invokevirtual 40, 3) := by decide +kernel
theorem dX2_putFrom_153 : decode cX2_putFrom 153 = .ok (.iinc 3 1, 3) := by decide +kernel
theorem dX2_putFrom_156 : decode cX2_putFrom 156 = .ok (.goto (-79), 3) := by decide +kernel
theorem dX2_putFrom_159 : decode cX2_putFrom 159 = .ok (.return_, 1) := by decide +kernel
theorem dX3_become_0 : decode cX3_become 0 = .ok (.aload_n 0, 1) := by decide +kernel
theorem dX3_become_1 : decode cX3_become 1 = .ok (.iload_n 1, 1) := by decide +kernel
theorem dX3_become_2 : decode cX3_become 2 = .ok (.putfield 15, 3) := by decide +kernel
theorem dX3_become_5 : decode cX3_become 5 = .ok (.aload_n 0, 1) := by decide +kernel
theorem dX3_become_6 : decode cX3_become 6 = .ok (.iload_n 2, 1) := by decide +kernel
theorem dX3_become_7 : decode cX3_become 7 = .ok (.putfield 19, 3) := by decide +kernel
theorem dX3_become_10 : decode cX3_become 10 = .ok (.aload_n 0, 1) := by decide +kernel
theorem dX3_become_11 : decode cX3_become 11 = .ok (.getfield 9, 3) := by decide +kernel
theorem dX3_become_14 : decode cX3_become 14 = .ok (.iconst 0, 1) := by decide +kernel
theorem dX3_become_15 : decode cX3_become 15 = .ok (.invokestatic 22, 3) := by decide +kernel
theorem dX3_become_18 : decode cX3_become 18 = .ok (.return_, 1) := by decide +kernel
theorem dX3_holds_0 : decode cX3_holds 0 = .ok (.iload_n 1, 1) := by decide +kernel
theorem dX3_holds_1 : decode cX3_holds 1 = .ok (.ifCond .lt 29, 3) := by decide +kernel
theorem dX3_holds_4 : decode cX3_holds 4 = .ok (.iload_n 2, 1) := by decide +kernel
theorem dX3_holds_5 : decode cX3_holds 5 = .ok (.ifCond .lt 25, 3) := by decide +kernel
theorem dX3_holds_8 : decode cX3_holds 8 = .ok (.iload_n 1, 1) := by decide +kernel
theorem dX3_holds_9 : decode cX3_holds 9 = .ok (.aload_n 0, 1) := by decide +kernel
theorem dX3_holds_10 : decode cX3_holds 10 = .ok (.getfield 19, 3) := by decide +kernel
theorem dX3_holds_13 : decode cX3_holds 13 = .ok (.if_icmp .gt 17, 3) := by decide +kernel
theorem dX3_holds_16 : decode cX3_holds 16 = .ok (.iload_n 2, 1) := by decide +kernel
theorem dX3_holds_17 : decode cX3_holds 17 = .ok (.aload_n 0, 1) := by decide +kernel
theorem dX3_holds_18 : decode cX3_holds 18 = .ok (.getfield 19, 3) := by decide +kernel
theorem dX3_holds_21 : decode cX3_holds 21 = .ok (.iload_n 1, 1) := by decide +kernel
theorem dX3_holds_22 : decode cX3_holds 22 = .ok (.isub, 1) := by decide +kernel
theorem dX3_holds_23 : decode cX3_holds 23 = .ok (.if_icmp .gt 7, 3) := by decide +kernel
theorem dX3_holds_26 : decode cX3_holds 26 = .ok (.iconst 1, 1) := by decide +kernel
theorem dX3_holds_27 : decode cX3_holds 27 = .ok (.goto 4, 3) := by decide +kernel
theorem dX3_holds_30 : decode cX3_holds 30 = .ok (.iconst 0, 1) := by decide +kernel
theorem dX3_holds_31 : decode cX3_holds 31 = .ok (.ireturn, 1) := by decide +kernel
theorem dX3_init_0 : decode cX3_init 0 = .ok (.aload_n 0, 1) := by decide +kernel
theorem dX3_init_1 : decode cX3_init 1 = .ok (.invokespecial 3, 3) := by decide +kernel
theorem dX3_init_4 : decode cX3_init 4 = .ok (.aload_n 0, 1) := by decide +kernel
theorem dX3_init_5 : decode cX3_init 5 = .ok (.bipush 40, 2) := by decide +kernel
theorem dX3_init_7 : decode cX3_init 7 = .ok (.newarray .int, 2) := by decide +kernel
theorem dX3_init_9 : decode cX3_init 9 = .ok (.putfield 9, 3) := by decide +kernel
theorem dX3_init_12 : decode cX3_init 12 = .ok (.aload_n 0, 1) := by decide +kernel
theorem dX3_init_13 : decode cX3_init 13 = .ok (.iconst (-1), 1) := by decide +kernel
theorem dX3_init_14 : decode cX3_init 14 = .ok (.putfield 15, 3) := by decide +kernel
theorem dX3_init_17 : decode cX3_init 17 = .ok (.return_, 1) := by decide +kernel
theorem dX3_isMissing_0 : decode cX3_isMissing 0 = .ok (.aload_n 0, 1) := by decide +kernel
theorem dX3_isMissing_1 : decode cX3_isMissing 1 = .ok (.getfield 15, 3) := by decide +kernel
theorem dX3_isMissing_4 : decode cX3_isMissing 4 = .ok (.iconst (-1), 1) := by decide +kernel
theorem dX3_isMissing_5 : decode cX3_isMissing 5 = .ok (.if_icmp .ne 7, 3) := by decide +kernel
theorem dX3_isMissing_8 : decode cX3_isMissing 8 = .ok (.iconst 1, 1) := by decide +kernel
theorem dX3_isMissing_9 : decode cX3_isMissing 9 = .ok (.goto 4, 3) := by decide +kernel
theorem dX3_isMissing_12 : decode cX3_isMissing 12 = .ok (.iconst 0, 1) := by decide +kernel
theorem dX3_isMissing_13 : decode cX3_isMissing 13 = .ok (.ireturn, 1) := by decide +kernel
theorem dX3_narrowed_0 : decode cX3_narrowed 0 = .ok (.aload_n 0, 1) := by decide +kernel
theorem dX3_narrowed_1 : decode cX3_narrowed 1 = .ok (.getfield 15, 3) := by decide +kernel
theorem dX3_narrowed_4 : decode cX3_narrowed 4 = .ok (.ifCond .ne 6, 3) := by decide +kernel
theorem dX3_narrowed_7 : decode cX3_narrowed 7 = .ok (.iload_n 1, 1) := by decide +kernel
theorem dX3_narrowed_8 : decode cX3_narrowed 8 = .ok (.i2b, 1) := by decide +kernel
theorem dX3_narrowed_9 : decode cX3_narrowed 9 = .ok (.ireturn, 1) := by decide +kernel
theorem dX3_narrowed_10 : decode cX3_narrowed 10 = .ok (.aload_n 0, 1) := by decide +kernel
theorem dX3_narrowed_11 : decode cX3_narrowed 11 = .ok (.getfield 15, 3) := by decide +kernel
theorem dX3_narrowed_14 : decode cX3_narrowed 14 = .ok (.iconst 1, 1) := by decide +kernel
theorem dX3_narrowed_15 : decode cX3_narrowed 15 = .ok (.if_icmp .ne 8, 3) := by decide +kernel
theorem dX3_narrowed_18 : decode cX3_narrowed 18 = .ok (.iload_n 1, 1) := by decide +kernel
theorem dX3_narrowed_19 : decode cX3_narrowed 19 = .ok (.i2s, 1) := by decide +kernel
theorem dX3_narrowed_20 : decode cX3_narrowed 20 = .ok (.goto 4, 3) := by decide +kernel
theorem dX3_narrowed_23 : decode cX3_narrowed 23 = .ok (.iload_n 1, 1) := by decide +kernel
theorem dX3_narrowed_24 : decode cX3_narrowed 24 = .ok (.ireturn, 1) := by decide +kernel
theorem dX4_init_0 : decode cX4_init 0 = .ok (.aload_n 0, 1) := by decide +kernel
theorem dX4_init_1 : decode cX4_init 1 = .ok (.invokespecial 3, 3) := by decide +kernel
theorem dX4_init_4 : decode cX4_init 4 = .ok (.aload_n 0, 1) := by decide +kernel
theorem dX4_init_5 : decode cX4_init 5 = .ok (.aload_n 1, 1) := by decide +kernel
theorem dX4_init_6 : decode cX4_init 6 = .ok (.putfield 9, 3) := by decide +kernel
theorem dX4_init_9 : decode cX4_init 9 = .ok (.aload_n 0, 1) := by decide +kernel
theorem dX4_init_10 : decode cX4_init 10 = .ok (.aload_n 2, 1) := by decide +kernel
theorem dX4_init_11 : decode cX4_init 11 = .ok (.putfield 15, 3) := by decide +kernel
theorem dX4_init_14 : decode cX4_init 14 = .ok (.return_, 1) := by decide +kernel
theorem dX4_worth_0 : decode cX4_worth 0 = .ok (.iconst (-1), 1) := by decide +kernel
theorem dX4_worth_1 : decode cX4_worth 1 = .ok (.istore 4, 2) := by decide +kernel
theorem dX4_worth_3 : decode cX4_worth 3 = .ok (.iload_n 1, 1) := by decide +kernel
theorem dX4_worth_4 : decode cX4_worth 4 = .ok (.ifCond .ne 7, 3) := by decide +kernel
theorem dX4_worth_7 : decode cX4_worth 7 = .ok (.iconst 0, 1) := by decide +kernel
theorem dX4_worth_8 : decode cX4_worth 8 = .ok (.goto 11, 3) := by decide +kernel
theorem dX4_worth_11 : decode cX4_worth 11 = .ok (.aload_n 0, 1) := by decide +kernel
theorem dX4_worth_12 : decode cX4_worth 12 = .ok (.getfield 15, 3) := by decide +kernel
theorem dX4_worth_15 : decode cX4_worth 15 = .ok (.iload_n 1, 1) := by decide +kernel
theorem dX4_worth_16 : decode cX4_worth 16 = .ok (.iconst 1, 1) := by decide +kernel
theorem dX4_worth_17 : decode cX4_worth 17 = .ok (.isub, 1) := by decide +kernel
theorem dX4_worth_18 : decode cX4_worth 18 = .ok (.iaload, 1) := by decide +kernel
theorem dX4_worth_19 : decode cX4_worth 19 = .ok (.istore 5, 2) := by decide +kernel
theorem dX4_worth_21 : decode cX4_worth 21 = .ok (.iload 5, 2) := by decide +kernel
theorem dX4_worth_23 : decode cX4_worth 23 = .ok (.aload_n 0, 1) := by decide +kernel
theorem dX4_worth_24 : decode cX4_worth 24 = .ok (.getfield 15, 3) := by decide +kernel
theorem dX4_worth_27 : decode cX4_worth 27 = .ok (.iload_n 1, 1) := by decide +kernel
theorem dX4_worth_28 : decode cX4_worth 28 = .ok (.iaload, 1) := by decide +kernel
theorem dX4_worth_29 : decode cX4_worth 29 = .ok (.if_icmp .ge 290, 3) := by decide +kernel
theorem dX4_worth_32 : decode cX4_worth 32 = .ok (.aload_n 0, 1) := by decide +kernel
theorem dX4_worth_33 : decode cX4_worth 33 = .ok (.getfield 9, 3) := by decide +kernel
theorem dX4_worth_36 : decode cX4_worth 36 = .ok (.iload 5, 2) := by decide +kernel
theorem dX4_worth_38 : decode cX4_worth 38 = .ok (.iaload, 1) := by decide +kernel
theorem dX4_worth_39 : decode cX4_worth 39 = .ok (.istore 6, 2) := by decide +kernel
theorem dX4_worth_41 : decode cX4_worth 41 = .ok (.iload 6, 2) := by decide +kernel
theorem dX4_worth_43 : decode cX4_worth 43 = .ok (.bipush (-7), 2) := by decide +kernel
theorem dX4_worth_45 : decode cX4_worth 45 = .ok (.if_icmp .le 9, 3) := by decide +kernel
theorem dX4_worth_48 : decode cX4_worth 48 = .ok (.iinc 4 1, 3) := by decide +kernel
theorem dX4_worth_51 : decode cX4_worth 51 = .ok (.goto 13, 3) := by decide +kernel
theorem dX4_worth_54 : decode cX4_worth 54 = .ok (.iload 6, 2) := by decide +kernel
theorem dX4_worth_56 : decode cX4_worth 56 = .ok (.bipush (-14), 2) := by decide +kernel
theorem dX4_worth_58 : decode cX4_worth 58 = .ok (.if_icmp .le 6, 3) := by decide +kernel
theorem dX4_worth_61 : decode cX4_worth 61 = .ok (.iinc 4 (-1), 3) := by decide +kernel
theorem dX4_worth_64 : decode cX4_worth 64 = .ok (.iload 4, 2) := by decide +kernel
theorem dX4_worth_66 : decode cX4_worth 66 = .ok (.ifCond .lt 12, 3) := by decide +kernel
theorem dX4_worth_69 : decode cX4_worth 69 = .ok (.iload 4, 2) := by decide +kernel
theorem dX4_worth_71 : decode cX4_worth 71 = .ok (.iconst 1, 1) := by decide +kernel
theorem dX4_worth_72 : decode cX4_worth 72 = .ok (.iadd, 1) := by decide +kernel
theorem dX4_worth_73 : decode cX4_worth 73 = .ok (.aload_n 3, 1) := by decide +kernel
theorem dX4_worth_74 : decode cX4_worth 74 = .ok (.arraylength, 1) := by decide +kernel
theorem dX4_worth_75 : decode cX4_worth 75 = .ok (.if_icmp .lt 5, 3) := by decide +kernel
theorem dX4_worth_78 : decode cX4_worth 78 = .ok (.iconst 0, 1) := by decide +kernel
theorem dX4_worth_79 : decode cX4_worth 79 = .ok (.ireturn, 1) := by decide +kernel
theorem dX4_worth_80 : decode cX4_worth 80 = .ok (.aload_n 3, 1) := by decide +kernel
theorem dX4_worth_81 : decode cX4_worth 81 = .ok (.iload 4, 2) := by decide +kernel
theorem dX4_worth_83 : decode cX4_worth 83 = .ok (.iaload, 1) := by decide +kernel
theorem dX4_worth_84 : decode cX4_worth 84 = .ok (.istore 7, 2) := by decide +kernel
theorem dX4_worth_86 : decode cX4_worth 86 = .ok (.aload_n 3, 1) := by decide +kernel
theorem dX4_worth_87 : decode cX4_worth 87 = .ok (.iload 4, 2) := by decide +kernel
theorem dX4_worth_89 : decode cX4_worth 89 = .ok (.iconst 1, 1) := by decide +kernel
theorem dX4_worth_90 : decode cX4_worth 90 = .ok (.iadd, 1) := by decide +kernel
theorem dX4_worth_91 : decode cX4_worth 91 = .ok (.iaload, 1) := by decide +kernel
theorem dX4_worth_92 : decode cX4_worth 92 = .ok (.istore 8, 2) := by decide +kernel
theorem dX4_worth_94 : decode cX4_worth 94 = .ok (.iload 6, 2) := by decide +kernel
theorem dX4_worth_96 : decode cX4_worth 96 = .ok (.tableswitch 197 (-15) (-7) #[187, 170, 158, 146, 134, 115, 96, 74, 52], 52) := by decide +kernel
theorem dX4_worth_148 : decode cX4_worth 148 = .ok (.aload_n 3, 1) := by decide +kernel
theorem dX4_worth_149 : decode cX4_worth 149 = .ok (.iload 4, 2) := by decide +kernel
theorem dX4_worth_151 : decode cX4_worth 151 = .ok (.iload 7, 2) := by decide +kernel
theorem dX4_worth_153 : decode cX4_worth 153 = .ok (.ifCond .ne 8, 3) := by decide +kernel
theorem dX4_worth_156 : decode cX4_worth 156 = .ok (.iload 8, 2) := by decide +kernel
theorem dX4_worth_158 : decode cX4_worth 158 = .ok (.ifCond .eq 7, 3) := by decide +kernel
theorem dX4_worth_161 : decode cX4_worth 161 = .ok (.iconst 1, 1) := by decide +kernel
theorem dX4_worth_162 : decode cX4_worth 162 = .ok (.goto 4, 3) := by decide +kernel
theorem dX4_worth_165 : decode cX4_worth 165 = .ok (.iconst 0, 1) := by decide +kernel
theorem dX4_worth_166 : decode cX4_worth 166 = .ok (.iastore, 1) := by decide +kernel
theorem dX4_worth_167 : decode cX4_worth 167 = .ok (.goto 146, 3) := by decide +kernel
theorem dX4_worth_170 : decode cX4_worth 170 = .ok (.aload_n 3, 1) := by decide +kernel
theorem dX4_worth_171 : decode cX4_worth 171 = .ok (.iload 4, 2) := by decide +kernel
theorem dX4_worth_173 : decode cX4_worth 173 = .ok (.iload 7, 2) := by decide +kernel
theorem dX4_worth_175 : decode cX4_worth 175 = .ok (.ifCond .eq 12, 3) := by decide +kernel
theorem dX4_worth_178 : decode cX4_worth 178 = .ok (.iload 8, 2) := by decide +kernel
theorem dX4_worth_180 : decode cX4_worth 180 = .ok (.ifCond .eq 7, 3) := by decide +kernel
theorem dX4_worth_183 : decode cX4_worth 183 = .ok (.iconst 1, 1) := by decide +kernel
theorem dX4_worth_184 : decode cX4_worth 184 = .ok (.goto 4, 3) := by decide +kernel
theorem dX4_worth_187 : decode cX4_worth 187 = .ok (.iconst 0, 1) := by decide +kernel
theorem dX4_worth_188 : decode cX4_worth 188 = .ok (.iastore, 1) := by decide +kernel
theorem dX4_worth_189 : decode cX4_worth 189 = .ok (.goto 124, 3) := by decide +kernel
theorem dX4_worth_192 : decode cX4_worth 192 = .ok (.aload_n 3, 1) := by decide +kernel
theorem dX4_worth_193 : decode cX4_worth 193 = .ok (.iload 4, 2) := by decide +kernel
theorem dX4_worth_195 : decode cX4_worth 195 = .ok (.iload 7, 2) := by decide +kernel
theorem dX4_worth_197 : decode cX4_worth 197 = .ok (.iload 8, 2) := by decide +kernel
theorem dX4_worth_199 : decode cX4_worth 199 = .ok (.if_icmp .ge 7, 3) := by decide +kernel
theorem dX4_worth_202 : decode cX4_worth 202 = .ok (.iconst 1, 1) := by decide +kernel
theorem dX4_worth_203 : decode cX4_worth 203 = .ok (.goto 4, 3) := by decide +kernel
theorem dX4_worth_206 : decode cX4_worth 206 = .ok (.iconst 0, 1) := by decide +kernel
theorem dX4_worth_207 : decode cX4_worth 207 = .ok (.iastore, 1) := by decide +kernel
theorem dX4_worth_208 : decode cX4_worth 208 = .ok (.goto 105, 3) := by decide +kernel
theorem dX4_worth_211 : decode cX4_worth 211 = .ok (.aload_n 3, 1) := by decide +kernel
theorem dX4_worth_212 : decode cX4_worth 212 = .ok (.iload 4, 2) := by decide +kernel
theorem dX4_worth_214 : decode cX4_worth 214 = .ok (.iload 7, 2) := by decide +kernel
theorem dX4_worth_216 : decode cX4_worth 216 = .ok (.iload 8, 2) := by decide +kernel
theorem dX4_worth_218 : decode cX4_worth 218 = .ok (.if_icmp .ne 7, 3) := by decide +kernel
theorem dX4_worth_221 : decode cX4_worth 221 = .ok (.iconst 1, 1) := by decide +kernel
theorem dX4_worth_222 : decode cX4_worth 222 = .ok (.goto 4, 3) := by decide +kernel
theorem dX4_worth_225 : decode cX4_worth 225 = .ok (.iconst 0, 1) := by decide +kernel
theorem dX4_worth_226 : decode cX4_worth 226 = .ok (.iastore, 1) := by decide +kernel
theorem dX4_worth_227 : decode cX4_worth 227 = .ok (.goto 86, 3) := by decide +kernel
theorem dX4_worth_230 : decode cX4_worth 230 = .ok (.aload_n 3, 1) := by decide +kernel
theorem dX4_worth_231 : decode cX4_worth 231 = .ok (.iload 4, 2) := by decide +kernel
theorem dX4_worth_233 : decode cX4_worth 233 = .ok (.iload 7, 2) := by decide +kernel
theorem dX4_worth_235 : decode cX4_worth 235 = .ok (.iload 8, 2) := by decide +kernel
theorem dX4_worth_237 : decode cX4_worth 237 = .ok (.iadd, 1) := by decide +kernel
theorem dX4_worth_238 : decode cX4_worth 238 = .ok (.iastore, 1) := by decide +kernel
theorem dX4_worth_239 : decode cX4_worth 239 = .ok (.goto 74, 3) := by decide +kernel
theorem dX4_worth_242 : decode cX4_worth 242 = .ok (.aload_n 3, 1) := by decide +kernel
theorem dX4_worth_243 : decode cX4_worth 243 = .ok (.iload 4, 2) := by decide +kernel
theorem dX4_worth_245 : decode cX4_worth 245 = .ok (.iload 7, 2) := by decide +kernel
theorem dX4_worth_247 : decode cX4_worth 247 = .ok (.iload 8, 2) := by decide +kernel
theorem dX4_worth_249 : decode cX4_worth 249 = .ok (.isub, 1) := by decide +kernel
theorem dX4_worth_250 : decode cX4_worth 250 = .ok (.iastore, 1) := by decide +kernel
theorem dX4_worth_251 : decode cX4_worth 251 = .ok (.goto 62, 3) := by decide +kernel
theorem dX4_worth_254 : decode cX4_worth 254 = .ok (.aload_n 3, 1) := by decide +kernel
theorem dX4_worth_255 : decode cX4_worth 255 = .ok (.iload 4, 2) := by decide +kernel
theorem dX4_worth_257 : decode cX4_worth 257 = .ok (.iload 7, 2) := by decide +kernel
theorem dX4_worth_259 : decode cX4_worth 259 = .ok (.iload 8, 2) := by decide +kernel
theorem dX4_worth_261 : decode cX4_worth 261 = .ok (.imul, 1) := by decide +kernel
theorem dX4_worth_262 : decode cX4_worth 262 = .ok (.iastore, 1) := by decide +kernel
theorem dX4_worth_263 : decode cX4_worth 263 = .ok (.goto 50, 3) := by decide +kernel
theorem dX4_worth_266 : decode cX4_worth 266 = .ok (.aload_n 3, 1) := by decide +kernel
theorem dX4_worth_267 : decode cX4_worth 267 = .ok (.iload 4, 2) := by decide +kernel
theorem dX4_worth_269 : decode cX4_worth 269 = .ok (.iload 7, 2) := by decide +kernel
theorem dX4_worth_271 : decode cX4_worth 271 = .ok (.ifCond .ne 7, 3) := by decide +kernel
theorem dX4_worth_274 : decode cX4_worth 274 = .ok (.iconst 1, 1) := by decide +kernel
theorem dX4_worth_275 : decode cX4_worth 275 = .ok (.goto 4, 3) := by decide +kernel
theorem dX4_worth_278 : decode cX4_worth 278 = .ok (.iconst 0, 1) := by decide +kernel
theorem dX4_worth_279 : decode cX4_worth 279 = .ok (.iastore, 1) := by decide +kernel
theorem dX4_worth_280 : decode cX4_worth 280 = .ok (.goto 33, 3) := by decide +kernel
theorem dX4_worth_283 : decode cX4_worth 283 = .ok (.aload_n 3, 1) := by decide +kernel
theorem dX4_worth_284 : decode cX4_worth 284 = .ok (.iload 4, 2) := by decide +kernel
theorem dX4_worth_286 : decode cX4_worth 286 = .ok (.iload 7, 2) := by decide +kernel
theorem dX4_worth_288 : decode cX4_worth 288 = .ok (.ineg, 1) := by decide +kernel
theorem dX4_worth_289 : decode cX4_worth 289 = .ok (.iastore, 1) := by decide +kernel
theorem dX4_worth_290 : decode cX4_worth 290 = .ok (.goto 23, 3) := by decide +kernel
theorem dX4_worth_293 : decode cX4_worth 293 = .ok (.aload_n 3, 1) := by decide +kernel
theorem dX4_worth_294 : decode cX4_worth 294 = .ok (.iload 4, 2) := by decide +kernel
theorem dX4_worth_296 : decode cX4_worth 296 = .ok (.iload 6, 2) := by decide +kernel
theorem dX4_worth_298 : decode cX4_worth 298 = .ok (.ifCond .lt 8, 3) := by decide +kernel
theorem dX4_worth_301 : decode cX4_worth 301 = .ok (.iload 6, 2) := by decide +kernel
theorem dX4_worth_303 : decode cX4_worth 303 = .ok (.goto 9, 3) := by decide +kernel
theorem dX4_worth_306 : decode cX4_worth 306 = .ok (.aload_n 2, 1) := by decide +kernel
theorem dX4_worth_307 : decode cX4_worth 307 = .ok (.iconst (-1), 1) := by decide +kernel
theorem dX4_worth_308 : decode cX4_worth 308 = .ok (.iload 6, 2) := by decide +kernel
theorem dX4_worth_310 : decode cX4_worth 310 = .ok (.isub, 1) := by decide +kernel
theorem dX4_worth_311 : decode cX4_worth 311 = .ok (.iaload, 1) := by decide +kernel
theorem dX4_worth_312 : decode cX4_worth 312 = .ok (.iastore, 1) := by decide +kernel
theorem dX4_worth_313 : decode cX4_worth 313 = .ok (.iinc 5 1, 3) := by decide +kernel
theorem dX4_worth_316 : decode cX4_worth 316 = .ok (.goto (-295), 3) := by decide +kernel
theorem dX4_worth_319 : decode cX4_worth 319 = .ok (.iload 4, 2) := by decide +kernel
theorem dX4_worth_321 : decode cX4_worth 321 = .ok (.ifCond .ne 9, 3) := by decide +kernel
theorem dX4_worth_324 : decode cX4_worth 324 = .ok (.aload_n 3, 1) := by decide +kernel
theorem dX4_worth_325 : decode cX4_worth 325 = .ok (.iconst 0, 1) := by decide +kernel
theorem dX4_worth_326 : decode cX4_worth 326 = .ok (.iaload, 1) := by decide +kernel
theorem dX4_worth_327 : decode cX4_worth 327 = .ok (.goto 4, 3) := by decide +kernel
theorem dX4_worth_330 : decode cX4_worth 330 = .ok (.iconst 0, 1) := by decide +kernel
theorem dX4_worth_331 : decode cX4_worth 331 = .ok (.ireturn, 1) := by decide +kernel
theorem dX5_cost_0 : decode cX5_cost 0 = .ok (.aload_n 0, 1) := by decide +kernel
theorem dX5_cost_1 : decode cX5_cost 1 = .ok (.ldc 118, 2) := by decide +kernel
theorem dX5_cost_3 : decode cX5_cost 3 = .ok (.invokevirtual 119, 3) := by decide +kernel
theorem dX5_cost_6 : decode cX5_cost 6 = .ok (.ireturn, 1) := by decide +kernel
theorem dX5_costAt_0 : decode cX5_costAt 0 = .ok (.iload_n 2, 1) := by decide +kernel
theorem dX5_costAt_1 : decode cX5_costAt 1 = .ok (.ifCond .ne 5, 3) := by decide +kernel
theorem dX5_costAt_4 : decode cX5_costAt 4 = .ok (.iconst 0, 1) := by decide +kernel
theorem dX5_costAt_5 : decode cX5_costAt 5 = .ok (.ireturn, 1) := by decide +kernel
theorem dX5_costAt_6 : decode cX5_costAt 6 = .ok (.aload_n 0, 1) := by decide +kernel
theorem dX5_costAt_7 : decode cX5_costAt 7 = .ok (.getfield 18, 3) := by decide +kernel
theorem dX5_costAt_10 : decode cX5_costAt 10 = .ok (.iload_n 1, 1) := by decide +kernel
theorem dX5_costAt_11 : decode cX5_costAt 11 = .ok (.iaload, 1) := by decide +kernel
theorem dX5_costAt_12 : decode cX5_costAt 12 = .ok (.aload_n 0, 1) := by decide +kernel
theorem dX5_costAt_13 : decode cX5_costAt 13 = .ok (.getfield 22, 3) := by decide +kernel
theorem dX5_costAt_16 : decode cX5_costAt 16 = .ok (.iload_n 1, 1) := by decide +kernel
theorem dX5_costAt_17 : decode cX5_costAt 17 = .ok (.iaload, 1) := by decide +kernel
theorem dX5_costAt_18 : decode cX5_costAt 18 = .ok (.ior, 1) := by decide +kernel
theorem dX5_costAt_19 : decode cX5_costAt 19 = .ok (.invokestatic 105, 3) := by decide +kernel
theorem dX5_costAt_22 : decode cX5_costAt 22 = .ok (.istore_n 3, 1) := by decide +kernel
theorem dX5_costAt_23 : decode cX5_costAt 23 = .ok (.iconst 0, 1) := by decide +kernel
theorem dX5_costAt_24 : decode cX5_costAt 24 = .ok (.istore 4, 2) := by decide +kernel
theorem dX5_costAt_26 : decode cX5_costAt 26 = .ok (.iconst 0, 1) := by decide +kernel
theorem dX5_costAt_27 : decode cX5_costAt 27 = .ok (.istore 5, 2) := by decide +kernel
theorem dX5_costAt_29 : decode cX5_costAt 29 = .ok (.iload 5, 2) := by decide +kernel
theorem dX5_costAt_31 : decode cX5_costAt 31 = .ok (.aload_n 0, 1) := by decide +kernel
theorem dX5_costAt_32 : decode cX5_costAt 32 = .ok (.getfield 12, 3) := by decide +kernel
theorem dX5_costAt_35 : decode cX5_costAt 35 = .ok (.getfield 63, 3) := by decide +kernel
theorem dX5_costAt_38 : decode cX5_costAt 38 = .ok (.if_icmp .ge 72, 3) := by decide +kernel
theorem dX5_costAt_41 : decode cX5_costAt 41 = .ok (.iload_n 2, 1) := by decide +kernel
theorem dX5_costAt_42 : decode cX5_costAt 42 = .ok (.iload 5, 2) := by decide +kernel
theorem dX5_costAt_44 : decode cX5_costAt 44 = .ok (.ishr, 1) := by decide +kernel
theorem dX5_costAt_45 : decode cX5_costAt 45 = .ok (.iconst 1, 1) := by decide +kernel
theorem dX5_costAt_46 : decode cX5_costAt 46 = .ok (.iand, 1) := by decide +kernel
theorem dX5_costAt_47 : decode cX5_costAt 47 = .ok (.ifCond .eq 29, 3) := by decide +kernel
theorem dX5_costAt_50 : decode cX5_costAt 50 = .ok (.iload 4, 2) := by decide +kernel
theorem dX5_costAt_52 : decode cX5_costAt 52 = .ok (.aload_n 0, 1) := by decide +kernel
theorem dX5_costAt_53 : decode cX5_costAt 53 = .ok (.getfield 12, 3) := by decide +kernel
theorem dX5_costAt_56 : decode cX5_costAt 56 = .ok (.iload 5, 2) := by decide +kernel
theorem dX5_costAt_58 : decode cX5_costAt 58 = .ok (.aload_n 0, 1) := by decide +kernel
theorem dX5_costAt_59 : decode cX5_costAt 59 = .ok (.iconst 0, 1) := by decide +kernel
theorem dX5_costAt_60 : decode cX5_costAt 60 = .ok (.iload 5, 2) := by decide +kernel
theorem dX5_costAt_62 : decode cX5_costAt 62 = .ok (.iload_n 1, 1) := by decide +kernel
theorem dX5_costAt_63 : decode cX5_costAt 63 = .ok (.iload_n 3, 1) := by decide +kernel
theorem dX5_costAt_64 : decode cX5_costAt 64 = .ok (.invokevirtual 111, 3) := by decide +kernel
theorem dX5_costAt_67 : decode cX5_costAt 67 = .ok (.invokevirtual 115, 3) := by decide +kernel
theorem dX5_costAt_70 : decode cX5_costAt 70 = .ok (.iadd, 1) := by decide +kernel
theorem dX5_costAt_71 : decode cX5_costAt 71 = .ok (.istore 4, 2) := by decide +kernel
theorem dX5_costAt_73 : decode cX5_costAt 73 = .ok (.goto 31, 3) := by decide +kernel
theorem dX5_costAt_76 : decode cX5_costAt 76 = .ok (.aload_n 0, 1) := by decide +kernel
theorem dX5_costAt_77 : decode cX5_costAt 77 = .ok (.getfield 18, 3) := by decide +kernel
theorem dX5_costAt_80 : decode cX5_costAt 80 = .ok (.iload_n 1, 1) := by decide +kernel
theorem dX5_costAt_81 : decode cX5_costAt 81 = .ok (.iaload, 1) := by decide +kernel
theorem dX5_costAt_82 : decode cX5_costAt 82 = .ok (.iload 5, 2) := by decide +kernel
theorem dX5_costAt_84 : decode cX5_costAt 84 = .ok (.ishr, 1) := by decide +kernel
theorem dX5_costAt_85 : decode cX5_costAt 85 = .ok (.iconst 1, 1) := by decide +kernel
theorem dX5_costAt_86 : decode cX5_costAt 86 = .ok (.iand, 1) := by decide +kernel
theorem dX5_costAt_87 : decode cX5_costAt 87 = .ok (.ifCond .eq 17, 3) := by decide +kernel
theorem dX5_costAt_90 : decode cX5_costAt 90 = .ok (.iload 4, 2) := by decide +kernel
theorem dX5_costAt_92 : decode cX5_costAt 92 = .ok (.aload_n 0, 1) := by decide +kernel
theorem dX5_costAt_93 : decode cX5_costAt 93 = .ok (.iconst 1, 1) := by decide +kernel
theorem dX5_costAt_94 : decode cX5_costAt 94 = .ok (.iload 5, 2) := by decide +kernel
theorem dX5_costAt_96 : decode cX5_costAt 96 = .ok (.iload_n 1, 1) := by decide +kernel
theorem dX5_costAt_97 : decode cX5_costAt 97 = .ok (.iload_n 3, 1) := by decide +kernel
theorem dX5_costAt_98 : decode cX5_costAt 98 = .ok (.invokevirtual 111, 3) := by decide +kernel
theorem dX5_costAt_101 : decode cX5_costAt 101 = .ok (.iadd, 1) := by decide +kernel
theorem dX5_costAt_102 : decode cX5_costAt 102 = .ok (.istore 4, 2) := by decide +kernel
theorem dX5_costAt_104 : decode cX5_costAt 104 = .ok (.iinc 5 1, 3) := by decide +kernel
theorem dX5_costAt_107 : decode cX5_costAt 107 = .ok (.goto (-78), 3) := by decide +kernel
theorem dX5_costAt_110 : decode cX5_costAt 110 = .ok (.iload 4, 2) := by decide +kernel
theorem dX5_costAt_112 : decode cX5_costAt 112 = .ok (.ireturn, 1) := by decide +kernel
theorem dX5_costBelow_0 : decode cX5_costBelow 0 = .ok (.iconst 0, 1) := by decide +kernel
theorem dX5_costBelow_1 : decode cX5_costBelow 1 = .ok (.istore_n 2, 1) := by decide +kernel
theorem dX5_costBelow_2 : decode cX5_costBelow 2 = .ok (.iconst 0, 1) := by decide +kernel
theorem dX5_costBelow_3 : decode cX5_costBelow 3 = .ok (.istore_n 3, 1) := by decide +kernel
theorem dX5_costBelow_4 : decode cX5_costBelow 4 = .ok (.iload_n 3, 1) := by decide +kernel
theorem dX5_costBelow_5 : decode cX5_costBelow 5 = .ok (.bipush 10, 2) := by decide +kernel
theorem dX5_costBelow_7 : decode cX5_costBelow 7 = .ok (.if_icmp .ge 27, 3) := by decide +kernel
theorem dX5_costBelow_10 : decode cX5_costBelow 10 = .ok (.iload_n 2, 1) := by decide +kernel
theorem dX5_costBelow_11 : decode cX5_costBelow 11 = .ok (.iload_n 1, 1) := by decide +kernel
theorem dX5_costBelow_12 : decode cX5_costBelow 12 = .ok (.if_icmp .ge 22, 3) := by decide +kernel
theorem dX5_costBelow_15 : decode cX5_costBelow 15 = .ok (.iload_n 2, 1) := by decide +kernel
theorem dX5_costBelow_16 : decode cX5_costBelow 16 = .ok (.aload_n 0, 1) := by decide +kernel
theorem dX5_costBelow_17 : decode cX5_costBelow 17 = .ok (.iload_n 3, 1) := by decide +kernel
theorem dX5_costBelow_18 : decode cX5_costBelow 18 = .ok (.aload_n 0, 1) := by decide +kernel
theorem dX5_costBelow_19 : decode cX5_costBelow 19 = .ok (.iload_n 3, 1) := by decide +kernel
theorem dX5_costBelow_20 : decode cX5_costBelow 20 = .ok (.invokevirtual 122, 3) := by decide +kernel
theorem dX5_costBelow_23 : decode cX5_costBelow 23 = .ok (.invokevirtual 125, 3) := by decide +kernel
theorem dX5_costBelow_26 : decode cX5_costBelow 26 = .ok (.iadd, 1) := by decide +kernel
theorem dX5_costBelow_27 : decode cX5_costBelow 27 = .ok (.istore_n 2, 1) := by decide +kernel
theorem dX5_costBelow_28 : decode cX5_costBelow 28 = .ok (.iinc 3 1, 3) := by decide +kernel
theorem dX5_costBelow_31 : decode cX5_costBelow 31 = .ok (.goto (-27), 3) := by decide +kernel
theorem dX5_costBelow_34 : decode cX5_costBelow 34 = .ok (.iload_n 2, 1) := by decide +kernel
theorem dX5_costBelow_35 : decode cX5_costBelow 35 = .ok (.ireturn, 1) := by decide +kernel
theorem dX5_costToMove_0 : decode cX5_costToMove 0 = .ok (.aload_n 0, 1) := by decide +kernel
theorem dX5_costToMove_1 : decode cX5_costToMove 1 = .ok (.iconst 2, 1) := by decide +kernel
theorem dX5_costToMove_2 : decode cX5_costToMove 2 = .ok (.iload_n 1, 1) := by decide +kernel
theorem dX5_costToMove_3 : decode cX5_costToMove 3 = .ok (.aload_n 0, 1) := by decide +kernel
theorem dX5_costToMove_4 : decode cX5_costToMove 4 = .ok (.getfield 12, 3) := by decide +kernel
theorem dX5_costToMove_7 : decode cX5_costToMove 7 = .ok (.getfield 76, 3) := by decide +kernel
theorem dX5_costToMove_10 : decode cX5_costToMove 10 = .ok (.iload_n 1, 1) := by decide +kernel
theorem dX5_costToMove_11 : decode cX5_costToMove 11 = .ok (.iaload, 1) := by decide +kernel
theorem dX5_costToMove_12 : decode cX5_costToMove 12 = .ok (.iconst 0, 1) := by decide +kernel
theorem dX5_costToMove_13 : decode cX5_costToMove 13 = .ok (.invokevirtual 111, 3) := by decide +kernel
theorem dX5_costToMove_16 : decode cX5_costToMove 16 = .ok (.ireturn, 1) := by decide +kernel
theorem dX5_floorsWithSteps_0 : decode cX5_floorsWithSteps 0 = .ok (.iconst 0, 1) := by decide +kernel
theorem dX5_floorsWithSteps_1 : decode cX5_floorsWithSteps 1 = .ok (.istore_n 1, 1) := by decide +kernel
theorem dX5_floorsWithSteps_2 : decode cX5_floorsWithSteps 2 = .ok (.iconst 0, 1) := by decide +kernel
theorem dX5_floorsWithSteps_3 : decode cX5_floorsWithSteps 3 = .ok (.istore_n 2, 1) := by decide +kernel
theorem dX5_floorsWithSteps_4 : decode cX5_floorsWithSteps 4 = .ok (.iload_n 2, 1) := by decide +kernel
theorem dX5_floorsWithSteps_5 : decode cX5_floorsWithSteps 5 = .ok (.bipush 10, 2) := by decide +kernel
theorem dX5_floorsWithSteps_7 : decode cX5_floorsWithSteps 7 = .ok (.if_icmp .ge 23, 3) := by decide +kernel
theorem dX5_floorsWithSteps_10 : decode cX5_floorsWithSteps 10 = .ok (.aload_n 0, 1) := by decide +kernel
theorem dX5_floorsWithSteps_11 : decode cX5_floorsWithSteps 11 = .ok (.iload_n 2, 1) := by decide +kernel
theorem dX5_floorsWithSteps_12 : decode cX5_floorsWithSteps 12 = .ok (.invokevirtual 122, 3) := by decide +kernel
theorem dX5_floorsWithSteps_15 : decode cX5_floorsWithSteps 15 = .ok (.ifCond .eq 9, 3) := by decide +kernel
theorem dX5_floorsWithSteps_18 : decode cX5_floorsWithSteps 18 = .ok (.iload_n 1, 1) := by decide +kernel
theorem dX5_floorsWithSteps_19 : decode cX5_floorsWithSteps 19 = .ok (.iconst 1, 1) := by decide +kernel
theorem dX5_floorsWithSteps_20 : decode cX5_floorsWithSteps 20 = .ok (.iload_n 2, 1) := by decide +kernel
theorem dX5_floorsWithSteps_21 : decode cX5_floorsWithSteps 21 = .ok (.ishl, 1) := by decide +kernel
theorem dX5_floorsWithSteps_22 : decode cX5_floorsWithSteps 22 = .ok (.ior, 1) := by decide +kernel
theorem dX5_floorsWithSteps_23 : decode cX5_floorsWithSteps 23 = .ok (.istore_n 1, 1) := by decide +kernel
theorem dX5_floorsWithSteps_24 : decode cX5_floorsWithSteps 24 = .ok (.iinc 2 1, 3) := by decide +kernel
theorem dX5_floorsWithSteps_27 : decode cX5_floorsWithSteps 27 = .ok (.goto (-23), 3) := by decide +kernel
theorem dX5_floorsWithSteps_30 : decode cX5_floorsWithSteps 30 = .ok (.iload_n 1, 1) := by decide +kernel
theorem dX5_floorsWithSteps_31 : decode cX5_floorsWithSteps 31 = .ok (.ireturn, 1) := by decide +kernel
theorem dX5_gather_0 : decode cX5_gather 0 = .ok (.aload_n 0, 1) := by decide +kernel
theorem dX5_gather_1 : decode cX5_gather 1 = .ok (.getfield 34, 3) := by decide +kernel
theorem dX5_gather_4 : decode cX5_gather 4 = .ok (.iconst (-1), 1) := by decide +kernel
theorem dX5_gather_5 : decode cX5_gather 5 = .ok (.invokestatic 70, 3) := by decide +kernel
theorem dX5_gather_8 : decode cX5_gather 8 = .ok (.iconst 0, 1) := by decide +kernel
theorem dX5_gather_9 : decode cX5_gather 9 = .ok (.istore_n 2, 1) := by decide +kernel
theorem dX5_gather_10 : decode cX5_gather 10 = .ok (.iload_n 2, 1) := by decide +kernel
theorem dX5_gather_11 : decode cX5_gather 11 = .ok (.bipush 10, 2) := by decide +kernel
theorem dX5_gather_13 : decode cX5_gather 13 = .ok (.if_icmp .ge 147, 3) := by decide +kernel
theorem dX5_gather_16 : decode cX5_gather 16 = .ok (.aload_n 0, 1) := by decide +kernel
theorem dX5_gather_17 : decode cX5_gather 17 = .ok (.getfield 18, 3) := by decide +kernel
theorem dX5_gather_20 : decode cX5_gather 20 = .ok (.iload_n 2, 1) := by decide +kernel
theorem dX5_gather_21 : decode cX5_gather 21 = .ok (.iconst 0, 1) := by decide +kernel
theorem dX5_gather_22 : decode cX5_gather 22 = .ok (.iastore, 1) := by decide +kernel
theorem dX5_gather_23 : decode cX5_gather 23 = .ok (.aload_n 0, 1) := by decide +kernel
theorem dX5_gather_24 : decode cX5_gather 24 = .ok (.getfield 22, 3) := by decide +kernel
theorem dX5_gather_27 : decode cX5_gather 27 = .ok (.iload_n 2, 1) := by decide +kernel
theorem dX5_gather_28 : decode cX5_gather 28 = .ok (.iconst 0, 1) := by decide +kernel
theorem dX5_gather_29 : decode cX5_gather 29 = .ok (.iastore, 1) := by decide +kernel
theorem dX5_gather_30 : decode cX5_gather 30 = .ok (.aload_n 0, 1) := by decide +kernel
theorem dX5_gather_31 : decode cX5_gather 31 = .ok (.getfield 25, 3) := by decide +kernel
theorem dX5_gather_34 : decode cX5_gather 34 = .ok (.iload_n 2, 1) := by decide +kernel
theorem dX5_gather_35 : decode cX5_gather 35 = .ok (.iconst 0, 1) := by decide +kernel
theorem dX5_gather_36 : decode cX5_gather 36 = .ok (.iastore, 1) := by decide +kernel
theorem dX5_gather_37 : decode cX5_gather 37 = .ok (.iconst 0, 1) := by decide +kernel
theorem dX5_gather_38 : decode cX5_gather 38 = .ok (.istore_n 3, 1) := by decide +kernel
theorem dX5_gather_39 : decode cX5_gather 39 = .ok (.iload_n 3, 1) := by decide +kernel
theorem dX5_gather_40 : decode cX5_gather 40 = .ok (.aload_n 0, 1) := by decide +kernel
theorem dX5_gather_41 : decode cX5_gather 41 = .ok (.getfield 12, 3) := by decide +kernel
theorem dX5_gather_44 : decode cX5_gather 44 = .ok (.getfield 63, 3) := by decide +kernel
theorem dX5_gather_47 : decode cX5_gather 47 = .ok (.if_icmp .ge 107, 3) := by decide +kernel
theorem dX5_gather_50 : decode cX5_gather 50 = .ok (.iload_n 1, 1) := by decide +kernel
theorem dX5_gather_51 : decode cX5_gather 51 = .ok (.iconst 1, 1) := by decide +kernel
theorem dX5_gather_52 : decode cX5_gather 52 = .ok (.iload_n 3, 1) := by decide +kernel
theorem dX5_gather_53 : decode cX5_gather 53 = .ok (.ishl, 1) := by decide +kernel
theorem dX5_gather_54 : decode cX5_gather 54 = .ok (.iand, 1) := by decide +kernel
theorem dX5_gather_55 : decode cX5_gather 55 = .ok (.istore 4, 2) := by decide +kernel
theorem dX5_gather_57 : decode cX5_gather 57 = .ok (.iload_n 2, 1) := by decide +kernel
theorem dX5_gather_58 : decode cX5_gather 58 = .ok (.aload_n 0, 1) := by decide +kernel
theorem dX5_gather_59 : decode cX5_gather 59 = .ok (.getfield 12, 3) := by decide +kernel
theorem dX5_gather_62 : decode cX5_gather 62 = .ok (.getfield 76, 3) := by decide +kernel
theorem dX5_gather_65 : decode cX5_gather 65 = .ok (.iload_n 3, 1) := by decide +kernel
theorem dX5_gather_66 : decode cX5_gather 66 = .ok (.iaload, 1) := by decide +kernel
theorem dX5_gather_67 : decode cX5_gather 67 = .ok (.if_icmp .ne 17, 3) := by decide +kernel
theorem dX5_gather_70 : decode cX5_gather 70 = .ok (.aload_n 0, 1) := by decide +kernel
theorem dX5_gather_71 : decode cX5_gather 71 = .ok (.getfield 25, 3) := by decide +kernel
theorem dX5_gather_74 : decode cX5_gather 74 = .ok (.iload_n 2, 1) := by decide +kernel
theorem dX5_gather_75 : decode cX5_gather 75 = .ok (.dup2, 1) := by decide +kernel
theorem dX5_gather_76 : decode cX5_gather 76 = .ok (.iaload, 1) := by decide +kernel
theorem dX5_gather_77 : decode cX5_gather 77 = .ok (.iload 4, 2) := by decide +kernel
theorem dX5_gather_79 : decode cX5_gather 79 = .ok (.ior, 1) := by decide +kernel
theorem dX5_gather_80 : decode cX5_gather 80 = .ok (.iastore, 1) := by decide +kernel
theorem dX5_gather_81 : decode cX5_gather 81 = .ok (.goto 67, 3) := by decide +kernel
theorem dX5_gather_84 : decode cX5_gather 84 = .ok (.iload_n 2, 1) := by decide +kernel
theorem dX5_gather_85 : decode cX5_gather 85 = .ok (.aload_n 0, 1) := by decide +kernel
theorem dX5_gather_86 : decode cX5_gather 86 = .ok (.getfield 12, 3) := by decide +kernel
theorem dX5_gather_89 : decode cX5_gather 89 = .ok (.getfield 79, 3) := by decide +kernel
theorem dX5_gather_92 : decode cX5_gather 92 = .ok (.iload_n 3, 1) := by decide +kernel
theorem dX5_gather_93 : decode cX5_gather 93 = .ok (.iaload, 1) := by decide +kernel
theorem dX5_gather_94 : decode cX5_gather 94 = .ok (.if_icmp .ne 17, 3) := by decide +kernel
theorem dX5_gather_97 : decode cX5_gather 97 = .ok (.aload_n 0, 1) := by decide +kernel
theorem dX5_gather_98 : decode cX5_gather 98 = .ok (.getfield 22, 3) := by decide +kernel
theorem dX5_gather_101 : decode cX5_gather 101 = .ok (.iload_n 2, 1) := by decide +kernel
theorem dX5_gather_102 : decode cX5_gather 102 = .ok (.dup2, 1) := by decide +kernel
theorem dX5_gather_103 : decode cX5_gather 103 = .ok (.iaload, 1) := by decide +kernel
theorem dX5_gather_104 : decode cX5_gather 104 = .ok (.iload 4, 2) := by decide +kernel
theorem dX5_gather_106 : decode cX5_gather 106 = .ok (.ior, 1) := by decide +kernel
theorem dX5_gather_107 : decode cX5_gather 107 = .ok (.iastore, 1) := by decide +kernel
theorem dX5_gather_108 : decode cX5_gather 108 = .ok (.goto 40, 3) := by decide +kernel
theorem dX5_gather_111 : decode cX5_gather 111 = .ok (.iload_n 2, 1) := by decide +kernel
theorem dX5_gather_112 : decode cX5_gather 112 = .ok (.aload_n 0, 1) := by decide +kernel
theorem dX5_gather_113 : decode cX5_gather 113 = .ok (.getfield 12, 3) := by decide +kernel
theorem dX5_gather_116 : decode cX5_gather 116 = .ok (.getfield 76, 3) := by decide +kernel
theorem dX5_gather_119 : decode cX5_gather 119 = .ok (.iload_n 3, 1) := by decide +kernel
theorem dX5_gather_120 : decode cX5_gather 120 = .ok (.iaload, 1) := by decide +kernel
theorem dX5_gather_121 : decode cX5_gather 121 = .ok (.if_icmp .le 27, 3) := by decide +kernel
theorem dX5_gather_124 : decode cX5_gather 124 = .ok (.iload_n 2, 1) := by decide +kernel
theorem dX5_gather_125 : decode cX5_gather 125 = .ok (.aload_n 0, 1) := by decide +kernel
theorem dX5_gather_126 : decode cX5_gather 126 = .ok (.getfield 12, 3) := by decide +kernel
theorem dX5_gather_129 : decode cX5_gather 129 = .ok (.getfield 79, 3) := by decide +kernel
theorem dX5_gather_132 : decode cX5_gather 132 = .ok (.iload_n 3, 1) := by decide +kernel
theorem dX5_gather_133 : decode cX5_gather 133 = .ok (.iaload, 1) := by decide +kernel
theorem dX5_gather_134 : decode cX5_gather 134 = .ok (.if_icmp .ge 14, 3) := by decide +kernel
theorem dX5_gather_137 : decode cX5_gather 137 = .ok (.aload_n 0, 1) := by decide +kernel
theorem dX5_gather_138 : decode cX5_gather 138 = .ok (.getfield 18, 3) := by decide +kernel
theorem dX5_gather_141 : decode cX5_gather 141 = .ok (.iload_n 2, 1) := by decide +kernel
theorem dX5_gather_142 : decode cX5_gather 142 = .ok (.dup2, 1) := by decide +kernel
theorem dX5_gather_143 : decode cX5_gather 143 = .ok (.iaload, 1) := by decide +kernel
theorem dX5_gather_144 : decode cX5_gather 144 = .ok (.iload 4, 2) := by decide +kernel
theorem dX5_gather_146 : decode cX5_gather 146 = .ok (.ior, 1) := by decide +kernel
theorem dX5_gather_147 : decode cX5_gather 147 = .ok (.iastore, 1) := by decide +kernel
theorem dX5_gather_148 : decode cX5_gather 148 = .ok (.iinc 3 1, 3) := by decide +kernel
theorem dX5_gather_151 : decode cX5_gather 151 = .ok (.goto (-112), 3) := by decide +kernel
theorem dX5_gather_154 : decode cX5_gather 154 = .ok (.iinc 2 1, 3) := by decide +kernel
theorem dX5_gather_157 : decode cX5_gather 157 = .ok (.goto (-147), 3) := by decide +kernel
theorem dX5_gather_160 : decode cX5_gather 160 = .ok (.aload_n 0, 1) := by decide +kernel
theorem dX5_gather_161 : decode cX5_gather 161 = .ok (.invokevirtual 82, 3) := by decide +kernel
theorem dX5_gather_164 : decode cX5_gather 164 = .ok (.return_, 1) := by decide +kernel
theorem dX5_init_0 : decode cX5_init 0 = .ok (.aload_n 0, 1) := by decide +kernel
theorem dX5_init_1 : decode cX5_init 1 = .ok (.invokespecial 3, 3) := by decide +kernel
theorem dX5_init_4 : decode cX5_init 4 = .ok (.aload_n 0, 1) := by decide +kernel
theorem dX5_init_5 : decode cX5_init 5 = .ok (.new 9, 3) := by decide +kernel
theorem dX5_init_8 : decode cX5_init 8 = .ok (.dup, 1) := by decide +kernel
theorem dX5_init_9 : decode cX5_init 9 = .ok (.invokespecial 11, 3) := by decide +kernel
theorem dX5_init_12 : decode cX5_init 12 = .ok (.putfield 12, 3) := by decide +kernel
theorem dX5_init_15 : decode cX5_init 15 = .ok (.aload_n 0, 1) := by decide +kernel
theorem dX5_init_16 : decode cX5_init 16 = .ok (.bipush 10, 2) := by decide +kernel
theorem dX5_init_18 : decode cX5_init 18 = .ok (.newarray .int, 2) := by decide +kernel
theorem dX5_init_20 : decode cX5_init 20 = .ok (.putfield 18, 3) := by decide +kernel
theorem dX5_init_23 : decode cX5_init 23 = .ok (.aload_n 0, 1) := by decide +kernel
theorem dX5_init_24 : decode cX5_init 24 = .ok (.bipush 10, 2) := by decide +kernel
theorem dX5_init_26 : decode cX5_init 26 = .ok (.newarray .int, 2) := by decide +kernel
theorem dX5_init_28 : decode cX5_init 28 = .ok (.putfield 22, 3) := by decide +kernel
theorem dX5_init_31 : decode cX5_init 31 = .ok (.aload_n 0, 1) := by decide +kernel
theorem dX5_init_32 : decode cX5_init 32 = .ok (.bipush 10, 2) := by decide +kernel
theorem dX5_init_34 : decode cX5_init 34 = .ok (.newarray .int, 2) := by decide +kernel
theorem dX5_init_36 : decode cX5_init 36 = .ok (.putfield 25, 3) := by decide +kernel
theorem dX5_init_39 : decode cX5_init 39 = .ok (.aload_n 0, 1) := by decide +kernel
theorem dX5_init_40 : decode cX5_init 40 = .ok (.iconst 5, 1) := by decide +kernel
theorem dX5_init_41 : decode cX5_init 41 = .ok (.newarray .int, 2) := by decide +kernel
theorem dX5_init_43 : decode cX5_init 43 = .ok (.putfield 28, 3) := by decide +kernel
theorem dX5_init_46 : decode cX5_init 46 = .ok (.aload_n 0, 1) := by decide +kernel
theorem dX5_init_47 : decode cX5_init 47 = .ok (.iconst 5, 1) := by decide +kernel
theorem dX5_init_48 : decode cX5_init 48 = .ok (.newarray .int, 2) := by decide +kernel
theorem dX5_init_50 : decode cX5_init 50 = .ok (.putfield 31, 3) := by decide +kernel
theorem dX5_init_53 : decode cX5_init 53 = .ok (.aload_n 0, 1) := by decide +kernel
theorem dX5_init_54 : decode cX5_init 54 = .ok (.sipush 450, 3) := by decide +kernel
theorem dX5_init_57 : decode cX5_init 57 = .ok (.newarray .int, 2) := by decide +kernel
theorem dX5_init_59 : decode cX5_init 59 = .ok (.putfield 34, 3) := by decide +kernel
theorem dX5_init_62 : decode cX5_init 62 = .ok (.aload_n 0, 1) := by decide +kernel
theorem dX5_init_63 : decode cX5_init 63 = .ok (.bipush 6, 2) := by decide +kernel
theorem dX5_init_65 : decode cX5_init 65 = .ok (.newarray .int, 2) := by decide +kernel
theorem dX5_init_67 : decode cX5_init 67 = .ok (.putfield 39, 3) := by decide +kernel
theorem dX5_init_70 : decode cX5_init 70 = .ok (.aload_n 0, 1) := by decide +kernel
theorem dX5_init_71 : decode cX5_init 71 = .ok (.bipush 32, 2) := by decide +kernel
theorem dX5_init_73 : decode cX5_init 73 = .ok (.newarray .int, 2) := by decide +kernel
theorem dX5_init_75 : decode cX5_init 75 = .ok (.putfield 42, 3) := by decide +kernel
theorem dX5_init_78 : decode cX5_init 78 = .ok (.aload_n 0, 1) := by decide +kernel
theorem dX5_init_79 : decode cX5_init 79 = .ok (.aload_n 1, 1) := by decide +kernel
theorem dX5_init_80 : decode cX5_init 80 = .ok (.putfield 45, 3) := by decide +kernel
theorem dX5_init_83 : decode cX5_init 83 = .ok (.aload_n 0, 1) := by decide +kernel
theorem dX5_init_84 : decode cX5_init 84 = .ok (.aload_n 2, 1) := by decide +kernel
theorem dX5_init_85 : decode cX5_init 85 = .ok (.putfield 48, 3) := by decide +kernel
theorem dX5_init_88 : decode cX5_init 88 = .ok (.return_, 1) := by decide +kernel
theorem dX5_meet_0 : decode cX5_meet 0 = .ok (.aload_n 0, 1) := by decide +kernel
theorem dX5_meet_1 : decode cX5_meet 1 = .ok (.getfield 28, 3) := by decide +kernel
theorem dX5_meet_4 : decode cX5_meet 4 = .ok (.iload_n 1, 1) := by decide +kernel
theorem dX5_meet_5 : decode cX5_meet 5 = .ok (.iconst 0, 1) := by decide +kernel
theorem dX5_meet_6 : decode cX5_meet 6 = .ok (.iastore, 1) := by decide +kernel
theorem dX5_meet_7 : decode cX5_meet 7 = .ok (.aload_n 0, 1) := by decide +kernel
theorem dX5_meet_8 : decode cX5_meet 8 = .ok (.getfield 31, 3) := by decide +kernel
theorem dX5_meet_11 : decode cX5_meet 11 = .ok (.iload_n 1, 1) := by decide +kernel
theorem dX5_meet_12 : decode cX5_meet 12 = .ok (.iconst 0, 1) := by decide +kernel
theorem dX5_meet_13 : decode cX5_meet 13 = .ok (.iastore, 1) := by decide +kernel
theorem dX5_meet_14 : decode cX5_meet 14 = .ok (.iconst 0, 1) := by decide +kernel
theorem dX5_meet_15 : decode cX5_meet 15 = .ok (.istore_n 2, 1) := by decide +kernel
theorem dX5_meet_16 : decode cX5_meet 16 = .ok (.iload_n 2, 1) := by decide +kernel
theorem dX5_meet_17 : decode cX5_meet 17 = .ok (.iload_n 1, 1) := by decide +kernel
theorem dX5_meet_18 : decode cX5_meet 18 = .ok (.if_icmp .ge 199, 3) := by decide +kernel
theorem dX5_meet_21 : decode cX5_meet 21 = .ok (.aload_n 0, 1) := by decide +kernel
theorem dX5_meet_22 : decode cX5_meet 22 = .ok (.getfield 28, 3) := by decide +kernel
theorem dX5_meet_25 : decode cX5_meet 25 = .ok (.iload_n 2, 1) := by decide +kernel
theorem dX5_meet_26 : decode cX5_meet 26 = .ok (.dup2, 1) := by decide +kernel
theorem dX5_meet_27 : decode cX5_meet 27 = .ok (.iaload, 1) := by decide +kernel
theorem dX5_meet_28 : decode cX5_meet 28 = .ok (.iconst 1, 1) := by decide +kernel
theorem dX5_meet_29 : decode cX5_meet 29 = .ok (.iload_n 1, 1) := by decide +kernel
theorem dX5_meet_30 : decode cX5_meet 30 = .ok (.ishl, 1) := by decide +kernel
theorem dX5_meet_31 : decode cX5_meet 31 = .ok (.iconst (-1), 1) := by decide +kernel
theorem dX5_meet_32 : decode cX5_meet 32 = .ok (.ixor, 1) := by decide +kernel
theorem dX5_meet_33 : decode cX5_meet 33 = .ok (.iand, 1) := by decide +kernel
theorem dX5_meet_34 : decode cX5_meet 34 = .ok (.iastore, 1) := by decide +kernel
theorem dX5_meet_35 : decode cX5_meet 35 = .ok (.aload_n 0, 1) := by decide +kernel
theorem dX5_meet_36 : decode cX5_meet 36 = .ok (.getfield 31, 3) := by decide +kernel
theorem dX5_meet_39 : decode cX5_meet 39 = .ok (.iload_n 2, 1) := by decide +kernel
theorem dX5_meet_40 : decode cX5_meet 40 = .ok (.dup2, 1) := by decide +kernel
theorem dX5_meet_41 : decode cX5_meet 41 = .ok (.iaload, 1) := by decide +kernel
theorem dX5_meet_42 : decode cX5_meet 42 = .ok (.iconst 1, 1) := by decide +kernel
theorem dX5_meet_43 : decode cX5_meet 43 = .ok (.iload_n 1, 1) := by decide +kernel
theorem dX5_meet_44 : decode cX5_meet 44 = .ok (.ishl, 1) := by decide +kernel
theorem dX5_meet_45 : decode cX5_meet 45 = .ok (.iconst (-1), 1) := by decide +kernel
theorem dX5_meet_46 : decode cX5_meet 46 = .ok (.ixor, 1) := by decide +kernel
theorem dX5_meet_47 : decode cX5_meet 47 = .ok (.iand, 1) := by decide +kernel
theorem dX5_meet_48 : decode cX5_meet 48 = .ok (.iastore, 1) := by decide +kernel
theorem dX5_meet_49 : decode cX5_meet 49 = .ok (.aload_n 0, 1) := by decide +kernel
theorem dX5_meet_50 : decode cX5_meet 50 = .ok (.getfield 12, 3) := by decide +kernel
theorem dX5_meet_53 : decode cX5_meet 53 = .ok (.getfield 88, 3) := by decide +kernel
theorem dX5_meet_56 : decode cX5_meet 56 = .ok (.iload_n 2, 1) := by decide +kernel
theorem dX5_meet_57 : decode cX5_meet 57 = .ok (.iaload, 1) := by decide +kernel
theorem dX5_meet_58 : decode cX5_meet 58 = .ok (.iconst 1, 1) := by decide +kernel
theorem dX5_meet_59 : decode cX5_meet 59 = .ok (.iand, 1) := by decide +kernel
theorem dX5_meet_60 : decode cX5_meet 60 = .ok (.aload_n 0, 1) := by decide +kernel
theorem dX5_meet_61 : decode cX5_meet 61 = .ok (.getfield 12, 3) := by decide +kernel
theorem dX5_meet_64 : decode cX5_meet 64 = .ok (.getfield 88, 3) := by decide +kernel
theorem dX5_meet_67 : decode cX5_meet 67 = .ok (.iload_n 1, 1) := by decide +kernel
theorem dX5_meet_68 : decode cX5_meet 68 = .ok (.iaload, 1) := by decide +kernel
theorem dX5_meet_69 : decode cX5_meet 69 = .ok (.iconst 1, 1) := by decide +kernel
theorem dX5_meet_70 : decode cX5_meet 70 = .ok (.iand, 1) := by decide +kernel
theorem dX5_meet_71 : decode cX5_meet 71 = .ok (.if_icmp .ne 140, 3) := by decide +kernel
theorem dX5_meet_74 : decode cX5_meet 74 = .ok (.aload_n 0, 1) := by decide +kernel
theorem dX5_meet_75 : decode cX5_meet 75 = .ok (.getfield 12, 3) := by decide +kernel
theorem dX5_meet_78 : decode cX5_meet 78 = .ok (.getfield 88, 3) := by decide +kernel
theorem dX5_meet_81 : decode cX5_meet 81 = .ok (.iload_n 2, 1) := by decide +kernel
theorem dX5_meet_82 : decode cX5_meet 82 = .ok (.iaload, 1) := by decide +kernel
theorem dX5_meet_83 : decode cX5_meet 83 = .ok (.aload_n 0, 1) := by decide +kernel
theorem dX5_meet_84 : decode cX5_meet 84 = .ok (.getfield 12, 3) := by decide +kernel
theorem dX5_meet_87 : decode cX5_meet 87 = .ok (.getfield 88, 3) := by decide +kernel
theorem dX5_meet_90 : decode cX5_meet 90 = .ok (.iload_n 1, 1) := by decide +kernel
theorem dX5_meet_91 : decode cX5_meet 91 = .ok (.iaload, 1) := by decide +kernel
theorem dX5_meet_92 : decode cX5_meet 92 = .ok (.if_icmp .ne 6, 3) := by decide +kernel
theorem dX5_meet_95 : decode cX5_meet 95 = .ok (.goto 116, 3) := by decide +kernel
theorem dX5_meet_98 : decode cX5_meet 98 = .ok (.aload_n 0, 1) := by decide +kernel
theorem dX5_meet_99 : decode cX5_meet 99 = .ok (.getfield 12, 3) := by decide +kernel
theorem dX5_meet_102 : decode cX5_meet 102 = .ok (.getfield 88, 3) := by decide +kernel
theorem dX5_meet_105 : decode cX5_meet 105 = .ok (.iload_n 2, 1) := by decide +kernel
theorem dX5_meet_106 : decode cX5_meet 106 = .ok (.iaload, 1) := by decide +kernel
theorem dX5_meet_107 : decode cX5_meet 107 = .ok (.aload_n 0, 1) := by decide +kernel
theorem dX5_meet_108 : decode cX5_meet 108 = .ok (.getfield 12, 3) := by decide +kernel
theorem dX5_meet_111 : decode cX5_meet 111 = .ok (.getfield 88, 3) := by decide +kernel
theorem dX5_meet_114 : decode cX5_meet 114 = .ok (.iload_n 1, 1) := by decide +kernel
theorem dX5_meet_115 : decode cX5_meet 115 = .ok (.iaload, 1) := by decide +kernel
theorem dX5_meet_116 : decode cX5_meet 116 = .ok (.if_icmp .ge 7, 3) := by decide +kernel
theorem dX5_meet_119 : decode cX5_meet 119 = .ok (.iconst 1, 1) := by decide +kernel
theorem dX5_meet_120 : decode cX5_meet 120 = .ok (.goto 4, 3) := by decide +kernel
theorem dX5_meet_123 : decode cX5_meet 123 = .ok (.iconst 0, 1) := by decide +kernel
theorem dX5_meet_124 : decode cX5_meet 124 = .ok (.istore_n 3, 1) := by decide +kernel
theorem dX5_meet_125 : decode cX5_meet 125 = .ok (.aload_n 0, 1) := by decide +kernel
theorem dX5_meet_126 : decode cX5_meet 126 = .ok (.getfield 12, 3) := by decide +kernel
theorem dX5_meet_129 : decode cX5_meet 129 = .ok (.iload_n 2, 1) := by decide +kernel
theorem dX5_meet_130 : decode cX5_meet 130 = .ok (.aload_n 0, 1) := by decide +kernel
theorem dX5_meet_131 : decode cX5_meet 131 = .ok (.getfield 12, 3) := by decide +kernel
theorem dX5_meet_134 : decode cX5_meet 134 = .ok (.getfield 91, 3) := by decide +kernel
theorem dX5_meet_137 : decode cX5_meet 137 = .ok (.iload_n 1, 1) := by decide +kernel
theorem dX5_meet_138 : decode cX5_meet 138 = .ok (.iaload, 1) := by decide +kernel
theorem dX5_meet_139 : decode cX5_meet 139 = .ok (.invokevirtual 94, 3) := by decide +kernel
theorem dX5_meet_142 : decode cX5_meet 142 = .ok (.ifCond .ne 26, 3) := by decide +kernel
theorem dX5_meet_145 : decode cX5_meet 145 = .ok (.iload_n 3, 1) := by decide +kernel
theorem dX5_meet_146 : decode cX5_meet 146 = .ok (.ifCond .eq 10, 3) := by decide +kernel
theorem dX5_meet_149 : decode cX5_meet 149 = .ok (.aload_n 0, 1) := by decide +kernel
theorem dX5_meet_150 : decode cX5_meet 150 = .ok (.getfield 28, 3) := by decide +kernel
theorem dX5_meet_153 : decode cX5_meet 153 = .ok (.goto 7, 3) := by decide +kernel
theorem dX5_meet_156 : decode cX5_meet 156 = .ok (.aload_n 0, 1) := by decide +kernel
theorem dX5_meet_157 : decode cX5_meet 157 = .ok (.getfield 31, 3) := by decide +kernel
theorem dX5_meet_160 : decode cX5_meet 160 = .ok (.iload_n 1, 1) := by decide +kernel
theorem dX5_meet_161 : decode cX5_meet 161 = .ok (.dup2, 1) := by decide +kernel
theorem dX5_meet_162 : decode cX5_meet 162 = .ok (.iaload, 1) := by decide +kernel
theorem dX5_meet_163 : decode cX5_meet 163 = .ok (.iconst 1, 1) := by decide +kernel
theorem dX5_meet_164 : decode cX5_meet 164 = .ok (.iload_n 2, 1) := by decide +kernel
theorem dX5_meet_165 : decode cX5_meet 165 = .ok (.ishl, 1) := by decide +kernel
theorem dX5_meet_166 : decode cX5_meet 166 = .ok (.ior, 1) := by decide +kernel
theorem dX5_meet_167 : decode cX5_meet 167 = .ok (.iastore, 1) := by decide +kernel
theorem dX5_meet_168 : decode cX5_meet 168 = .ok (.aload_n 0, 1) := by decide +kernel
theorem dX5_meet_169 : decode cX5_meet 169 = .ok (.getfield 12, 3) := by decide +kernel
theorem dX5_meet_172 : decode cX5_meet 172 = .ok (.iload_n 1, 1) := by decide +kernel
theorem dX5_meet_173 : decode cX5_meet 173 = .ok (.aload_n 0, 1) := by decide +kernel
theorem dX5_meet_174 : decode cX5_meet 174 = .ok (.getfield 12, 3) := by decide +kernel
theorem dX5_meet_177 : decode cX5_meet 177 = .ok (.getfield 91, 3) := by decide +kernel
theorem dX5_meet_180 : decode cX5_meet 180 = .ok (.iload_n 2, 1) := by decide +kernel
theorem dX5_meet_181 : decode cX5_meet 181 = .ok (.iaload, 1) := by decide +kernel
theorem dX5_meet_182 : decode cX5_meet 182 = .ok (.invokevirtual 94, 3) := by decide +kernel
theorem dX5_meet_185 : decode cX5_meet 185 = .ok (.ifCond .ne 26, 3) := by decide +kernel
theorem dX5_meet_188 : decode cX5_meet 188 = .ok (.iload_n 3, 1) := by decide +kernel
theorem dX5_meet_189 : decode cX5_meet 189 = .ok (.ifCond .eq 10, 3) := by decide +kernel
theorem dX5_meet_192 : decode cX5_meet 192 = .ok (.aload_n 0, 1) := by decide +kernel
theorem dX5_meet_193 : decode cX5_meet 193 = .ok (.getfield 31, 3) := by decide +kernel
theorem dX5_meet_196 : decode cX5_meet 196 = .ok (.goto 7, 3) := by decide +kernel
theorem dX5_meet_199 : decode cX5_meet 199 = .ok (.aload_n 0, 1) := by decide +kernel
theorem dX5_meet_200 : decode cX5_meet 200 = .ok (.getfield 28, 3) := by decide +kernel
theorem dX5_meet_203 : decode cX5_meet 203 = .ok (.iload_n 2, 1) := by decide +kernel
theorem dX5_meet_204 : decode cX5_meet 204 = .ok (.dup2, 1) := by decide +kernel
theorem dX5_meet_205 : decode cX5_meet 205 = .ok (.iaload, 1) := by decide +kernel
theorem dX5_meet_206 : decode cX5_meet 206 = .ok (.iconst 1, 1) := by decide +kernel
theorem dX5_meet_207 : decode cX5_meet 207 = .ok (.iload_n 1, 1) := by decide +kernel
theorem dX5_meet_208 : decode cX5_meet 208 = .ok (.ishl, 1) := by decide +kernel
theorem dX5_meet_209 : decode cX5_meet 209 = .ok (.ior, 1) := by decide +kernel
theorem dX5_meet_210 : decode cX5_meet 210 = .ok (.iastore, 1) := by decide +kernel
theorem dX5_meet_211 : decode cX5_meet 211 = .ok (.iinc 2 1, 3) := by decide +kernel
theorem dX5_meet_214 : decode cX5_meet 214 = .ok (.goto (-198), 3) := by decide +kernel
theorem dX5_meet_217 : decode cX5_meet 217 = .ok (.return_, 1) := by decide +kernel
theorem dX5_price_0 : decode cX5_price 0 = .ok (.aload_n 0, 1) := by decide +kernel
theorem dX5_price_1 : decode cX5_price 1 = .ok (.getfield 12, 3) := by decide +kernel
theorem dX5_price_4 : decode cX5_price 4 = .ok (.getfield 88, 3) := by decide +kernel
theorem dX5_price_7 : decode cX5_price 7 = .ok (.iload_n 2, 1) := by decide +kernel
theorem dX5_price_8 : decode cX5_price 8 = .ok (.iaload, 1) := by decide +kernel
theorem dX5_price_9 : decode cX5_price 9 = .ok (.iconst 1, 1) := by decide +kernel
theorem dX5_price_10 : decode cX5_price 10 = .ok (.ishr, 1) := by decide +kernel
theorem dX5_price_11 : decode cX5_price 11 = .ok (.istore 5, 2) := by decide +kernel
theorem dX5_price_13 : decode cX5_price 13 = .ok (.iload_n 1, 1) := by decide +kernel
theorem dX5_price_14 : decode cX5_price 14 = .ok (.iconst 5, 1) := by decide +kernel
theorem dX5_price_15 : decode cX5_price 15 = .ok (.imul, 1) := by decide +kernel
theorem dX5_price_16 : decode cX5_price 16 = .ok (.iload_n 2, 1) := by decide +kernel
theorem dX5_price_17 : decode cX5_price 17 = .ok (.iadd, 1) := by decide +kernel
theorem dX5_price_18 : decode cX5_price 18 = .ok (.bipush 10, 2) := by decide +kernel
theorem dX5_price_20 : decode cX5_price 20 = .ok (.imul, 1) := by decide +kernel
theorem dX5_price_21 : decode cX5_price 21 = .ok (.iload_n 3, 1) := by decide +kernel
theorem dX5_price_22 : decode cX5_price 22 = .ok (.iadd, 1) := by decide +kernel
theorem dX5_price_23 : decode cX5_price 23 = .ok (.iconst 3, 1) := by decide +kernel
theorem dX5_price_24 : decode cX5_price 24 = .ok (.imul, 1) := by decide +kernel
theorem dX5_price_25 : decode cX5_price 25 = .ok (.iload 5, 2) := by decide +kernel
theorem dX5_price_27 : decode cX5_price 27 = .ok (.iadd, 1) := by decide +kernel
theorem dX5_price_28 : decode cX5_price 28 = .ok (.istore 6, 2) := by decide +kernel
theorem dX5_price_30 : decode cX5_price 30 = .ok (.iload 6, 2) := by decide +kernel
theorem dX5_price_32 : decode cX5_price 32 = .ok (.ifCond .lt 20, 3) := by decide +kernel
theorem dX5_price_35 : decode cX5_price 35 = .ok (.iload 6, 2) := by decide +kernel
theorem dX5_price_37 : decode cX5_price 37 = .ok (.aload_n 0, 1) := by decide +kernel
theorem dX5_price_38 : decode cX5_price 38 = .ok (.getfield 34, 3) := by decide +kernel
theorem dX5_price_41 : decode cX5_price 41 = .ok (.arraylength, 1) := by decide +kernel
theorem dX5_price_42 : decode cX5_price 42 = .ok (.if_icmp .ge 10, 3) := by decide +kernel
theorem dX5_price_45 : decode cX5_price 45 = .ok (.aload_n 0, 1) := by decide +kernel
theorem dX5_price_46 : decode cX5_price 46 = .ok (.getfield 60, 3) := by decide +kernel
theorem dX5_price_49 : decode cX5_price 49 = .ok (.ifnonnull 5, 3) := by decide +kernel
theorem dX5_price_52 : decode cX5_price 52 = .ok (.iconst 0, 1) := by decide +kernel
theorem dX5_price_53 : decode cX5_price 53 = .ok (.ireturn, 1) := by decide +kernel
theorem dX5_price_54 : decode cX5_price 54 = .ok (.aload_n 0, 1) := by decide +kernel
theorem dX5_price_55 : decode cX5_price 55 = .ok (.getfield 34, 3) := by decide +kernel
theorem dX5_price_58 : decode cX5_price 58 = .ok (.iload 6, 2) := by decide +kernel
theorem dX5_price_60 : decode cX5_price 60 = .ok (.iaload, 1) := by decide +kernel
theorem dX5_price_61 : decode cX5_price 61 = .ok (.iconst (-1), 1) := by decide +kernel
theorem dX5_price_62 : decode cX5_price 62 = .ok (.if_icmp .ne 95, 3) := by decide +kernel
theorem dX5_price_65 : decode cX5_price 65 = .ok (.aload_n 0, 1) := by decide +kernel
theorem dX5_price_66 : decode cX5_price 66 = .ok (.getfield 39, 3) := by decide +kernel
theorem dX5_price_69 : decode cX5_price 69 = .ok (.iconst 0, 1) := by decide +kernel
theorem dX5_price_70 : decode cX5_price 70 = .ok (.iload_n 2, 1) := by decide +kernel
theorem dX5_price_71 : decode cX5_price 71 = .ok (.iastore, 1) := by decide +kernel
theorem dX5_price_72 : decode cX5_price 72 = .ok (.aload_n 0, 1) := by decide +kernel
theorem dX5_price_73 : decode cX5_price 73 = .ok (.getfield 39, 3) := by decide +kernel
theorem dX5_price_76 : decode cX5_price 76 = .ok (.iconst 1, 1) := by decide +kernel
theorem dX5_price_77 : decode cX5_price 77 = .ok (.iload_n 3, 1) := by decide +kernel
theorem dX5_price_78 : decode cX5_price 78 = .ok (.iastore, 1) := by decide +kernel
theorem dX5_price_79 : decode cX5_price 79 = .ok (.aload_n 0, 1) := by decide +kernel
theorem dX5_price_80 : decode cX5_price 80 = .ok (.getfield 39, 3) := by decide +kernel
theorem dX5_price_83 : decode cX5_price 83 = .ok (.iconst 2, 1) := by decide +kernel
theorem dX5_price_84 : decode cX5_price 84 = .ok (.aload_n 0, 1) := by decide +kernel
theorem dX5_price_85 : decode cX5_price 85 = .ok (.getfield 12, 3) := by decide +kernel
theorem dX5_price_88 : decode cX5_price 88 = .ok (.getfield 91, 3) := by decide +kernel
theorem dX5_price_91 : decode cX5_price 91 = .ok (.iload_n 2, 1) := by decide +kernel
theorem dX5_price_92 : decode cX5_price 92 = .ok (.iaload, 1) := by decide +kernel
theorem dX5_price_93 : decode cX5_price 93 = .ok (.iastore, 1) := by decide +kernel
theorem dX5_price_94 : decode cX5_price 94 = .ok (.aload_n 0, 1) := by decide +kernel
theorem dX5_price_95 : decode cX5_price 95 = .ok (.getfield 39, 3) := by decide +kernel
theorem dX5_price_98 : decode cX5_price 98 = .ok (.iconst 3, 1) := by decide +kernel
theorem dX5_price_99 : decode cX5_price 99 = .ok (.iload 5, 2) := by decide +kernel
theorem dX5_price_101 : decode cX5_price 101 = .ok (.iastore, 1) := by decide +kernel
theorem dX5_price_102 : decode cX5_price 102 = .ok (.aload_n 0, 1) := by decide +kernel
theorem dX5_price_103 : decode cX5_price 103 = .ok (.getfield 39, 3) := by decide +kernel
theorem dX5_price_106 : decode cX5_price 106 = .ok (.iconst 4, 1) := by decide +kernel
theorem dX5_price_107 : decode cX5_price 107 = .ok (.aload_n 0, 1) := by decide +kernel
theorem dX5_price_108 : decode cX5_price 108 = .ok (.getfield 12, 3) := by decide +kernel
theorem dX5_price_111 : decode cX5_price 111 = .ok (.getfield 128, 3) := by decide +kernel
theorem dX5_price_114 : decode cX5_price 114 = .ok (.iload_n 2, 1) := by decide +kernel
theorem dX5_price_115 : decode cX5_price 115 = .ok (.iaload, 1) := by decide +kernel
theorem dX5_price_116 : decode cX5_price 116 = .ok (.iastore, 1) := by decide +kernel
theorem dX5_price_117 : decode cX5_price 117 = .ok (.aload_n 0, 1) := by decide +kernel
theorem dX5_price_118 : decode cX5_price 118 = .ok (.getfield 39, 3) := by decide +kernel
theorem dX5_price_121 : decode cX5_price 121 = .ok (.iconst 5, 1) := by decide +kernel
theorem dX5_price_122 : decode cX5_price 122 = .ok (.iload 4, 2) := by decide +kernel
theorem dX5_price_124 : decode cX5_price 124 = .ok (.iastore, 1) := by decide +kernel
theorem dX5_price_125 : decode cX5_price 125 = .ok (.aload_n 0, 1) := by decide +kernel
theorem dX5_price_126 : decode cX5_price 126 = .ok (.getfield 34, 3) := by decide +kernel
theorem dX5_price_129 : decode cX5_price 129 = .ok (.iload 6, 2) := by decide +kernel
theorem dX5_price_131 : decode cX5_price 131 = .ok (.iconst 0, 1) := by decide +kernel
theorem dX5_price_132 : decode cX5_price 132 = .ok (.bipush 99, 2) := by decide +kernel
theorem dX5_price_134 : decode cX5_price 134 = .ok (.aload_n 0, 1) := by decide +kernel
theorem dX5_price_135 : decode cX5_price 135 = .ok (.getfield 60, 3) := by decide +kernel
theorem dX5_price_138 : decode cX5_price 138 = .ok (.iload_n 1, 1) := by decide +kernel
theorem dX5_price_139 : decode cX5_price 139 = .ok (.aload_n 0, 1) := by decide +kernel
theorem dX5_price_140 : decode cX5_price 140 = .ok (.getfield 39, 3) := by decide +kernel
theorem dX5_price_143 : decode cX5_price 143 = .ok (.aload_n 0, 1) := by decide +kernel
theorem dX5_price_144 : decode cX5_price 144 = .ok (.getfield 42, 3) := by decide +kernel
theorem dX5_price_147 : decode cX5_price 147 = .ok (.invokevirtual 131, 3) := by decide +kernel
theorem dX5_price_150 : decode cX5_price 150 = .ok (.invokestatic 135, 3) := by decide +kernel
theorem dX5_price_153 : decode cX5_price 153 = .ok (.invokestatic 140, 3) := by decide +kernel
theorem dX5_price_156 : decode cX5_price 156 = .ok (.iastore, 1) := by decide +kernel
theorem dX5_price_157 : decode cX5_price 157 = .ok (.aload_n 0, 1) := by decide +kernel
theorem dX5_price_158 : decode cX5_price 158 = .ok (.getfield 34, 3) := by decide +kernel
theorem dX5_price_161 : decode cX5_price 161 = .ok (.iload 6, 2) := by decide +kernel
theorem dX5_price_163 : decode cX5_price 163 = .ok (.iaload, 1) := by decide +kernel
theorem dX5_price_164 : decode cX5_price 164 = .ok (.ireturn, 1) := by decide +kernel
theorem dX5_settle_0 : decode cX5_settle 0 = .ok (.iconst 0, 1) := by decide +kernel
theorem dX5_settle_1 : decode cX5_settle 1 = .ok (.istore_n 1, 1) := by decide +kernel
theorem dX5_settle_2 : decode cX5_settle 2 = .ok (.iload_n 1, 1) := by decide +kernel
theorem dX5_settle_3 : decode cX5_settle 3 = .ok (.aload_n 0, 1) := by decide +kernel
theorem dX5_settle_4 : decode cX5_settle 4 = .ok (.getfield 12, 3) := by decide +kernel
theorem dX5_settle_7 : decode cX5_settle 7 = .ok (.getfield 63, 3) := by decide +kernel
theorem dX5_settle_10 : decode cX5_settle 10 = .ok (.if_icmp .ge 14, 3) := by decide +kernel
theorem dX5_settle_13 : decode cX5_settle 13 = .ok (.aload_n 0, 1) := by decide +kernel
theorem dX5_settle_14 : decode cX5_settle 14 = .ok (.iload_n 1, 1) := by decide +kernel
theorem dX5_settle_15 : decode cX5_settle 15 = .ok (.invokevirtual 85, 3) := by decide +kernel
theorem dX5_settle_18 : decode cX5_settle 18 = .ok (.iinc 1 1, 3) := by decide +kernel
theorem dX5_settle_21 : decode cX5_settle 21 = .ok (.goto (-19), 3) := by decide +kernel
theorem dX5_settle_24 : decode cX5_settle 24 = .ok (.return_, 1) := by decide +kernel
theorem dX5_start_0 : decode cX5_start 0 = .ok (.aload_n 0, 1) := by decide +kernel
theorem dX5_start_1 : decode cX5_start 1 = .ok (.getfield 12, 3) := by decide +kernel
theorem dX5_start_4 : decode cX5_start 4 = .ok (.aload_n 0, 1) := by decide +kernel
theorem dX5_start_5 : decode cX5_start 5 = .ok (.getfield 45, 3) := by decide +kernel
theorem dX5_start_8 : decode cX5_start 8 = .ok (.invokevirtual 52, 3) := by decide +kernel
theorem dX5_start_11 : decode cX5_start 11 = .ok (.aload_n 0, 1) := by decide +kernel
theorem dX5_start_12 : decode cX5_start 12 = .ok (.aload_n 0, 1) := by decide +kernel
theorem dX5_start_13 : decode cX5_start 13 = .ok (.getfield 12, 3) := by decide +kernel
theorem dX5_start_16 : decode cX5_start 16 = .ok (.getfield 56, 3) := by decide +kernel
theorem dX5_start_19 : decode cX5_start 19 = .ok (.ifCond .lt 33, 3) := by decide +kernel
theorem dX5_start_22 : decode cX5_start 22 = .ok (.aload_n 0, 1) := by decide +kernel
theorem dX5_start_23 : decode cX5_start 23 = .ok (.getfield 12, 3) := by decide +kernel
theorem dX5_start_26 : decode cX5_start 26 = .ok (.getfield 56, 3) := by decide +kernel
theorem dX5_start_29 : decode cX5_start 29 = .ok (.aload_n 0, 1) := by decide +kernel
theorem dX5_start_30 : decode cX5_start 30 = .ok (.getfield 48, 3) := by decide +kernel
theorem dX5_start_33 : decode cX5_start 33 = .ok (.arraylength, 1) := by decide +kernel
theorem dX5_start_34 : decode cX5_start 34 = .ok (.if_icmp .ge 18, 3) := by decide +kernel
theorem dX5_start_37 : decode cX5_start 37 = .ok (.aload_n 0, 1) := by decide +kernel
theorem dX5_start_38 : decode cX5_start 38 = .ok (.getfield 48, 3) := by decide +kernel
theorem dX5_start_41 : decode cX5_start 41 = .ok (.aload_n 0, 1) := by decide +kernel
theorem dX5_start_42 : decode cX5_start 42 = .ok (.getfield 12, 3) := by decide +kernel
theorem dX5_start_45 : decode cX5_start 45 = .ok (.getfield 56, 3) := by decide +kernel
theorem dX5_start_48 : decode cX5_start 48 = .ok (.aaload, 1) := by decide +kernel
theorem dX5_start_49 : decode cX5_start 49 = .ok (.goto 4, 3) := by decide +kernel
theorem dX5_start_52 : decode cX5_start 52 = .ok (.aconst_null, 1) := by decide +kernel
theorem dX5_start_53 : decode cX5_start 53 = .ok (.putfield 60, 3) := by decide +kernel
theorem dX5_start_56 : decode cX5_start 56 = .ok (.aload_n 0, 1) := by decide +kernel
theorem dX5_start_57 : decode cX5_start 57 = .ok (.iconst 1, 1) := by decide +kernel
theorem dX5_start_58 : decode cX5_start 58 = .ok (.aload_n 0, 1) := by decide +kernel
theorem dX5_start_59 : decode cX5_start 59 = .ok (.getfield 12, 3) := by decide +kernel
theorem dX5_start_62 : decode cX5_start 62 = .ok (.getfield 63, 3) := by decide +kernel
theorem dX5_start_65 : decode cX5_start 65 = .ok (.ishl, 1) := by decide +kernel
theorem dX5_start_66 : decode cX5_start 66 = .ok (.iconst 1, 1) := by decide +kernel
theorem dX5_start_67 : decode cX5_start 67 = .ok (.isub, 1) := by decide +kernel
theorem dX5_start_68 : decode cX5_start 68 = .ok (.invokevirtual 66, 3) := by decide +kernel
theorem dX5_start_71 : decode cX5_start 71 = .ok (.return_, 1) := by decide +kernel
theorem dX5_steps_0 : decode cX5_steps 0 = .ok (.iconst 0, 1) := by decide +kernel
theorem dX5_steps_1 : decode cX5_steps 1 = .ok (.istore_n 1, 1) := by decide +kernel
theorem dX5_steps_2 : decode cX5_steps 2 = .ok (.iconst 0, 1) := by decide +kernel
theorem dX5_steps_3 : decode cX5_steps 3 = .ok (.istore_n 2, 1) := by decide +kernel
theorem dX5_steps_4 : decode cX5_steps 4 = .ok (.iload_n 2, 1) := by decide +kernel
theorem dX5_steps_5 : decode cX5_steps 5 = .ok (.bipush 10, 2) := by decide +kernel
theorem dX5_steps_7 : decode cX5_steps 7 = .ok (.if_icmp .ge 20, 3) := by decide +kernel
theorem dX5_steps_10 : decode cX5_steps 10 = .ok (.iload_n 1, 1) := by decide +kernel
theorem dX5_steps_11 : decode cX5_steps 11 = .ok (.aload_n 0, 1) := by decide +kernel
theorem dX5_steps_12 : decode cX5_steps 12 = .ok (.iload_n 2, 1) := by decide +kernel
theorem dX5_steps_13 : decode cX5_steps 13 = .ok (.invokevirtual 122, 3) := by decide +kernel
theorem dX5_steps_16 : decode cX5_steps 16 = .ok (.invokestatic 105, 3) := by decide +kernel
theorem dX5_steps_19 : decode cX5_steps 19 = .ok (.iadd, 1) := by decide +kernel
theorem dX5_steps_20 : decode cX5_steps 20 = .ok (.istore_n 1, 1) := by decide +kernel
theorem dX5_steps_21 : decode cX5_steps 21 = .ok (.iinc 2 1, 3) := by decide +kernel
theorem dX5_steps_24 : decode cX5_steps 24 = .ok (.goto (-20), 3) := by decide +kernel
theorem dX5_steps_27 : decode cX5_steps 27 = .ok (.iload_n 1, 1) := by decide +kernel
theorem dX5_steps_28 : decode cX5_steps 28 = .ok (.ireturn, 1) := by decide +kernel
theorem dX5_whoGoesOn_0 : decode cX5_whoGoesOn 0 = .ok (.aload_n 0, 1) := by decide +kernel
theorem dX5_whoGoesOn_1 : decode cX5_whoGoesOn 1 = .ok (.getfield 18, 3) := by decide +kernel
theorem dX5_whoGoesOn_4 : decode cX5_whoGoesOn 4 = .ok (.iload_n 1, 1) := by decide +kernel
theorem dX5_whoGoesOn_5 : decode cX5_whoGoesOn 5 = .ok (.iaload, 1) := by decide +kernel
theorem dX5_whoGoesOn_6 : decode cX5_whoGoesOn 6 = .ok (.aload_n 0, 1) := by decide +kernel
theorem dX5_whoGoesOn_7 : decode cX5_whoGoesOn 7 = .ok (.getfield 25, 3) := by decide +kernel
theorem dX5_whoGoesOn_10 : decode cX5_whoGoesOn 10 = .ok (.iload_n 1, 1) := by decide +kernel
theorem dX5_whoGoesOn_11 : decode cX5_whoGoesOn 11 = .ok (.iaload, 1) := by decide +kernel
theorem dX5_whoGoesOn_12 : decode cX5_whoGoesOn 12 = .ok (.ior, 1) := by decide +kernel
theorem dX5_whoGoesOn_13 : decode cX5_whoGoesOn 13 = .ok (.ireturn, 1) := by decide +kernel
theorem dX5_whoMakesWay_0 : decode cX5_whoMakesWay 0 = .ok (.aload_n 0, 1) := by decide +kernel
theorem dX5_whoMakesWay_1 : decode cX5_whoMakesWay 1 = .ok (.getfield 28, 3) := by decide +kernel
theorem dX5_whoMakesWay_4 : decode cX5_whoMakesWay 4 = .ok (.iload_n 1, 1) := by decide +kernel
theorem dX5_whoMakesWay_5 : decode cX5_whoMakesWay 5 = .ok (.iaload, 1) := by decide +kernel
theorem dX5_whoMakesWay_6 : decode cX5_whoMakesWay 6 = .ok (.iload_n 2, 1) := by decide +kernel
theorem dX5_whoMakesWay_7 : decode cX5_whoMakesWay 7 = .ok (.iand, 1) := by decide +kernel
theorem dX5_whoMakesWay_8 : decode cX5_whoMakesWay 8 = .ok (.istore_n 3, 1) := by decide +kernel
theorem dX5_whoMakesWay_9 : decode cX5_whoMakesWay 9 = .ok (.aload_n 0, 1) := by decide +kernel
theorem dX5_whoMakesWay_10 : decode cX5_whoMakesWay 10 = .ok (.getfield 12, 3) := by decide +kernel
theorem dX5_whoMakesWay_13 : decode cX5_whoMakesWay 13 = .ok (.getfield 102, 3) := by decide +kernel
theorem dX5_whoMakesWay_16 : decode cX5_whoMakesWay 16 = .ok (.iconst 2, 1) := by decide +kernel
theorem dX5_whoMakesWay_17 : decode cX5_whoMakesWay 17 = .ok (.if_icmp .eq 5, 3) := by decide +kernel
theorem dX5_whoMakesWay_20 : decode cX5_whoMakesWay 20 = .ok (.iload_n 3, 1) := by decide +kernel
theorem dX5_whoMakesWay_21 : decode cX5_whoMakesWay 21 = .ok (.ireturn, 1) := by decide +kernel
theorem dX5_whoMakesWay_22 : decode cX5_whoMakesWay 22 = .ok (.aload_n 0, 1) := by decide +kernel
theorem dX5_whoMakesWay_23 : decode cX5_whoMakesWay 23 = .ok (.getfield 31, 3) := by decide +kernel
theorem dX5_whoMakesWay_26 : decode cX5_whoMakesWay 26 = .ok (.iload_n 1, 1) := by decide +kernel
theorem dX5_whoMakesWay_27 : decode cX5_whoMakesWay 27 = .ok (.iaload, 1) := by decide +kernel
theorem dX5_whoMakesWay_28 : decode cX5_whoMakesWay 28 = .ok (.iload_n 2, 1) := by decide +kernel
theorem dX5_whoMakesWay_29 : decode cX5_whoMakesWay 29 = .ok (.iand, 1) := by decide +kernel
theorem dX5_whoMakesWay_30 : decode cX5_whoMakesWay 30 = .ok (.istore 4, 2) := by decide +kernel
theorem dX5_whoMakesWay_32 : decode cX5_whoMakesWay 32 = .ok (.iload 4, 2) := by decide +kernel
theorem dX5_whoMakesWay_34 : decode cX5_whoMakesWay 34 = .ok (.invokestatic 105, 3) := by decide +kernel
theorem dX5_whoMakesWay_37 : decode cX5_whoMakesWay 37 = .ok (.iload_n 3, 1) := by decide +kernel
theorem dX5_whoMakesWay_38 : decode cX5_whoMakesWay 38 = .ok (.invokestatic 105, 3) := by decide +kernel
theorem dX5_whoMakesWay_41 : decode cX5_whoMakesWay 41 = .ok (.if_icmp .ge 8, 3) := by decide +kernel
theorem dX5_whoMakesWay_44 : decode cX5_whoMakesWay 44 = .ok (.iload 4, 2) := by decide +kernel
theorem dX5_whoMakesWay_46 : decode cX5_whoMakesWay 46 = .ok (.goto 4, 3) := by decide +kernel
theorem dX5_whoMakesWay_49 : decode cX5_whoMakesWay 49 = .ok (.iload_n 3, 1) := by decide +kernel
theorem dX5_whoMakesWay_50 : decode cX5_whoMakesWay 50 = .ok (.ireturn, 1) := by decide +kernel
theorem dX5_whoStepsOut_0 : decode cX5_whoStepsOut 0 = .ok (.iconst 0, 1) := by decide +kernel
theorem dX5_whoStepsOut_1 : decode cX5_whoStepsOut 1 = .ok (.istore_n 2, 1) := by decide +kernel
theorem dX5_whoStepsOut_2 : decode cX5_whoStepsOut 2 = .ok (.aload_n 0, 1) := by decide +kernel
theorem dX5_whoStepsOut_3 : decode cX5_whoStepsOut 3 = .ok (.getfield 18, 3) := by decide +kernel
theorem dX5_whoStepsOut_6 : decode cX5_whoStepsOut 6 = .ok (.iload_n 1, 1) := by decide +kernel
theorem dX5_whoStepsOut_7 : decode cX5_whoStepsOut 7 = .ok (.iaload, 1) := by decide +kernel
theorem dX5_whoStepsOut_8 : decode cX5_whoStepsOut 8 = .ok (.istore_n 3, 1) := by decide +kernel
theorem dX5_whoStepsOut_9 : decode cX5_whoStepsOut 9 = .ok (.iload_n 3, 1) := by decide +kernel
theorem dX5_whoStepsOut_10 : decode cX5_whoStepsOut 10 = .ok (.ifCond .ne 14, 3) := by decide +kernel
theorem dX5_whoStepsOut_13 : decode cX5_whoStepsOut 13 = .ok (.aload_n 0, 1) := by decide +kernel
theorem dX5_whoStepsOut_14 : decode cX5_whoStepsOut 14 = .ok (.getfield 25, 3) := by decide +kernel
theorem dX5_whoStepsOut_17 : decode cX5_whoStepsOut 17 = .ok (.iload_n 1, 1) := by decide +kernel
theorem dX5_whoStepsOut_18 : decode cX5_whoStepsOut 18 = .ok (.iaload, 1) := by decide +kernel
theorem dX5_whoStepsOut_19 : decode cX5_whoStepsOut 19 = .ok (.ifCond .ne 5, 3) := by decide +kernel
theorem dX5_whoStepsOut_22 : decode cX5_whoStepsOut 22 = .ok (.iconst 0, 1) := by decide +kernel
theorem dX5_whoStepsOut_23 : decode cX5_whoStepsOut 23 = .ok (.ireturn, 1) := by decide +kernel
theorem dX5_whoStepsOut_24 : decode cX5_whoStepsOut 24 = .ok (.iconst 0, 1) := by decide +kernel
theorem dX5_whoStepsOut_25 : decode cX5_whoStepsOut 25 = .ok (.istore 4, 2) := by decide +kernel
theorem dX5_whoStepsOut_27 : decode cX5_whoStepsOut 27 = .ok (.iload 4, 2) := by decide +kernel
theorem dX5_whoStepsOut_29 : decode cX5_whoStepsOut 29 = .ok (.aload_n 0, 1) := by decide +kernel
theorem dX5_whoStepsOut_30 : decode cX5_whoStepsOut 30 = .ok (.getfield 12, 3) := by decide +kernel
theorem dX5_whoStepsOut_33 : decode cX5_whoStepsOut 33 = .ok (.getfield 63, 3) := by decide +kernel
theorem dX5_whoStepsOut_36 : decode cX5_whoStepsOut 36 = .ok (.if_icmp .ge 72, 3) := by decide +kernel
theorem dX5_whoStepsOut_39 : decode cX5_whoStepsOut 39 = .ok (.aload_n 0, 1) := by decide +kernel
theorem dX5_whoStepsOut_40 : decode cX5_whoStepsOut 40 = .ok (.getfield 22, 3) := by decide +kernel
theorem dX5_whoStepsOut_43 : decode cX5_whoStepsOut 43 = .ok (.iload_n 1, 1) := by decide +kernel
theorem dX5_whoStepsOut_44 : decode cX5_whoStepsOut 44 = .ok (.iaload, 1) := by decide +kernel
theorem dX5_whoStepsOut_45 : decode cX5_whoStepsOut 45 = .ok (.iload 4, 2) := by decide +kernel
theorem dX5_whoStepsOut_47 : decode cX5_whoStepsOut 47 = .ok (.ishr, 1) := by decide +kernel
theorem dX5_whoStepsOut_48 : decode cX5_whoStepsOut 48 = .ok (.iconst 1, 1) := by decide +kernel
theorem dX5_whoStepsOut_49 : decode cX5_whoStepsOut 49 = .ok (.iand, 1) := by decide +kernel
theorem dX5_whoStepsOut_50 : decode cX5_whoStepsOut 50 = .ok (.ifCond .eq 21, 3) := by decide +kernel
theorem dX5_whoStepsOut_53 : decode cX5_whoStepsOut 53 = .ok (.iload_n 2, 1) := by decide +kernel
theorem dX5_whoStepsOut_54 : decode cX5_whoStepsOut 54 = .ok (.aload_n 0, 1) := by decide +kernel
theorem dX5_whoStepsOut_55 : decode cX5_whoStepsOut 55 = .ok (.iload 4, 2) := by decide +kernel
theorem dX5_whoStepsOut_57 : decode cX5_whoStepsOut 57 = .ok (.aload_n 0, 1) := by decide +kernel
theorem dX5_whoStepsOut_58 : decode cX5_whoStepsOut 58 = .ok (.getfield 18, 3) := by decide +kernel
theorem dX5_whoStepsOut_61 : decode cX5_whoStepsOut 61 = .ok (.iload_n 1, 1) := by decide +kernel
theorem dX5_whoStepsOut_62 : decode cX5_whoStepsOut 62 = .ok (.iaload, 1) := by decide +kernel
theorem dX5_whoStepsOut_63 : decode cX5_whoStepsOut 63 = .ok (.invokevirtual 98, 3) := by decide +kernel
theorem dX5_whoStepsOut_66 : decode cX5_whoStepsOut 66 = .ok (.ior, 1) := by decide +kernel
theorem dX5_whoStepsOut_67 : decode cX5_whoStepsOut 67 = .ok (.istore_n 2, 1) := by decide +kernel
theorem dX5_whoStepsOut_68 : decode cX5_whoStepsOut 68 = .ok (.goto 34, 3) := by decide +kernel
theorem dX5_whoStepsOut_71 : decode cX5_whoStepsOut 71 = .ok (.aload_n 0, 1) := by decide +kernel
theorem dX5_whoStepsOut_72 : decode cX5_whoStepsOut 72 = .ok (.getfield 25, 3) := by decide +kernel
theorem dX5_whoStepsOut_75 : decode cX5_whoStepsOut 75 = .ok (.iload_n 1, 1) := by decide +kernel
theorem dX5_whoStepsOut_76 : decode cX5_whoStepsOut 76 = .ok (.iaload, 1) := by decide +kernel
theorem dX5_whoStepsOut_77 : decode cX5_whoStepsOut 77 = .ok (.iload 4, 2) := by decide +kernel
theorem dX5_whoStepsOut_79 : decode cX5_whoStepsOut 79 = .ok (.ishr, 1) := by decide +kernel
theorem dX5_whoStepsOut_80 : decode cX5_whoStepsOut 80 = .ok (.iconst 1, 1) := by decide +kernel
theorem dX5_whoStepsOut_81 : decode cX5_whoStepsOut 81 = .ok (.iand, 1) := by decide +kernel
theorem dX5_whoStepsOut_82 : decode cX5_whoStepsOut 82 = .ok (.ifCond .eq 20, 3) := by decide +kernel
theorem dX5_whoStepsOut_85 : decode cX5_whoStepsOut 85 = .ok (.iload_n 2, 1) := by decide +kernel
theorem dX5_whoStepsOut_86 : decode cX5_whoStepsOut 86 = .ok (.aload_n 0, 1) := by decide +kernel
theorem dX5_whoStepsOut_87 : decode cX5_whoStepsOut 87 = .ok (.iload 4, 2) := by decide +kernel
theorem dX5_whoStepsOut_89 : decode cX5_whoStepsOut 89 = .ok (.iload_n 3, 1) := by decide +kernel
theorem dX5_whoStepsOut_90 : decode cX5_whoStepsOut 90 = .ok (.invokevirtual 98, 3) := by decide +kernel
theorem dX5_whoStepsOut_93 : decode cX5_whoStepsOut 93 = .ok (.ior, 1) := by decide +kernel
theorem dX5_whoStepsOut_94 : decode cX5_whoStepsOut 94 = .ok (.istore_n 2, 1) := by decide +kernel
theorem dX5_whoStepsOut_95 : decode cX5_whoStepsOut 95 = .ok (.iload_n 3, 1) := by decide +kernel
theorem dX5_whoStepsOut_96 : decode cX5_whoStepsOut 96 = .ok (.iconst 1, 1) := by decide +kernel
theorem dX5_whoStepsOut_97 : decode cX5_whoStepsOut 97 = .ok (.iload 4, 2) := by decide +kernel
theorem dX5_whoStepsOut_99 : decode cX5_whoStepsOut 99 = .ok (.ishl, 1) := by decide +kernel
theorem dX5_whoStepsOut_100 : decode cX5_whoStepsOut 100 = .ok (.ior, 1) := by decide +kernel
theorem dX5_whoStepsOut_101 : decode cX5_whoStepsOut 101 = .ok (.istore_n 3, 1) := by decide +kernel
theorem dX5_whoStepsOut_102 : decode cX5_whoStepsOut 102 = .ok (.iinc 4 1, 3) := by decide +kernel
theorem dX5_whoStepsOut_105 : decode cX5_whoStepsOut 105 = .ok (.goto (-78), 3) := by decide +kernel
theorem dX5_whoStepsOut_108 : decode cX5_whoStepsOut 108 = .ok (.iload_n 2, 1) := by decide +kernel
theorem dX5_whoStepsOut_109 : decode cX5_whoStepsOut 109 = .ok (.ireturn, 1) := by decide +kernel
theorem dX6_back_0 : decode cX6_back 0 = .ok (.aload_n 0, 1) := by decide +kernel
theorem dX6_back_1 : decode cX6_back 1 = .ok (.getfield 244, 3) := by decide +kernel
theorem dX6_back_4 : decode cX6_back 4 = .ok (.ifCond .ne 6, 3) := by decide +kernel
theorem dX6_back_7 : decode cX6_back 7 = .ok (.bipush (-3), 2) := by decide +kernel
theorem dX6_back_9 : decode cX6_back 9 = .ok (.ireturn, 1) := by decide +kernel
theorem dX6_back_10 : decode cX6_back 10 = .ok (.aload_n 0, 1) := by decide +kernel
theorem dX6_back_11 : decode cX6_back 11 = .ok (.getfield 10, 3) := by decide +kernel
theorem dX6_back_14 : decode cX6_back 14 = .ok (.aload_n 0, 1) := by decide +kernel
theorem dX6_back_15 : decode cX6_back 15 = .ok (.getfield 16, 3) := by decide +kernel
theorem dX6_back_18 : decode cX6_back 18 = .ok (.invokevirtual 241, 3) := by decide +kernel
theorem dX6_back_21 : decode cX6_back 21 = .ok (.aload_n 0, 1) := by decide +kernel
theorem dX6_back_22 : decode cX6_back 22 = .ok (.getfield 52, 3) := by decide +kernel
theorem dX6_back_25 : decode cX6_back 25 = .ok (.iconst 0, 1) := by decide +kernel
theorem dX6_back_26 : decode cX6_back 26 = .ok (.putfield 126, 3) := by decide +kernel
theorem dX6_back_29 : decode cX6_back 29 = .ok (.aload_n 0, 1) := by decide +kernel
theorem dX6_back_30 : decode cX6_back 30 = .ok (.getfield 10, 3) := by decide +kernel
theorem dX6_back_33 : decode cX6_back 33 = .ok (.getfield 102, 3) := by decide +kernel
theorem dX6_back_36 : decode cX6_back 36 = .ok (.ireturn, 1) := by decide +kernel
theorem dX6_cell_0 : decode cX6_cell 0 = .ok (.iload_n 1, 1) := by decide +kernel
theorem dX6_cell_1 : decode cX6_cell 1 = .ok (.invokestatic 217, 3) := by decide +kernel
theorem dX6_cell_4 : decode cX6_cell 4 = .ok (.ifCond .ne 6, 3) := by decide +kernel
theorem dX6_cell_7 : decode cX6_cell 7 = .ok (.bipush (-2), 2) := by decide +kernel
theorem dX6_cell_9 : decode cX6_cell 9 = .ok (.ireturn, 1) := by decide +kernel
theorem dX6_cell_10 : decode cX6_cell 10 = .ok (.aload_n 0, 1) := by decide +kernel
theorem dX6_cell_11 : decode cX6_cell 11 = .ok (.getfield 34, 3) := by decide +kernel
theorem dX6_cell_14 : decode cX6_cell 14 = .ok (.iload_n 1, 1) := by decide +kernel
theorem dX6_cell_15 : decode cX6_cell 15 = .ok (.aaload, 1) := by decide +kernel
theorem dX6_cell_16 : decode cX6_cell 16 = .ok (.astore 4, 2) := by decide +kernel
theorem dX6_cell_18 : decode cX6_cell 18 = .ok (.aload 4, 2) := by decide +kernel
theorem dX6_cell_20 : decode cX6_cell 20 = .ok (.invokevirtual 247, 3) := by decide +kernel
theorem dX6_cell_23 : decode cX6_cell 23 = .ok (.ifCond .eq 6, 3) := by decide +kernel
theorem dX6_cell_26 : decode cX6_cell 26 = .ok (.bipush (-11), 2) := by decide +kernel
theorem dX6_cell_28 : decode cX6_cell 28 = .ok (.ireturn, 1) := by decide +kernel
theorem dX6_cell_29 : decode cX6_cell 29 = .ok (.iload_n 2, 1) := by decide +kernel
theorem dX6_cell_30 : decode cX6_cell 30 = .ok (.ifCond .lt 12, 3) := by decide +kernel
theorem dX6_cell_33 : decode cX6_cell 33 = .ok (.iload_n 2, 1) := by decide +kernel
theorem dX6_cell_34 : decode cX6_cell 34 = .ok (.aload 4, 2) := by decide +kernel
theorem dX6_cell_36 : decode cX6_cell 36 = .ok (.getfield 250, 3) := by decide +kernel
theorem dX6_cell_39 : decode cX6_cell 39 = .ok (.if_icmp .lt 6, 3) := by decide +kernel
theorem dX6_cell_42 : decode cX6_cell 42 = .ok (.bipush (-12), 2) := by decide +kernel
theorem dX6_cell_44 : decode cX6_cell 44 = .ok (.ireturn, 1) := by decide +kernel
theorem dX6_cell_45 : decode cX6_cell 45 = .ok (.aload 4, 2) := by decide +kernel
theorem dX6_cell_47 : decode cX6_cell 47 = .ok (.getfield 235, 3) := by decide +kernel
theorem dX6_cell_50 : decode cX6_cell 50 = .ok (.iload_n 2, 1) := by decide +kernel
theorem dX6_cell_51 : decode cX6_cell 51 = .ok (.aload 4, 2) := by decide +kernel
theorem dX6_cell_53 : decode cX6_cell 53 = .ok (.iload_n 3, 1) := by decide +kernel
theorem dX6_cell_54 : decode cX6_cell 54 = .ok (.invokevirtual 252, 3) := by decide +kernel
theorem dX6_cell_57 : decode cX6_cell 57 = .ok (.iastore, 1) := by decide +kernel
theorem dX6_cell_58 : decode cX6_cell 58 = .ok (.iconst 1, 1) := by decide +kernel
theorem dX6_cell_59 : decode cX6_cell 59 = .ok (.ireturn, 1) := by decide +kernel
theorem dX6_chance_0 : decode cX6_chance 0 = .ok (.iload_n 2, 1) := by decide +kernel
theorem dX6_chance_1 : decode cX6_chance 1 = .ok (.iconst 1, 1) := by decide +kernel
theorem dX6_chance_2 : decode cX6_chance 2 = .ok (.if_icmp .lt 18, 3) := by decide +kernel
theorem dX6_chance_5 : decode cX6_chance 5 = .ok (.iload_n 2, 1) := by decide +kernel
theorem dX6_chance_6 : decode cX6_chance 6 = .ok (.bipush 20, 2) := by decide +kernel
theorem dX6_chance_8 : decode cX6_chance 8 = .ok (.if_icmp .gt 12, 3) := by decide +kernel
theorem dX6_chance_11 : decode cX6_chance 11 = .ok (.iload_n 3, 1) := by decide +kernel
theorem dX6_chance_12 : decode cX6_chance 12 = .ok (.ifCond .lt 8, 3) := by decide +kernel
theorem dX6_chance_15 : decode cX6_chance 15 = .ok (.iload_n 3, 1) := by decide +kernel
end
section
theorem dX6_chance_16 : decode cX6_chance 16 = .ok (.iconst 1, 1) := by decide +kernel
theorem dX6_chance_17 : decode cX6_chance 17 = .ok (.if_icmp .le 7, 3) := by decide +kernel
theorem dX6_chance_20 : decode cX6_chance 20 = .ok (.ldc2_w 198, 3) := by decide +kernel
theorem dX6_chance_23 : decode cX6_chance 23 = .ok (.lreturn, 1) := by decide +kernel
theorem dX6_chance_24 : decode cX6_chance 24 = .ok (.aload_n 0, 1) := by decide +kernel
theorem dX6_chance_25 : decode cX6_chance 25 = .ok (.getfield 43, 3) := by decide +kernel
theorem dX6_chance_28 : decode cX6_chance 28 = .ok (.invokevirtual 153, 3) := by decide +kernel
theorem dX6_chance_31 : decode cX6_chance 31 = .ok (.aload_n 0, 1) := by decide +kernel
theorem dX6_chance_32 : decode cX6_chance 32 = .ok (.getfield 43, 3) := by decide +kernel
theorem dX6_chance_35 : decode cX6_chance 35 = .ok (.invokevirtual 156, 3) := by decide +kernel
theorem dX6_chance_38 : decode cX6_chance 38 = .ok (.istore 4, 2) := by decide +kernel
theorem dX6_chance_40 : decode cX6_chance 40 = .ok (.iconst 0, 1) := by decide +kernel
theorem dX6_chance_41 : decode cX6_chance 41 = .ok (.istore 5, 2) := by decide +kernel
theorem dX6_chance_43 : decode cX6_chance 43 = .ok (.iconst 0, 1) := by decide +kernel
theorem dX6_chance_44 : decode cX6_chance 44 = .ok (.istore 6, 2) := by decide +kernel
theorem dX6_chance_46 : decode cX6_chance 46 = .ok (.iload 6, 2) := by decide +kernel
theorem dX6_chance_48 : decode cX6_chance 48 = .ok (.iload_n 2, 1) := by decide +kernel
theorem dX6_chance_49 : decode cX6_chance 49 = .ok (.if_icmp .ge 25, 3) := by decide +kernel
theorem dX6_chance_52 : decode cX6_chance 52 = .ok (.aload_n 0, 1) := by decide +kernel
theorem dX6_chance_53 : decode cX6_chance 53 = .ok (.iload_n 1, 1) := by decide +kernel
theorem dX6_chance_54 : decode cX6_chance 54 = .ok (.iload 6, 2) := by decide +kernel
theorem dX6_chance_56 : decode cX6_chance 56 = .ok (.iadd, 1) := by decide +kernel
theorem dX6_chance_57 : decode cX6_chance 57 = .ok (.invokevirtual 238, 3) := by decide +kernel
theorem dX6_chance_60 : decode cX6_chance 60 = .ok (.iload 4, 2) := by decide +kernel
theorem dX6_chance_62 : decode cX6_chance 62 = .ok (.if_icmp .gt 6, 3) := by decide +kernel
theorem dX6_chance_65 : decode cX6_chance 65 = .ok (.iinc 5 1, 3) := by decide +kernel
theorem dX6_chance_68 : decode cX6_chance 68 = .ok (.iinc 6 1, 3) := by decide +kernel
theorem dX6_chance_71 : decode cX6_chance 71 = .ok (.goto (-25), 3) := by decide +kernel
theorem dX6_chance_74 : decode cX6_chance 74 = .ok (.iload 5, 2) := by decide +kernel
theorem dX6_chance_76 : decode cX6_chance 76 = .ok (.i2l, 1) := by decide +kernel
theorem dX6_chance_77 : decode cX6_chance 77 = .ok (.iload_n 2, 1) := by decide +kernel
theorem dX6_chance_78 : decode cX6_chance 78 = .ok (.i2l, 1) := by decide +kernel
theorem dX6_chance_79 : decode cX6_chance 79 = .ok (.iload_n 3, 1) := by decide +kernel
theorem dX6_chance_80 : decode cX6_chance 80 = .ok (.invokestatic 210, 3) := by decide +kernel
theorem dX6_chance_83 : decode cX6_chance 83 = .ok (.lreturn, 1) := by decide +kernel
theorem dX6_change_0 : decode cX6_change 0 = .ok (.iload_n 1, 1) := by decide +kernel
theorem dX6_change_1 : decode cX6_change 1 = .ok (.ifCond .lt 8, 3) := by decide +kernel
theorem dX6_change_4 : decode cX6_change 4 = .ok (.iload_n 1, 1) := by decide +kernel
theorem dX6_change_5 : decode cX6_change 5 = .ok (.iconst 1, 1) := by decide +kernel
theorem dX6_change_6 : decode cX6_change 6 = .ok (.if_icmp .le 6, 3) := by decide +kernel
theorem dX6_change_9 : decode cX6_change 9 = .ok (.bipush (-2), 2) := by decide +kernel
theorem dX6_change_11 : decode cX6_change 11 = .ok (.ireturn, 1) := by decide +kernel
theorem dX6_change_12 : decode cX6_change 12 = .ok (.aload_n 0, 1) := by decide +kernel
theorem dX6_change_13 : decode cX6_change 13 = .ok (.getfield 43, 3) := by decide +kernel
theorem dX6_change_16 : decode cX6_change 16 = .ok (.invokevirtual 153, 3) := by decide +kernel
theorem dX6_change_19 : decode cX6_change 19 = .ok (.iconst (-1), 1) := by decide +kernel
theorem dX6_change_20 : decode cX6_change 20 = .ok (.istore_n 2, 1) := by decide +kernel
theorem dX6_change_21 : decode cX6_change 21 = .ok (.aload_n 0, 1) := by decide +kernel
theorem dX6_change_22 : decode cX6_change 22 = .ok (.getfield 43, 3) := by decide +kernel
theorem dX6_change_25 : decode cX6_change 25 = .ok (.invokevirtual 156, 3) := by decide +kernel
theorem dX6_change_28 : decode cX6_change 28 = .ok (.istore_n 3, 1) := by decide +kernel
theorem dX6_change_29 : decode cX6_change 29 = .ok (.iconst 0, 1) := by decide +kernel
theorem dX6_change_30 : decode cX6_change 30 = .ok (.istore 4, 2) := by decide +kernel
theorem dX6_change_32 : decode cX6_change 32 = .ok (.iload 4, 2) := by decide +kernel
theorem dX6_change_34 : decode cX6_change 34 = .ok (.aload_n 0, 1) := by decide +kernel
theorem dX6_change_35 : decode cX6_change 35 = .ok (.getfield 10, 3) := by decide +kernel
theorem dX6_change_38 : decode cX6_change 38 = .ok (.getfield 102, 3) := by decide +kernel
theorem dX6_change_41 : decode cX6_change 41 = .ok (.if_icmp .ge 62, 3) := by decide +kernel
theorem dX6_change_44 : decode cX6_change 44 = .ok (.iload 4, 2) := by decide +kernel
theorem dX6_change_46 : decode cX6_change 46 = .ok (.iconst 1, 1) := by decide +kernel
theorem dX6_change_47 : decode cX6_change 47 = .ok (.iadd, 1) := by decide +kernel
theorem dX6_change_48 : decode cX6_change 48 = .ok (.istore 5, 2) := by decide +kernel
theorem dX6_change_50 : decode cX6_change 50 = .ok (.iload 5, 2) := by decide +kernel
theorem dX6_change_52 : decode cX6_change 52 = .ok (.aload_n 0, 1) := by decide +kernel
theorem dX6_change_53 : decode cX6_change 53 = .ok (.getfield 10, 3) := by decide +kernel
theorem dX6_change_56 : decode cX6_change 56 = .ok (.getfield 102, 3) := by decide +kernel
theorem dX6_change_59 : decode cX6_change 59 = .ok (.if_icmp .ge 38, 3) := by decide +kernel
theorem dX6_change_62 : decode cX6_change 62 = .ok (.aload_n 0, 1) := by decide +kernel
theorem dX6_change_63 : decode cX6_change 63 = .ok (.iload 4, 2) := by decide +kernel
theorem dX6_change_65 : decode cX6_change 65 = .ok (.iload 5, 2) := by decide +kernel
theorem dX6_change_67 : decode cX6_change 67 = .ok (.iload_n 3, 1) := by decide +kernel
theorem dX6_change_68 : decode cX6_change 68 = .ok (.invokevirtual 191, 3) := by decide +kernel
theorem dX6_change_71 : decode cX6_change 71 = .ok (.istore 6, 2) := by decide +kernel
theorem dX6_change_73 : decode cX6_change 73 = .ok (.iload 6, 2) := by decide +kernel
theorem dX6_change_75 : decode cX6_change 75 = .ok (.iload_n 3, 1) := by decide +kernel
theorem dX6_change_76 : decode cX6_change 76 = .ok (.if_icmp .ge 15, 3) := by decide +kernel
theorem dX6_change_79 : decode cX6_change 79 = .ok (.iload 6, 2) := by decide +kernel
theorem dX6_change_81 : decode cX6_change 81 = .ok (.istore_n 3, 1) := by decide +kernel
theorem dX6_change_82 : decode cX6_change 82 = .ok (.bipush 10, 2) := by decide +kernel
theorem dX6_change_84 : decode cX6_change 84 = .ok (.iload 4, 2) := by decide +kernel
theorem dX6_change_86 : decode cX6_change 86 = .ok (.imul, 1) := by decide +kernel
theorem dX6_change_87 : decode cX6_change 87 = .ok (.iload 5, 2) := by decide +kernel
theorem dX6_change_89 : decode cX6_change 89 = .ok (.iadd, 1) := by decide +kernel
theorem dX6_change_90 : decode cX6_change 90 = .ok (.istore_n 2, 1) := by decide +kernel
theorem dX6_change_91 : decode cX6_change 91 = .ok (.iinc 5 1, 3) := by decide +kernel
theorem dX6_change_94 : decode cX6_change 94 = .ok (.goto (-44), 3) := by decide +kernel
theorem dX6_change_97 : decode cX6_change 97 = .ok (.iinc 4 1, 3) := by decide +kernel
theorem dX6_change_100 : decode cX6_change 100 = .ok (.goto (-68), 3) := by decide +kernel
theorem dX6_change_103 : decode cX6_change 103 = .ok (.iload_n 1, 1) := by decide +kernel
theorem dX6_change_104 : decode cX6_change 104 = .ok (.ifCond .ne 7, 3) := by decide +kernel
theorem dX6_change_107 : decode cX6_change 107 = .ok (.iload_n 2, 1) := by decide +kernel
theorem dX6_change_108 : decode cX6_change 108 = .ok (.goto 4, 3) := by decide +kernel
theorem dX6_change_111 : decode cX6_change 111 = .ok (.iload_n 3, 1) := by decide +kernel
theorem dX6_change_112 : decode cX6_change 112 = .ok (.ireturn, 1) := by decide +kernel
theorem dX6_comeIn_0 : decode cX6_comeIn 0 = .ok (.iload_n 1, 1) := by decide +kernel
theorem dX6_comeIn_1 : decode cX6_comeIn 1 = .ok (.ifCond .lt 26, 3) := by decide +kernel
theorem dX6_comeIn_4 : decode cX6_comeIn 4 = .ok (.iload_n 1, 1) := by decide +kernel
theorem dX6_comeIn_5 : decode cX6_comeIn 5 = .ok (.bipush 6, 2) := by decide +kernel
theorem dX6_comeIn_7 : decode cX6_comeIn 7 = .ok (.if_icmp .ge 20, 3) := by decide +kernel
theorem dX6_comeIn_10 : decode cX6_comeIn 10 = .ok (.iload_n 2, 1) := by decide +kernel
theorem dX6_comeIn_11 : decode cX6_comeIn 11 = .ok (.ifCond .lt 16, 3) := by decide +kernel
theorem dX6_comeIn_14 : decode cX6_comeIn 14 = .ok (.iload_n 2, 1) := by decide +kernel
theorem dX6_comeIn_15 : decode cX6_comeIn 15 = .ok (.bipush 99, 2) := by decide +kernel
theorem dX6_comeIn_17 : decode cX6_comeIn 17 = .ok (.if_icmp .gt 10, 3) := by decide +kernel
theorem dX6_comeIn_20 : decode cX6_comeIn 20 = .ok (.iload_n 3, 1) := by decide +kernel
theorem dX6_comeIn_21 : decode cX6_comeIn 21 = .ok (.invokestatic 99, 3) := by decide +kernel
theorem dX6_comeIn_24 : decode cX6_comeIn 24 = .ok (.ifCond .ne 6, 3) := by decide +kernel
theorem dX6_comeIn_27 : decode cX6_comeIn 27 = .ok (.bipush (-2), 2) := by decide +kernel
theorem dX6_comeIn_29 : decode cX6_comeIn 29 = .ok (.ireturn, 1) := by decide +kernel
theorem dX6_comeIn_30 : decode cX6_comeIn 30 = .ok (.aload_n 0, 1) := by decide +kernel
theorem dX6_comeIn_31 : decode cX6_comeIn 31 = .ok (.getfield 10, 3) := by decide +kernel
theorem dX6_comeIn_34 : decode cX6_comeIn 34 = .ok (.getfield 102, 3) := by decide +kernel
theorem dX6_comeIn_37 : decode cX6_comeIn 37 = .ok (.istore 4, 2) := by decide +kernel
theorem dX6_comeIn_39 : decode cX6_comeIn 39 = .ok (.iload 4, 2) := by decide +kernel
theorem dX6_comeIn_41 : decode cX6_comeIn 41 = .ok (.ifCond .lt 9, 3) := by decide +kernel
theorem dX6_comeIn_44 : decode cX6_comeIn 44 = .ok (.iload 4, 2) := by decide +kernel
theorem dX6_comeIn_46 : decode cX6_comeIn 46 = .ok (.iconst 5, 1) := by decide +kernel
theorem dX6_comeIn_47 : decode cX6_comeIn 47 = .ok (.if_icmp .lt 6, 3) := by decide +kernel
theorem dX6_comeIn_50 : decode cX6_comeIn 50 = .ok (.bipush (-4), 2) := by decide +kernel
theorem dX6_comeIn_52 : decode cX6_comeIn 52 = .ok (.ireturn, 1) := by decide +kernel
theorem dX6_comeIn_53 : decode cX6_comeIn 53 = .ok (.aload_n 0, 1) := by decide +kernel
theorem dX6_comeIn_54 : decode cX6_comeIn 54 = .ok (.getfield 10, 3) := by decide +kernel
theorem dX6_comeIn_57 : decode cX6_comeIn 57 = .ok (.getfield 105, 3) := by decide +kernel
theorem dX6_comeIn_60 : decode cX6_comeIn 60 = .ok (.iload 4, 2) := by decide +kernel
theorem dX6_comeIn_62 : decode cX6_comeIn 62 = .ok (.iload_n 1, 1) := by decide +kernel
theorem dX6_comeIn_63 : decode cX6_comeIn 63 = .ok (.iastore, 1) := by decide +kernel
theorem dX6_comeIn_64 : decode cX6_comeIn 64 = .ok (.aload_n 0, 1) := by decide +kernel
theorem dX6_comeIn_65 : decode cX6_comeIn 65 = .ok (.getfield 10, 3) := by decide +kernel
theorem dX6_comeIn_68 : decode cX6_comeIn 68 = .ok (.getfield 108, 3) := by decide +kernel
theorem dX6_comeIn_71 : decode cX6_comeIn 71 = .ok (.iload 4, 2) := by decide +kernel
theorem dX6_comeIn_73 : decode cX6_comeIn 73 = .ok (.iload_n 2, 1) := by decide +kernel
theorem dX6_comeIn_74 : decode cX6_comeIn 74 = .ok (.bipush 10, 2) := by decide +kernel
theorem dX6_comeIn_76 : decode cX6_comeIn 76 = .ok (.idiv, 1) := by decide +kernel
theorem dX6_comeIn_77 : decode cX6_comeIn 77 = .ok (.iastore, 1) := by decide +kernel
theorem dX6_comeIn_78 : decode cX6_comeIn 78 = .ok (.aload_n 0, 1) := by decide +kernel
theorem dX6_comeIn_79 : decode cX6_comeIn 79 = .ok (.getfield 10, 3) := by decide +kernel
theorem dX6_comeIn_82 : decode cX6_comeIn 82 = .ok (.getfield 91, 3) := by decide +kernel
theorem dX6_comeIn_85 : decode cX6_comeIn 85 = .ok (.iload 4, 2) := by decide +kernel
theorem dX6_comeIn_87 : decode cX6_comeIn 87 = .ok (.iload_n 2, 1) := by decide +kernel
theorem dX6_comeIn_88 : decode cX6_comeIn 88 = .ok (.bipush 10, 2) := by decide +kernel
theorem dX6_comeIn_90 : decode cX6_comeIn 90 = .ok (.irem, 1) := by decide +kernel
theorem dX6_comeIn_91 : decode cX6_comeIn 91 = .ok (.iastore, 1) := by decide +kernel
theorem dX6_comeIn_92 : decode cX6_comeIn 92 = .ok (.aload_n 0, 1) := by decide +kernel
theorem dX6_comeIn_93 : decode cX6_comeIn 93 = .ok (.getfield 10, 3) := by decide +kernel
theorem dX6_comeIn_96 : decode cX6_comeIn 96 = .ok (.getfield 111, 3) := by decide +kernel
theorem dX6_comeIn_99 : decode cX6_comeIn 99 = .ok (.iload 4, 2) := by decide +kernel
theorem dX6_comeIn_101 : decode cX6_comeIn 101 = .ok (.iload_n 3, 1) := by decide +kernel
theorem dX6_comeIn_102 : decode cX6_comeIn 102 = .ok (.bipush 100, 2) := by decide +kernel
theorem dX6_comeIn_104 : decode cX6_comeIn 104 = .ok (.idiv, 1) := by decide +kernel
theorem dX6_comeIn_105 : decode cX6_comeIn 105 = .ok (.iastore, 1) := by decide +kernel
theorem dX6_comeIn_106 : decode cX6_comeIn 106 = .ok (.aload_n 0, 1) := by decide +kernel
theorem dX6_comeIn_107 : decode cX6_comeIn 107 = .ok (.getfield 10, 3) := by decide +kernel
theorem dX6_comeIn_110 : decode cX6_comeIn 110 = .ok (.getfield 114, 3) := by decide +kernel
theorem dX6_comeIn_113 : decode cX6_comeIn 113 = .ok (.iload 4, 2) := by decide +kernel
theorem dX6_comeIn_115 : decode cX6_comeIn 115 = .ok (.iload_n 3, 1) := by decide +kernel
theorem dX6_comeIn_116 : decode cX6_comeIn 116 = .ok (.bipush 10, 2) := by decide +kernel
theorem dX6_comeIn_118 : decode cX6_comeIn 118 = .ok (.idiv, 1) := by decide +kernel
theorem dX6_comeIn_119 : decode cX6_comeIn 119 = .ok (.bipush 10, 2) := by decide +kernel
theorem dX6_comeIn_121 : decode cX6_comeIn 121 = .ok (.irem, 1) := by decide +kernel
theorem dX6_comeIn_122 : decode cX6_comeIn 122 = .ok (.iastore, 1) := by decide +kernel
theorem dX6_comeIn_123 : decode cX6_comeIn 123 = .ok (.aload_n 0, 1) := by decide +kernel
theorem dX6_comeIn_124 : decode cX6_comeIn 124 = .ok (.getfield 10, 3) := by decide +kernel
theorem dX6_comeIn_127 : decode cX6_comeIn 127 = .ok (.getfield 117, 3) := by decide +kernel
theorem dX6_comeIn_130 : decode cX6_comeIn 130 = .ok (.iload 4, 2) := by decide +kernel
theorem dX6_comeIn_132 : decode cX6_comeIn 132 = .ok (.iload_n 3, 1) := by decide +kernel
theorem dX6_comeIn_133 : decode cX6_comeIn 133 = .ok (.bipush 10, 2) := by decide +kernel
theorem dX6_comeIn_135 : decode cX6_comeIn 135 = .ok (.irem, 1) := by decide +kernel
theorem dX6_comeIn_136 : decode cX6_comeIn 136 = .ok (.iastore, 1) := by decide +kernel
theorem dX6_comeIn_137 : decode cX6_comeIn 137 = .ok (.aload_n 0, 1) := by decide +kernel
theorem dX6_comeIn_138 : decode cX6_comeIn 138 = .ok (.getfield 10, 3) := by decide +kernel
theorem dX6_comeIn_141 : decode cX6_comeIn 141 = .ok (.getfield 120, 3) := by decide +kernel
theorem dX6_comeIn_144 : decode cX6_comeIn 144 = .ok (.iload 4, 2) := by decide +kernel
theorem dX6_comeIn_146 : decode cX6_comeIn 146 = .ok (.bipush 100, 2) := by decide +kernel
theorem dX6_comeIn_148 : decode cX6_comeIn 148 = .ok (.iastore, 1) := by decide +kernel
theorem dX6_comeIn_149 : decode cX6_comeIn 149 = .ok (.aload_n 0, 1) := by decide +kernel
theorem dX6_comeIn_150 : decode cX6_comeIn 150 = .ok (.getfield 10, 3) := by decide +kernel
theorem dX6_comeIn_153 : decode cX6_comeIn 153 = .ok (.iload 4, 2) := by decide +kernel
theorem dX6_comeIn_155 : decode cX6_comeIn 155 = .ok (.iload 4, 2) := by decide +kernel
theorem dX6_comeIn_157 : decode cX6_comeIn 157 = .ok (.invokevirtual 123, 3) := by decide +kernel
theorem dX6_comeIn_160 : decode cX6_comeIn 160 = .ok (.ifCond .ne 6, 3) := by decide +kernel
theorem dX6_comeIn_163 : decode cX6_comeIn 163 = .ok (.bipush (-3), 2) := by decide +kernel
theorem dX6_comeIn_165 : decode cX6_comeIn 165 = .ok (.ireturn, 1) := by decide +kernel
theorem dX6_comeIn_166 : decode cX6_comeIn 166 = .ok (.aload_n 0, 1) := by decide +kernel
theorem dX6_comeIn_167 : decode cX6_comeIn 167 = .ok (.getfield 10, 3) := by decide +kernel
theorem dX6_comeIn_170 : decode cX6_comeIn 170 = .ok (.iload 4, 2) := by decide +kernel
theorem dX6_comeIn_172 : decode cX6_comeIn 172 = .ok (.iconst 1, 1) := by decide +kernel
theorem dX6_comeIn_173 : decode cX6_comeIn 173 = .ok (.iadd, 1) := by decide +kernel
theorem dX6_comeIn_174 : decode cX6_comeIn 174 = .ok (.putfield 102, 3) := by decide +kernel
theorem dX6_comeIn_177 : decode cX6_comeIn 177 = .ok (.aload_n 0, 1) := by decide +kernel
theorem dX6_comeIn_178 : decode cX6_comeIn 178 = .ok (.getfield 52, 3) := by decide +kernel
theorem dX6_comeIn_181 : decode cX6_comeIn 181 = .ok (.iconst 0, 1) := by decide +kernel
theorem dX6_comeIn_182 : decode cX6_comeIn 182 = .ok (.putfield 126, 3) := by decide +kernel
theorem dX6_comeIn_185 : decode cX6_comeIn 185 = .ok (.iload 4, 2) := by decide +kernel
theorem dX6_comeIn_187 : decode cX6_comeIn 187 = .ok (.ireturn, 1) := by decide +kernel
theorem dX6_copy_0 : decode cX6_copy 0 = .ok (.iload_n 1, 1) := by decide +kernel
theorem dX6_copy_1 : decode cX6_copy 1 = .ok (.invokestatic 217, 3) := by decide +kernel
theorem dX6_copy_4 : decode cX6_copy 4 = .ok (.ifCond .eq 10, 3) := by decide +kernel
theorem dX6_copy_7 : decode cX6_copy 7 = .ok (.iload_n 3, 1) := by decide +kernel
theorem dX6_copy_8 : decode cX6_copy 8 = .ok (.invokestatic 217, 3) := by decide +kernel
theorem dX6_copy_11 : decode cX6_copy 11 = .ok (.ifCond .ne 6, 3) := by decide +kernel
theorem dX6_copy_14 : decode cX6_copy 14 = .ok (.bipush (-2), 2) := by decide +kernel
theorem dX6_copy_16 : decode cX6_copy 16 = .ok (.ireturn, 1) := by decide +kernel
theorem dX6_copy_17 : decode cX6_copy 17 = .ok (.aload_n 0, 1) := by decide +kernel
theorem dX6_copy_18 : decode cX6_copy 18 = .ok (.getfield 34, 3) := by decide +kernel
theorem dX6_copy_21 : decode cX6_copy 21 = .ok (.iload_n 1, 1) := by decide +kernel
theorem dX6_copy_22 : decode cX6_copy 22 = .ok (.aaload, 1) := by decide +kernel
theorem dX6_copy_23 : decode cX6_copy 23 = .ok (.astore 6, 2) := by decide +kernel
theorem dX6_copy_25 : decode cX6_copy 25 = .ok (.aload_n 0, 1) := by decide +kernel
theorem dX6_copy_26 : decode cX6_copy 26 = .ok (.getfield 34, 3) := by decide +kernel
theorem dX6_copy_29 : decode cX6_copy 29 = .ok (.iload_n 3, 1) := by decide +kernel
theorem dX6_copy_30 : decode cX6_copy 30 = .ok (.aaload, 1) := by decide +kernel
theorem dX6_copy_31 : decode cX6_copy 31 = .ok (.astore 7, 2) := by decide +kernel
theorem dX6_copy_33 : decode cX6_copy 33 = .ok (.aload 6, 2) := by decide +kernel
theorem dX6_copy_35 : decode cX6_copy 35 = .ok (.invokevirtual 247, 3) := by decide +kernel
theorem dX6_copy_38 : decode cX6_copy 38 = .ok (.ifCond .ne 11, 3) := by decide +kernel
theorem dX6_copy_41 : decode cX6_copy 41 = .ok (.aload 7, 2) := by decide +kernel
theorem dX6_copy_43 : decode cX6_copy 43 = .ok (.invokevirtual 247, 3) := by decide +kernel
theorem dX6_copy_46 : decode cX6_copy 46 = .ok (.ifCond .eq 6, 3) := by decide +kernel
theorem dX6_copy_49 : decode cX6_copy 49 = .ok (.bipush (-11), 2) := by decide +kernel
theorem dX6_copy_51 : decode cX6_copy 51 = .ok (.ireturn, 1) := by decide +kernel
theorem dX6_copy_52 : decode cX6_copy 52 = .ok (.aload 6, 2) := by decide +kernel
theorem dX6_copy_54 : decode cX6_copy 54 = .ok (.getfield 255, 3) := by decide +kernel
theorem dX6_copy_57 : decode cX6_copy 57 = .ok (.aload 7, 2) := by decide +kernel
theorem dX6_copy_59 : decode cX6_copy 59 = .ok (.getfield 255, 3) := by decide +kernel
theorem dX6_copy_62 : decode cX6_copy 62 = .ok (.if_icmp .eq 6, 3) := by decide +kernel
theorem dX6_copy_65 : decode cX6_copy 65 = .ok (.bipush (-13), 2) := by decide +kernel
theorem dX6_copy_67 : decode cX6_copy 67 = .ok (.ireturn, 1) := by decide +kernel
theorem dX6_copy_68 : decode cX6_copy 68 = .ok (.aload 6, 2) := by decide +kernel
theorem dX6_copy_70 : decode cX6_copy 70 = .ok (.iload_n 2, 1) := by decide +kernel
theorem dX6_copy_71 : decode cX6_copy 71 = .ok (.iload 5, 2) := by decide +kernel
theorem dX6_copy_73 : decode cX6_copy 73 = .ok (.invokevirtual 258, 3) := by decide +kernel
theorem dX6_copy_76 : decode cX6_copy 76 = .ok (.ifCond .eq 15, 3) := by decide +kernel
theorem dX6_copy_79 : decode cX6_copy 79 = .ok (.aload 7, 2) := by decide +kernel
theorem dX6_copy_81 : decode cX6_copy 81 = .ok (.iload 4, 2) := by decide +kernel
theorem dX6_copy_83 : decode cX6_copy 83 = .ok (.iload 5, 2) := by decide +kernel
theorem dX6_copy_85 : decode cX6_copy 85 = .ok (.invokevirtual 258, 3) := by decide +kernel
theorem dX6_copy_88 : decode cX6_copy 88 = .ok (.ifCond .ne 6, 3) := by decide +kernel
theorem dX6_copy_91 : decode cX6_copy 91 = .ok (.bipush (-12), 2) := by decide +kernel
theorem dX6_copy_93 : decode cX6_copy 93 = .ok (.ireturn, 1) := by decide +kernel
theorem dX6_copy_94 : decode cX6_copy 94 = .ok (.aload 6, 2) := by decide +kernel
theorem dX6_copy_96 : decode cX6_copy 96 = .ok (.getfield 235, 3) := by decide +kernel
theorem dX6_copy_99 : decode cX6_copy 99 = .ok (.iload_n 2, 1) := by decide +kernel
theorem dX6_copy_100 : decode cX6_copy 100 = .ok (.aload 7, 2) := by decide +kernel
theorem dX6_copy_102 : decode cX6_copy 102 = .ok (.getfield 235, 3) := by decide +kernel
theorem dX6_copy_105 : decode cX6_copy 105 = .ok (.iload 4, 2) := by decide +kernel
theorem dX6_copy_107 : decode cX6_copy 107 = .ok (.iload 5, 2) := by decide +kernel
theorem dX6_copy_109 : decode cX6_copy 109 = .ok (.invokestatic 261, 3) := by decide +kernel
theorem dX6_copy_112 : decode cX6_copy 112 = .ok (.iload 5, 2) := by decide +kernel
theorem dX6_copy_114 : decode cX6_copy 114 = .ok (.ireturn, 1) := by decide +kernel
theorem dX6_costOfChanging_0 : decode cX6_costOfChanging 0 = .ok (.aload_n 0, 1) := by decide +kernel
theorem dX6_costOfChanging_1 : decode cX6_costOfChanging 1 = .ok (.getfield 43, 3) := by decide +kernel
theorem dX6_costOfChanging_4 : decode cX6_costOfChanging 4 = .ok (.getfield 184, 3) := by decide +kernel
theorem dX6_costOfChanging_7 : decode cX6_costOfChanging 7 = .ok (.getfield 117, 3) := by decide +kernel
theorem dX6_costOfChanging_10 : decode cX6_costOfChanging 10 = .ok (.astore 4, 2) := by decide +kernel
theorem dX6_costOfChanging_12 : decode cX6_costOfChanging 12 = .ok (.aload 4, 2) := by decide +kernel
theorem dX6_costOfChanging_14 : decode cX6_costOfChanging 14 = .ok (.iload_n 1, 1) := by decide +kernel
theorem dX6_costOfChanging_15 : decode cX6_costOfChanging 15 = .ok (.aload_n 0, 1) := by decide +kernel
theorem dX6_costOfChanging_16 : decode cX6_costOfChanging 16 = .ok (.getfield 10, 3) := by decide +kernel
theorem dX6_costOfChanging_19 : decode cX6_costOfChanging 19 = .ok (.getfield 117, 3) := by decide +kernel
theorem dX6_costOfChanging_22 : decode cX6_costOfChanging 22 = .ok (.iload_n 2, 1) := by decide +kernel
theorem dX6_costOfChanging_23 : decode cX6_costOfChanging 23 = .ok (.iaload, 1) := by decide +kernel
theorem dX6_costOfChanging_24 : decode cX6_costOfChanging 24 = .ok (.iastore, 1) := by decide +kernel
theorem dX6_costOfChanging_25 : decode cX6_costOfChanging 25 = .ok (.aload 4, 2) := by decide +kernel
theorem dX6_costOfChanging_27 : decode cX6_costOfChanging 27 = .ok (.iload_n 2, 1) := by decide +kernel
theorem dX6_costOfChanging_28 : decode cX6_costOfChanging 28 = .ok (.aload_n 0, 1) := by decide +kernel
theorem dX6_costOfChanging_29 : decode cX6_costOfChanging 29 = .ok (.getfield 10, 3) := by decide +kernel
theorem dX6_costOfChanging_32 : decode cX6_costOfChanging 32 = .ok (.getfield 117, 3) := by decide +kernel
theorem dX6_costOfChanging_35 : decode cX6_costOfChanging 35 = .ok (.iload_n 1, 1) := by decide +kernel
theorem dX6_costOfChanging_36 : decode cX6_costOfChanging 36 = .ok (.iaload, 1) := by decide +kernel
theorem dX6_costOfChanging_37 : decode cX6_costOfChanging 37 = .ok (.iastore, 1) := by decide +kernel
theorem dX6_costOfChanging_38 : decode cX6_costOfChanging 38 = .ok (.iload_n 3, 1) := by decide +kernel
theorem dX6_costOfChanging_39 : decode cX6_costOfChanging 39 = .ok (.istore 5, 2) := by decide +kernel
theorem dX6_costOfChanging_41 : decode cX6_costOfChanging 41 = .ok (.aload_n 0, 1) := by decide +kernel
theorem dX6_costOfChanging_42 : decode cX6_costOfChanging 42 = .ok (.getfield 43, 3) := by decide +kernel
theorem dX6_costOfChanging_45 : decode cX6_costOfChanging 45 = .ok (.getfield 184, 3) := by decide +kernel
theorem dX6_costOfChanging_48 : decode cX6_costOfChanging 48 = .ok (.invokevirtual 214, 3) := by decide +kernel
theorem dX6_costOfChanging_51 : decode cX6_costOfChanging 51 = .ok (.ifCond .eq 19, 3) := by decide +kernel
theorem dX6_costOfChanging_54 : decode cX6_costOfChanging 54 = .ok (.aload_n 0, 1) := by decide +kernel
theorem dX6_costOfChanging_55 : decode cX6_costOfChanging 55 = .ok (.getfield 43, 3) := by decide +kernel
theorem dX6_costOfChanging_58 : decode cX6_costOfChanging 58 = .ok (.invokevirtual 185, 3) := by decide +kernel
theorem dX6_costOfChanging_61 : decode cX6_costOfChanging 61 = .ok (.aload_n 0, 1) := by decide +kernel
theorem dX6_costOfChanging_62 : decode cX6_costOfChanging 62 = .ok (.getfield 43, 3) := by decide +kernel
theorem dX6_costOfChanging_65 : decode cX6_costOfChanging 65 = .ok (.invokevirtual 156, 3) := by decide +kernel
theorem dX6_costOfChanging_68 : decode cX6_costOfChanging 68 = .ok (.istore 5, 2) := by decide +kernel
theorem dX6_costOfChanging_70 : decode cX6_costOfChanging 70 = .ok (.aload 4, 2) := by decide +kernel
theorem dX6_costOfChanging_72 : decode cX6_costOfChanging 72 = .ok (.iload_n 1, 1) := by decide +kernel
theorem dX6_costOfChanging_73 : decode cX6_costOfChanging 73 = .ok (.aload_n 0, 1) := by decide +kernel
theorem dX6_costOfChanging_74 : decode cX6_costOfChanging 74 = .ok (.getfield 10, 3) := by decide +kernel
theorem dX6_costOfChanging_77 : decode cX6_costOfChanging 77 = .ok (.getfield 117, 3) := by decide +kernel
theorem dX6_costOfChanging_80 : decode cX6_costOfChanging 80 = .ok (.iload_n 1, 1) := by decide +kernel
theorem dX6_costOfChanging_81 : decode cX6_costOfChanging 81 = .ok (.iaload, 1) := by decide +kernel
theorem dX6_costOfChanging_82 : decode cX6_costOfChanging 82 = .ok (.iastore, 1) := by decide +kernel
theorem dX6_costOfChanging_83 : decode cX6_costOfChanging 83 = .ok (.aload 4, 2) := by decide +kernel
theorem dX6_costOfChanging_85 : decode cX6_costOfChanging 85 = .ok (.iload_n 2, 1) := by decide +kernel
theorem dX6_costOfChanging_86 : decode cX6_costOfChanging 86 = .ok (.aload_n 0, 1) := by decide +kernel
theorem dX6_costOfChanging_87 : decode cX6_costOfChanging 87 = .ok (.getfield 10, 3) := by decide +kernel
theorem dX6_costOfChanging_90 : decode cX6_costOfChanging 90 = .ok (.getfield 117, 3) := by decide +kernel
theorem dX6_costOfChanging_93 : decode cX6_costOfChanging 93 = .ok (.iload_n 2, 1) := by decide +kernel
theorem dX6_costOfChanging_94 : decode cX6_costOfChanging 94 = .ok (.iaload, 1) := by decide +kernel
theorem dX6_costOfChanging_95 : decode cX6_costOfChanging 95 = .ok (.iastore, 1) := by decide +kernel
theorem dX6_costOfChanging_96 : decode cX6_costOfChanging 96 = .ok (.iload 5, 2) := by decide +kernel
theorem dX6_costOfChanging_98 : decode cX6_costOfChanging 98 = .ok (.ireturn, 1) := by decide +kernel
theorem dX6_costOfDrawn_0 : decode cX6_costOfDrawn 0 = .ok (.iload_n 1, 1) := by decide +kernel
theorem dX6_costOfDrawn_1 : decode cX6_costOfDrawn 1 = .ok (.istore_n 2, 1) := by decide +kernel
theorem dX6_costOfDrawn_2 : decode cX6_costOfDrawn 2 = .ok (.aload_n 0, 1) := by decide +kernel
theorem dX6_costOfDrawn_3 : decode cX6_costOfDrawn 3 = .ok (.getfield 43, 3) := by decide +kernel
theorem dX6_costOfDrawn_6 : decode cX6_costOfDrawn 6 = .ok (.getfield 184, 3) := by decide +kernel
theorem dX6_costOfDrawn_9 : decode cX6_costOfDrawn 9 = .ok (.astore_n 3, 1) := by decide +kernel
theorem dX6_costOfDrawn_10 : decode cX6_costOfDrawn 10 = .ok (.iconst 0, 1) := by decide +kernel
theorem dX6_costOfDrawn_11 : decode cX6_costOfDrawn 11 = .ok (.istore 4, 2) := by decide +kernel
theorem dX6_costOfDrawn_13 : decode cX6_costOfDrawn 13 = .ok (.iload 4, 2) := by decide +kernel
theorem dX6_costOfDrawn_15 : decode cX6_costOfDrawn 15 = .ok (.aload_n 0, 1) := by decide +kernel
theorem dX6_costOfDrawn_16 : decode cX6_costOfDrawn 16 = .ok (.getfield 10, 3) := by decide +kernel
theorem dX6_costOfDrawn_19 : decode cX6_costOfDrawn 19 = .ok (.getfield 102, 3) := by decide +kernel
theorem dX6_costOfDrawn_22 : decode cX6_costOfDrawn 22 = .ok (.if_icmp .ge 78, 3) := by decide +kernel
theorem dX6_costOfDrawn_25 : decode cX6_costOfDrawn 25 = .ok (.iload_n 2, 1) := by decide +kernel
theorem dX6_costOfDrawn_26 : decode cX6_costOfDrawn 26 = .ok (.ldc 251, 2) := by decide +kernel
theorem dX6_costOfDrawn_28 : decode cX6_costOfDrawn 28 = .ok (.imul, 1) := by decide +kernel
theorem dX6_costOfDrawn_29 : decode cX6_costOfDrawn 29 = .ok (.sipush 12345, 3) := by decide +kernel
theorem dX6_costOfDrawn_32 : decode cX6_costOfDrawn 32 = .ok (.iadd, 1) := by decide +kernel
theorem dX6_costOfDrawn_33 : decode cX6_costOfDrawn 33 = .ok (.istore_n 2, 1) := by decide +kernel
theorem dX6_costOfDrawn_34 : decode cX6_costOfDrawn 34 = .ok (.iload_n 2, 1) := by decide +kernel
theorem dX6_costOfDrawn_35 : decode cX6_costOfDrawn 35 = .ok (.bipush 9, 2) := by decide +kernel
theorem dX6_costOfDrawn_37 : decode cX6_costOfDrawn 37 = .ok (.iushr, 1) := by decide +kernel
theorem dX6_costOfDrawn_38 : decode cX6_costOfDrawn 38 = .ok (.bipush 6, 2) := by decide +kernel
theorem dX6_costOfDrawn_40 : decode cX6_costOfDrawn 40 = .ok (.irem, 1) := by decide +kernel
theorem dX6_costOfDrawn_41 : decode cX6_costOfDrawn 41 = .ok (.istore 5, 2) := by decide +kernel
theorem dX6_costOfDrawn_43 : decode cX6_costOfDrawn 43 = .ok (.aload_n 3, 1) := by decide +kernel
theorem dX6_costOfDrawn_44 : decode cX6_costOfDrawn 44 = .ok (.getfield 117, 3) := by decide +kernel
theorem dX6_costOfDrawn_47 : decode cX6_costOfDrawn 47 = .ok (.iload 4, 2) := by decide +kernel
theorem dX6_costOfDrawn_49 : decode cX6_costOfDrawn 49 = .ok (.iload 5, 2) := by decide +kernel
theorem dX6_costOfDrawn_51 : decode cX6_costOfDrawn 51 = .ok (.iastore, 1) := by decide +kernel
theorem dX6_costOfDrawn_52 : decode cX6_costOfDrawn 52 = .ok (.iconst 1, 1) := by decide +kernel
theorem dX6_costOfDrawn_53 : decode cX6_costOfDrawn 53 = .ok (.istore 6, 2) := by decide +kernel
theorem dX6_costOfDrawn_55 : decode cX6_costOfDrawn 55 = .ok (.iload 6, 2) := by decide +kernel
theorem dX6_costOfDrawn_57 : decode cX6_costOfDrawn 57 = .ok (.bipush 6, 2) := by decide +kernel
theorem dX6_costOfDrawn_59 : decode cX6_costOfDrawn 59 = .ok (.if_icmp .ge 35, 3) := by decide +kernel
theorem dX6_costOfDrawn_62 : decode cX6_costOfDrawn 62 = .ok (.aload_n 3, 1) := by decide +kernel
theorem dX6_costOfDrawn_63 : decode cX6_costOfDrawn 63 = .ok (.iload 4, 2) := by decide +kernel
theorem dX6_costOfDrawn_65 : decode cX6_costOfDrawn 65 = .ok (.iload 4, 2) := by decide +kernel
theorem dX6_costOfDrawn_67 : decode cX6_costOfDrawn 67 = .ok (.invokevirtual 123, 3) := by decide +kernel
theorem dX6_costOfDrawn_70 : decode cX6_costOfDrawn 70 = .ok (.ifCond .ne 24, 3) := by decide +kernel
theorem dX6_costOfDrawn_73 : decode cX6_costOfDrawn 73 = .ok (.aload_n 3, 1) := by decide +kernel
theorem dX6_costOfDrawn_74 : decode cX6_costOfDrawn 74 = .ok (.getfield 117, 3) := by decide +kernel
theorem dX6_costOfDrawn_77 : decode cX6_costOfDrawn 77 = .ok (.iload 4, 2) := by decide +kernel
theorem dX6_costOfDrawn_79 : decode cX6_costOfDrawn 79 = .ok (.iload 5, 2) := by decide +kernel
theorem dX6_costOfDrawn_81 : decode cX6_costOfDrawn 81 = .ok (.iload 6, 2) := by decide +kernel
theorem dX6_costOfDrawn_83 : decode cX6_costOfDrawn 83 = .ok (.iadd, 1) := by decide +kernel
theorem dX6_costOfDrawn_84 : decode cX6_costOfDrawn 84 = .ok (.bipush 6, 2) := by decide +kernel
theorem dX6_costOfDrawn_86 : decode cX6_costOfDrawn 86 = .ok (.irem, 1) := by decide +kernel
theorem dX6_costOfDrawn_87 : decode cX6_costOfDrawn 87 = .ok (.iastore, 1) := by decide +kernel
theorem dX6_costOfDrawn_88 : decode cX6_costOfDrawn 88 = .ok (.iinc 6 1, 3) := by decide +kernel
theorem dX6_costOfDrawn_91 : decode cX6_costOfDrawn 91 = .ok (.goto (-36), 3) := by decide +kernel
theorem dX6_costOfDrawn_94 : decode cX6_costOfDrawn 94 = .ok (.iinc 4 1, 3) := by decide +kernel
theorem dX6_costOfDrawn_97 : decode cX6_costOfDrawn 97 = .ok (.goto (-84), 3) := by decide +kernel
theorem dX6_costOfDrawn_100 : decode cX6_costOfDrawn 100 = .ok (.aload_n 0, 1) := by decide +kernel
theorem dX6_costOfDrawn_101 : decode cX6_costOfDrawn 101 = .ok (.getfield 43, 3) := by decide +kernel
theorem dX6_costOfDrawn_104 : decode cX6_costOfDrawn 104 = .ok (.invokevirtual 185, 3) := by decide +kernel
theorem dX6_costOfDrawn_107 : decode cX6_costOfDrawn 107 = .ok (.aload_n 0, 1) := by decide +kernel
theorem dX6_costOfDrawn_108 : decode cX6_costOfDrawn 108 = .ok (.getfield 43, 3) := by decide +kernel
theorem dX6_costOfDrawn_111 : decode cX6_costOfDrawn 111 = .ok (.invokevirtual 156, 3) := by decide +kernel
theorem dX6_costOfDrawn_114 : decode cX6_costOfDrawn 114 = .ok (.ireturn, 1) := by decide +kernel
theorem dX6_count_0 : decode cX6_count 0 = .ok (.iload_n 1, 1) := by decide +kernel
theorem dX6_count_1 : decode cX6_count 1 = .ok (.tableswitch 72 0 4 #[35, 43, 51, 56, 64], 35) := by decide +kernel
theorem dX6_count_36 : decode cX6_count 36 = .ok (.aload_n 0, 1) := by decide +kernel
theorem dX6_count_37 : decode cX6_count 37 = .ok (.getfield 10, 3) := by decide +kernel
theorem dX6_count_40 : decode cX6_count 40 = .ok (.getfield 102, 3) := by decide +kernel
theorem dX6_count_43 : decode cX6_count 43 = .ok (.ireturn, 1) := by decide +kernel
theorem dX6_count_44 : decode cX6_count 44 = .ok (.aload_n 0, 1) := by decide +kernel
theorem dX6_count_45 : decode cX6_count 45 = .ok (.getfield 10, 3) := by decide +kernel
theorem dX6_count_48 : decode cX6_count 48 = .ok (.getfield 130, 3) := by decide +kernel
theorem dX6_count_51 : decode cX6_count 51 = .ok (.ireturn, 1) := by decide +kernel
theorem dX6_count_52 : decode cX6_count 52 = .ok (.aload_n 0, 1) := by decide +kernel
theorem dX6_count_53 : decode cX6_count 53 = .ok (.getfield 59, 3) := by decide +kernel
theorem dX6_count_56 : decode cX6_count 56 = .ok (.ireturn, 1) := by decide +kernel
theorem dX6_count_57 : decode cX6_count 57 = .ok (.aload_n 0, 1) := by decide +kernel
theorem dX6_count_58 : decode cX6_count 58 = .ok (.getfield 22, 3) := by decide +kernel
theorem dX6_count_61 : decode cX6_count 61 = .ok (.getfield 133, 3) := by decide +kernel
theorem dX6_count_64 : decode cX6_count 64 = .ok (.ireturn, 1) := by decide +kernel
theorem dX6_count_65 : decode cX6_count 65 = .ok (.aload_n 0, 1) := by decide +kernel
theorem dX6_count_66 : decode cX6_count 66 = .ok (.getfield 10, 3) := by decide +kernel
theorem dX6_count_69 : decode cX6_count 69 = .ok (.getfield 150, 3) := by decide +kernel
theorem dX6_count_72 : decode cX6_count 72 = .ok (.ireturn, 1) := by decide +kernel
theorem dX6_count_73 : decode cX6_count 73 = .ok (.bipush (-2), 2) := by decide +kernel
theorem dX6_count_75 : decode cX6_count 75 = .ok (.ireturn, 1) := by decide +kernel
theorem dX6_drawn_0 : decode cX6_drawn 0 = .ok (.aload_n 0, 1) := by decide +kernel
theorem dX6_drawn_1 : decode cX6_drawn 1 = .ok (.getfield 43, 3) := by decide +kernel
theorem dX6_drawn_4 : decode cX6_drawn 4 = .ok (.invokevirtual 153, 3) := by decide +kernel
theorem dX6_drawn_7 : decode cX6_drawn 7 = .ok (.aload_n 0, 1) := by decide +kernel
theorem dX6_drawn_8 : decode cX6_drawn 8 = .ok (.iload_n 1, 1) := by decide +kernel
theorem dX6_drawn_9 : decode cX6_drawn 9 = .ok (.invokevirtual 238, 3) := by decide +kernel
theorem dX6_drawn_12 : decode cX6_drawn 12 = .ok (.ireturn, 1) := by decide +kernel
theorem dX6_feed_0 : decode cX6_feed 0 = .ok (.iload_n 1, 1) := by decide +kernel
theorem dX6_feed_1 : decode cX6_feed 1 = .ok (.ifCond .lt 10, 3) := by decide +kernel
theorem dX6_feed_4 : decode cX6_feed 4 = .ok (.iload_n 1, 1) := by decide +kernel
theorem dX6_feed_5 : decode cX6_feed 5 = .ok (.sipush 255, 3) := by decide +kernel
theorem dX6_feed_8 : decode cX6_feed 8 = .ok (.if_icmp .le 6, 3) := by decide +kernel
theorem dX6_feed_11 : decode cX6_feed 11 = .ok (.bipush (-2), 2) := by decide +kernel
theorem dX6_feed_13 : decode cX6_feed 13 = .ok (.ireturn, 1) := by decide +kernel
theorem dX6_feed_14 : decode cX6_feed 14 = .ok (.aload_n 0, 1) := by decide +kernel
theorem dX6_feed_15 : decode cX6_feed 15 = .ok (.getfield 22, 3) := by decide +kernel
theorem dX6_feed_18 : decode cX6_feed 18 = .ok (.getfield 133, 3) := by decide +kernel
theorem dX6_feed_21 : decode cX6_feed 21 = .ok (.sipush 160, 3) := by decide +kernel
theorem dX6_feed_24 : decode cX6_feed 24 = .ok (.if_icmp .lt 6, 3) := by decide +kernel
theorem dX6_feed_27 : decode cX6_feed 27 = .ok (.bipush (-4), 2) := by decide +kernel
theorem dX6_feed_29 : decode cX6_feed 29 = .ok (.ireturn, 1) := by decide +kernel
theorem dX6_feed_30 : decode cX6_feed 30 = .ok (.aload_n 0, 1) := by decide +kernel
theorem dX6_feed_31 : decode cX6_feed 31 = .ok (.getfield 22, 3) := by decide +kernel
theorem dX6_feed_34 : decode cX6_feed 34 = .ok (.getfield 136, 3) := by decide +kernel
theorem dX6_feed_37 : decode cX6_feed 37 = .ok (.aload_n 0, 1) := by decide +kernel
theorem dX6_feed_38 : decode cX6_feed 38 = .ok (.getfield 22, 3) := by decide +kernel
theorem dX6_feed_41 : decode cX6_feed 41 = .ok (.getfield 133, 3) := by decide +kernel
theorem dX6_feed_44 : decode cX6_feed 44 = .ok (.iload_n 1, 1) := by decide +kernel
theorem dX6_feed_45 : decode cX6_feed 45 = .ok (.iastore, 1) := by decide +kernel
theorem dX6_feed_46 : decode cX6_feed 46 = .ok (.aload_n 0, 1) := by decide +kernel
theorem dX6_feed_47 : decode cX6_feed 47 = .ok (.getfield 22, 3) := by decide +kernel
theorem dX6_feed_50 : decode cX6_feed 50 = .ok (.dup, 1) := by decide +kernel
theorem dX6_feed_51 : decode cX6_feed 51 = .ok (.getfield 133, 3) := by decide +kernel
theorem dX6_feed_54 : decode cX6_feed 54 = .ok (.iconst 1, 1) := by decide +kernel
theorem dX6_feed_55 : decode cX6_feed 55 = .ok (.iadd, 1) := by decide +kernel
theorem dX6_feed_56 : decode cX6_feed 56 = .ok (.putfield 133, 3) := by decide +kernel
theorem dX6_feed_59 : decode cX6_feed 59 = .ok (.aload_n 0, 1) := by decide +kernel
theorem dX6_feed_60 : decode cX6_feed 60 = .ok (.getfield 22, 3) := by decide +kernel
theorem dX6_feed_63 : decode cX6_feed 63 = .ok (.getfield 133, 3) := by decide +kernel
theorem dX6_feed_66 : decode cX6_feed 66 = .ok (.ireturn, 1) := by decide +kernel
theorem dX6_film_0 : decode cX6_film 0 = .ok (.iload_n 1, 1) := by decide +kernel
theorem dX6_film_1 : decode cX6_film 1 = .ok (.invokestatic 217, 3) := by decide +kernel
theorem dX6_film_4 : decode cX6_film 4 = .ok (.ifCond .eq 13, 3) := by decide +kernel
theorem dX6_film_7 : decode cX6_film 7 = .ok (.iload_n 2, 1) := by decide +kernel
theorem dX6_film_8 : decode cX6_film 8 = .ok (.ifCond .lt 9, 3) := by decide +kernel
theorem dX6_film_11 : decode cX6_film 11 = .ok (.iload_n 2, 1) := by decide +kernel
theorem dX6_film_12 : decode cX6_film 12 = .ok (.bipush 10, 2) := by decide +kernel
theorem dX6_film_14 : decode cX6_film 14 = .ok (.if_icmp .le 6, 3) := by decide +kernel
theorem dX6_film_17 : decode cX6_film 17 = .ok (.bipush (-2), 2) := by decide +kernel
theorem dX6_film_19 : decode cX6_film 19 = .ok (.ireturn, 1) := by decide +kernel
theorem dX6_film_20 : decode cX6_film 20 = .ok (.aload_n 0, 1) := by decide +kernel
theorem dX6_film_21 : decode cX6_film 21 = .ok (.getfield 43, 3) := by decide +kernel
theorem dX6_film_24 : decode cX6_film 24 = .ok (.invokevirtual 153, 3) := by decide +kernel
theorem dX6_film_27 : decode cX6_film 27 = .ok (.aload_n 0, 1) := by decide +kernel
theorem dX6_film_28 : decode cX6_film 28 = .ok (.getfield 34, 3) := by decide +kernel
theorem dX6_film_31 : decode cX6_film 31 = .ok (.iload_n 1, 1) := by decide +kernel
theorem dX6_film_32 : decode cX6_film 32 = .ok (.aaload, 1) := by decide +kernel
theorem dX6_film_33 : decode cX6_film 33 = .ok (.iconst 0, 1) := by decide +kernel
theorem dX6_film_34 : decode cX6_film 34 = .ok (.iload_n 2, 1) := by decide +kernel
theorem dX6_film_35 : decode cX6_film 35 = .ok (.invokevirtual 231, 3) := by decide +kernel
theorem dX6_film_38 : decode cX6_film 38 = .ok (.iconst 0, 1) := by decide +kernel
theorem dX6_film_39 : decode cX6_film 39 = .ok (.istore_n 3, 1) := by decide +kernel
theorem dX6_film_40 : decode cX6_film 40 = .ok (.iload_n 3, 1) := by decide +kernel
theorem dX6_film_41 : decode cX6_film 41 = .ok (.iload_n 2, 1) := by decide +kernel
theorem dX6_film_42 : decode cX6_film 42 = .ok (.if_icmp .ge 28, 3) := by decide +kernel
theorem dX6_film_45 : decode cX6_film 45 = .ok (.aload_n 0, 1) := by decide +kernel
theorem dX6_film_46 : decode cX6_film 46 = .ok (.getfield 34, 3) := by decide +kernel
theorem dX6_film_49 : decode cX6_film 49 = .ok (.iload_n 1, 1) := by decide +kernel
theorem dX6_film_50 : decode cX6_film 50 = .ok (.aaload, 1) := by decide +kernel
theorem dX6_film_51 : decode cX6_film 51 = .ok (.getfield 235, 3) := by decide +kernel
theorem dX6_film_54 : decode cX6_film 54 = .ok (.iload_n 3, 1) := by decide +kernel
theorem dX6_film_55 : decode cX6_film 55 = .ok (.aload_n 0, 1) := by decide +kernel
theorem dX6_film_56 : decode cX6_film 56 = .ok (.getfield 43, 3) := by decide +kernel
theorem dX6_film_59 : decode cX6_film 59 = .ok (.iload_n 3, 1) := by decide +kernel
theorem dX6_film_60 : decode cX6_film 60 = .ok (.invokevirtual 166, 3) := by decide +kernel
theorem dX6_film_63 : decode cX6_film 63 = .ok (.iastore, 1) := by decide +kernel
theorem dX6_film_64 : decode cX6_film 64 = .ok (.iinc 3 1, 3) := by decide +kernel
theorem dX6_film_67 : decode cX6_film 67 = .ok (.goto (-27), 3) := by decide +kernel
theorem dX6_film_70 : decode cX6_film 70 = .ok (.iload_n 2, 1) := by decide +kernel
theorem dX6_film_71 : decode cX6_film 71 = .ok (.ireturn, 1) := by decide +kernel
theorem dX6_firstUnlike_0 : decode cX6_firstUnlike 0 = .ok (.iconst 0, 1) := by decide +kernel
theorem dX6_firstUnlike_1 : decode cX6_firstUnlike 1 = .ok (.istore_n 2, 1) := by decide +kernel
theorem dX6_firstUnlike_2 : decode cX6_firstUnlike 2 = .ok (.iload_n 2, 1) := by decide +kernel
theorem dX6_firstUnlike_3 : decode cX6_firstUnlike 3 = .ok (.aload_n 1, 1) := by decide +kernel
theorem dX6_firstUnlike_4 : decode cX6_firstUnlike 4 = .ok (.getfield 250, 3) := by decide +kernel
theorem dX6_firstUnlike_7 : decode cX6_firstUnlike 7 = .ok (.if_icmp .ge 34, 3) := by decide +kernel
theorem dX6_firstUnlike_10 : decode cX6_firstUnlike 10 = .ok (.iload_n 2, 1) := by decide +kernel
theorem dX6_firstUnlike_11 : decode cX6_firstUnlike 11 = .ok (.bipush 10, 2) := by decide +kernel
theorem dX6_firstUnlike_13 : decode cX6_firstUnlike 13 = .ok (.if_icmp .ge 28, 3) := by decide +kernel
theorem dX6_firstUnlike_16 : decode cX6_firstUnlike 16 = .ok (.aload_n 1, 1) := by decide +kernel
theorem dX6_firstUnlike_17 : decode cX6_firstUnlike 17 = .ok (.getfield 235, 3) := by decide +kernel
theorem dX6_firstUnlike_20 : decode cX6_firstUnlike 20 = .ok (.iload_n 2, 1) := by decide +kernel
theorem dX6_firstUnlike_21 : decode cX6_firstUnlike 21 = .ok (.iaload, 1) := by decide +kernel
theorem dX6_firstUnlike_22 : decode cX6_firstUnlike 22 = .ok (.aload_n 0, 1) := by decide +kernel
theorem dX6_firstUnlike_23 : decode cX6_firstUnlike 23 = .ok (.getfield 43, 3) := by decide +kernel
theorem dX6_firstUnlike_26 : decode cX6_firstUnlike 26 = .ok (.iload_n 2, 1) := by decide +kernel
theorem dX6_firstUnlike_27 : decode cX6_firstUnlike 27 = .ok (.invokevirtual 166, 3) := by decide +kernel
theorem dX6_firstUnlike_30 : decode cX6_firstUnlike 30 = .ok (.if_icmp .eq 5, 3) := by decide +kernel
theorem dX6_firstUnlike_33 : decode cX6_firstUnlike 33 = .ok (.iload_n 2, 1) := by decide +kernel
theorem dX6_firstUnlike_34 : decode cX6_firstUnlike 34 = .ok (.ireturn, 1) := by decide +kernel
theorem dX6_firstUnlike_35 : decode cX6_firstUnlike 35 = .ok (.iinc 2 1, 3) := by decide +kernel
theorem dX6_firstUnlike_38 : decode cX6_firstUnlike 38 = .ok (.goto (-36), 3) := by decide +kernel
theorem dX6_firstUnlike_41 : decode cX6_firstUnlike 41 = .ok (.iconst (-1), 1) := by decide +kernel
theorem dX6_firstUnlike_42 : decode cX6_firstUnlike 42 = .ok (.ireturn, 1) := by decide +kernel
theorem dX6_floor_0 : decode cX6_floor 0 = .ok (.iload_n 1, 1) := by decide +kernel
theorem dX6_floor_1 : decode cX6_floor 1 = .ok (.ifCond .lt 18, 3) := by decide +kernel
theorem dX6_floor_4 : decode cX6_floor 4 = .ok (.iload_n 1, 1) := by decide +kernel
theorem dX6_floor_5 : decode cX6_floor 5 = .ok (.bipush 10, 2) := by decide +kernel
theorem dX6_floor_7 : decode cX6_floor 7 = .ok (.if_icmp .ge 12, 3) := by decide +kernel
theorem dX6_floor_10 : decode cX6_floor 10 = .ok (.iload_n 2, 1) := by decide +kernel
theorem dX6_floor_11 : decode cX6_floor 11 = .ok (.ifCond .lt 8, 3) := by decide +kernel
theorem dX6_floor_14 : decode cX6_floor 14 = .ok (.iload_n 2, 1) := by decide +kernel
theorem dX6_floor_15 : decode cX6_floor 15 = .ok (.iconst 2, 1) := by decide +kernel
theorem dX6_floor_16 : decode cX6_floor 16 = .ok (.if_icmp .le 6, 3) := by decide +kernel
theorem dX6_floor_19 : decode cX6_floor 19 = .ok (.bipush (-2), 2) := by decide +kernel
theorem dX6_floor_21 : decode cX6_floor 21 = .ok (.ireturn, 1) := by decide +kernel
theorem dX6_floor_22 : decode cX6_floor 22 = .ok (.aload_n 0, 1) := by decide +kernel
theorem dX6_floor_23 : decode cX6_floor 23 = .ok (.getfield 43, 3) := by decide +kernel
theorem dX6_floor_26 : decode cX6_floor 26 = .ok (.invokevirtual 153, 3) := by decide +kernel
theorem dX6_floor_29 : decode cX6_floor 29 = .ok (.iload_n 2, 1) := by decide +kernel
theorem dX6_floor_30 : decode cX6_floor 30 = .ok (.ifCond .ne 12, 3) := by decide +kernel
theorem dX6_floor_33 : decode cX6_floor 33 = .ok (.aload_n 0, 1) := by decide +kernel
theorem dX6_floor_34 : decode cX6_floor 34 = .ok (.getfield 43, 3) := by decide +kernel
theorem dX6_floor_37 : decode cX6_floor 37 = .ok (.iload_n 1, 1) := by decide +kernel
theorem dX6_floor_38 : decode cX6_floor 38 = .ok (.invokevirtual 166, 3) := by decide +kernel
theorem dX6_floor_41 : decode cX6_floor 41 = .ok (.ireturn, 1) := by decide +kernel
theorem dX6_floor_42 : decode cX6_floor 42 = .ok (.iload_n 2, 1) := by decide +kernel
theorem dX6_floor_43 : decode cX6_floor 43 = .ok (.iconst 1, 1) := by decide +kernel
theorem dX6_floor_44 : decode cX6_floor 44 = .ok (.if_icmp .ne 22, 3) := by decide +kernel
theorem dX6_floor_47 : decode cX6_floor 47 = .ok (.aload_n 0, 1) := by decide +kernel
theorem dX6_floor_48 : decode cX6_floor 48 = .ok (.getfield 43, 3) := by decide +kernel
theorem dX6_floor_51 : decode cX6_floor 51 = .ok (.iload_n 1, 1) := by decide +kernel
theorem dX6_floor_52 : decode cX6_floor 52 = .ok (.aload_n 0, 1) := by decide +kernel
theorem dX6_floor_53 : decode cX6_floor 53 = .ok (.getfield 43, 3) := by decide +kernel
theorem dX6_floor_56 : decode cX6_floor 56 = .ok (.iload_n 1, 1) := by decide +kernel
theorem dX6_floor_57 : decode cX6_floor 57 = .ok (.invokevirtual 166, 3) := by decide +kernel
theorem dX6_floor_60 : decode cX6_floor 60 = .ok (.invokevirtual 169, 3) := by decide +kernel
theorem dX6_floor_63 : decode cX6_floor 63 = .ok (.goto 11, 3) := by decide +kernel
theorem dX6_floor_66 : decode cX6_floor 66 = .ok (.aload_n 0, 1) := by decide +kernel
theorem dX6_floor_67 : decode cX6_floor 67 = .ok (.getfield 43, 3) := by decide +kernel
theorem dX6_floor_70 : decode cX6_floor 70 = .ok (.iload_n 1, 1) := by decide +kernel
theorem dX6_floor_71 : decode cX6_floor 71 = .ok (.invokevirtual 172, 3) := by decide +kernel
theorem dX6_floor_74 : decode cX6_floor 74 = .ok (.ireturn, 1) := by decide +kernel
theorem dX6_force_0 : decode cX6_force 0 = .ok (.iload_n 1, 1) := by decide +kernel
theorem dX6_force_1 : decode cX6_force 1 = .ok (.ifCond .lt 11, 3) := by decide +kernel
theorem dX6_force_4 : decode cX6_force 4 = .ok (.iload_n 1, 1) := by decide +kernel
theorem dX6_force_5 : decode cX6_force 5 = .ok (.aload_n 0, 1) := by decide +kernel
theorem dX6_force_6 : decode cX6_force 6 = .ok (.getfield 59, 3) := by decide +kernel
theorem dX6_force_9 : decode cX6_force 9 = .ok (.if_icmp .lt 6, 3) := by decide +kernel
theorem dX6_force_12 : decode cX6_force 12 = .ok (.bipush (-2), 2) := by decide +kernel
theorem dX6_force_14 : decode cX6_force 14 = .ok (.ireturn, 1) := by decide +kernel
theorem dX6_force_15 : decode cX6_force 15 = .ok (.aload_n 0, 1) := by decide +kernel
theorem dX6_force_16 : decode cX6_force 16 = .ok (.getfield 10, 3) := by decide +kernel
theorem dX6_force_19 : decode cX6_force 19 = .ok (.getfield 150, 3) := by decide +kernel
theorem dX6_force_22 : decode cX6_force 22 = .ok (.istore_n 2, 1) := by decide +kernel
theorem dX6_force_23 : decode cX6_force 23 = .ok (.aload_n 0, 1) := by decide +kernel
theorem dX6_force_24 : decode cX6_force 24 = .ok (.getfield 10, 3) := by decide +kernel
theorem dX6_force_27 : decode cX6_force 27 = .ok (.iload_n 1, 1) := by decide +kernel
theorem dX6_force_28 : decode cX6_force 28 = .ok (.putfield 150, 3) := by decide +kernel
theorem dX6_force_31 : decode cX6_force 31 = .ok (.aload_n 0, 1) := by decide +kernel
theorem dX6_force_32 : decode cX6_force 32 = .ok (.getfield 52, 3) := by decide +kernel
theorem dX6_force_35 : decode cX6_force 35 = .ok (.iconst 0, 1) := by decide +kernel
theorem dX6_force_36 : decode cX6_force 36 = .ok (.putfield 126, 3) := by decide +kernel
theorem dX6_force_39 : decode cX6_force 39 = .ok (.iload_n 2, 1) := by decide +kernel
theorem dX6_force_40 : decode cX6_force 40 = .ok (.ireturn, 1) := by decide +kernel
theorem dX6_image_0 : decode cX6_image 0 = .ok (.aload_n 0, 1) := by decide +kernel
theorem dX6_image_1 : decode cX6_image 1 = .ok (.getfield 16, 3) := by decide +kernel
theorem dX6_image_4 : decode cX6_image 4 = .ok (.aload_n 0, 1) := by decide +kernel
theorem dX6_image_5 : decode cX6_image 5 = .ok (.getfield 10, 3) := by decide +kernel
theorem dX6_image_8 : decode cX6_image 8 = .ok (.invokevirtual 241, 3) := by decide +kernel
theorem dX6_image_11 : decode cX6_image 11 = .ok (.aload_n 0, 1) := by decide +kernel
theorem dX6_image_12 : decode cX6_image 12 = .ok (.iconst 1, 1) := by decide +kernel
theorem dX6_image_13 : decode cX6_image 13 = .ok (.putfield 244, 3) := by decide +kernel
theorem dX6_image_16 : decode cX6_image 16 = .ok (.aload_n 0, 1) := by decide +kernel
theorem dX6_image_17 : decode cX6_image 17 = .ok (.getfield 16, 3) := by decide +kernel
theorem dX6_image_20 : decode cX6_image 20 = .ok (.getfield 102, 3) := by decide +kernel
theorem dX6_image_23 : decode cX6_image 23 = .ok (.ireturn, 1) := by decide +kernel
theorem dX6_inLowestTerms_0 : decode cX6_inLowestTerms 0 = .ok (.lload_n 0, 1) := by decide +kernel
theorem dX6_inLowestTerms_1 : decode cX6_inLowestTerms 1 = .ok (.lstore 5, 2) := by decide +kernel
theorem dX6_inLowestTerms_3 : decode cX6_inLowestTerms 3 = .ok (.lload_n 2, 1) := by decide +kernel
theorem dX6_inLowestTerms_4 : decode cX6_inLowestTerms 4 = .ok (.lstore 7, 2) := by decide +kernel
theorem dX6_inLowestTerms_6 : decode cX6_inLowestTerms 6 = .ok (.iconst 0, 1) := by decide +kernel
theorem dX6_inLowestTerms_7 : decode cX6_inLowestTerms 7 = .ok (.istore 9, 2) := by decide +kernel
theorem dX6_inLowestTerms_9 : decode cX6_inLowestTerms 9 = .ok (.iload 9, 2) := by decide +kernel
theorem dX6_inLowestTerms_11 : decode cX6_inLowestTerms 11 = .ok (.sipush 200, 3) := by decide +kernel
theorem dX6_inLowestTerms_14 : decode cX6_inLowestTerms 14 = .ok (.if_icmp .ge 31, 3) := by decide +kernel
theorem dX6_inLowestTerms_17 : decode cX6_inLowestTerms 17 = .ok (.lload 7, 2) := by decide +kernel
theorem dX6_inLowestTerms_19 : decode cX6_inLowestTerms 19 = .ok (.lconst 0, 1) := by decide +kernel
theorem dX6_inLowestTerms_20 : decode cX6_inLowestTerms 20 = .ok (.lcmp, 1) := by decide +kernel
theorem dX6_inLowestTerms_21 : decode cX6_inLowestTerms 21 = .ok (.ifCond .eq 24, 3) := by decide +kernel
theorem dX6_inLowestTerms_24 : decode cX6_inLowestTerms 24 = .ok (.lload 5, 2) := by decide +kernel
theorem dX6_inLowestTerms_26 : decode cX6_inLowestTerms 26 = .ok (.lload 7, 2) := by decide +kernel
theorem dX6_inLowestTerms_28 : decode cX6_inLowestTerms 28 = .ok (.lrem, 1) := by decide +kernel
theorem dX6_inLowestTerms_29 : decode cX6_inLowestTerms 29 = .ok (.lstore 10, 2) := by decide +kernel
theorem dX6_inLowestTerms_31 : decode cX6_inLowestTerms 31 = .ok (.lload 7, 2) := by decide +kernel
theorem dX6_inLowestTerms_33 : decode cX6_inLowestTerms 33 = .ok (.lstore 5, 2) := by decide +kernel
theorem dX6_inLowestTerms_35 : decode cX6_inLowestTerms 35 = .ok (.lload 10, 2) := by decide +kernel
theorem dX6_inLowestTerms_37 : decode cX6_inLowestTerms 37 = .ok (.lstore 7, 2) := by decide +kernel
theorem dX6_inLowestTerms_39 : decode cX6_inLowestTerms 39 = .ok (.iinc 9 1, 3) := by decide +kernel
theorem dX6_inLowestTerms_42 : decode cX6_inLowestTerms 42 = .ok (.goto (-33), 3) := by decide +kernel
theorem dX6_inLowestTerms_45 : decode cX6_inLowestTerms 45 = .ok (.iload 4, 2) := by decide +kernel
theorem dX6_inLowestTerms_47 : decode cX6_inLowestTerms 47 = .ok (.ifCond .ne 7, 3) := by decide +kernel
theorem dX6_inLowestTerms_50 : decode cX6_inLowestTerms 50 = .ok (.lload_n 0, 1) := by decide +kernel
theorem dX6_inLowestTerms_51 : decode cX6_inLowestTerms 51 = .ok (.goto 4, 3) := by decide +kernel
theorem dX6_inLowestTerms_54 : decode cX6_inLowestTerms 54 = .ok (.lload_n 2, 1) := by decide +kernel
theorem dX6_inLowestTerms_55 : decode cX6_inLowestTerms 55 = .ok (.lstore 9, 2) := by decide +kernel
theorem dX6_inLowestTerms_57 : decode cX6_inLowestTerms 57 = .ok (.lload 5, 2) := by decide +kernel
theorem dX6_inLowestTerms_59 : decode cX6_inLowestTerms 59 = .ok (.lconst 0, 1) := by decide +kernel
theorem dX6_inLowestTerms_60 : decode cX6_inLowestTerms 60 = .ok (.lcmp, 1) := by decide +kernel
theorem dX6_inLowestTerms_61 : decode cX6_inLowestTerms 61 = .ok (.ifCond .ne 8, 3) := by decide +kernel
theorem dX6_inLowestTerms_64 : decode cX6_inLowestTerms 64 = .ok (.lload 9, 2) := by decide +kernel
theorem dX6_inLowestTerms_66 : decode cX6_inLowestTerms 66 = .ok (.goto 8, 3) := by decide +kernel
theorem dX6_inLowestTerms_69 : decode cX6_inLowestTerms 69 = .ok (.lload 9, 2) := by decide +kernel
theorem dX6_inLowestTerms_71 : decode cX6_inLowestTerms 71 = .ok (.lload 5, 2) := by decide +kernel
theorem dX6_inLowestTerms_73 : decode cX6_inLowestTerms 73 = .ok (.ldiv, 1) := by decide +kernel
theorem dX6_inLowestTerms_74 : decode cX6_inLowestTerms 74 = .ok (.lreturn, 1) := by decide +kernel
theorem dX6_init_0 : decode cX6_init 0 = .ok (.aload_n 0, 1) := by decide +kernel
theorem dX6_init_1 : decode cX6_init 1 = .ok (.invokespecial 1, 3) := by decide +kernel
theorem dX6_init_4 : decode cX6_init 4 = .ok (.aload_n 0, 1) := by decide +kernel
theorem dX6_init_5 : decode cX6_init 5 = .ok (.new 7, 3) := by decide +kernel
theorem dX6_init_8 : decode cX6_init 8 = .ok (.dup, 1) := by decide +kernel
theorem dX6_init_9 : decode cX6_init 9 = .ok (.invokespecial 9, 3) := by decide +kernel
theorem dX6_init_12 : decode cX6_init 12 = .ok (.putfield 10, 3) := by decide +kernel
theorem dX6_init_15 : decode cX6_init 15 = .ok (.aload_n 0, 1) := by decide +kernel
theorem dX6_init_16 : decode cX6_init 16 = .ok (.new 7, 3) := by decide +kernel
theorem dX6_init_19 : decode cX6_init 19 = .ok (.dup, 1) := by decide +kernel
theorem dX6_init_20 : decode cX6_init 20 = .ok (.invokespecial 9, 3) := by decide +kernel
theorem dX6_init_23 : decode cX6_init 23 = .ok (.putfield 16, 3) := by decide +kernel
theorem dX6_init_26 : decode cX6_init 26 = .ok (.aload_n 0, 1) := by decide +kernel
theorem dX6_init_27 : decode cX6_init 27 = .ok (.new 19, 3) := by decide +kernel
theorem dX6_init_30 : decode cX6_init 30 = .ok (.dup, 1) := by decide +kernel
theorem dX6_init_31 : decode cX6_init 31 = .ok (.invokespecial 21, 3) := by decide +kernel
theorem dX6_init_34 : decode cX6_init 34 = .ok (.putfield 22, 3) := by decide +kernel
theorem dX6_init_37 : decode cX6_init 37 = .ok (.aload_n 0, 1) := by decide +kernel
theorem dX6_init_38 : decode cX6_init 38 = .ok (.bipush 6, 2) := by decide +kernel
theorem dX6_init_40 : decode cX6_init 40 = .ok (.anewarray 26, 3) := by decide +kernel
theorem dX6_init_43 : decode cX6_init 43 = .ok (.putfield 28, 3) := by decide +kernel
theorem dX6_init_46 : decode cX6_init 46 = .ok (.aload_n 0, 1) := by decide +kernel
theorem dX6_init_47 : decode cX6_init 47 = .ok (.iconst 4, 1) := by decide +kernel
theorem dX6_init_48 : decode cX6_init 48 = .ok (.anewarray 32, 3) := by decide +kernel
theorem dX6_init_51 : decode cX6_init 51 = .ok (.putfield 34, 3) := by decide +kernel
theorem dX6_init_54 : decode cX6_init 54 = .ok (.aload_n 0, 1) := by decide +kernel
theorem dX6_init_55 : decode cX6_init 55 = .ok (.new 38, 3) := by decide +kernel
theorem dX6_init_58 : decode cX6_init 58 = .ok (.dup, 1) := by decide +kernel
theorem dX6_init_59 : decode cX6_init 59 = .ok (.aload_n 0, 1) := by decide +kernel
theorem dX6_init_60 : decode cX6_init 60 = .ok (.getfield 10, 3) := by decide +kernel
theorem dX6_init_63 : decode cX6_init 63 = .ok (.aload_n 0, 1) := by decide +kernel
theorem dX6_init_64 : decode cX6_init 64 = .ok (.getfield 28, 3) := by decide +kernel
theorem dX6_init_67 : decode cX6_init 67 = .ok (.invokespecial 40, 3) := by decide +kernel
theorem dX6_init_70 : decode cX6_init 70 = .ok (.putfield 43, 3) := by decide +kernel
theorem dX6_init_73 : decode cX6_init 73 = .ok (.aload_n 0, 1) := by decide +kernel
theorem dX6_init_74 : decode cX6_init 74 = .ok (.new 47, 3) := by decide +kernel
theorem dX6_init_77 : decode cX6_init 77 = .ok (.dup, 1) := by decide +kernel
theorem dX6_init_78 : decode cX6_init 78 = .ok (.aload_n 0, 1) := by decide +kernel
theorem dX6_init_79 : decode cX6_init 79 = .ok (.getfield 10, 3) := by decide +kernel
theorem dX6_init_82 : decode cX6_init 82 = .ok (.aload_n 0, 1) := by decide +kernel
theorem dX6_init_83 : decode cX6_init 83 = .ok (.getfield 43, 3) := by decide +kernel
theorem dX6_init_86 : decode cX6_init 86 = .ok (.invokespecial 49, 3) := by decide +kernel
theorem dX6_init_89 : decode cX6_init 89 = .ok (.putfield 52, 3) := by decide +kernel
theorem dX6_init_92 : decode cX6_init 92 = .ok (.aload_n 0, 1) := by decide +kernel
theorem dX6_init_93 : decode cX6_init 93 = .ok (.getfield 28, 3) := by decide +kernel
theorem dX6_init_96 : decode cX6_init 96 = .ok (.iconst 0, 1) := by decide +kernel
theorem dX6_init_97 : decode cX6_init 97 = .ok (.new 26, 3) := by decide +kernel
theorem dX6_init_100 : decode cX6_init 100 = .ok (.dup, 1) := by decide +kernel
theorem dX6_init_101 : decode cX6_init 101 = .ok (.iconst 3, 1) := by decide +kernel
theorem dX6_init_102 : decode cX6_init 102 = .ok (.newarray .int, 2) := by decide +kernel
theorem dX6_init_104 : decode cX6_init 104 = .ok (.dup, 1) := by decide +kernel
theorem dX6_init_105 : decode cX6_init 105 = .ok (.iconst 0, 1) := by decide +kernel
theorem dX6_init_106 : decode cX6_init 106 = .ok (.iconst 5, 1) := by decide +kernel
theorem dX6_init_107 : decode cX6_init 107 = .ok (.iastore, 1) := by decide +kernel
theorem dX6_init_108 : decode cX6_init 108 = .ok (.dup, 1) := by decide +kernel
theorem dX6_init_109 : decode cX6_init 109 = .ok (.iconst 1, 1) := by decide +kernel
theorem dX6_init_110 : decode cX6_init 110 = .ok (.iconst 1, 1) := by decide +kernel
theorem dX6_init_111 : decode cX6_init 111 = .ok (.iastore, 1) := by decide +kernel
theorem dX6_init_112 : decode cX6_init 112 = .ok (.dup, 1) := by decide +kernel
theorem dX6_init_113 : decode cX6_init 113 = .ok (.iconst 2, 1) := by decide +kernel
theorem dX6_init_114 : decode cX6_init 114 = .ok (.iconst 3, 1) := by decide +kernel
theorem dX6_init_115 : decode cX6_init 115 = .ok (.iastore, 1) := by decide +kernel
theorem dX6_init_116 : decode cX6_init 116 = .ok (.iconst 3, 1) := by decide +kernel
theorem dX6_init_117 : decode cX6_init 117 = .ok (.newarray .int, 2) := by decide +kernel
theorem dX6_init_119 : decode cX6_init 119 = .ok (.dup, 1) := by decide +kernel
theorem dX6_init_120 : decode cX6_init 120 = .ok (.iconst 0, 1) := by decide +kernel
theorem dX6_init_121 : decode cX6_init 121 = .ok (.iconst 1, 1) := by decide +kernel
theorem dX6_init_122 : decode cX6_init 122 = .ok (.iastore, 1) := by decide +kernel
theorem dX6_init_123 : decode cX6_init 123 = .ok (.dup, 1) := by decide +kernel
theorem dX6_init_124 : decode cX6_init 124 = .ok (.iconst 1, 1) := by decide +kernel
theorem dX6_init_125 : decode cX6_init 125 = .ok (.iconst 2, 1) := by decide +kernel
theorem dX6_init_126 : decode cX6_init 126 = .ok (.iastore, 1) := by decide +kernel
theorem dX6_init_127 : decode cX6_init 127 = .ok (.dup, 1) := by decide +kernel
theorem dX6_init_128 : decode cX6_init 128 = .ok (.iconst 2, 1) := by decide +kernel
theorem dX6_init_129 : decode cX6_init 129 = .ok (.iconst 3, 1) := by decide +kernel
theorem dX6_init_130 : decode cX6_init 130 = .ok (.iastore, 1) := by decide +kernel
theorem dX6_init_131 : decode cX6_init 131 = .ok (.invokespecial 56, 3) := by decide +kernel
theorem dX6_init_134 : decode cX6_init 134 = .ok (.aastore, 1) := by decide +kernel
theorem dX6_init_135 : decode cX6_init 135 = .ok (.aload_n 0, 1) := by decide +kernel
theorem dX6_init_136 : decode cX6_init 136 = .ok (.iconst 1, 1) := by decide +kernel
theorem dX6_init_137 : decode cX6_init 137 = .ok (.putfield 59, 3) := by decide +kernel
theorem dX6_init_140 : decode cX6_init 140 = .ok (.iconst 0, 1) := by decide +kernel
theorem dX6_init_141 : decode cX6_init 141 = .ok (.istore_n 1, 1) := by decide +kernel
theorem dX6_init_142 : decode cX6_init 142 = .ok (.iload_n 1, 1) := by decide +kernel
theorem dX6_init_143 : decode cX6_init 143 = .ok (.iconst 4, 1) := by decide +kernel
theorem dX6_init_144 : decode cX6_init 144 = .ok (.if_icmp .ge 22, 3) := by decide +kernel
theorem dX6_init_147 : decode cX6_init 147 = .ok (.aload_n 0, 1) := by decide +kernel
theorem dX6_init_148 : decode cX6_init 148 = .ok (.getfield 34, 3) := by decide +kernel
theorem dX6_init_151 : decode cX6_init 151 = .ok (.iload_n 1, 1) := by decide +kernel
theorem dX6_init_152 : decode cX6_init 152 = .ok (.new 32, 3) := by decide +kernel
theorem dX6_init_155 : decode cX6_init 155 = .ok (.dup, 1) := by decide +kernel
theorem dX6_init_156 : decode cX6_init 156 = .ok (.invokespecial 63, 3) := by decide +kernel
theorem dX6_init_159 : decode cX6_init 159 = .ok (.aastore, 1) := by decide +kernel
theorem dX6_init_160 : decode cX6_init 160 = .ok (.iinc 1 1, 3) := by decide +kernel
theorem dX6_init_163 : decode cX6_init 163 = .ok (.goto (-21), 3) := by decide +kernel
theorem dX6_init_166 : decode cX6_init 166 = .ok (.return_, 1) := by decide +kernel
theorem dX6_isSheet_0 : decode cX6_isSheet 0 = .ok (.iload_n 0, 1) := by decide +kernel
theorem dX6_isSheet_1 : decode cX6_isSheet 1 = .ok (.ifCond .lt 12, 3) := by decide +kernel
theorem dX6_isSheet_4 : decode cX6_isSheet 4 = .ok (.iload_n 0, 1) := by decide +kernel
theorem dX6_isSheet_5 : decode cX6_isSheet 5 = .ok (.iconst 4, 1) := by decide +kernel
theorem dX6_isSheet_6 : decode cX6_isSheet 6 = .ok (.if_icmp .ge 7, 3) := by decide +kernel
theorem dX6_isSheet_9 : decode cX6_isSheet 9 = .ok (.iconst 1, 1) := by decide +kernel
theorem dX6_isSheet_10 : decode cX6_isSheet 10 = .ok (.goto 4, 3) := by decide +kernel
theorem dX6_isSheet_13 : decode cX6_isSheet 13 = .ok (.iconst 0, 1) := by decide +kernel
theorem dX6_isSheet_14 : decode cX6_isSheet 14 = .ok (.ireturn, 1) := by decide +kernel
theorem dX6_isUnder_0 : decode cX6_isUnder 0 = .ok (.iload_n 0, 1) := by decide +kernel
theorem dX6_isUnder_1 : decode cX6_isUnder 1 = .ok (.istore_n 2, 1) := by decide +kernel
theorem dX6_isUnder_2 : decode cX6_isUnder 2 = .ok (.iconst 0, 1) := by decide +kernel
theorem dX6_isUnder_3 : decode cX6_isUnder 3 = .ok (.istore_n 3, 1) := by decide +kernel
theorem dX6_isUnder_4 : decode cX6_isUnder 4 = .ok (.iload_n 3, 1) := by decide +kernel
theorem dX6_isUnder_5 : decode cX6_isUnder 5 = .ok (.bipush 6, 2) := by decide +kernel
theorem dX6_isUnder_7 : decode cX6_isUnder 7 = .ok (.if_icmp .ge 32, 3) := by decide +kernel
theorem dX6_isUnder_10 : decode cX6_isUnder 10 = .ok (.iload_n 2, 1) := by decide +kernel
theorem dX6_isUnder_11 : decode cX6_isUnder 11 = .ok (.ifCond .lt 28, 3) := by decide +kernel
theorem dX6_isUnder_14 : decode cX6_isUnder 14 = .ok (.iload_n 2, 1) := by decide +kernel
theorem dX6_isUnder_15 : decode cX6_isUnder 15 = .ok (.bipush 6, 2) := by decide +kernel
theorem dX6_isUnder_17 : decode cX6_isUnder 17 = .ok (.if_icmp .ge 22, 3) := by decide +kernel
theorem dX6_isUnder_20 : decode cX6_isUnder 20 = .ok (.iload_n 2, 1) := by decide +kernel
theorem dX6_isUnder_21 : decode cX6_isUnder 21 = .ok (.iload_n 1, 1) := by decide +kernel
theorem dX6_isUnder_22 : decode cX6_isUnder 22 = .ok (.if_icmp .ne 5, 3) := by decide +kernel
theorem dX6_isUnder_25 : decode cX6_isUnder 25 = .ok (.iconst 1, 1) := by decide +kernel
theorem dX6_isUnder_26 : decode cX6_isUnder 26 = .ok (.ireturn, 1) := by decide +kernel
theorem dX6_isUnder_27 : decode cX6_isUnder 27 = .ok (.getstatic 270, 3) := by decide +kernel
theorem dX6_isUnder_30 : decode cX6_isUnder 30 = .ok (.iload_n 2, 1) := by decide +kernel
theorem dX6_isUnder_31 : decode cX6_isUnder 31 = .ok (.iaload, 1) := by decide +kernel
theorem dX6_isUnder_32 : decode cX6_isUnder 32 = .ok (.istore_n 2, 1) := by decide +kernel
theorem dX6_isUnder_33 : decode cX6_isUnder 33 = .ok (.iinc 3 1, 3) := by decide +kernel
theorem dX6_isUnder_36 : decode cX6_isUnder 36 = .ok (.goto (-32), 3) := by decide +kernel
theorem dX6_isUnder_39 : decode cX6_isUnder 39 = .ok (.iconst 0, 1) := by decide +kernel
theorem dX6_isUnder_40 : decode cX6_isUnder 40 = .ok (.ireturn, 1) := by decide +kernel
theorem dX6_isWay_0 : decode cX6_isWay 0 = .ok (.iload_n 0, 1) := by decide +kernel
theorem dX6_isWay_1 : decode cX6_isWay 1 = .ok (.ifCond .lt 39, 3) := by decide +kernel
theorem dX6_isWay_4 : decode cX6_isWay 4 = .ok (.iload_n 0, 1) := by decide +kernel
theorem dX6_isWay_5 : decode cX6_isWay 5 = .ok (.bipush 100, 2) := by decide +kernel
theorem dX6_isWay_7 : decode cX6_isWay 7 = .ok (.idiv, 1) := by decide +kernel
theorem dX6_isWay_8 : decode cX6_isWay 8 = .ok (.bipush 9, 2) := by decide +kernel
theorem dX6_isWay_10 : decode cX6_isWay 10 = .ok (.if_icmp .ge 30, 3) := by decide +kernel
theorem dX6_isWay_13 : decode cX6_isWay 13 = .ok (.iload_n 0, 1) := by decide +kernel
theorem dX6_isWay_14 : decode cX6_isWay 14 = .ok (.bipush 10, 2) := by decide +kernel
theorem dX6_isWay_16 : decode cX6_isWay 16 = .ok (.idiv, 1) := by decide +kernel
theorem dX6_isWay_17 : decode cX6_isWay 17 = .ok (.bipush 10, 2) := by decide +kernel
theorem dX6_isWay_19 : decode cX6_isWay 19 = .ok (.irem, 1) := by decide +kernel
theorem dX6_isWay_20 : decode cX6_isWay 20 = .ok (.iload_n 0, 1) := by decide +kernel
theorem dX6_isWay_21 : decode cX6_isWay 21 = .ok (.bipush 100, 2) := by decide +kernel
theorem dX6_isWay_23 : decode cX6_isWay 23 = .ok (.idiv, 1) := by decide +kernel
theorem dX6_isWay_24 : decode cX6_isWay 24 = .ok (.if_icmp .le 16, 3) := by decide +kernel
theorem dX6_isWay_27 : decode cX6_isWay 27 = .ok (.iload_n 0, 1) := by decide +kernel
theorem dX6_isWay_28 : decode cX6_isWay 28 = .ok (.bipush 10, 2) := by decide +kernel
theorem dX6_isWay_30 : decode cX6_isWay 30 = .ok (.irem, 1) := by decide +kernel
theorem dX6_isWay_31 : decode cX6_isWay 31 = .ok (.bipush 6, 2) := by decide +kernel
theorem dX6_isWay_33 : decode cX6_isWay 33 = .ok (.if_icmp .ge 7, 3) := by decide +kernel
theorem dX6_isWay_36 : decode cX6_isWay 36 = .ok (.iconst 1, 1) := by decide +kernel
theorem dX6_isWay_37 : decode cX6_isWay 37 = .ok (.goto 4, 3) := by decide +kernel
theorem dX6_isWay_40 : decode cX6_isWay 40 = .ok (.iconst 0, 1) := by decide +kernel
theorem dX6_isWay_41 : decode cX6_isWay 41 = .ok (.ireturn, 1) := by decide +kernel
theorem dX6_landings_0 : decode cX6_landings 0 = .ok (.iload_n 1, 1) := by decide +kernel
theorem dX6_landings_1 : decode cX6_landings 1 = .ok (.invokestatic 217, 3) := by decide +kernel
theorem dX6_landings_4 : decode cX6_landings 4 = .ok (.ifCond .ne 6, 3) := by decide +kernel
theorem dX6_landings_7 : decode cX6_landings 7 = .ok (.bipush (-2), 2) := by decide +kernel
theorem dX6_landings_9 : decode cX6_landings 9 = .ok (.ireturn, 1) := by decide +kernel
theorem dX6_landings_10 : decode cX6_landings 10 = .ok (.aload_n 0, 1) := by decide +kernel
theorem dX6_landings_11 : decode cX6_landings 11 = .ok (.getfield 34, 3) := by decide +kernel
theorem dX6_landings_14 : decode cX6_landings 14 = .ok (.iload_n 1, 1) := by decide +kernel
theorem dX6_landings_15 : decode cX6_landings 15 = .ok (.aaload, 1) := by decide +kernel
theorem dX6_landings_16 : decode cX6_landings 16 = .ok (.invokestatic 220, 3) := by decide +kernel
theorem dX6_landings_19 : decode cX6_landings 19 = .ok (.istore_n 2, 1) := by decide +kernel
theorem dX6_landings_20 : decode cX6_landings 20 = .ok (.iload_n 2, 1) := by decide +kernel
theorem dX6_landings_21 : decode cX6_landings 21 = .ok (.ifCond .eq 5, 3) := by decide +kernel
theorem dX6_landings_24 : decode cX6_landings 24 = .ok (.iload_n 2, 1) := by decide +kernel
theorem dX6_landings_25 : decode cX6_landings 25 = .ok (.ireturn, 1) := by decide +kernel
theorem dX6_landings_26 : decode cX6_landings 26 = .ok (.aload_n 0, 1) := by decide +kernel
theorem dX6_landings_27 : decode cX6_landings 27 = .ok (.getfield 43, 3) := by decide +kernel
theorem dX6_landings_30 : decode cX6_landings 30 = .ok (.invokevirtual 153, 3) := by decide +kernel
theorem dX6_landings_33 : decode cX6_landings 33 = .ok (.aload_n 0, 1) := by decide +kernel
theorem dX6_landings_34 : decode cX6_landings 34 = .ok (.aload_n 0, 1) := by decide +kernel
theorem dX6_landings_35 : decode cX6_landings 35 = .ok (.getfield 34, 3) := by decide +kernel
theorem dX6_landings_38 : decode cX6_landings 38 = .ok (.iload_n 1, 1) := by decide +kernel
theorem dX6_landings_39 : decode cX6_landings 39 = .ok (.aaload, 1) := by decide +kernel
theorem dX6_landings_40 : decode cX6_landings 40 = .ok (.invokevirtual 224, 3) := by decide +kernel
theorem dX6_landings_43 : decode cX6_landings 43 = .ok (.ireturn, 1) := by decide +kernel
theorem dX6_leastOf_0 : decode cX6_leastOf 0 = .ok (.iload_n 1, 1) := by decide +kernel
theorem dX6_leastOf_1 : decode cX6_leastOf 1 = .ok (.iconst 3, 1) := by decide +kernel
theorem dX6_leastOf_2 : decode cX6_leastOf 2 = .ok (.if_icmp .ne 17, 3) := by decide +kernel
theorem dX6_leastOf_5 : decode cX6_leastOf 5 = .ok (.aload_n 0, 1) := by decide +kernel
theorem dX6_leastOf_6 : decode cX6_leastOf 6 = .ok (.getfield 10, 3) := by decide +kernel
theorem dX6_leastOf_9 : decode cX6_leastOf 9 = .ok (.getfield 111, 3) := by decide +kernel
theorem dX6_leastOf_12 : decode cX6_leastOf 12 = .ok (.iload_n 2, 1) := by decide +kernel
theorem dX6_leastOf_13 : decode cX6_leastOf 13 = .ok (.iaload, 1) := by decide +kernel
theorem dX6_leastOf_14 : decode cX6_leastOf 14 = .ok (.iconst 1, 1) := by decide +kernel
theorem dX6_leastOf_15 : decode cX6_leastOf 15 = .ok (.iadd, 1) := by decide +kernel
theorem dX6_leastOf_16 : decode cX6_leastOf 16 = .ok (.goto 4, 3) := by decide +kernel
theorem dX6_leastOf_19 : decode cX6_leastOf 19 = .ok (.iconst 0, 1) := by decide +kernel
theorem dX6_leastOf_20 : decode cX6_leastOf 20 = .ok (.ireturn, 1) := by decide +kernel
theorem dX6_lets_0 : decode cX6_lets 0 = .ok (.aload_n 0, 1) := by decide +kernel
theorem dX6_lets_1 : decode cX6_lets 1 = .ok (.getfield 10, 3) := by decide +kernel
theorem dX6_lets_4 : decode cX6_lets 4 = .ok (.iload_n 1, 1) := by decide +kernel
theorem dX6_lets_5 : decode cX6_lets 5 = .ok (.invokevirtual 72, 3) := by decide +kernel
theorem dX6_lets_8 : decode cX6_lets 8 = .ok (.ifCond .eq 19, 3) := by decide +kernel
theorem dX6_lets_11 : decode cX6_lets 11 = .ok (.aload_n 0, 1) := by decide +kernel
theorem dX6_lets_12 : decode cX6_lets 12 = .ok (.getfield 10, 3) := by decide +kernel
theorem dX6_lets_15 : decode cX6_lets 15 = .ok (.iload_n 2, 1) := by decide +kernel
theorem dX6_lets_16 : decode cX6_lets 16 = .ok (.invokevirtual 72, 3) := by decide +kernel
theorem dX6_lets_19 : decode cX6_lets 19 = .ok (.ifCond .eq 8, 3) := by decide +kernel
theorem dX6_lets_22 : decode cX6_lets 22 = .ok (.iload_n 1, 1) := by decide +kernel
theorem dX6_lets_23 : decode cX6_lets 23 = .ok (.iload_n 2, 1) := by decide +kernel
theorem dX6_lets_24 : decode cX6_lets 24 = .ok (.if_icmp .ne 6, 3) := by decide +kernel
theorem dX6_lets_27 : decode cX6_lets 27 = .ok (.bipush (-2), 2) := by decide +kernel
theorem dX6_lets_29 : decode cX6_lets 29 = .ok (.ireturn, 1) := by decide +kernel
theorem dX6_lets_30 : decode cX6_lets 30 = .ok (.aload_n 0, 1) := by decide +kernel
theorem dX6_lets_31 : decode cX6_lets 31 = .ok (.getfield 10, 3) := by decide +kernel
theorem dX6_lets_34 : decode cX6_lets 34 = .ok (.iload_n 1, 1) := by decide +kernel
theorem dX6_lets_35 : decode cX6_lets 35 = .ok (.aload_n 0, 1) := by decide +kernel
theorem dX6_lets_36 : decode cX6_lets 36 = .ok (.getfield 10, 3) := by decide +kernel
theorem dX6_lets_39 : decode cX6_lets 39 = .ok (.getfield 91, 3) := by decide +kernel
theorem dX6_lets_42 : decode cX6_lets 42 = .ok (.iload_n 2, 1) := by decide +kernel
theorem dX6_lets_43 : decode cX6_lets 43 = .ok (.iaload, 1) := by decide +kernel
theorem dX6_lets_44 : decode cX6_lets 44 = .ok (.invokevirtual 95, 3) := by decide +kernel
theorem dX6_lets_47 : decode cX6_lets 47 = .ok (.ifCond .eq 7, 3) := by decide +kernel
theorem dX6_lets_50 : decode cX6_lets 50 = .ok (.iconst 1, 1) := by decide +kernel
theorem dX6_lets_51 : decode cX6_lets 51 = .ok (.goto 4, 3) := by decide +kernel
theorem dX6_lets_54 : decode cX6_lets 54 = .ok (.iconst 0, 1) := by decide +kernel
theorem dX6_lets_55 : decode cX6_lets 55 = .ok (.ireturn, 1) := by decide +kernel
theorem dX6_mean_0 : decode cX6_mean 0 = .ok (.iload_n 1, 1) := by decide +kernel
theorem dX6_mean_1 : decode cX6_mean 1 = .ok (.ifCond .lt 17, 3) := by decide +kernel
theorem dX6_mean_4 : decode cX6_mean 4 = .ok (.iload_n 1, 1) := by decide +kernel
theorem dX6_mean_5 : decode cX6_mean 5 = .ok (.iconst 1, 1) := by decide +kernel
theorem dX6_mean_6 : decode cX6_mean 6 = .ok (.if_icmp .gt 12, 3) := by decide +kernel
theorem dX6_mean_9 : decode cX6_mean 9 = .ok (.iload_n 2, 1) := by decide +kernel
theorem dX6_mean_10 : decode cX6_mean 10 = .ok (.ifCond .lt 8, 3) := by decide +kernel
theorem dX6_mean_13 : decode cX6_mean 13 = .ok (.iload_n 2, 1) := by decide +kernel
theorem dX6_mean_14 : decode cX6_mean 14 = .ok (.iconst 1, 1) := by decide +kernel
theorem dX6_mean_15 : decode cX6_mean 15 = .ok (.if_icmp .le 7, 3) := by decide +kernel
theorem dX6_mean_18 : decode cX6_mean 18 = .ok (.ldc2_w 198, 3) := by decide +kernel
theorem dX6_mean_21 : decode cX6_mean 21 = .ok (.lreturn, 1) := by decide +kernel
theorem dX6_mean_22 : decode cX6_mean 22 = .ok (.aload_n 0, 1) := by decide +kernel
theorem dX6_mean_23 : decode cX6_mean 23 = .ok (.getfield 43, 3) := by decide +kernel
theorem dX6_mean_26 : decode cX6_mean 26 = .ok (.invokevirtual 153, 3) := by decide +kernel
theorem dX6_mean_29 : decode cX6_mean 29 = .ok (.lconst 1, 1) := by decide +kernel
theorem dX6_mean_30 : decode cX6_mean 30 = .ok (.lstore_n 3, 1) := by decide +kernel
theorem dX6_mean_31 : decode cX6_mean 31 = .ok (.iconst 0, 1) := by decide +kernel
theorem dX6_mean_32 : decode cX6_mean 32 = .ok (.istore 5, 2) := by decide +kernel
theorem dX6_mean_34 : decode cX6_mean 34 = .ok (.iload 5, 2) := by decide +kernel
theorem dX6_mean_36 : decode cX6_mean 36 = .ok (.aload_n 0, 1) := by decide +kernel
theorem dX6_mean_37 : decode cX6_mean 37 = .ok (.getfield 10, 3) := by decide +kernel
theorem dX6_mean_40 : decode cX6_mean 40 = .ok (.getfield 102, 3) := by decide +kernel
theorem dX6_mean_43 : decode cX6_mean 43 = .ok (.if_icmp .ge 15, 3) := by decide +kernel
theorem dX6_mean_46 : decode cX6_mean 46 = .ok (.lload_n 3, 1) := by decide +kernel
theorem dX6_mean_47 : decode cX6_mean 47 = .ok (.ldc2_w 200, 3) := by decide +kernel
theorem dX6_mean_50 : decode cX6_mean 50 = .ok (.lmul, 1) := by decide +kernel
theorem dX6_mean_51 : decode cX6_mean 51 = .ok (.lstore_n 3, 1) := by decide +kernel
theorem dX6_mean_52 : decode cX6_mean 52 = .ok (.iinc 5 1, 3) := by decide +kernel
theorem dX6_mean_55 : decode cX6_mean 55 = .ok (.goto (-21), 3) := by decide +kernel
theorem dX6_mean_58 : decode cX6_mean 58 = .ok (.lconst 0, 1) := by decide +kernel
theorem dX6_mean_59 : decode cX6_mean 59 = .ok (.lstore 5, 2) := by decide +kernel
theorem dX6_mean_61 : decode cX6_mean 61 = .ok (.iconst 0, 1) := by decide +kernel
theorem dX6_mean_62 : decode cX6_mean 62 = .ok (.istore 7, 2) := by decide +kernel
theorem dX6_mean_64 : decode cX6_mean 64 = .ok (.iload 7, 2) := by decide +kernel
theorem dX6_mean_66 : decode cX6_mean 66 = .ok (.iconst 1, 1) := by decide +kernel
theorem dX6_mean_67 : decode cX6_mean 67 = .ok (.aload_n 0, 1) := by decide +kernel
theorem dX6_mean_68 : decode cX6_mean 68 = .ok (.getfield 10, 3) := by decide +kernel
theorem dX6_mean_71 : decode cX6_mean 71 = .ok (.getfield 102, 3) := by decide +kernel
theorem dX6_mean_74 : decode cX6_mean 74 = .ok (.ishl, 1) := by decide +kernel
theorem dX6_mean_75 : decode cX6_mean 75 = .ok (.if_icmp .ge 71, 3) := by decide +kernel
theorem dX6_mean_78 : decode cX6_mean 78 = .ok (.aload_n 0, 1) := by decide +kernel
theorem dX6_mean_79 : decode cX6_mean 79 = .ok (.iload 7, 2) := by decide +kernel
theorem dX6_mean_81 : decode cX6_mean 81 = .ok (.invokevirtual 202, 3) := by decide +kernel
theorem dX6_mean_84 : decode cX6_mean 84 = .ok (.lstore 8, 2) := by decide +kernel
theorem dX6_mean_86 : decode cX6_mean 86 = .ok (.lload 8, 2) := by decide +kernel
theorem dX6_mean_88 : decode cX6_mean 88 = .ok (.lconst 0, 1) := by decide +kernel
theorem dX6_mean_89 : decode cX6_mean 89 = .ok (.lcmp, 1) := by decide +kernel
theorem dX6_mean_90 : decode cX6_mean 90 = .ok (.ifCond .eq 50, 3) := by decide +kernel
theorem dX6_mean_93 : decode cX6_mean 93 = .ok (.aload_n 0, 1) := by decide +kernel
theorem dX6_mean_94 : decode cX6_mean 94 = .ok (.getfield 43, 3) := by decide +kernel
theorem dX6_mean_97 : decode cX6_mean 97 = .ok (.iload 7, 2) := by decide +kernel
theorem dX6_mean_99 : decode cX6_mean 99 = .ok (.invokevirtual 206, 3) := by decide +kernel
theorem dX6_mean_102 : decode cX6_mean 102 = .ok (.lload 5, 2) := by decide +kernel
theorem dX6_mean_104 : decode cX6_mean 104 = .ok (.lload 8, 2) := by decide +kernel
theorem dX6_mean_106 : decode cX6_mean 106 = .ok (.iload_n 1, 1) := by decide +kernel
theorem dX6_mean_107 : decode cX6_mean 107 = .ok (.ifCond .ne 13, 3) := by decide +kernel
theorem dX6_mean_110 : decode cX6_mean 110 = .ok (.aload_n 0, 1) := by decide +kernel
theorem dX6_mean_111 : decode cX6_mean 111 = .ok (.getfield 43, 3) := by decide +kernel
theorem dX6_mean_114 : decode cX6_mean 114 = .ok (.invokevirtual 156, 3) := by decide +kernel
theorem dX6_mean_117 : decode cX6_mean 117 = .ok (.goto 18, 3) := by decide +kernel
theorem dX6_mean_120 : decode cX6_mean 120 = .ok (.aload_n 0, 1) := by decide +kernel
theorem dX6_mean_121 : decode cX6_mean 121 = .ok (.getfield 43, 3) := by decide +kernel
theorem dX6_mean_124 : decode cX6_mean 124 = .ok (.invokevirtual 160, 3) := by decide +kernel
theorem dX6_mean_127 : decode cX6_mean 127 = .ok (.ifCond .ne 7, 3) := by decide +kernel
theorem dX6_mean_130 : decode cX6_mean 130 = .ok (.iconst 1, 1) := by decide +kernel
theorem dX6_mean_131 : decode cX6_mean 131 = .ok (.goto 4, 3) := by decide +kernel
theorem dX6_mean_134 : decode cX6_mean 134 = .ok (.iconst 0, 1) := by decide +kernel
theorem dX6_mean_135 : decode cX6_mean 135 = .ok (.i2l, 1) := by decide +kernel
theorem dX6_mean_136 : decode cX6_mean 136 = .ok (.lmul, 1) := by decide +kernel
theorem dX6_mean_137 : decode cX6_mean 137 = .ok (.ladd, 1) := by decide +kernel
theorem dX6_mean_138 : decode cX6_mean 138 = .ok (.lstore 5, 2) := by decide +kernel
theorem dX6_mean_140 : decode cX6_mean 140 = .ok (.iinc 7 1, 3) := by decide +kernel
theorem dX6_mean_143 : decode cX6_mean 143 = .ok (.goto (-79), 3) := by decide +kernel
theorem dX6_mean_146 : decode cX6_mean 146 = .ok (.lload 5, 2) := by decide +kernel
theorem dX6_mean_148 : decode cX6_mean 148 = .ok (.lload_n 3, 1) := by decide +kernel
theorem dX6_mean_149 : decode cX6_mean 149 = .ok (.iload_n 2, 1) := by decide +kernel
theorem dX6_mean_150 : decode cX6_mean 150 = .ok (.invokestatic 210, 3) := by decide +kernel
theorem dX6_mean_153 : decode cX6_mean 153 = .ok (.lreturn, 1) := by decide +kernel
theorem dX6_mostOf_0 : decode cX6_mostOf 0 = .ok (.iload_n 0, 1) := by decide +kernel
theorem dX6_mostOf_1 : decode cX6_mostOf 1 = .ok (.iconst 4, 1) := by decide +kernel
theorem dX6_mostOf_2 : decode cX6_mostOf 2 = .ok (.if_icmp .ne 5, 3) := by decide +kernel
theorem dX6_mostOf_5 : decode cX6_mostOf 5 = .ok (.iconst 5, 1) := by decide +kernel
theorem dX6_mostOf_6 : decode cX6_mostOf 6 = .ok (.ireturn, 1) := by decide +kernel
theorem dX6_mostOf_7 : decode cX6_mostOf 7 = .ok (.iload_n 0, 1) := by decide +kernel
theorem dX6_mostOf_8 : decode cX6_mostOf 8 = .ok (.iconst 5, 1) := by decide +kernel
theorem dX6_mostOf_9 : decode cX6_mostOf 9 = .ok (.if_icmp .ne 8, 3) := by decide +kernel
theorem dX6_mostOf_12 : decode cX6_mostOf 12 = .ok (.bipush 100, 2) := by decide +kernel
theorem dX6_mostOf_14 : decode cX6_mostOf 14 = .ok (.goto 5, 3) := by decide +kernel
theorem dX6_mostOf_17 : decode cX6_mostOf 17 = .ok (.bipush 9, 2) := by decide +kernel
theorem dX6_mostOf_19 : decode cX6_mostOf 19 = .ok (.ireturn, 1) := by decide +kernel
theorem dX6_one_0 : decode cX6_one 0 = .ok (.aload_n 0, 1) := by decide +kernel
theorem dX6_one_1 : decode cX6_one 1 = .ok (.getfield 10, 3) := by decide +kernel
theorem dX6_one_4 : decode cX6_one 4 = .ok (.iload_n 1, 1) := by decide +kernel
theorem dX6_one_5 : decode cX6_one 5 = .ok (.invokevirtual 72, 3) := by decide +kernel
theorem dX6_one_8 : decode cX6_one 8 = .ok (.ifCond .eq 12, 3) := by decide +kernel
theorem dX6_one_11 : decode cX6_one 11 = .ok (.iload_n 2, 1) := by decide +kernel
theorem dX6_one_12 : decode cX6_one 12 = .ok (.ifCond .lt 8, 3) := by decide +kernel
theorem dX6_one_15 : decode cX6_one 15 = .ok (.iload_n 2, 1) := by decide +kernel
theorem dX6_one_16 : decode cX6_one 16 = .ok (.iconst 1, 1) := by decide +kernel
theorem dX6_one_17 : decode cX6_one 17 = .ok (.if_icmp .le 6, 3) := by decide +kernel
theorem dX6_one_20 : decode cX6_one 20 = .ok (.bipush (-2), 2) := by decide +kernel
theorem dX6_one_22 : decode cX6_one 22 = .ok (.ireturn, 1) := by decide +kernel
theorem dX6_one_23 : decode cX6_one 23 = .ok (.aload_n 0, 1) := by decide +kernel
theorem dX6_one_24 : decode cX6_one 24 = .ok (.getfield 43, 3) := by decide +kernel
theorem dX6_one_27 : decode cX6_one 27 = .ok (.invokevirtual 153, 3) := by decide +kernel
theorem dX6_one_30 : decode cX6_one 30 = .ok (.iconst (-1), 1) := by decide +kernel
theorem dX6_one_31 : decode cX6_one 31 = .ok (.istore_n 3, 1) := by decide +kernel
theorem dX6_one_32 : decode cX6_one 32 = .ok (.iconst 0, 1) := by decide +kernel
theorem dX6_one_33 : decode cX6_one 33 = .ok (.istore 4, 2) := by decide +kernel
theorem dX6_one_35 : decode cX6_one 35 = .ok (.iconst 0, 1) := by decide +kernel
theorem dX6_one_36 : decode cX6_one 36 = .ok (.istore 5, 2) := by decide +kernel
theorem dX6_one_38 : decode cX6_one 38 = .ok (.iload 5, 2) := by decide +kernel
theorem dX6_one_40 : decode cX6_one 40 = .ok (.bipush 6, 2) := by decide +kernel
theorem dX6_one_42 : decode cX6_one 42 = .ok (.if_icmp .ge 109, 3) := by decide +kernel
theorem dX6_one_45 : decode cX6_one 45 = .ok (.aload_n 0, 1) := by decide +kernel
theorem dX6_one_46 : decode cX6_one 46 = .ok (.getfield 43, 3) := by decide +kernel
theorem dX6_one_49 : decode cX6_one 49 = .ok (.getfield 184, 3) := by decide +kernel
theorem dX6_one_52 : decode cX6_one 52 = .ok (.getfield 117, 3) := by decide +kernel
theorem dX6_one_55 : decode cX6_one 55 = .ok (.iload_n 1, 1) := by decide +kernel
theorem dX6_one_56 : decode cX6_one 56 = .ok (.iload 5, 2) := by decide +kernel
theorem dX6_one_58 : decode cX6_one 58 = .ok (.iastore, 1) := by decide +kernel
theorem dX6_one_59 : decode cX6_one 59 = .ok (.aload_n 0, 1) := by decide +kernel
theorem dX6_one_60 : decode cX6_one 60 = .ok (.getfield 43, 3) := by decide +kernel
theorem dX6_one_63 : decode cX6_one 63 = .ok (.getfield 184, 3) := by decide +kernel
theorem dX6_one_66 : decode cX6_one 66 = .ok (.iload_n 1, 1) := by decide +kernel
theorem dX6_one_67 : decode cX6_one 67 = .ok (.aload_n 0, 1) := by decide +kernel
theorem dX6_one_68 : decode cX6_one 68 = .ok (.getfield 10, 3) := by decide +kernel
theorem dX6_one_71 : decode cX6_one 71 = .ok (.getfield 102, 3) := by decide +kernel
theorem dX6_one_74 : decode cX6_one 74 = .ok (.invokevirtual 123, 3) := by decide +kernel
theorem dX6_one_77 : decode cX6_one 77 = .ok (.ifCond .ne 6, 3) := by decide +kernel
theorem dX6_one_80 : decode cX6_one 80 = .ok (.goto 65, 3) := by decide +kernel
theorem dX6_one_83 : decode cX6_one 83 = .ok (.aload_n 0, 1) := by decide +kernel
theorem dX6_one_84 : decode cX6_one 84 = .ok (.getfield 43, 3) := by decide +kernel
theorem dX6_one_87 : decode cX6_one 87 = .ok (.invokevirtual 185, 3) := by decide +kernel
theorem dX6_one_90 : decode cX6_one 90 = .ok (.aload_n 0, 1) := by decide +kernel
theorem dX6_one_91 : decode cX6_one 91 = .ok (.getfield 43, 3) := by decide +kernel
theorem dX6_one_94 : decode cX6_one 94 = .ok (.invokevirtual 156, 3) := by decide +kernel
theorem dX6_one_97 : decode cX6_one 97 = .ok (.iload 5, 2) := by decide +kernel
theorem dX6_one_99 : decode cX6_one 99 = .ok (.aload_n 0, 1) := by decide +kernel
theorem dX6_one_100 : decode cX6_one 100 = .ok (.getfield 10, 3) := by decide +kernel
theorem dX6_one_103 : decode cX6_one 103 = .ok (.getfield 117, 3) := by decide +kernel
theorem dX6_one_106 : decode cX6_one 106 = .ok (.iload_n 1, 1) := by decide +kernel
theorem dX6_one_107 : decode cX6_one 107 = .ok (.iaload, 1) := by decide +kernel
theorem dX6_one_108 : decode cX6_one 108 = .ok (.if_icmp .ne 7, 3) := by decide +kernel
theorem dX6_one_111 : decode cX6_one 111 = .ok (.iconst 0, 1) := by decide +kernel
theorem dX6_one_112 : decode cX6_one 112 = .ok (.goto 11, 3) := by decide +kernel
theorem dX6_one_115 : decode cX6_one 115 = .ok (.aload_n 0, 1) := by decide +kernel
theorem dX6_one_116 : decode cX6_one 116 = .ok (.getfield 43, 3) := by decide +kernel
theorem dX6_one_119 : decode cX6_one 119 = .ok (.iload_n 1, 1) := by decide +kernel
theorem dX6_one_120 : decode cX6_one 120 = .ok (.invokevirtual 188, 3) := by decide +kernel
theorem dX6_one_123 : decode cX6_one 123 = .ok (.iadd, 1) := by decide +kernel
theorem dX6_one_124 : decode cX6_one 124 = .ok (.istore 6, 2) := by decide +kernel
theorem dX6_one_126 : decode cX6_one 126 = .ok (.iload_n 3, 1) := by decide +kernel
theorem dX6_one_127 : decode cX6_one 127 = .ok (.iconst (-1), 1) := by decide +kernel
theorem dX6_one_128 : decode cX6_one 128 = .ok (.if_icmp .eq 10, 3) := by decide +kernel
theorem dX6_one_131 : decode cX6_one 131 = .ok (.iload 6, 2) := by decide +kernel
theorem dX6_one_133 : decode cX6_one 133 = .ok (.iload 4, 2) := by decide +kernel
theorem dX6_one_135 : decode cX6_one 135 = .ok (.if_icmp .ge 10, 3) := by decide +kernel
theorem dX6_one_138 : decode cX6_one 138 = .ok (.iload 5, 2) := by decide +kernel
theorem dX6_one_140 : decode cX6_one 140 = .ok (.istore_n 3, 1) := by decide +kernel
theorem dX6_one_141 : decode cX6_one 141 = .ok (.iload 6, 2) := by decide +kernel
theorem dX6_one_143 : decode cX6_one 143 = .ok (.istore 4, 2) := by decide +kernel
theorem dX6_one_145 : decode cX6_one 145 = .ok (.iinc 5 1, 3) := by decide +kernel
theorem dX6_one_148 : decode cX6_one 148 = .ok (.goto (-110), 3) := by decide +kernel
theorem dX6_one_151 : decode cX6_one 151 = .ok (.iload_n 2, 1) := by decide +kernel
theorem dX6_one_152 : decode cX6_one 152 = .ok (.ifCond .ne 7, 3) := by decide +kernel
theorem dX6_one_155 : decode cX6_one 155 = .ok (.iload_n 3, 1) := by decide +kernel
theorem dX6_one_156 : decode cX6_one 156 = .ok (.goto 5, 3) := by decide +kernel
theorem dX6_one_159 : decode cX6_one 159 = .ok (.iload 4, 2) := by decide +kernel
theorem dX6_one_161 : decode cX6_one 161 = .ok (.ireturn, 1) := by decide +kernel
theorem dX6_put_0 : decode cX6_put 0 = .ok (.aload_n 1, 1) := by decide +kernel
theorem dX6_put_1 : decode cX6_put 1 = .ok (.iload_n 2, 1) := by decide +kernel
theorem dX6_put_2 : decode cX6_put 2 = .ok (.iaload, 1) := by decide +kernel
theorem dX6_put_3 : decode cX6_put 3 = .ok (.istore 4, 2) := by decide +kernel
theorem dX6_put_5 : decode cX6_put 5 = .ok (.aload_n 1, 1) := by decide +kernel
theorem dX6_put_6 : decode cX6_put 6 = .ok (.iload_n 2, 1) := by decide +kernel
theorem dX6_put_7 : decode cX6_put 7 = .ok (.iload_n 3, 1) := by decide +kernel
theorem dX6_put_8 : decode cX6_put 8 = .ok (.iastore, 1) := by decide +kernel
theorem dX6_put_9 : decode cX6_put 9 = .ok (.aload_n 0, 1) := by decide +kernel
theorem dX6_put_10 : decode cX6_put 10 = .ok (.getfield 10, 3) := by decide +kernel
theorem dX6_put_13 : decode cX6_put 13 = .ok (.iload_n 2, 1) := by decide +kernel
theorem dX6_put_14 : decode cX6_put 14 = .ok (.aload_n 0, 1) := by decide +kernel
theorem dX6_put_15 : decode cX6_put 15 = .ok (.getfield 10, 3) := by decide +kernel
theorem dX6_put_18 : decode cX6_put 18 = .ok (.getfield 102, 3) := by decide +kernel
theorem dX6_put_21 : decode cX6_put 21 = .ok (.invokevirtual 123, 3) := by decide +kernel
theorem dX6_put_24 : decode cX6_put 24 = .ok (.ifCond .ne 11, 3) := by decide +kernel
theorem dX6_put_27 : decode cX6_put 27 = .ok (.aload_n 1, 1) := by decide +kernel
theorem dX6_put_28 : decode cX6_put 28 = .ok (.iload_n 2, 1) := by decide +kernel
theorem dX6_put_29 : decode cX6_put 29 = .ok (.iload 4, 2) := by decide +kernel
theorem dX6_put_31 : decode cX6_put 31 = .ok (.iastore, 1) := by decide +kernel
theorem dX6_put_32 : decode cX6_put 32 = .ok (.bipush (-3), 2) := by decide +kernel
theorem dX6_put_34 : decode cX6_put 34 = .ok (.ireturn, 1) := by decide +kernel
theorem dX6_put_35 : decode cX6_put 35 = .ok (.aload_n 0, 1) := by decide +kernel
theorem dX6_put_36 : decode cX6_put 36 = .ok (.getfield 52, 3) := by decide +kernel
theorem dX6_put_39 : decode cX6_put 39 = .ok (.iconst 0, 1) := by decide +kernel
theorem dX6_put_40 : decode cX6_put 40 = .ok (.putfield 126, 3) := by decide +kernel
theorem dX6_put_43 : decode cX6_put 43 = .ok (.iload 4, 2) := by decide +kernel
theorem dX6_put_45 : decode cX6_put 45 = .ok (.ireturn, 1) := by decide +kernel
theorem dX6_putDoors_0 : decode cX6_putDoors 0 = .ok (.iload_n 1, 1) := by decide +kernel
theorem dX6_putDoors_1 : decode cX6_putDoors 1 = .ok (.iconst 1, 1) := by decide +kernel
theorem dX6_putDoors_2 : decode cX6_putDoors 2 = .ok (.if_icmp .lt 8, 3) := by decide +kernel
theorem dX6_putDoors_5 : decode cX6_putDoors 5 = .ok (.iload_n 1, 1) := by decide +kernel
theorem dX6_putDoors_6 : decode cX6_putDoors 6 = .ok (.iconst 2, 1) := by decide +kernel
theorem dX6_putDoors_7 : decode cX6_putDoors 7 = .ok (.if_icmp .le 6, 3) := by decide +kernel
theorem dX6_putDoors_10 : decode cX6_putDoors 10 = .ok (.bipush (-2), 2) := by decide +kernel
theorem dX6_putDoors_12 : decode cX6_putDoors 12 = .ok (.ireturn, 1) := by decide +kernel
theorem dX6_putDoors_13 : decode cX6_putDoors 13 = .ok (.aload_n 0, 1) := by decide +kernel
theorem dX6_putDoors_14 : decode cX6_putDoors 14 = .ok (.getfield 10, 3) := by decide +kernel
theorem dX6_putDoors_17 : decode cX6_putDoors 17 = .ok (.getfield 130, 3) := by decide +kernel
theorem dX6_putDoors_20 : decode cX6_putDoors 20 = .ok (.istore_n 2, 1) := by decide +kernel
theorem dX6_putDoors_21 : decode cX6_putDoors 21 = .ok (.aload_n 0, 1) := by decide +kernel
theorem dX6_putDoors_22 : decode cX6_putDoors 22 = .ok (.getfield 10, 3) := by decide +kernel
theorem dX6_putDoors_25 : decode cX6_putDoors 25 = .ok (.iload_n 1, 1) := by decide +kernel
theorem dX6_putDoors_26 : decode cX6_putDoors 26 = .ok (.putfield 130, 3) := by decide +kernel
theorem dX6_putDoors_29 : decode cX6_putDoors 29 = .ok (.aload_n 0, 1) := by decide +kernel
theorem dX6_putDoors_30 : decode cX6_putDoors 30 = .ok (.getfield 52, 3) := by decide +kernel
theorem dX6_putDoors_33 : decode cX6_putDoors 33 = .ok (.iconst 0, 1) := by decide +kernel
theorem dX6_putDoors_34 : decode cX6_putDoors 34 = .ok (.putfield 126, 3) := by decide +kernel
theorem dX6_putDoors_37 : decode cX6_putDoors 37 = .ok (.iload_n 2, 1) := by decide +kernel
theorem dX6_putDoors_38 : decode cX6_putDoors 38 = .ok (.ireturn, 1) := by decide +kernel
theorem dX6_refusalToRead_0 : decode cX6_refusalToRead 0 = .ok (.aload_n 0, 1) := by decide +kernel
theorem dX6_refusalToRead_1 : decode cX6_refusalToRead 1 = .ok (.invokevirtual 247, 3) := by decide +kernel
theorem dX6_refusalToRead_4 : decode cX6_refusalToRead 4 = .ok (.ifCond .eq 6, 3) := by decide +kernel
theorem dX6_refusalToRead_7 : decode cX6_refusalToRead 7 = .ok (.bipush (-11), 2) := by decide +kernel
theorem dX6_refusalToRead_9 : decode cX6_refusalToRead 9 = .ok (.ireturn, 1) := by decide +kernel
theorem dX6_refusalToRead_10 : decode cX6_refusalToRead 10 = .ok (.aload_n 0, 1) := by decide +kernel
theorem dX6_refusalToRead_11 : decode cX6_refusalToRead 11 = .ok (.getfield 250, 3) := by decide +kernel
theorem dX6_refusalToRead_14 : decode cX6_refusalToRead 14 = .ok (.bipush 10, 2) := by decide +kernel
theorem dX6_refusalToRead_16 : decode cX6_refusalToRead 16 = .ok (.if_icmp .le 8, 3) := by decide +kernel
theorem dX6_refusalToRead_19 : decode cX6_refusalToRead 19 = .ok (.bipush (-2), 2) := by decide +kernel
theorem dX6_refusalToRead_21 : decode cX6_refusalToRead 21 = .ok (.goto 4, 3) := by decide +kernel
theorem dX6_refusalToRead_24 : decode cX6_refusalToRead 24 = .ok (.iconst 0, 1) := by decide +kernel
theorem dX6_refusalToRead_25 : decode cX6_refusalToRead 25 = .ok (.ireturn, 1) := by decide +kernel
theorem dX6_ride_0 : decode cX6_ride 0 = .ok (.iload_n 1, 1) := by decide +kernel
theorem dX6_ride_1 : decode cX6_ride 1 = .ok (.ifCond .lt 8, 3) := by decide +kernel
theorem dX6_ride_4 : decode cX6_ride 4 = .ok (.iload_n 1, 1) := by decide +kernel
theorem dX6_ride_5 : decode cX6_ride 5 = .ok (.iconst 2, 1) := by decide +kernel
theorem dX6_ride_6 : decode cX6_ride 6 = .ok (.if_icmp .le 6, 3) := by decide +kernel
theorem dX6_ride_9 : decode cX6_ride 9 = .ok (.bipush (-2), 2) := by decide +kernel
theorem dX6_ride_11 : decode cX6_ride 11 = .ok (.ireturn, 1) := by decide +kernel
theorem dX6_ride_12 : decode cX6_ride 12 = .ok (.aload_n 0, 1) := by decide +kernel
theorem dX6_ride_13 : decode cX6_ride 13 = .ok (.getfield 43, 3) := by decide +kernel
theorem dX6_ride_16 : decode cX6_ride 16 = .ok (.invokevirtual 153, 3) := by decide +kernel
theorem dX6_ride_19 : decode cX6_ride 19 = .ok (.iload_n 1, 1) := by decide +kernel
theorem dX6_ride_20 : decode cX6_ride 20 = .ok (.ifCond .ne 11, 3) := by decide +kernel
theorem dX6_ride_23 : decode cX6_ride 23 = .ok (.aload_n 0, 1) := by decide +kernel
theorem dX6_ride_24 : decode cX6_ride 24 = .ok (.getfield 43, 3) := by decide +kernel
theorem dX6_ride_27 : decode cX6_ride 27 = .ok (.invokevirtual 156, 3) := by decide +kernel
theorem dX6_ride_30 : decode cX6_ride 30 = .ok (.ireturn, 1) := by decide +kernel
theorem dX6_ride_31 : decode cX6_ride 31 = .ok (.iload_n 1, 1) := by decide +kernel
theorem dX6_ride_32 : decode cX6_ride 32 = .ok (.iconst 1, 1) := by decide +kernel
theorem dX6_ride_33 : decode cX6_ride 33 = .ok (.if_icmp .ne 13, 3) := by decide +kernel
theorem dX6_ride_36 : decode cX6_ride 36 = .ok (.aload_n 0, 1) := by decide +kernel
theorem dX6_ride_37 : decode cX6_ride 37 = .ok (.getfield 43, 3) := by decide +kernel
theorem dX6_ride_40 : decode cX6_ride 40 = .ok (.invokevirtual 160, 3) := by decide +kernel
theorem dX6_ride_43 : decode cX6_ride 43 = .ok (.goto 10, 3) := by decide +kernel
theorem dX6_ride_46 : decode cX6_ride 46 = .ok (.aload_n 0, 1) := by decide +kernel
theorem dX6_ride_47 : decode cX6_ride 47 = .ok (.getfield 43, 3) := by decide +kernel
theorem dX6_ride_50 : decode cX6_ride 50 = .ok (.invokevirtual 163, 3) := by decide +kernel
theorem dX6_ride_53 : decode cX6_ride 53 = .ok (.ireturn, 1) := by decide +kernel
theorem dX6_rider_0 : decode cX6_rider 0 = .ok (.aload_n 0, 1) := by decide +kernel
theorem dX6_rider_1 : decode cX6_rider 1 = .ok (.iload_n 1, 1) := by decide +kernel
theorem dX6_rider_2 : decode cX6_rider 2 = .ok (.iload_n 2, 1) := by decide +kernel
theorem dX6_rider_3 : decode cX6_rider 3 = .ok (.iload_n 3, 1) := by decide +kernel
theorem dX6_rider_4 : decode cX6_rider 4 = .ok (.invokevirtual 64, 3) := by decide +kernel
theorem dX6_rider_7 : decode cX6_rider 7 = .ok (.ireturn, 1) := by decide +kernel
theorem dX6_riders_0 : decode cX6_riders 0 = .ok (.iload_n 1, 1) := by decide +kernel
theorem dX6_riders_1 : decode cX6_riders 1 = .ok (.invokestatic 217, 3) := by decide +kernel
theorem dX6_riders_4 : decode cX6_riders 4 = .ok (.ifCond .eq 23, 3) := by decide +kernel
theorem dX6_riders_7 : decode cX6_riders 7 = .ok (.iload_n 2, 1) := by decide +kernel
theorem dX6_riders_8 : decode cX6_riders 8 = .ok (.ifCond .lt 19, 3) := by decide +kernel
theorem dX6_riders_11 : decode cX6_riders 11 = .ok (.iload_n 2, 1) := by decide +kernel
theorem dX6_riders_12 : decode cX6_riders 12 = .ok (.iconst 3, 1) := by decide +kernel
theorem dX6_riders_13 : decode cX6_riders 13 = .ok (.if_icmp .ge 14, 3) := by decide +kernel
theorem dX6_riders_16 : decode cX6_riders 16 = .ok (.iload 4, 2) := by decide +kernel
theorem dX6_riders_18 : decode cX6_riders 18 = .ok (.ifCond .lt 9, 3) := by decide +kernel
theorem dX6_riders_21 : decode cX6_riders 21 = .ok (.iload 4, 2) := by decide +kernel
theorem dX6_riders_23 : decode cX6_riders 23 = .ok (.iconst 5, 1) := by decide +kernel
theorem dX6_riders_24 : decode cX6_riders 24 = .ok (.if_icmp .le 6, 3) := by decide +kernel
theorem dX6_riders_27 : decode cX6_riders 27 = .ok (.bipush (-2), 2) := by decide +kernel
theorem dX6_riders_29 : decode cX6_riders 29 = .ok (.ireturn, 1) := by decide +kernel
theorem dX6_riders_30 : decode cX6_riders 30 = .ok (.aload_n 0, 1) := by decide +kernel
theorem dX6_riders_31 : decode cX6_riders 31 = .ok (.getfield 34, 3) := by decide +kernel
theorem dX6_riders_34 : decode cX6_riders 34 = .ok (.iload_n 1, 1) := by decide +kernel
theorem dX6_riders_35 : decode cX6_riders 35 = .ok (.aaload, 1) := by decide +kernel
theorem dX6_riders_36 : decode cX6_riders 36 = .ok (.astore 5, 2) := by decide +kernel
theorem dX6_riders_38 : decode cX6_riders 38 = .ok (.aload 5, 2) := by decide +kernel
theorem dX6_riders_40 : decode cX6_riders 40 = .ok (.invokevirtual 247, 3) := by decide +kernel
theorem dX6_riders_43 : decode cX6_riders 43 = .ok (.ifCond .eq 6, 3) := by decide +kernel
theorem dX6_riders_46 : decode cX6_riders 46 = .ok (.bipush (-11), 2) := by decide +kernel
theorem dX6_riders_48 : decode cX6_riders 48 = .ok (.ireturn, 1) := by decide +kernel
theorem dX6_riders_49 : decode cX6_riders 49 = .ok (.aload 5, 2) := by decide +kernel
theorem dX6_riders_51 : decode cX6_riders 51 = .ok (.getfield 255, 3) := by decide +kernel
theorem dX6_riders_54 : decode cX6_riders 54 = .ok (.iload_n 2, 1) := by decide +kernel
theorem dX6_riders_55 : decode cX6_riders 55 = .ok (.if_icmp .eq 6, 3) := by decide +kernel
theorem dX6_riders_58 : decode cX6_riders 58 = .ok (.bipush (-13), 2) := by decide +kernel
theorem dX6_riders_60 : decode cX6_riders 60 = .ok (.ireturn, 1) := by decide +kernel
theorem dX6_riders_61 : decode cX6_riders 61 = .ok (.iconst 0, 1) := by decide +kernel
theorem dX6_riders_62 : decode cX6_riders 62 = .ok (.istore 6, 2) := by decide +kernel
theorem dX6_riders_64 : decode cX6_riders 64 = .ok (.iconst 0, 1) := by decide +kernel
theorem dX6_riders_65 : decode cX6_riders 65 = .ok (.istore 7, 2) := by decide +kernel
theorem dX6_riders_67 : decode cX6_riders 67 = .ok (.iload 7, 2) := by decide +kernel
theorem dX6_riders_69 : decode cX6_riders 69 = .ok (.iload 4, 2) := by decide +kernel
theorem dX6_riders_71 : decode cX6_riders 71 = .ok (.if_icmp .ge 69, 3) := by decide +kernel
theorem dX6_riders_74 : decode cX6_riders 74 = .ok (.iload_n 3, 1) := by decide +kernel
theorem dX6_riders_75 : decode cX6_riders 75 = .ok (.iconst 3, 1) := by decide +kernel
theorem dX6_riders_76 : decode cX6_riders 76 = .ok (.iload 7, 2) := by decide +kernel
theorem dX6_riders_78 : decode cX6_riders 78 = .ok (.imul, 1) := by decide +kernel
theorem dX6_riders_79 : decode cX6_riders 79 = .ok (.iadd, 1) := by decide +kernel
theorem dX6_riders_80 : decode cX6_riders 80 = .ok (.istore 8, 2) := by decide +kernel
theorem dX6_riders_82 : decode cX6_riders 82 = .ok (.aload 5, 2) := by decide +kernel
theorem dX6_riders_84 : decode cX6_riders 84 = .ok (.iload 8, 2) := by decide +kernel
theorem dX6_riders_86 : decode cX6_riders 86 = .ok (.iconst 3, 1) := by decide +kernel
theorem dX6_riders_87 : decode cX6_riders 87 = .ok (.invokevirtual 258, 3) := by decide +kernel
theorem dX6_riders_90 : decode cX6_riders 90 = .ok (.ifCond .ne 6, 3) := by decide +kernel
theorem dX6_riders_93 : decode cX6_riders 93 = .ok (.bipush (-12), 2) := by decide +kernel
theorem dX6_riders_95 : decode cX6_riders 95 = .ok (.ireturn, 1) := by decide +kernel
theorem dX6_riders_96 : decode cX6_riders 96 = .ok (.aload_n 0, 1) := by decide +kernel
theorem dX6_riders_97 : decode cX6_riders 97 = .ok (.aload 5, 2) := by decide +kernel
theorem dX6_riders_99 : decode cX6_riders 99 = .ok (.getfield 235, 3) := by decide +kernel
theorem dX6_riders_102 : decode cX6_riders 102 = .ok (.iload 8, 2) := by decide +kernel
theorem dX6_riders_104 : decode cX6_riders 104 = .ok (.iaload, 1) := by decide +kernel
theorem dX6_riders_105 : decode cX6_riders 105 = .ok (.aload 5, 2) := by decide +kernel
theorem dX6_riders_107 : decode cX6_riders 107 = .ok (.getfield 235, 3) := by decide +kernel
theorem dX6_riders_110 : decode cX6_riders 110 = .ok (.iload 8, 2) := by decide +kernel
theorem dX6_riders_112 : decode cX6_riders 112 = .ok (.iconst 1, 1) := by decide +kernel
theorem dX6_riders_113 : decode cX6_riders 113 = .ok (.iadd, 1) := by decide +kernel
theorem dX6_riders_114 : decode cX6_riders 114 = .ok (.iaload, 1) := by decide +kernel
theorem dX6_riders_115 : decode cX6_riders 115 = .ok (.aload 5, 2) := by decide +kernel
theorem dX6_riders_117 : decode cX6_riders 117 = .ok (.getfield 235, 3) := by decide +kernel
theorem dX6_riders_120 : decode cX6_riders 120 = .ok (.iload 8, 2) := by decide +kernel
theorem dX6_riders_122 : decode cX6_riders 122 = .ok (.iconst 2, 1) := by decide +kernel
theorem dX6_riders_123 : decode cX6_riders 123 = .ok (.iadd, 1) := by decide +kernel
theorem dX6_riders_124 : decode cX6_riders 124 = .ok (.iaload, 1) := by decide +kernel
theorem dX6_riders_125 : decode cX6_riders 125 = .ok (.invokevirtual 64, 3) := by decide +kernel
theorem dX6_riders_128 : decode cX6_riders 128 = .ok (.ifCond .lt 6, 3) := by decide +kernel
theorem dX6_riders_131 : decode cX6_riders 131 = .ok (.iinc 6 1, 3) := by decide +kernel
theorem dX6_riders_134 : decode cX6_riders 134 = .ok (.iinc 7 1, 3) := by decide +kernel
theorem dX6_riders_137 : decode cX6_riders 137 = .ok (.goto (-70), 3) := by decide +kernel
theorem dX6_riders_140 : decode cX6_riders 140 = .ok (.iload 6, 2) := by decide +kernel
theorem dX6_riders_142 : decode cX6_riders 142 = .ok (.ireturn, 1) := by decide +kernel
theorem dX6_second_0 : decode cX6_second 0 = .ok (.iload_n 1, 1) := by decide +kernel
theorem dX6_second_1 : decode cX6_second 1 = .ok (.ifCond .lt 8, 3) := by decide +kernel
theorem dX6_second_4 : decode cX6_second 4 = .ok (.iload_n 1, 1) := by decide +kernel
theorem dX6_second_5 : decode cX6_second 5 = .ok (.iconst 1, 1) := by decide +kernel
theorem dX6_second_6 : decode cX6_second 6 = .ok (.if_icmp .le 6, 3) := by decide +kernel
theorem dX6_second_9 : decode cX6_second 9 = .ok (.ldc 194, 2) := by decide +kernel
theorem dX6_second_11 : decode cX6_second 11 = .ok (.ireturn, 1) := by decide +kernel
theorem dX6_second_12 : decode cX6_second 12 = .ok (.aload_n 0, 1) := by decide +kernel
theorem dX6_second_13 : decode cX6_second 13 = .ok (.getfield 43, 3) := by decide +kernel
theorem dX6_second_16 : decode cX6_second 16 = .ok (.invokevirtual 153, 3) := by decide +kernel
theorem dX6_second_19 : decode cX6_second 19 = .ok (.iload_n 1, 1) := by decide +kernel
theorem dX6_second_20 : decode cX6_second 20 = .ok (.iconst 1, 1) := by decide +kernel
theorem dX6_second_21 : decode cX6_second 21 = .ok (.if_icmp .ne 8, 3) := by decide +kernel
theorem dX6_second_24 : decode cX6_second 24 = .ok (.aload_n 0, 1) := by decide +kernel
theorem dX6_second_25 : decode cX6_second 25 = .ok (.invokevirtual 195, 3) := by decide +kernel
theorem dX6_second_28 : decode cX6_second 28 = .ok (.ireturn, 1) := by decide +kernel
theorem dX6_second_29 : decode cX6_second 29 = .ok (.aload_n 0, 1) := by decide +kernel
theorem dX6_second_30 : decode cX6_second 30 = .ok (.getfield 43, 3) := by decide +kernel
theorem dX6_second_33 : decode cX6_second 33 = .ok (.getfield 184, 3) := by decide +kernel
theorem dX6_second_36 : decode cX6_second 36 = .ok (.iconst 1, 1) := by decide +kernel
theorem dX6_second_37 : decode cX6_second 37 = .ok (.putfield 130, 3) := by decide +kernel
theorem dX6_second_40 : decode cX6_second 40 = .ok (.aload_n 0, 1) := by decide +kernel
theorem dX6_second_41 : decode cX6_second 41 = .ok (.getfield 43, 3) := by decide +kernel
theorem dX6_second_44 : decode cX6_second 44 = .ok (.invokevirtual 156, 3) := by decide +kernel
theorem dX6_second_47 : decode cX6_second 47 = .ok (.istore_n 2, 1) := by decide +kernel
theorem dX6_second_48 : decode cX6_second 48 = .ok (.aload_n 0, 1) := by decide +kernel
theorem dX6_second_49 : decode cX6_second 49 = .ok (.getfield 43, 3) := by decide +kernel
theorem dX6_second_52 : decode cX6_second 52 = .ok (.getfield 184, 3) := by decide +kernel
theorem dX6_second_55 : decode cX6_second 55 = .ok (.iconst 2, 1) := by decide +kernel
theorem dX6_second_56 : decode cX6_second 56 = .ok (.putfield 130, 3) := by decide +kernel
theorem dX6_second_59 : decode cX6_second 59 = .ok (.iload_n 2, 1) := by decide +kernel
theorem dX6_second_60 : decode cX6_second 60 = .ok (.aload_n 0, 1) := by decide +kernel
theorem dX6_second_61 : decode cX6_second 61 = .ok (.getfield 43, 3) := by decide +kernel
theorem dX6_second_64 : decode cX6_second 64 = .ok (.invokevirtual 156, 3) := by decide +kernel
theorem dX6_second_67 : decode cX6_second 67 = .ok (.isub, 1) := by decide +kernel
theorem dX6_second_68 : decode cX6_second 68 = .ok (.ireturn, 1) := by decide +kernel
theorem dX6_seen_0 : decode cX6_seen 0 = .ok (.iload_n 1, 1) := by decide +kernel
theorem dX6_seen_1 : decode cX6_seen 1 = .ok (.invokestatic 217, 3) := by decide +kernel
theorem dX6_seen_4 : decode cX6_seen 4 = .ok (.ifCond .eq 23, 3) := by decide +kernel
theorem dX6_seen_7 : decode cX6_seen 7 = .ok (.aload_n 0, 1) := by decide +kernel
theorem dX6_seen_8 : decode cX6_seen 8 = .ok (.getfield 10, 3) := by decide +kernel
theorem dX6_seen_11 : decode cX6_seen 11 = .ok (.iload_n 2, 1) := by decide +kernel
theorem dX6_seen_12 : decode cX6_seen 12 = .ok (.invokevirtual 72, 3) := by decide +kernel
theorem dX6_seen_15 : decode cX6_seen 15 = .ok (.ifCond .eq 12, 3) := by decide +kernel
theorem dX6_seen_18 : decode cX6_seen 18 = .ok (.iload_n 3, 1) := by decide +kernel
theorem dX6_seen_19 : decode cX6_seen 19 = .ok (.ifCond .lt 8, 3) := by decide +kernel
theorem dX6_seen_22 : decode cX6_seen 22 = .ok (.iload_n 3, 1) := by decide +kernel
theorem dX6_seen_23 : decode cX6_seen 23 = .ok (.iconst 2, 1) := by decide +kernel
theorem dX6_seen_24 : decode cX6_seen 24 = .ok (.if_icmp .le 6, 3) := by decide +kernel
theorem dX6_seen_27 : decode cX6_seen 27 = .ok (.bipush (-2), 2) := by decide +kernel
theorem dX6_seen_29 : decode cX6_seen 29 = .ok (.ireturn, 1) := by decide +kernel
theorem dX6_seen_30 : decode cX6_seen 30 = .ok (.aload_n 0, 1) := by decide +kernel
theorem dX6_seen_31 : decode cX6_seen 31 = .ok (.getfield 34, 3) := by decide +kernel
theorem dX6_seen_34 : decode cX6_seen 34 = .ok (.iload_n 1, 1) := by decide +kernel
theorem dX6_seen_35 : decode cX6_seen 35 = .ok (.aaload, 1) := by decide +kernel
theorem dX6_seen_36 : decode cX6_seen 36 = .ok (.invokestatic 220, 3) := by decide +kernel
theorem dX6_seen_39 : decode cX6_seen 39 = .ok (.istore 4, 2) := by decide +kernel
theorem dX6_seen_41 : decode cX6_seen 41 = .ok (.iload 4, 2) := by decide +kernel
theorem dX6_seen_43 : decode cX6_seen 43 = .ok (.ifCond .eq 6, 3) := by decide +kernel
theorem dX6_seen_46 : decode cX6_seen 46 = .ok (.iload 4, 2) := by decide +kernel
theorem dX6_seen_48 : decode cX6_seen 48 = .ok (.ireturn, 1) := by decide +kernel
theorem dX6_seen_49 : decode cX6_seen 49 = .ok (.aload_n 0, 1) := by decide +kernel
theorem dX6_seen_50 : decode cX6_seen 50 = .ok (.getfield 43, 3) := by decide +kernel
theorem dX6_seen_53 : decode cX6_seen 53 = .ok (.invokevirtual 153, 3) := by decide +kernel
theorem dX6_seen_56 : decode cX6_seen 56 = .ok (.iload_n 3, 1) := by decide +kernel
theorem dX6_seen_57 : decode cX6_seen 57 = .ok (.ifCond .ne 38, 3) := by decide +kernel
theorem dX6_seen_60 : decode cX6_seen 60 = .ok (.aload_n 0, 1) := by decide +kernel
theorem dX6_seen_61 : decode cX6_seen 61 = .ok (.aload_n 0, 1) := by decide +kernel
theorem dX6_seen_62 : decode cX6_seen 62 = .ok (.getfield 34, 3) := by decide +kernel
theorem dX6_seen_65 : decode cX6_seen 65 = .ok (.iload_n 1, 1) := by decide +kernel
theorem dX6_seen_66 : decode cX6_seen 66 = .ok (.aaload, 1) := by decide +kernel
theorem dX6_seen_67 : decode cX6_seen 67 = .ok (.aload_n 0, 1) := by decide +kernel
theorem dX6_seen_68 : decode cX6_seen 68 = .ok (.getfield 43, 3) := by decide +kernel
theorem dX6_seen_71 : decode cX6_seen 71 = .ok (.getfield 184, 3) := by decide +kernel
theorem dX6_seen_74 : decode cX6_seen 74 = .ok (.getfield 114, 3) := by decide +kernel
theorem dX6_seen_77 : decode cX6_seen 77 = .ok (.iload_n 2, 1) := by decide +kernel
theorem dX6_seen_78 : decode cX6_seen 78 = .ok (.aload_n 0, 1) := by decide +kernel
theorem dX6_seen_79 : decode cX6_seen 79 = .ok (.getfield 10, 3) := by decide +kernel
theorem dX6_seen_82 : decode cX6_seen 82 = .ok (.getfield 111, 3) := by decide +kernel
theorem dX6_seen_85 : decode cX6_seen 85 = .ok (.iload_n 2, 1) := by decide +kernel
theorem dX6_seen_86 : decode cX6_seen 86 = .ok (.iaload, 1) := by decide +kernel
theorem dX6_seen_87 : decode cX6_seen 87 = .ok (.iconst 1, 1) := by decide +kernel
theorem dX6_seen_88 : decode cX6_seen 88 = .ok (.iadd, 1) := by decide +kernel
theorem dX6_seen_89 : decode cX6_seen 89 = .ok (.bipush 9, 2) := by decide +kernel
theorem dX6_seen_91 : decode cX6_seen 91 = .ok (.invokevirtual 227, 3) := by decide +kernel
theorem dX6_seen_94 : decode cX6_seen 94 = .ok (.ireturn, 1) := by decide +kernel
theorem dX6_seen_95 : decode cX6_seen 95 = .ok (.iload_n 3, 1) := by decide +kernel
theorem dX6_seen_96 : decode cX6_seen 96 = .ok (.iconst 1, 1) := by decide +kernel
theorem dX6_seen_97 : decode cX6_seen 97 = .ok (.if_icmp .ne 27, 3) := by decide +kernel
theorem dX6_seen_100 : decode cX6_seen 100 = .ok (.aload_n 0, 1) := by decide +kernel
theorem dX6_seen_101 : decode cX6_seen 101 = .ok (.aload_n 0, 1) := by decide +kernel
theorem dX6_seen_102 : decode cX6_seen 102 = .ok (.getfield 34, 3) := by decide +kernel
theorem dX6_seen_105 : decode cX6_seen 105 = .ok (.iload_n 1, 1) := by decide +kernel
theorem dX6_seen_106 : decode cX6_seen 106 = .ok (.aaload, 1) := by decide +kernel
theorem dX6_seen_107 : decode cX6_seen 107 = .ok (.aload_n 0, 1) := by decide +kernel
theorem dX6_seen_108 : decode cX6_seen 108 = .ok (.getfield 43, 3) := by decide +kernel
theorem dX6_seen_111 : decode cX6_seen 111 = .ok (.getfield 184, 3) := by decide +kernel
theorem dX6_seen_114 : decode cX6_seen 114 = .ok (.getfield 117, 3) := by decide +kernel
theorem dX6_seen_117 : decode cX6_seen 117 = .ok (.iload_n 2, 1) := by decide +kernel
theorem dX6_seen_118 : decode cX6_seen 118 = .ok (.iconst 0, 1) := by decide +kernel
theorem dX6_seen_119 : decode cX6_seen 119 = .ok (.iconst 5, 1) := by decide +kernel
theorem dX6_seen_120 : decode cX6_seen 120 = .ok (.invokevirtual 227, 3) := by decide +kernel
theorem dX6_seen_123 : decode cX6_seen 123 = .ok (.ireturn, 1) := by decide +kernel
theorem dX6_seen_124 : decode cX6_seen 124 = .ok (.aload_n 0, 1) := by decide +kernel
theorem dX6_seen_125 : decode cX6_seen 125 = .ok (.aload_n 0, 1) := by decide +kernel
theorem dX6_seen_126 : decode cX6_seen 126 = .ok (.getfield 34, 3) := by decide +kernel
theorem dX6_seen_129 : decode cX6_seen 129 = .ok (.iload_n 1, 1) := by decide +kernel
theorem dX6_seen_130 : decode cX6_seen 130 = .ok (.aaload, 1) := by decide +kernel
theorem dX6_seen_131 : decode cX6_seen 131 = .ok (.aload_n 0, 1) := by decide +kernel
theorem dX6_seen_132 : decode cX6_seen 132 = .ok (.getfield 43, 3) := by decide +kernel
theorem dX6_seen_135 : decode cX6_seen 135 = .ok (.getfield 184, 3) := by decide +kernel
theorem dX6_seen_138 : decode cX6_seen 138 = .ok (.getfield 105, 3) := by decide +kernel
theorem dX6_seen_141 : decode cX6_seen 141 = .ok (.iload_n 2, 1) := by decide +kernel
theorem dX6_seen_142 : decode cX6_seen 142 = .ok (.iconst 0, 1) := by decide +kernel
theorem dX6_seen_143 : decode cX6_seen 143 = .ok (.iconst 5, 1) := by decide +kernel
theorem dX6_seen_144 : decode cX6_seen 144 = .ok (.invokevirtual 227, 3) := by decide +kernel
theorem dX6_seen_147 : decode cX6_seen 147 = .ok (.ireturn, 1) := by decide +kernel
theorem dX6_set_0 : decode cX6_set 0 = .ok (.iload_n 1, 1) := by decide +kernel
theorem dX6_set_1 : decode cX6_set 1 = .ok (.ifCond .ne 9, 3) := by decide +kernel
theorem dX6_set_4 : decode cX6_set 4 = .ok (.aload_n 0, 1) := by decide +kernel
theorem dX6_set_5 : decode cX6_set 5 = .ok (.iload_n 3, 1) := by decide +kernel
theorem dX6_set_6 : decode cX6_set 6 = .ok (.invokevirtual 68, 3) := by decide +kernel
theorem dX6_set_9 : decode cX6_set 9 = .ok (.ireturn, 1) := by decide +kernel
theorem dX6_set_10 : decode cX6_set 10 = .ok (.iload_n 1, 1) := by decide +kernel
theorem dX6_set_11 : decode cX6_set 11 = .ok (.iconst 1, 1) := by decide +kernel
theorem dX6_set_12 : decode cX6_set 12 = .ok (.if_icmp .lt 19, 3) := by decide +kernel
theorem dX6_set_15 : decode cX6_set 15 = .ok (.iload_n 1, 1) := by decide +kernel
theorem dX6_set_16 : decode cX6_set 16 = .ok (.iconst 5, 1) := by decide +kernel
theorem dX6_set_17 : decode cX6_set 17 = .ok (.if_icmp .gt 14, 3) := by decide +kernel
theorem dX6_set_20 : decode cX6_set 20 = .ok (.aload_n 0, 1) := by decide +kernel
theorem dX6_set_21 : decode cX6_set 21 = .ok (.getfield 10, 3) := by decide +kernel
theorem dX6_set_24 : decode cX6_set 24 = .ok (.iload_n 2, 1) := by decide +kernel
theorem dX6_set_25 : decode cX6_set 25 = .ok (.invokevirtual 72, 3) := by decide +kernel
theorem dX6_set_28 : decode cX6_set 28 = .ok (.ifCond .ne 6, 3) := by decide +kernel
theorem dX6_set_31 : decode cX6_set 31 = .ok (.bipush (-2), 2) := by decide +kernel
theorem dX6_set_33 : decode cX6_set 33 = .ok (.ireturn, 1) := by decide +kernel
theorem dX6_set_34 : decode cX6_set 34 = .ok (.iload_n 3, 1) := by decide +kernel
theorem dX6_set_35 : decode cX6_set 35 = .ok (.aload_n 0, 1) := by decide +kernel
theorem dX6_set_36 : decode cX6_set 36 = .ok (.iload_n 1, 1) := by decide +kernel
theorem dX6_set_37 : decode cX6_set 37 = .ok (.iload_n 2, 1) := by decide +kernel
theorem dX6_set_38 : decode cX6_set 38 = .ok (.invokevirtual 76, 3) := by decide +kernel
theorem dX6_set_41 : decode cX6_set 41 = .ok (.if_icmp .lt 11, 3) := by decide +kernel
theorem dX6_set_44 : decode cX6_set 44 = .ok (.iload_n 3, 1) := by decide +kernel
theorem dX6_set_45 : decode cX6_set 45 = .ok (.iload_n 1, 1) := by decide +kernel
theorem dX6_set_46 : decode cX6_set 46 = .ok (.invokestatic 80, 3) := by decide +kernel
theorem dX6_set_49 : decode cX6_set 49 = .ok (.if_icmp .le 6, 3) := by decide +kernel
theorem dX6_set_52 : decode cX6_set 52 = .ok (.bipush (-2), 2) := by decide +kernel
theorem dX6_set_54 : decode cX6_set 54 = .ok (.ireturn, 1) := by decide +kernel
theorem dX6_set_55 : decode cX6_set 55 = .ok (.aload_n 0, 1) := by decide +kernel
theorem dX6_set_56 : decode cX6_set 56 = .ok (.aload_n 0, 1) := by decide +kernel
theorem dX6_set_57 : decode cX6_set 57 = .ok (.getfield 10, 3) := by decide +kernel
theorem dX6_set_60 : decode cX6_set 60 = .ok (.iload_n 1, 1) := by decide +kernel
theorem dX6_set_61 : decode cX6_set 61 = .ok (.invokevirtual 83, 3) := by decide +kernel
theorem dX6_set_64 : decode cX6_set 64 = .ok (.iload_n 2, 1) := by decide +kernel
theorem dX6_set_65 : decode cX6_set 65 = .ok (.iload_n 3, 1) := by decide +kernel
theorem dX6_set_66 : decode cX6_set 66 = .ok (.invokevirtual 87, 3) := by decide +kernel
theorem dX6_set_69 : decode cX6_set 69 = .ok (.ireturn, 1) := by decide +kernel
theorem dX6_sheet_0 : decode cX6_sheet 0 = .ok (.iload_n 1, 1) := by decide +kernel
theorem dX6_sheet_1 : decode cX6_sheet 1 = .ok (.invokestatic 217, 3) := by decide +kernel
theorem dX6_sheet_4 : decode cX6_sheet 4 = .ok (.ifCond .eq 13, 3) := by decide +kernel
theorem dX6_sheet_7 : decode cX6_sheet 7 = .ok (.iload_n 2, 1) := by decide +kernel
theorem dX6_sheet_8 : decode cX6_sheet 8 = .ok (.iconst (-1), 1) := by decide +kernel
theorem dX6_sheet_9 : decode cX6_sheet 9 = .ok (.if_icmp .lt 8, 3) := by decide +kernel
theorem dX6_sheet_12 : decode cX6_sheet 12 = .ok (.iload_n 2, 1) := by decide +kernel
theorem dX6_sheet_13 : decode cX6_sheet 13 = .ok (.iconst 3, 1) := by decide +kernel
theorem dX6_sheet_14 : decode cX6_sheet 14 = .ok (.if_icmp .lt 6, 3) := by decide +kernel
theorem dX6_sheet_17 : decode cX6_sheet 17 = .ok (.bipush (-2), 2) := by decide +kernel
theorem dX6_sheet_19 : decode cX6_sheet 19 = .ok (.ireturn, 1) := by decide +kernel
theorem dX6_sheet_20 : decode cX6_sheet 20 = .ok (.iload_n 2, 1) := by decide +kernel
theorem dX6_sheet_21 : decode cX6_sheet 21 = .ok (.iconst (-1), 1) := by decide +kernel
theorem dX6_sheet_22 : decode cX6_sheet 22 = .ok (.if_icmp .ne 16, 3) := by decide +kernel
theorem dX6_sheet_25 : decode cX6_sheet 25 = .ok (.aload_n 0, 1) := by decide +kernel
theorem dX6_sheet_26 : decode cX6_sheet 26 = .ok (.getfield 34, 3) := by decide +kernel
theorem dX6_sheet_29 : decode cX6_sheet 29 = .ok (.iload_n 1, 1) := by decide +kernel
theorem dX6_sheet_30 : decode cX6_sheet 30 = .ok (.aaload, 1) := by decide +kernel
theorem dX6_sheet_31 : decode cX6_sheet 31 = .ok (.iconst (-1), 1) := by decide +kernel
theorem dX6_sheet_32 : decode cX6_sheet 32 = .ok (.iconst 0, 1) := by decide +kernel
theorem dX6_sheet_33 : decode cX6_sheet 33 = .ok (.invokevirtual 231, 3) := by decide +kernel
theorem dX6_sheet_36 : decode cX6_sheet 36 = .ok (.iconst 1, 1) := by decide +kernel
theorem dX6_sheet_37 : decode cX6_sheet 37 = .ok (.ireturn, 1) := by decide +kernel
theorem dX6_sheet_38 : decode cX6_sheet 38 = .ok (.iload_n 3, 1) := by decide +kernel
theorem dX6_sheet_39 : decode cX6_sheet 39 = .ok (.bipush 40, 2) := by decide +kernel
theorem dX6_sheet_41 : decode cX6_sheet 41 = .ok (.if_icmp .le 6, 3) := by decide +kernel
theorem dX6_sheet_44 : decode cX6_sheet 44 = .ok (.bipush (-2), 2) := by decide +kernel
theorem dX6_sheet_46 : decode cX6_sheet 46 = .ok (.ireturn, 1) := by decide +kernel
theorem dX6_sheet_47 : decode cX6_sheet 47 = .ok (.iload_n 3, 1) := by decide +kernel
theorem dX6_sheet_48 : decode cX6_sheet 48 = .ok (.ifCond .ge 6, 3) := by decide +kernel
theorem dX6_sheet_51 : decode cX6_sheet 51 = .ok (.bipush (-14), 2) := by decide +kernel
theorem dX6_sheet_53 : decode cX6_sheet 53 = .ok (.ireturn, 1) := by decide +kernel
theorem dX6_sheet_54 : decode cX6_sheet 54 = .ok (.aload_n 0, 1) := by decide +kernel
theorem dX6_sheet_55 : decode cX6_sheet 55 = .ok (.getfield 34, 3) := by decide +kernel
theorem dX6_sheet_58 : decode cX6_sheet 58 = .ok (.iload_n 1, 1) := by decide +kernel
theorem dX6_sheet_59 : decode cX6_sheet 59 = .ok (.aaload, 1) := by decide +kernel
theorem dX6_sheet_60 : decode cX6_sheet 60 = .ok (.iload_n 2, 1) := by decide +kernel
theorem dX6_sheet_61 : decode cX6_sheet 61 = .ok (.iload_n 3, 1) := by decide +kernel
theorem dX6_sheet_62 : decode cX6_sheet 62 = .ok (.invokevirtual 231, 3) := by decide +kernel
theorem dX6_sheet_65 : decode cX6_sheet 65 = .ok (.iconst 1, 1) := by decide +kernel
theorem dX6_sheet_66 : decode cX6_sheet 66 = .ok (.ireturn, 1) := by decide +kernel
theorem dX6_stand_0 : decode cX6_stand 0 = .ok (.iload_n 1, 1) := by decide +kernel
theorem dX6_stand_1 : decode cX6_stand 1 = .ok (.iconst (-1), 1) := by decide +kernel
theorem dX6_stand_2 : decode cX6_stand 2 = .ok (.if_icmp .eq 17, 3) := by decide +kernel
theorem dX6_stand_5 : decode cX6_stand 5 = .ok (.aload_n 0, 1) := by decide +kernel
theorem dX6_stand_6 : decode cX6_stand 6 = .ok (.getfield 10, 3) := by decide +kernel
theorem dX6_stand_9 : decode cX6_stand 9 = .ok (.iload_n 1, 1) := by decide +kernel
theorem dX6_stand_10 : decode cX6_stand 10 = .ok (.invokevirtual 72, 3) := by decide +kernel
theorem dX6_stand_13 : decode cX6_stand 13 = .ok (.ifCond .ne 6, 3) := by decide +kernel
theorem dX6_stand_16 : decode cX6_stand 16 = .ok (.bipush (-100), 2) := by decide +kernel
theorem dX6_stand_18 : decode cX6_stand 18 = .ok (.ireturn, 1) := by decide +kernel
theorem dX6_stand_19 : decode cX6_stand 19 = .ok (.aload_n 0, 1) := by decide +kernel
theorem dX6_stand_20 : decode cX6_stand 20 = .ok (.getfield 52, 3) := by decide +kernel
theorem dX6_stand_23 : decode cX6_stand 23 = .ok (.invokevirtual 175, 3) := by decide +kernel
theorem dX6_stand_26 : decode cX6_stand 26 = .ok (.iload_n 1, 1) := by decide +kernel
theorem dX6_stand_27 : decode cX6_stand 27 = .ok (.iconst (-1), 1) := by decide +kernel
theorem dX6_stand_28 : decode cX6_stand 28 = .ok (.if_icmp .ne 13, 3) := by decide +kernel
theorem dX6_stand_31 : decode cX6_stand 31 = .ok (.aload_n 0, 1) := by decide +kernel
theorem dX6_stand_32 : decode cX6_stand 32 = .ok (.getfield 52, 3) := by decide +kernel
theorem dX6_stand_35 : decode cX6_stand 35 = .ok (.getfield 178, 3) := by decide +kernel
theorem dX6_stand_38 : decode cX6_stand 38 = .ok (.goto 12, 3) := by decide +kernel
theorem dX6_stand_41 : decode cX6_stand 41 = .ok (.aload_n 0, 1) := by decide +kernel
theorem dX6_stand_42 : decode cX6_stand 42 = .ok (.getfield 52, 3) := by decide +kernel
theorem dX6_stand_45 : decode cX6_stand 45 = .ok (.getfield 181, 3) := by decide +kernel
theorem dX6_stand_48 : decode cX6_stand 48 = .ok (.iload_n 1, 1) := by decide +kernel
theorem dX6_stand_49 : decode cX6_stand 49 = .ok (.iaload, 1) := by decide +kernel
theorem dX6_stand_50 : decode cX6_stand 50 = .ok (.ireturn, 1) := by decide +kernel
theorem dX6_stands_0 : decode cX6_stands 0 = .ok (.aload_n 0, 1) := by decide +kernel
theorem dX6_stands_1 : decode cX6_stands 1 = .ok (.getfield 52, 3) := by decide +kernel
theorem dX6_stands_4 : decode cX6_stands 4 = .ok (.invokevirtual 175, 3) := by decide +kernel
theorem dX6_stands_7 : decode cX6_stands 7 = .ok (.iconst 0, 1) := by decide +kernel
theorem dX6_stands_8 : decode cX6_stands 8 = .ok (.istore_n 1, 1) := by decide +kernel
theorem dX6_stands_9 : decode cX6_stands 9 = .ok (.iconst 0, 1) := by decide +kernel
theorem dX6_stands_10 : decode cX6_stands 10 = .ok (.istore_n 2, 1) := by decide +kernel
theorem dX6_stands_11 : decode cX6_stands 11 = .ok (.iload_n 2, 1) := by decide +kernel
theorem dX6_stands_12 : decode cX6_stands 12 = .ok (.aload_n 0, 1) := by decide +kernel
theorem dX6_stands_13 : decode cX6_stands 13 = .ok (.getfield 10, 3) := by decide +kernel
theorem dX6_stands_16 : decode cX6_stands 16 = .ok (.getfield 102, 3) := by decide +kernel
end
section
theorem dX6_stands_19 : decode cX6_stands 19 = .ok (.if_icmp .ge 51, 3) := by decide +kernel
theorem dX6_stands_22 : decode cX6_stands 22 = .ok (.aload_n 0, 1) := by decide +kernel
theorem dX6_stands_23 : decode cX6_stands 23 = .ok (.getfield 10, 3) := by decide +kernel
theorem dX6_stands_26 : decode cX6_stands 26 = .ok (.getfield 117, 3) := by decide +kernel
theorem dX6_stands_29 : decode cX6_stands 29 = .ok (.iload_n 2, 1) := by decide +kernel
theorem dX6_stands_30 : decode cX6_stands 30 = .ok (.iaload, 1) := by decide +kernel
theorem dX6_stands_31 : decode cX6_stands 31 = .ok (.aload_n 0, 1) := by decide +kernel
theorem dX6_stands_32 : decode cX6_stands 32 = .ok (.getfield 52, 3) := by decide +kernel
theorem dX6_stands_35 : decode cX6_stands 35 = .ok (.getfield 181, 3) := by decide +kernel
theorem dX6_stands_38 : decode cX6_stands 38 = .ok (.iload_n 2, 1) := by decide +kernel
theorem dX6_stands_39 : decode cX6_stands 39 = .ok (.iaload, 1) := by decide +kernel
theorem dX6_stands_40 : decode cX6_stands 40 = .ok (.if_icmp .eq 24, 3) := by decide +kernel
theorem dX6_stands_43 : decode cX6_stands 43 = .ok (.iinc 1 1, 3) := by decide +kernel
theorem dX6_stands_46 : decode cX6_stands 46 = .ok (.aload_n 0, 1) := by decide +kernel
theorem dX6_stands_47 : decode cX6_stands 47 = .ok (.getfield 10, 3) := by decide +kernel
theorem dX6_stands_50 : decode cX6_stands 50 = .ok (.getfield 117, 3) := by decide +kernel
theorem dX6_stands_53 : decode cX6_stands 53 = .ok (.iload_n 2, 1) := by decide +kernel
theorem dX6_stands_54 : decode cX6_stands 54 = .ok (.aload_n 0, 1) := by decide +kernel
theorem dX6_stands_55 : decode cX6_stands 55 = .ok (.getfield 52, 3) := by decide +kernel
theorem dX6_stands_58 : decode cX6_stands 58 = .ok (.getfield 181, 3) := by decide +kernel
theorem dX6_stands_61 : decode cX6_stands 61 = .ok (.iload_n 2, 1) := by decide +kernel
theorem dX6_stands_62 : decode cX6_stands 62 = .ok (.iaload, 1) := by decide +kernel
theorem dX6_stands_63 : decode cX6_stands 63 = .ok (.iastore, 1) := by decide +kernel
theorem dX6_stands_64 : decode cX6_stands 64 = .ok (.iinc 2 1, 3) := by decide +kernel
theorem dX6_stands_67 : decode cX6_stands 67 = .ok (.goto (-56), 3) := by decide +kernel
theorem dX6_stands_70 : decode cX6_stands 70 = .ok (.aload_n 0, 1) := by decide +kernel
theorem dX6_stands_71 : decode cX6_stands 71 = .ok (.getfield 52, 3) := by decide +kernel
theorem dX6_stands_74 : decode cX6_stands 74 = .ok (.iconst 0, 1) := by decide +kernel
theorem dX6_stands_75 : decode cX6_stands 75 = .ok (.putfield 126, 3) := by decide +kernel
theorem dX6_stands_78 : decode cX6_stands 78 = .ok (.iload_n 1, 1) := by decide +kernel
theorem dX6_stands_79 : decode cX6_stands 79 = .ok (.ireturn, 1) := by decide +kernel
theorem dX6_taken_0 : decode cX6_taken 0 = .ok (.iload_n 2, 1) := by decide +kernel
theorem dX6_taken_1 : decode cX6_taken 1 = .ok (.ifCond .lt 9, 3) := by decide +kernel
theorem dX6_taken_4 : decode cX6_taken 4 = .ok (.iload_n 2, 1) := by decide +kernel
theorem dX6_taken_5 : decode cX6_taken 5 = .ok (.bipush 6, 2) := by decide +kernel
theorem dX6_taken_7 : decode cX6_taken 7 = .ok (.if_icmp .lt 6, 3) := by decide +kernel
theorem dX6_taken_10 : decode cX6_taken 10 = .ok (.bipush (-2), 2) := by decide +kernel
theorem dX6_taken_12 : decode cX6_taken 12 = .ok (.ireturn, 1) := by decide +kernel
theorem dX6_taken_13 : decode cX6_taken 13 = .ok (.aload_n 0, 1) := by decide +kernel
theorem dX6_taken_14 : decode cX6_taken 14 = .ok (.getfield 10, 3) := by decide +kernel
theorem dX6_taken_17 : decode cX6_taken 17 = .ok (.iload_n 1, 1) := by decide +kernel
theorem dX6_taken_18 : decode cX6_taken 18 = .ok (.invokevirtual 72, 3) := by decide +kernel
theorem dX6_taken_21 : decode cX6_taken 21 = .ok (.ifCond .ne 6, 3) := by decide +kernel
theorem dX6_taken_24 : decode cX6_taken 24 = .ok (.bipush (-11), 2) := by decide +kernel
theorem dX6_taken_26 : decode cX6_taken 26 = .ok (.ireturn, 1) := by decide +kernel
theorem dX6_taken_27 : decode cX6_taken 27 = .ok (.aload_n 0, 1) := by decide +kernel
theorem dX6_taken_28 : decode cX6_taken 28 = .ok (.getfield 10, 3) := by decide +kernel
theorem dX6_taken_31 : decode cX6_taken 31 = .ok (.getfield 105, 3) := by decide +kernel
theorem dX6_taken_34 : decode cX6_taken 34 = .ok (.iload_n 1, 1) := by decide +kernel
theorem dX6_taken_35 : decode cX6_taken 35 = .ok (.iaload, 1) := by decide +kernel
theorem dX6_taken_36 : decode cX6_taken 36 = .ok (.iload_n 2, 1) := by decide +kernel
theorem dX6_taken_37 : decode cX6_taken 37 = .ok (.invokestatic 267, 3) := by decide +kernel
theorem dX6_taken_40 : decode cX6_taken 40 = .ok (.ifCond .eq 15, 3) := by decide +kernel
theorem dX6_taken_43 : decode cX6_taken 43 = .ok (.aload_n 0, 1) := by decide +kernel
theorem dX6_taken_44 : decode cX6_taken 44 = .ok (.getfield 10, 3) := by decide +kernel
theorem dX6_taken_47 : decode cX6_taken 47 = .ok (.getfield 108, 3) := by decide +kernel
theorem dX6_taken_50 : decode cX6_taken 50 = .ok (.iload_n 1, 1) := by decide +kernel
theorem dX6_taken_51 : decode cX6_taken 51 = .ok (.iaload, 1) := by decide +kernel
theorem dX6_taken_52 : decode cX6_taken 52 = .ok (.goto 5, 3) := by decide +kernel
theorem dX6_taken_55 : decode cX6_taken 55 = .ok (.bipush (-13), 2) := by decide +kernel
theorem dX6_taken_57 : decode cX6_taken 57 = .ok (.ireturn, 1) := by decide +kernel
theorem dX6_text_0 : decode cX6_text 0 = .ok (.aload_n 0, 1) := by decide +kernel
theorem dX6_text_1 : decode cX6_text 1 = .ok (.getfield 59, 3) := by decide +kernel
theorem dX6_text_4 : decode cX6_text 4 = .ok (.bipush 6, 2) := by decide +kernel
theorem dX6_text_6 : decode cX6_text 6 = .ok (.if_icmp .lt 6, 3) := by decide +kernel
theorem dX6_text_9 : decode cX6_text 9 = .ok (.bipush (-4), 2) := by decide +kernel
theorem dX6_text_11 : decode cX6_text 11 = .ok (.ireturn, 1) := by decide +kernel
theorem dX6_text_12 : decode cX6_text 12 = .ok (.aload_n 0, 1) := by decide +kernel
theorem dX6_text_13 : decode cX6_text 13 = .ok (.getfield 22, 3) := by decide +kernel
theorem dX6_text_16 : decode cX6_text 16 = .ok (.invokevirtual 139, 3) := by decide +kernel
theorem dX6_text_19 : decode cX6_text 19 = .ok (.istore_n 1, 1) := by decide +kernel
theorem dX6_text_20 : decode cX6_text 20 = .ok (.aload_n 0, 1) := by decide +kernel
theorem dX6_text_21 : decode cX6_text 21 = .ok (.getfield 22, 3) := by decide +kernel
theorem dX6_text_24 : decode cX6_text 24 = .ok (.iconst 0, 1) := by decide +kernel
theorem dX6_text_25 : decode cX6_text 25 = .ok (.putfield 133, 3) := by decide +kernel
theorem dX6_text_28 : decode cX6_text 28 = .ok (.iload_n 1, 1) := by decide +kernel
theorem dX6_text_29 : decode cX6_text 29 = .ok (.ifCond .ne 14, 3) := by decide +kernel
theorem dX6_text_32 : decode cX6_text 32 = .ok (.bipush (-100), 2) := by decide +kernel
theorem dX6_text_34 : decode cX6_text 34 = .ok (.aload_n 0, 1) := by decide +kernel
theorem dX6_text_35 : decode cX6_text 35 = .ok (.getfield 22, 3) := by decide +kernel
theorem dX6_text_38 : decode cX6_text 38 = .ok (.getfield 143, 3) := by decide +kernel
theorem dX6_text_41 : decode cX6_text 41 = .ok (.isub, 1) := by decide +kernel
theorem dX6_text_42 : decode cX6_text 42 = .ok (.ireturn, 1) := by decide +kernel
theorem dX6_text_43 : decode cX6_text 43 = .ok (.aload_n 0, 1) := by decide +kernel
theorem dX6_text_44 : decode cX6_text 44 = .ok (.getfield 28, 3) := by decide +kernel
theorem dX6_text_47 : decode cX6_text 47 = .ok (.aload_n 0, 1) := by decide +kernel
theorem dX6_text_48 : decode cX6_text 48 = .ok (.getfield 59, 3) := by decide +kernel
theorem dX6_text_51 : decode cX6_text 51 = .ok (.aload_n 0, 1) := by decide +kernel
theorem dX6_text_52 : decode cX6_text 52 = .ok (.getfield 22, 3) := by decide +kernel
theorem dX6_text_55 : decode cX6_text 55 = .ok (.invokevirtual 146, 3) := by decide +kernel
theorem dX6_text_58 : decode cX6_text 58 = .ok (.aastore, 1) := by decide +kernel
theorem dX6_text_59 : decode cX6_text 59 = .ok (.aload_n 0, 1) := by decide +kernel
theorem dX6_text_60 : decode cX6_text 60 = .ok (.dup, 1) := by decide +kernel
theorem dX6_text_61 : decode cX6_text 61 = .ok (.getfield 59, 3) := by decide +kernel
theorem dX6_text_64 : decode cX6_text 64 = .ok (.iconst 1, 1) := by decide +kernel
theorem dX6_text_65 : decode cX6_text 65 = .ok (.iadd, 1) := by decide +kernel
theorem dX6_text_66 : decode cX6_text 66 = .ok (.putfield 59, 3) := by decide +kernel
theorem dX6_text_69 : decode cX6_text 69 = .ok (.aload_n 0, 1) := by decide +kernel
theorem dX6_text_70 : decode cX6_text 70 = .ok (.getfield 59, 3) := by decide +kernel
theorem dX6_text_73 : decode cX6_text 73 = .ok (.iconst 1, 1) := by decide +kernel
theorem dX6_text_74 : decode cX6_text 74 = .ok (.isub, 1) := by decide +kernel
theorem dX6_text_75 : decode cX6_text 75 = .ok (.ireturn, 1) := by decide +kernel
theorem dX6_told_0 : decode cX6_told 0 = .ok (.aload_n 0, 1) := by decide +kernel
theorem dX6_told_1 : decode cX6_told 1 = .ok (.getfield 10, 3) := by decide +kernel
theorem dX6_told_4 : decode cX6_told 4 = .ok (.iload_n 1, 1) := by decide +kernel
theorem dX6_told_5 : decode cX6_told 5 = .ok (.invokevirtual 72, 3) := by decide +kernel
theorem dX6_told_8 : decode cX6_told 8 = .ok (.ifCond .eq 13, 3) := by decide +kernel
theorem dX6_told_11 : decode cX6_told 11 = .ok (.iload_n 2, 1) := by decide +kernel
theorem dX6_told_12 : decode cX6_told 12 = .ok (.ifCond .lt 9, 3) := by decide +kernel
theorem dX6_told_15 : decode cX6_told 15 = .ok (.iload_n 2, 1) := by decide +kernel
theorem dX6_told_16 : decode cX6_told 16 = .ok (.bipush 6, 2) := by decide +kernel
theorem dX6_told_18 : decode cX6_told 18 = .ok (.if_icmp .le 6, 3) := by decide +kernel
theorem dX6_told_21 : decode cX6_told 21 = .ok (.bipush (-2), 2) := by decide +kernel
theorem dX6_told_23 : decode cX6_told 23 = .ok (.ireturn, 1) := by decide +kernel
theorem dX6_told_24 : decode cX6_told 24 = .ok (.aload_n 0, 1) := by decide +kernel
theorem dX6_told_25 : decode cX6_told 25 = .ok (.getfield 10, 3) := by decide +kernel
theorem dX6_told_28 : decode cX6_told 28 = .ok (.iload_n 2, 1) := by decide +kernel
theorem dX6_told_29 : decode cX6_told 29 = .ok (.invokevirtual 83, 3) := by decide +kernel
theorem dX6_told_32 : decode cX6_told 32 = .ok (.iload_n 1, 1) := by decide +kernel
theorem dX6_told_33 : decode cX6_told 33 = .ok (.iaload, 1) := by decide +kernel
theorem dX6_told_34 : decode cX6_told 34 = .ok (.ireturn, 1) := by decide +kernel
theorem dX6_weightOf_0 : decode cX6_weightOf 0 = .ok (.lconst 1, 1) := by decide +kernel
theorem dX6_weightOf_1 : decode cX6_weightOf 1 = .ok (.lstore_n 2, 1) := by decide +kernel
theorem dX6_weightOf_2 : decode cX6_weightOf 2 = .ok (.iconst 0, 1) := by decide +kernel
theorem dX6_weightOf_3 : decode cX6_weightOf 3 = .ok (.istore 4, 2) := by decide +kernel
theorem dX6_weightOf_5 : decode cX6_weightOf 5 = .ok (.iload 4, 2) := by decide +kernel
theorem dX6_weightOf_7 : decode cX6_weightOf 7 = .ok (.aload_n 0, 1) := by decide +kernel
theorem dX6_weightOf_8 : decode cX6_weightOf 8 = .ok (.getfield 10, 3) := by decide +kernel
theorem dX6_weightOf_11 : decode cX6_weightOf 11 = .ok (.getfield 102, 3) := by decide +kernel
theorem dX6_weightOf_14 : decode cX6_weightOf 14 = .ok (.if_icmp .ge 49, 3) := by decide +kernel
theorem dX6_weightOf_17 : decode cX6_weightOf 17 = .ok (.lload_n 2, 1) := by decide +kernel
theorem dX6_weightOf_18 : decode cX6_weightOf 18 = .ok (.iload_n 1, 1) := by decide +kernel
theorem dX6_weightOf_19 : decode cX6_weightOf 19 = .ok (.iload 4, 2) := by decide +kernel
theorem dX6_weightOf_21 : decode cX6_weightOf 21 = .ok (.ishr, 1) := by decide +kernel
theorem dX6_weightOf_22 : decode cX6_weightOf 22 = .ok (.iconst 1, 1) := by decide +kernel
theorem dX6_weightOf_23 : decode cX6_weightOf 23 = .ok (.iand, 1) := by decide +kernel
theorem dX6_weightOf_24 : decode cX6_weightOf 24 = .ok (.ifCond .eq 17, 3) := by decide +kernel
theorem dX6_weightOf_27 : decode cX6_weightOf 27 = .ok (.aload_n 0, 1) := by decide +kernel
theorem dX6_weightOf_28 : decode cX6_weightOf 28 = .ok (.getfield 10, 3) := by decide +kernel
theorem dX6_weightOf_31 : decode cX6_weightOf 31 = .ok (.getfield 120, 3) := by decide +kernel
theorem dX6_weightOf_34 : decode cX6_weightOf 34 = .ok (.iload 4, 2) := by decide +kernel
theorem dX6_weightOf_36 : decode cX6_weightOf 36 = .ok (.iaload, 1) := by decide +kernel
theorem dX6_weightOf_37 : decode cX6_weightOf 37 = .ok (.i2l, 1) := by decide +kernel
theorem dX6_weightOf_38 : decode cX6_weightOf 38 = .ok (.goto 17, 3) := by decide +kernel
theorem dX6_weightOf_41 : decode cX6_weightOf 41 = .ok (.bipush 100, 2) := by decide +kernel
theorem dX6_weightOf_43 : decode cX6_weightOf 43 = .ok (.aload_n 0, 1) := by decide +kernel
theorem dX6_weightOf_44 : decode cX6_weightOf 44 = .ok (.getfield 10, 3) := by decide +kernel
theorem dX6_weightOf_47 : decode cX6_weightOf 47 = .ok (.getfield 120, 3) := by decide +kernel
theorem dX6_weightOf_50 : decode cX6_weightOf 50 = .ok (.iload 4, 2) := by decide +kernel
theorem dX6_weightOf_52 : decode cX6_weightOf 52 = .ok (.iaload, 1) := by decide +kernel
theorem dX6_weightOf_53 : decode cX6_weightOf 53 = .ok (.isub, 1) := by decide +kernel
theorem dX6_weightOf_54 : decode cX6_weightOf 54 = .ok (.i2l, 1) := by decide +kernel
theorem dX6_weightOf_55 : decode cX6_weightOf 55 = .ok (.lmul, 1) := by decide +kernel
theorem dX6_weightOf_56 : decode cX6_weightOf 56 = .ok (.lstore_n 2, 1) := by decide +kernel
theorem dX6_weightOf_57 : decode cX6_weightOf 57 = .ok (.iinc 4 1, 3) := by decide +kernel
theorem dX6_weightOf_60 : decode cX6_weightOf 60 = .ok (.goto (-55), 3) := by decide +kernel
theorem dX6_weightOf_63 : decode cX6_weightOf 63 = .ok (.lload_n 2, 1) := by decide +kernel
theorem dX6_weightOf_64 : decode cX6_weightOf 64 = .ok (.lreturn, 1) := by decide +kernel
theorem dX6_whichFit_0 : decode cX6_whichFit 0 = .ok (.iconst 0, 1) := by decide +kernel
theorem dX6_whichFit_1 : decode cX6_whichFit 1 = .ok (.istore 6, 2) := by decide +kernel
theorem dX6_whichFit_3 : decode cX6_whichFit 3 = .ok (.iload 4, 2) := by decide +kernel
theorem dX6_whichFit_5 : decode cX6_whichFit 5 = .ok (.istore 7, 2) := by decide +kernel
theorem dX6_whichFit_7 : decode cX6_whichFit 7 = .ok (.iload 7, 2) := by decide +kernel
theorem dX6_whichFit_9 : decode cX6_whichFit 9 = .ok (.iload 5, 2) := by decide +kernel
theorem dX6_whichFit_11 : decode cX6_whichFit 11 = .ok (.if_icmp .gt 71, 3) := by decide +kernel
theorem dX6_whichFit_14 : decode cX6_whichFit 14 = .ok (.aload_n 2, 1) := by decide +kernel
theorem dX6_whichFit_15 : decode cX6_whichFit 15 = .ok (.iload_n 3, 1) := by decide +kernel
theorem dX6_whichFit_16 : decode cX6_whichFit 16 = .ok (.iload 7, 2) := by decide +kernel
theorem dX6_whichFit_18 : decode cX6_whichFit 18 = .ok (.iastore, 1) := by decide +kernel
theorem dX6_whichFit_19 : decode cX6_whichFit 19 = .ok (.aload_n 0, 1) := by decide +kernel
theorem dX6_whichFit_20 : decode cX6_whichFit 20 = .ok (.getfield 43, 3) := by decide +kernel
theorem dX6_whichFit_23 : decode cX6_whichFit 23 = .ok (.getfield 184, 3) := by decide +kernel
theorem dX6_whichFit_26 : decode cX6_whichFit 26 = .ok (.iload_n 3, 1) := by decide +kernel
theorem dX6_whichFit_27 : decode cX6_whichFit 27 = .ok (.aload_n 0, 1) := by decide +kernel
theorem dX6_whichFit_28 : decode cX6_whichFit 28 = .ok (.getfield 10, 3) := by decide +kernel
theorem dX6_whichFit_31 : decode cX6_whichFit 31 = .ok (.getfield 102, 3) := by decide +kernel
theorem dX6_whichFit_34 : decode cX6_whichFit 34 = .ok (.invokevirtual 123, 3) := by decide +kernel
theorem dX6_whichFit_37 : decode cX6_whichFit 37 = .ok (.ifCond .eq 39, 3) := by decide +kernel
theorem dX6_whichFit_40 : decode cX6_whichFit 40 = .ok (.aload_n 0, 1) := by decide +kernel
theorem dX6_whichFit_41 : decode cX6_whichFit 41 = .ok (.getfield 43, 3) := by decide +kernel
theorem dX6_whichFit_44 : decode cX6_whichFit 44 = .ok (.iconst 1, 1) := by decide +kernel
theorem dX6_whichFit_45 : decode cX6_whichFit 45 = .ok (.aload_n 0, 1) := by decide +kernel
theorem dX6_whichFit_46 : decode cX6_whichFit 46 = .ok (.getfield 10, 3) := by decide +kernel
theorem dX6_whichFit_49 : decode cX6_whichFit 49 = .ok (.getfield 102, 3) := by decide +kernel
theorem dX6_whichFit_52 : decode cX6_whichFit 52 = .ok (.ishl, 1) := by decide +kernel
theorem dX6_whichFit_53 : decode cX6_whichFit 53 = .ok (.iconst 1, 1) := by decide +kernel
theorem dX6_whichFit_54 : decode cX6_whichFit 54 = .ok (.isub, 1) := by decide +kernel
theorem dX6_whichFit_55 : decode cX6_whichFit 55 = .ok (.invokevirtual 206, 3) := by decide +kernel
theorem dX6_whichFit_58 : decode cX6_whichFit 58 = .ok (.aload_n 0, 1) := by decide +kernel
theorem dX6_whichFit_59 : decode cX6_whichFit 59 = .ok (.aload_n 1, 1) := by decide +kernel
theorem dX6_whichFit_60 : decode cX6_whichFit 60 = .ok (.invokevirtual 224, 3) := by decide +kernel
theorem dX6_whichFit_63 : decode cX6_whichFit 63 = .ok (.iconst (-1), 1) := by decide +kernel
theorem dX6_whichFit_64 : decode cX6_whichFit 64 = .ok (.if_icmp .ne 12, 3) := by decide +kernel
theorem dX6_whichFit_67 : decode cX6_whichFit 67 = .ok (.iload 6, 2) := by decide +kernel
theorem dX6_whichFit_69 : decode cX6_whichFit 69 = .ok (.iconst 1, 1) := by decide +kernel
theorem dX6_whichFit_70 : decode cX6_whichFit 70 = .ok (.iload 7, 2) := by decide +kernel
theorem dX6_whichFit_72 : decode cX6_whichFit 72 = .ok (.ishl, 1) := by decide +kernel
theorem dX6_whichFit_73 : decode cX6_whichFit 73 = .ok (.ior, 1) := by decide +kernel
theorem dX6_whichFit_74 : decode cX6_whichFit 74 = .ok (.istore 6, 2) := by decide +kernel
theorem dX6_whichFit_76 : decode cX6_whichFit 76 = .ok (.iinc 7 1, 3) := by decide +kernel
theorem dX6_whichFit_79 : decode cX6_whichFit 79 = .ok (.goto (-72), 3) := by decide +kernel
theorem dX6_whichFit_82 : decode cX6_whichFit 82 = .ok (.iload 6, 2) := by decide +kernel
theorem dX6_whichFit_84 : decode cX6_whichFit 84 = .ok (.ireturn, 1) := by decide +kernel
theorem dX6_whoShouldWalk_0 : decode cX6_whoShouldWalk 0 = .ok (.iconst (-1), 1) := by decide +kernel
theorem dX6_whoShouldWalk_1 : decode cX6_whoShouldWalk 1 = .ok (.istore_n 1, 1) := by decide +kernel
theorem dX6_whoShouldWalk_2 : decode cX6_whoShouldWalk 2 = .ok (.iconst 0, 1) := by decide +kernel
theorem dX6_whoShouldWalk_3 : decode cX6_whoShouldWalk 3 = .ok (.istore_n 2, 1) := by decide +kernel
theorem dX6_whoShouldWalk_4 : decode cX6_whoShouldWalk 4 = .ok (.iconst 1, 1) := by decide +kernel
theorem dX6_whoShouldWalk_5 : decode cX6_whoShouldWalk 5 = .ok (.aload_n 0, 1) := by decide +kernel
theorem dX6_whoShouldWalk_6 : decode cX6_whoShouldWalk 6 = .ok (.getfield 10, 3) := by decide +kernel
theorem dX6_whoShouldWalk_9 : decode cX6_whoShouldWalk 9 = .ok (.getfield 102, 3) := by decide +kernel
theorem dX6_whoShouldWalk_12 : decode cX6_whoShouldWalk 12 = .ok (.ishl, 1) := by decide +kernel
theorem dX6_whoShouldWalk_13 : decode cX6_whoShouldWalk 13 = .ok (.iconst 1, 1) := by decide +kernel
theorem dX6_whoShouldWalk_14 : decode cX6_whoShouldWalk 14 = .ok (.isub, 1) := by decide +kernel
theorem dX6_whoShouldWalk_15 : decode cX6_whoShouldWalk 15 = .ok (.istore_n 3, 1) := by decide +kernel
theorem dX6_whoShouldWalk_16 : decode cX6_whoShouldWalk 16 = .ok (.iconst 0, 1) := by decide +kernel
theorem dX6_whoShouldWalk_17 : decode cX6_whoShouldWalk 17 = .ok (.istore 4, 2) := by decide +kernel
theorem dX6_whoShouldWalk_19 : decode cX6_whoShouldWalk 19 = .ok (.iload 4, 2) := by decide +kernel
theorem dX6_whoShouldWalk_21 : decode cX6_whoShouldWalk 21 = .ok (.aload_n 0, 1) := by decide +kernel
theorem dX6_whoShouldWalk_22 : decode cX6_whoShouldWalk 22 = .ok (.getfield 10, 3) := by decide +kernel
theorem dX6_whoShouldWalk_25 : decode cX6_whoShouldWalk 25 = .ok (.getfield 102, 3) := by decide +kernel
theorem dX6_whoShouldWalk_28 : decode cX6_whoShouldWalk 28 = .ok (.if_icmp .ge 50, 3) := by decide +kernel
theorem dX6_whoShouldWalk_31 : decode cX6_whoShouldWalk 31 = .ok (.aload_n 0, 1) := by decide +kernel
theorem dX6_whoShouldWalk_32 : decode cX6_whoShouldWalk 32 = .ok (.getfield 43, 3) := by decide +kernel
theorem dX6_whoShouldWalk_35 : decode cX6_whoShouldWalk 35 = .ok (.iload_n 3, 1) := by decide +kernel
theorem dX6_whoShouldWalk_36 : decode cX6_whoShouldWalk 36 = .ok (.iconst 1, 1) := by decide +kernel
theorem dX6_whoShouldWalk_37 : decode cX6_whoShouldWalk 37 = .ok (.iload 4, 2) := by decide +kernel
theorem dX6_whoShouldWalk_39 : decode cX6_whoShouldWalk 39 = .ok (.ishl, 1) := by decide +kernel
theorem dX6_whoShouldWalk_40 : decode cX6_whoShouldWalk 40 = .ok (.iconst (-1), 1) := by decide +kernel
theorem dX6_whoShouldWalk_41 : decode cX6_whoShouldWalk 41 = .ok (.ixor, 1) := by decide +kernel
theorem dX6_whoShouldWalk_42 : decode cX6_whoShouldWalk 42 = .ok (.iand, 1) := by decide +kernel
theorem dX6_whoShouldWalk_43 : decode cX6_whoShouldWalk 43 = .ok (.invokevirtual 206, 3) := by decide +kernel
theorem dX6_whoShouldWalk_46 : decode cX6_whoShouldWalk 46 = .ok (.aload_n 0, 1) := by decide +kernel
theorem dX6_whoShouldWalk_47 : decode cX6_whoShouldWalk 47 = .ok (.getfield 43, 3) := by decide +kernel
theorem dX6_whoShouldWalk_50 : decode cX6_whoShouldWalk 50 = .ok (.invokevirtual 156, 3) := by decide +kernel
theorem dX6_whoShouldWalk_53 : decode cX6_whoShouldWalk 53 = .ok (.istore 5, 2) := by decide +kernel
theorem dX6_whoShouldWalk_55 : decode cX6_whoShouldWalk 55 = .ok (.iload_n 1, 1) := by decide +kernel
theorem dX6_whoShouldWalk_56 : decode cX6_whoShouldWalk 56 = .ok (.iconst (-1), 1) := by decide +kernel
theorem dX6_whoShouldWalk_57 : decode cX6_whoShouldWalk 57 = .ok (.if_icmp .eq 9, 3) := by decide +kernel
theorem dX6_whoShouldWalk_60 : decode cX6_whoShouldWalk 60 = .ok (.iload 5, 2) := by decide +kernel
theorem dX6_whoShouldWalk_62 : decode cX6_whoShouldWalk 62 = .ok (.iload_n 2, 1) := by decide +kernel
theorem dX6_whoShouldWalk_63 : decode cX6_whoShouldWalk 63 = .ok (.if_icmp .ge 9, 3) := by decide +kernel
theorem dX6_whoShouldWalk_66 : decode cX6_whoShouldWalk 66 = .ok (.iload 4, 2) := by decide +kernel
theorem dX6_whoShouldWalk_68 : decode cX6_whoShouldWalk 68 = .ok (.istore_n 1, 1) := by decide +kernel
theorem dX6_whoShouldWalk_69 : decode cX6_whoShouldWalk 69 = .ok (.iload 5, 2) := by decide +kernel
theorem dX6_whoShouldWalk_71 : decode cX6_whoShouldWalk 71 = .ok (.istore_n 2, 1) := by decide +kernel
theorem dX6_whoShouldWalk_72 : decode cX6_whoShouldWalk 72 = .ok (.iinc 4 1, 3) := by decide +kernel
theorem dX6_whoShouldWalk_75 : decode cX6_whoShouldWalk 75 = .ok (.goto (-56), 3) := by decide +kernel
theorem dX6_whoShouldWalk_78 : decode cX6_whoShouldWalk 78 = .ok (.iload_n 1, 1) := by decide +kernel
theorem dX6_whoShouldWalk_79 : decode cX6_whoShouldWalk 79 = .ok (.ireturn, 1) := by decide +kernel
theorem dX7_added_0 : decode cX7_added 0 = .ok (.aload_n 0, 1) := by decide +kernel
theorem dX7_added_1 : decode cX7_added 1 = .ok (.invokevirtual 224, 3) := by decide +kernel
theorem dX7_added_4 : decode cX7_added 4 = .ok (.istore_n 1, 1) := by decide +kernel
theorem dX7_added_5 : decode cX7_added 5 = .ok (.aload_n 0, 1) := by decide +kernel
theorem dX7_added_6 : decode cX7_added 6 = .ok (.bipush 43, 2) := by decide +kernel
theorem dX7_added_8 : decode cX7_added 8 = .ok (.invokevirtual 207, 3) := by decide +kernel
theorem dX7_added_11 : decode cX7_added 11 = .ok (.ifCond .ne 12, 3) := by decide +kernel
theorem dX7_added_14 : decode cX7_added 14 = .ok (.aload_n 0, 1) := by decide +kernel
theorem dX7_added_15 : decode cX7_added 15 = .ok (.bipush 45, 2) := by decide +kernel
theorem dX7_added_17 : decode cX7_added 17 = .ok (.invokevirtual 207, 3) := by decide +kernel
theorem dX7_added_20 : decode cX7_added 20 = .ok (.ifCond .eq 46, 3) := by decide +kernel
theorem dX7_added_23 : decode cX7_added 23 = .ok (.aload_n 0, 1) := by decide +kernel
theorem dX7_added_24 : decode cX7_added 24 = .ok (.getfield 160, 3) := by decide +kernel
theorem dX7_added_27 : decode cX7_added 27 = .ok (.ldc2_w 227, 3) := by decide +kernel
theorem dX7_added_30 : decode cX7_added 30 = .ok (.lcmp, 1) := by decide +kernel
theorem dX7_added_31 : decode cX7_added 31 = .ok (.ifCond .ne 7, 3) := by decide +kernel
theorem dX7_added_34 : decode cX7_added 34 = .ok (.iconst 1, 1) := by decide +kernel
theorem dX7_added_35 : decode cX7_added 35 = .ok (.goto 4, 3) := by decide +kernel
theorem dX7_added_38 : decode cX7_added 38 = .ok (.iconst 0, 1) := by decide +kernel
theorem dX7_added_39 : decode cX7_added 39 = .ok (.istore_n 2, 1) := by decide +kernel
theorem dX7_added_40 : decode cX7_added 40 = .ok (.aload_n 0, 1) := by decide +kernel
theorem dX7_added_41 : decode cX7_added 41 = .ok (.invokevirtual 182, 3) := by decide +kernel
theorem dX7_added_44 : decode cX7_added 44 = .ok (.aload_n 0, 1) := by decide +kernel
theorem dX7_added_45 : decode cX7_added 45 = .ok (.invokevirtual 224, 3) := by decide +kernel
theorem dX7_added_48 : decode cX7_added 48 = .ok (.istore_n 3, 1) := by decide +kernel
theorem dX7_added_49 : decode cX7_added 49 = .ok (.iload_n 2, 1) := by decide +kernel
theorem dX7_added_50 : decode cX7_added 50 = .ok (.ifCond .eq 9, 3) := by decide +kernel
theorem dX7_added_53 : decode cX7_added 53 = .ok (.iload_n 1, 1) := by decide +kernel
theorem dX7_added_54 : decode cX7_added 54 = .ok (.iload_n 3, 1) := by decide +kernel
theorem dX7_added_55 : decode cX7_added 55 = .ok (.iadd, 1) := by decide +kernel
theorem dX7_added_56 : decode cX7_added 56 = .ok (.goto 6, 3) := by decide +kernel
theorem dX7_added_59 : decode cX7_added 59 = .ok (.iload_n 1, 1) := by decide +kernel
theorem dX7_added_60 : decode cX7_added 60 = .ok (.iload_n 3, 1) := by decide +kernel
theorem dX7_added_61 : decode cX7_added 61 = .ok (.isub, 1) := by decide +kernel
theorem dX7_added_62 : decode cX7_added 62 = .ok (.istore_n 1, 1) := by decide +kernel
theorem dX7_added_63 : decode cX7_added 63 = .ok (.goto (-58), 3) := by decide +kernel
theorem dX7_added_66 : decode cX7_added 66 = .ok (.iload_n 1, 1) := by decide +kernel
theorem dX7_added_67 : decode cX7_added 67 = .ok (.ireturn, 1) := by decide +kernel
theorem dX7_allRiders_0 : decode cX7_allRiders 0 = .ok (.iconst 1, 1) := by decide +kernel
theorem dX7_allRiders_1 : decode cX7_allRiders 1 = .ok (.aload_n 0, 1) := by decide +kernel
theorem dX7_allRiders_2 : decode cX7_allRiders 2 = .ok (.getfield 88, 3) := by decide +kernel
theorem dX7_allRiders_5 : decode cX7_allRiders 5 = .ok (.ishl, 1) := by decide +kernel
theorem dX7_allRiders_6 : decode cX7_allRiders 6 = .ok (.iconst 1, 1) := by decide +kernel
theorem dX7_allRiders_7 : decode cX7_allRiders 7 = .ok (.isub, 1) := by decide +kernel
theorem dX7_allRiders_8 : decode cX7_allRiders 8 = .ok (.ireturn, 1) := by decide +kernel
theorem dX7_areTwo_0 : decode cX7_areTwo 0 = .ok (.iconst 0, 1) := by decide +kernel
theorem dX7_areTwo_1 : decode cX7_areTwo 1 = .ok (.istore_n 2, 1) := by decide +kernel
theorem dX7_areTwo_2 : decode cX7_areTwo 2 = .ok (.iload_n 2, 1) := by decide +kernel
theorem dX7_areTwo_3 : decode cX7_areTwo 3 = .ok (.iload_n 1, 1) := by decide +kernel
theorem dX7_areTwo_4 : decode cX7_areTwo 4 = .ok (.if_icmp .ge 69, 3) := by decide +kernel
theorem dX7_areTwo_7 : decode cX7_areTwo 7 = .ok (.iconst 0, 1) := by decide +kernel
theorem dX7_areTwo_8 : decode cX7_areTwo 8 = .ok (.istore_n 3, 1) := by decide +kernel
theorem dX7_areTwo_9 : decode cX7_areTwo 9 = .ok (.iload_n 3, 1) := by decide +kernel
theorem dX7_areTwo_10 : decode cX7_areTwo 10 = .ok (.iload_n 2, 1) := by decide +kernel
theorem dX7_areTwo_11 : decode cX7_areTwo 11 = .ok (.if_icmp .ge 56, 3) := by decide +kernel
theorem dX7_areTwo_14 : decode cX7_areTwo 14 = .ok (.aload_n 0, 1) := by decide +kernel
theorem dX7_areTwo_15 : decode cX7_areTwo 15 = .ok (.getfield 41, 3) := by decide +kernel
theorem dX7_areTwo_18 : decode cX7_areTwo 18 = .ok (.iload_n 2, 1) := by decide +kernel
theorem dX7_areTwo_19 : decode cX7_areTwo 19 = .ok (.iaload, 1) := by decide +kernel
theorem dX7_areTwo_20 : decode cX7_areTwo 20 = .ok (.aload_n 0, 1) := by decide +kernel
theorem dX7_areTwo_21 : decode cX7_areTwo 21 = .ok (.getfield 41, 3) := by decide +kernel
theorem dX7_areTwo_24 : decode cX7_areTwo 24 = .ok (.iload_n 3, 1) := by decide +kernel
theorem dX7_areTwo_25 : decode cX7_areTwo 25 = .ok (.iaload, 1) := by decide +kernel
theorem dX7_areTwo_26 : decode cX7_areTwo 26 = .ok (.if_icmp .ne 35, 3) := by decide +kernel
theorem dX7_areTwo_29 : decode cX7_areTwo 29 = .ok (.aload_n 0, 1) := by decide +kernel
theorem dX7_areTwo_30 : decode cX7_areTwo 30 = .ok (.getfield 35, 3) := by decide +kernel
theorem dX7_areTwo_33 : decode cX7_areTwo 33 = .ok (.iload_n 2, 1) := by decide +kernel
theorem dX7_areTwo_34 : decode cX7_areTwo 34 = .ok (.iaload, 1) := by decide +kernel
theorem dX7_areTwo_35 : decode cX7_areTwo 35 = .ok (.aload_n 0, 1) := by decide +kernel
theorem dX7_areTwo_36 : decode cX7_areTwo 36 = .ok (.getfield 38, 3) := by decide +kernel
theorem dX7_areTwo_39 : decode cX7_areTwo 39 = .ok (.iload_n 3, 1) := by decide +kernel
theorem dX7_areTwo_40 : decode cX7_areTwo 40 = .ok (.iaload, 1) := by decide +kernel
theorem dX7_areTwo_41 : decode cX7_areTwo 41 = .ok (.if_icmp .ge 20, 3) := by decide +kernel
theorem dX7_areTwo_44 : decode cX7_areTwo 44 = .ok (.aload_n 0, 1) := by decide +kernel
theorem dX7_areTwo_45 : decode cX7_areTwo 45 = .ok (.getfield 35, 3) := by decide +kernel
theorem dX7_areTwo_48 : decode cX7_areTwo 48 = .ok (.iload_n 3, 1) := by decide +kernel
theorem dX7_areTwo_49 : decode cX7_areTwo 49 = .ok (.iaload, 1) := by decide +kernel
theorem dX7_areTwo_50 : decode cX7_areTwo 50 = .ok (.aload_n 0, 1) := by decide +kernel
theorem dX7_areTwo_51 : decode cX7_areTwo 51 = .ok (.getfield 38, 3) := by decide +kernel
theorem dX7_areTwo_54 : decode cX7_areTwo 54 = .ok (.iload_n 2, 1) := by decide +kernel
theorem dX7_areTwo_55 : decode cX7_areTwo 55 = .ok (.iaload, 1) := by decide +kernel
theorem dX7_areTwo_56 : decode cX7_areTwo 56 = .ok (.if_icmp .ge 5, 3) := by decide +kernel
theorem dX7_areTwo_59 : decode cX7_areTwo 59 = .ok (.iconst 1, 1) := by decide +kernel
theorem dX7_areTwo_60 : decode cX7_areTwo 60 = .ok (.ireturn, 1) := by decide +kernel
theorem dX7_areTwo_61 : decode cX7_areTwo 61 = .ok (.iinc 3 1, 3) := by decide +kernel
theorem dX7_areTwo_64 : decode cX7_areTwo 64 = .ok (.goto (-55), 3) := by decide +kernel
theorem dX7_areTwo_67 : decode cX7_areTwo 67 = .ok (.iinc 2 1, 3) := by decide +kernel
theorem dX7_areTwo_70 : decode cX7_areTwo 70 = .ok (.goto (-68), 3) := by decide +kernel
theorem dX7_areTwo_73 : decode cX7_areTwo 73 = .ok (.iconst 0, 1) := by decide +kernel
theorem dX7_areTwo_74 : decode cX7_areTwo 74 = .ok (.ireturn, 1) := by decide +kernel
theorem dX7_atom_0 : decode cX7_atom 0 = .ok (.iconst 0, 1) := by decide +kernel
theorem dX7_atom_1 : decode cX7_atom 1 = .ok (.istore_n 1, 1) := by decide +kernel
theorem dX7_atom_2 : decode cX7_atom 2 = .ok (.aload_n 0, 1) := by decide +kernel
theorem dX7_atom_3 : decode cX7_atom 3 = .ok (.bipush 45, 2) := by decide +kernel
theorem dX7_atom_5 : decode cX7_atom 5 = .ok (.invokevirtual 207, 3) := by decide +kernel
theorem dX7_atom_8 : decode cX7_atom 8 = .ok (.ifCond .eq 29, 3) := by decide +kernel
theorem dX7_atom_11 : decode cX7_atom 11 = .ok (.aload_n 0, 1) := by decide +kernel
theorem dX7_atom_12 : decode cX7_atom 12 = .ok (.invokevirtual 210, 3) := by decide +kernel
theorem dX7_atom_15 : decode cX7_atom 15 = .ok (.ifCond .eq 146, 3) := by decide +kernel
theorem dX7_atom_18 : decode cX7_atom 18 = .ok (.aload_n 0, 1) := by decide +kernel
theorem dX7_atom_19 : decode cX7_atom 19 = .ok (.invokevirtual 214, 3) := by decide +kernel
theorem dX7_atom_22 : decode cX7_atom 22 = .ok (.ineg, 1) := by decide +kernel
theorem dX7_atom_23 : decode cX7_atom 23 = .ok (.istore_n 1, 1) := by decide +kernel
theorem dX7_atom_24 : decode cX7_atom 24 = .ok (.aload_n 0, 1) := by decide +kernel
theorem dX7_atom_25 : decode cX7_atom 25 = .ok (.dup, 1) := by decide +kernel
theorem dX7_atom_26 : decode cX7_atom 26 = .ok (.getfield 176, 3) := by decide +kernel
theorem dX7_atom_29 : decode cX7_atom 29 = .ok (.iconst 1, 1) := by decide +kernel
theorem dX7_atom_30 : decode cX7_atom 30 = .ok (.isub, 1) := by decide +kernel
theorem dX7_atom_31 : decode cX7_atom 31 = .ok (.putfield 176, 3) := by decide +kernel
theorem dX7_atom_34 : decode cX7_atom 34 = .ok (.goto 127, 3) := by decide +kernel
theorem dX7_atom_37 : decode cX7_atom 37 = .ok (.aload_n 0, 1) := by decide +kernel
theorem dX7_atom_38 : decode cX7_atom 38 = .ok (.bipush 40, 2) := by decide +kernel
theorem dX7_atom_40 : decode cX7_atom 40 = .ok (.invokevirtual 207, 3) := by decide +kernel
theorem dX7_atom_43 : decode cX7_atom 43 = .ok (.ifCond .eq 52, 3) := by decide +kernel
theorem dX7_atom_46 : decode cX7_atom 46 = .ok (.aload_n 0, 1) := by decide +kernel
theorem dX7_atom_47 : decode cX7_atom 47 = .ok (.invokevirtual 210, 3) := by decide +kernel
theorem dX7_atom_50 : decode cX7_atom 50 = .ok (.ifCond .eq 111, 3) := by decide +kernel
theorem dX7_atom_53 : decode cX7_atom 53 = .ok (.aload_n 0, 1) := by decide +kernel
theorem dX7_atom_54 : decode cX7_atom 54 = .ok (.invokevirtual 218, 3) := by decide +kernel
theorem dX7_atom_57 : decode cX7_atom 57 = .ok (.istore_n 1, 1) := by decide +kernel
theorem dX7_atom_58 : decode cX7_atom 58 = .ok (.aload_n 0, 1) := by decide +kernel
theorem dX7_atom_59 : decode cX7_atom 59 = .ok (.bipush 41, 2) := by decide +kernel
theorem dX7_atom_61 : decode cX7_atom 61 = .ok (.invokevirtual 207, 3) := by decide +kernel
theorem dX7_atom_64 : decode cX7_atom 64 = .ok (.ifCond .ne 7, 3) := by decide +kernel
theorem dX7_atom_67 : decode cX7_atom 67 = .ok (.aload_n 0, 1) := by decide +kernel
theorem dX7_atom_68 : decode cX7_atom 68 = .ok (.invokevirtual 179, 3) := by decide +kernel
theorem dX7_atom_71 : decode cX7_atom 71 = .ok (.aload_n 0, 1) := by decide +kernel
theorem dX7_atom_72 : decode cX7_atom 72 = .ok (.dup, 1) := by decide +kernel
theorem dX7_atom_73 : decode cX7_atom 73 = .ok (.getfield 176, 3) := by decide +kernel
theorem dX7_atom_76 : decode cX7_atom 76 = .ok (.iconst 1, 1) := by decide +kernel
theorem dX7_atom_77 : decode cX7_atom 77 = .ok (.isub, 1) := by decide +kernel
theorem dX7_atom_78 : decode cX7_atom 78 = .ok (.putfield 176, 3) := by decide +kernel
theorem dX7_atom_81 : decode cX7_atom 81 = .ok (.aload_n 0, 1) := by decide +kernel
theorem dX7_atom_82 : decode cX7_atom 82 = .ok (.getfield 166, 3) := by decide +kernel
theorem dX7_atom_85 : decode cX7_atom 85 = .ok (.ifCond .ne 76, 3) := by decide +kernel
theorem dX7_atom_88 : decode cX7_atom 88 = .ok (.aload_n 0, 1) := by decide +kernel
theorem dX7_atom_89 : decode cX7_atom 89 = .ok (.invokevirtual 182, 3) := by decide +kernel
theorem dX7_atom_92 : decode cX7_atom 92 = .ok (.goto 69, 3) := by decide +kernel
theorem dX7_atom_95 : decode cX7_atom 95 = .ok (.aload_n 0, 1) := by decide +kernel
theorem dX7_atom_96 : decode cX7_atom 96 = .ok (.getfield 166, 3) := by decide +kernel
theorem dX7_atom_99 : decode cX7_atom 99 = .ok (.ifCond .ne 24, 3) := by decide +kernel
theorem dX7_atom_102 : decode cX7_atom 102 = .ok (.aload_n 0, 1) := by decide +kernel
theorem dX7_atom_103 : decode cX7_atom 103 = .ok (.getfield 149, 3) := by decide +kernel
theorem dX7_atom_106 : decode cX7_atom 106 = .ok (.iconst 2, 1) := by decide +kernel
theorem dX7_atom_107 : decode cX7_atom 107 = .ok (.if_icmp .ne 16, 3) := by decide +kernel
theorem dX7_atom_110 : decode cX7_atom 110 = .ok (.aload_n 0, 1) := by decide +kernel
theorem dX7_atom_111 : decode cX7_atom 111 = .ok (.getfield 160, 3) := by decide +kernel
theorem dX7_atom_114 : decode cX7_atom 114 = .ok (.l2i, 1) := by decide +kernel
theorem dX7_atom_115 : decode cX7_atom 115 = .ok (.istore_n 1, 1) := by decide +kernel
theorem dX7_atom_116 : decode cX7_atom 116 = .ok (.aload_n 0, 1) := by decide +kernel
theorem dX7_atom_117 : decode cX7_atom 117 = .ok (.invokevirtual 182, 3) := by decide +kernel
theorem dX7_atom_120 : decode cX7_atom 120 = .ok (.goto 41, 3) := by decide +kernel
theorem dX7_atom_123 : decode cX7_atom 123 = .ok (.aload_n 0, 1) := by decide +kernel
theorem dX7_atom_124 : decode cX7_atom 124 = .ok (.getfield 166, 3) := by decide +kernel
theorem dX7_atom_127 : decode cX7_atom 127 = .ok (.ifCond .ne 30, 3) := by decide +kernel
theorem dX7_atom_130 : decode cX7_atom 130 = .ok (.aload_n 0, 1) := by decide +kernel
theorem dX7_atom_131 : decode cX7_atom 131 = .ok (.getfield 149, 3) := by decide +kernel
theorem dX7_atom_134 : decode cX7_atom 134 = .ok (.iconst 1, 1) := by decide +kernel
theorem dX7_atom_135 : decode cX7_atom 135 = .ok (.if_icmp .ne 22, 3) := by decide +kernel
theorem dX7_atom_138 : decode cX7_atom 138 = .ok (.aload_n 0, 1) := by decide +kernel
theorem dX7_atom_139 : decode cX7_atom 139 = .ok (.invokevirtual 221, 3) := by decide +kernel
theorem dX7_atom_142 : decode cX7_atom 142 = .ok (.istore_n 1, 1) := by decide +kernel
theorem dX7_atom_143 : decode cX7_atom 143 = .ok (.aload_n 0, 1) := by decide +kernel
theorem dX7_atom_144 : decode cX7_atom 144 = .ok (.getfield 166, 3) := by decide +kernel
theorem dX7_atom_147 : decode cX7_atom 147 = .ok (.ifCond .ne 14, 3) := by decide +kernel
theorem dX7_atom_150 : decode cX7_atom 150 = .ok (.aload_n 0, 1) := by decide +kernel
theorem dX7_atom_151 : decode cX7_atom 151 = .ok (.invokevirtual 182, 3) := by decide +kernel
theorem dX7_atom_154 : decode cX7_atom 154 = .ok (.goto 7, 3) := by decide +kernel
theorem dX7_atom_157 : decode cX7_atom 157 = .ok (.aload_n 0, 1) := by decide +kernel
theorem dX7_atom_158 : decode cX7_atom 158 = .ok (.invokevirtual 179, 3) := by decide +kernel
theorem dX7_atom_161 : decode cX7_atom 161 = .ok (.iload_n 1, 1) := by decide +kernel
theorem dX7_atom_162 : decode cX7_atom 162 = .ok (.ireturn, 1) := by decide +kernel
theorem dX7_back_0 : decode cX7_back 0 = .ok (.aload_n 0, 1) := by decide +kernel
theorem dX7_back_1 : decode cX7_back 1 = .ok (.getfield 65, 3) := by decide +kernel
theorem dX7_back_4 : decode cX7_back 4 = .ok (.iconst (-1), 1) := by decide +kernel
theorem dX7_back_5 : decode cX7_back 5 = .ok (.if_icmp .ne 6, 3) := by decide +kernel
theorem dX7_back_8 : decode cX7_back 8 = .ok (.bipush (-3), 2) := by decide +kernel
theorem dX7_back_10 : decode cX7_back 10 = .ok (.ireturn, 1) := by decide +kernel
theorem dX7_back_11 : decode cX7_back 11 = .ok (.iconst 0, 1) := by decide +kernel
theorem dX7_back_12 : decode cX7_back 12 = .ok (.istore_n 1, 1) := by decide +kernel
theorem dX7_back_13 : decode cX7_back 13 = .ok (.iload_n 1, 1) := by decide +kernel
theorem dX7_back_14 : decode cX7_back 14 = .ok (.iconst 5, 1) := by decide +kernel
theorem dX7_back_15 : decode cX7_back 15 = .ok (.if_icmp .ge 80, 3) := by decide +kernel
theorem dX7_back_18 : decode cX7_back 18 = .ok (.aload_n 0, 1) := by decide +kernel
theorem dX7_back_19 : decode cX7_back 19 = .ok (.getfield 29, 3) := by decide +kernel
theorem dX7_back_22 : decode cX7_back 22 = .ok (.iload_n 1, 1) := by decide +kernel
theorem dX7_back_23 : decode cX7_back 23 = .ok (.aload_n 0, 1) := by decide +kernel
theorem dX7_back_24 : decode cX7_back 24 = .ok (.getfield 62, 3) := by decide +kernel
theorem dX7_back_27 : decode cX7_back 27 = .ok (.iload_n 1, 1) := by decide +kernel
theorem dX7_back_28 : decode cX7_back 28 = .ok (.iaload, 1) := by decide +kernel
theorem dX7_back_29 : decode cX7_back 29 = .ok (.iastore, 1) := by decide +kernel
theorem dX7_back_30 : decode cX7_back 30 = .ok (.aload_n 0, 1) := by decide +kernel
theorem dX7_back_31 : decode cX7_back 31 = .ok (.getfield 32, 3) := by decide +kernel
theorem dX7_back_34 : decode cX7_back 34 = .ok (.iload_n 1, 1) := by decide +kernel
theorem dX7_back_35 : decode cX7_back 35 = .ok (.aload_n 0, 1) := by decide +kernel
theorem dX7_back_36 : decode cX7_back 36 = .ok (.getfield 62, 3) := by decide +kernel
theorem dX7_back_39 : decode cX7_back 39 = .ok (.iconst 5, 1) := by decide +kernel
theorem dX7_back_40 : decode cX7_back 40 = .ok (.iload_n 1, 1) := by decide +kernel
theorem dX7_back_41 : decode cX7_back 41 = .ok (.iadd, 1) := by decide +kernel
theorem dX7_back_42 : decode cX7_back 42 = .ok (.iaload, 1) := by decide +kernel
theorem dX7_back_43 : decode cX7_back 43 = .ok (.iastore, 1) := by decide +kernel
theorem dX7_back_44 : decode cX7_back 44 = .ok (.aload_n 0, 1) := by decide +kernel
theorem dX7_back_45 : decode cX7_back 45 = .ok (.getfield 38, 3) := by decide +kernel
theorem dX7_back_48 : decode cX7_back 48 = .ok (.iload_n 1, 1) := by decide +kernel
theorem dX7_back_49 : decode cX7_back 49 = .ok (.aload_n 0, 1) := by decide +kernel
theorem dX7_back_50 : decode cX7_back 50 = .ok (.getfield 62, 3) := by decide +kernel
theorem dX7_back_53 : decode cX7_back 53 = .ok (.bipush 10, 2) := by decide +kernel
theorem dX7_back_55 : decode cX7_back 55 = .ok (.iload_n 1, 1) := by decide +kernel
theorem dX7_back_56 : decode cX7_back 56 = .ok (.iadd, 1) := by decide +kernel
theorem dX7_back_57 : decode cX7_back 57 = .ok (.iaload, 1) := by decide +kernel
theorem dX7_back_58 : decode cX7_back 58 = .ok (.iastore, 1) := by decide +kernel
theorem dX7_back_59 : decode cX7_back 59 = .ok (.aload_n 0, 1) := by decide +kernel
theorem dX7_back_60 : decode cX7_back 60 = .ok (.getfield 41, 3) := by decide +kernel
theorem dX7_back_63 : decode cX7_back 63 = .ok (.iload_n 1, 1) := by decide +kernel
theorem dX7_back_64 : decode cX7_back 64 = .ok (.aload_n 0, 1) := by decide +kernel
theorem dX7_back_65 : decode cX7_back 65 = .ok (.getfield 62, 3) := by decide +kernel
theorem dX7_back_68 : decode cX7_back 68 = .ok (.bipush 15, 2) := by decide +kernel
theorem dX7_back_70 : decode cX7_back 70 = .ok (.iload_n 1, 1) := by decide +kernel
theorem dX7_back_71 : decode cX7_back 71 = .ok (.iadd, 1) := by decide +kernel
theorem dX7_back_72 : decode cX7_back 72 = .ok (.iaload, 1) := by decide +kernel
theorem dX7_back_73 : decode cX7_back 73 = .ok (.iastore, 1) := by decide +kernel
theorem dX7_back_74 : decode cX7_back 74 = .ok (.aload_n 0, 1) := by decide +kernel
theorem dX7_back_75 : decode cX7_back 75 = .ok (.getfield 44, 3) := by decide +kernel
theorem dX7_back_78 : decode cX7_back 78 = .ok (.iload_n 1, 1) := by decide +kernel
theorem dX7_back_79 : decode cX7_back 79 = .ok (.aload_n 0, 1) := by decide +kernel
theorem dX7_back_80 : decode cX7_back 80 = .ok (.getfield 62, 3) := by decide +kernel
theorem dX7_back_83 : decode cX7_back 83 = .ok (.bipush 20, 2) := by decide +kernel
theorem dX7_back_85 : decode cX7_back 85 = .ok (.iload_n 1, 1) := by decide +kernel
theorem dX7_back_86 : decode cX7_back 86 = .ok (.iadd, 1) := by decide +kernel
theorem dX7_back_87 : decode cX7_back 87 = .ok (.iaload, 1) := by decide +kernel
theorem dX7_back_88 : decode cX7_back 88 = .ok (.iastore, 1) := by decide +kernel
theorem dX7_back_89 : decode cX7_back 89 = .ok (.iinc 1 1, 3) := by decide +kernel
theorem dX7_back_92 : decode cX7_back 92 = .ok (.goto (-79), 3) := by decide +kernel
theorem dX7_back_95 : decode cX7_back 95 = .ok (.aload_n 0, 1) := by decide +kernel
theorem dX7_back_96 : decode cX7_back 96 = .ok (.aload_n 0, 1) := by decide +kernel
theorem dX7_back_97 : decode cX7_back 97 = .ok (.getfield 65, 3) := by decide +kernel
theorem dX7_back_100 : decode cX7_back 100 = .ok (.putfield 88, 3) := by decide +kernel
theorem dX7_back_103 : decode cX7_back 103 = .ok (.aload_n 0, 1) := by decide +kernel
theorem dX7_back_104 : decode cX7_back 104 = .ok (.aload_n 0, 1) := by decide +kernel
theorem dX7_back_105 : decode cX7_back 105 = .ok (.getfield 350, 3) := by decide +kernel
theorem dX7_back_108 : decode cX7_back 108 = .ok (.putfield 23, 3) := by decide +kernel
theorem dX7_back_111 : decode cX7_back 111 = .ok (.aload_n 0, 1) := by decide +kernel
theorem dX7_back_112 : decode cX7_back 112 = .ok (.aload_n 0, 1) := by decide +kernel
theorem dX7_back_113 : decode cX7_back 113 = .ok (.getfield 353, 3) := by decide +kernel
theorem dX7_back_116 : decode cX7_back 116 = .ok (.putfield 247, 3) := by decide +kernel
theorem dX7_back_119 : decode cX7_back 119 = .ok (.aload_n 0, 1) := by decide +kernel
theorem dX7_back_120 : decode cX7_back 120 = .ok (.getfield 88, 3) := by decide +kernel
theorem dX7_back_123 : decode cX7_back 123 = .ok (.ireturn, 1) := by decide +kernel
theorem dX7_barring_0 : decode cX7_barring 0 = .ok (.iconst 0, 1) := by decide +kernel
theorem dX7_barring_1 : decode cX7_barring 1 = .ok (.istore 4, 2) := by decide +kernel
theorem dX7_barring_3 : decode cX7_barring 3 = .ok (.iconst 0, 1) := by decide +kernel
theorem dX7_barring_4 : decode cX7_barring 4 = .ok (.istore 5, 2) := by decide +kernel
theorem dX7_barring_6 : decode cX7_barring 6 = .ok (.iload 5, 2) := by decide +kernel
theorem dX7_barring_8 : decode cX7_barring 8 = .ok (.aload_n 0, 1) := by decide +kernel
theorem dX7_barring_9 : decode cX7_barring 9 = .ok (.getfield 88, 3) := by decide +kernel
theorem dX7_barring_12 : decode cX7_barring 12 = .ok (.if_icmp .ge 97, 3) := by decide +kernel
theorem dX7_barring_15 : decode cX7_barring 15 = .ok (.iload_n 2, 1) := by decide +kernel
theorem dX7_barring_16 : decode cX7_barring 16 = .ok (.iload 5, 2) := by decide +kernel
theorem dX7_barring_18 : decode cX7_barring 18 = .ok (.ishr, 1) := by decide +kernel
theorem dX7_barring_19 : decode cX7_barring 19 = .ok (.iconst 1, 1) := by decide +kernel
theorem dX7_barring_20 : decode cX7_barring 20 = .ok (.iand, 1) := by decide +kernel
theorem dX7_barring_21 : decode cX7_barring 21 = .ok (.iconst 1, 1) := by decide +kernel
theorem dX7_barring_22 : decode cX7_barring 22 = .ok (.if_icmp .ne 60, 3) := by decide +kernel
theorem dX7_barring_25 : decode cX7_barring 25 = .ok (.aload_n 0, 1) := by decide +kernel
theorem dX7_barring_26 : decode cX7_barring 26 = .ok (.getfield 41, 3) := by decide +kernel
theorem dX7_barring_29 : decode cX7_barring 29 = .ok (.iload 5, 2) := by decide +kernel
theorem dX7_barring_31 : decode cX7_barring 31 = .ok (.iaload, 1) := by decide +kernel
theorem dX7_barring_32 : decode cX7_barring 32 = .ok (.iconst 2, 1) := by decide +kernel
theorem dX7_barring_33 : decode cX7_barring 33 = .ok (.irem, 1) := by decide +kernel
theorem dX7_barring_34 : decode cX7_barring 34 = .ok (.aload_n 0, 1) := by decide +kernel
theorem dX7_barring_35 : decode cX7_barring 35 = .ok (.getfield 41, 3) := by decide +kernel
theorem dX7_barring_38 : decode cX7_barring 38 = .ok (.iload_n 1, 1) := by decide +kernel
theorem dX7_barring_39 : decode cX7_barring 39 = .ok (.iaload, 1) := by decide +kernel
theorem dX7_barring_40 : decode cX7_barring 40 = .ok (.iconst 2, 1) := by decide +kernel
theorem dX7_barring_41 : decode cX7_barring 41 = .ok (.irem, 1) := by decide +kernel
theorem dX7_barring_42 : decode cX7_barring 42 = .ok (.if_icmp .ne 40, 3) := by decide +kernel
theorem dX7_barring_45 : decode cX7_barring 45 = .ok (.iload_n 3, 1) := by decide +kernel
theorem dX7_barring_46 : decode cX7_barring 46 = .ok (.aload_n 0, 1) := by decide +kernel
theorem dX7_barring_47 : decode cX7_barring 47 = .ok (.getfield 41, 3) := by decide +kernel
theorem dX7_barring_50 : decode cX7_barring 50 = .ok (.iload 5, 2) := by decide +kernel
theorem dX7_barring_52 : decode cX7_barring 52 = .ok (.iaload, 1) := by decide +kernel
theorem dX7_barring_53 : decode cX7_barring 53 = .ok (.iconst 2, 1) := by decide +kernel
theorem dX7_barring_54 : decode cX7_barring 54 = .ok (.idiv, 1) := by decide +kernel
theorem dX7_barring_55 : decode cX7_barring 55 = .ok (.aload_n 0, 1) := by decide +kernel
theorem dX7_barring_56 : decode cX7_barring 56 = .ok (.getfield 41, 3) := by decide +kernel
theorem dX7_barring_59 : decode cX7_barring 59 = .ok (.iload_n 1, 1) := by decide +kernel
theorem dX7_barring_60 : decode cX7_barring 60 = .ok (.iaload, 1) := by decide +kernel
theorem dX7_barring_61 : decode cX7_barring 61 = .ok (.iconst 2, 1) := by decide +kernel
theorem dX7_barring_62 : decode cX7_barring 62 = .ok (.idiv, 1) := by decide +kernel
theorem dX7_barring_63 : decode cX7_barring 63 = .ok (.isub, 1) := by decide +kernel
theorem dX7_barring_64 : decode cX7_barring 64 = .ok (.imul, 1) := by decide +kernel
theorem dX7_barring_65 : decode cX7_barring 65 = .ok (.ifCond .le 17, 3) := by decide +kernel
theorem dX7_barring_68 : decode cX7_barring 68 = .ok (.aload_n 0, 1) := by decide +kernel
theorem dX7_barring_69 : decode cX7_barring 69 = .ok (.iload 5, 2) := by decide +kernel
theorem dX7_barring_71 : decode cX7_barring 71 = .ok (.iload_n 1, 1) := by decide +kernel
theorem dX7_barring_72 : decode cX7_barring 72 = .ok (.invokevirtual 124, 3) := by decide +kernel
theorem dX7_barring_75 : decode cX7_barring 75 = .ok (.ifCond .ne 7, 3) := by decide +kernel
theorem dX7_barring_78 : decode cX7_barring 78 = .ok (.iconst 1, 1) := by decide +kernel
theorem dX7_barring_79 : decode cX7_barring 79 = .ok (.goto 4, 3) := by decide +kernel
theorem dX7_barring_82 : decode cX7_barring 82 = .ok (.iconst 0, 1) := by decide +kernel
theorem dX7_barring_83 : decode cX7_barring 83 = .ok (.istore 6, 2) := by decide +kernel
theorem dX7_barring_85 : decode cX7_barring 85 = .ok (.iload 4, 2) := by decide +kernel
theorem dX7_barring_87 : decode cX7_barring 87 = .ok (.iload 6, 2) := by decide +kernel
theorem dX7_barring_89 : decode cX7_barring 89 = .ok (.ifCond .eq 7, 3) := by decide +kernel
theorem dX7_barring_92 : decode cX7_barring 92 = .ok (.iconst 1, 1) := by decide +kernel
theorem dX7_barring_93 : decode cX7_barring 93 = .ok (.goto 4, 3) := by decide +kernel
theorem dX7_barring_96 : decode cX7_barring 96 = .ok (.iconst 0, 1) := by decide +kernel
theorem dX7_barring_97 : decode cX7_barring 97 = .ok (.iload 5, 2) := by decide +kernel
theorem dX7_barring_99 : decode cX7_barring 99 = .ok (.ishl, 1) := by decide +kernel
theorem dX7_barring_100 : decode cX7_barring 100 = .ok (.ior, 1) := by decide +kernel
theorem dX7_barring_101 : decode cX7_barring 101 = .ok (.istore 4, 2) := by decide +kernel
theorem dX7_barring_103 : decode cX7_barring 103 = .ok (.iinc 5 1, 3) := by decide +kernel
theorem dX7_barring_106 : decode cX7_barring 106 = .ok (.goto (-100), 3) := by decide +kernel
theorem dX7_barring_109 : decode cX7_barring 109 = .ok (.iload 4, 2) := by decide +kernel
theorem dX7_barring_111 : decode cX7_barring 111 = .ok (.ireturn, 1) := by decide +kernel
theorem dX7_bitsOf_0 : decode cX7_bitsOf 0 = .ok (.iconst 0, 1) := by decide +kernel
theorem dX7_bitsOf_1 : decode cX7_bitsOf 1 = .ok (.istore_n 1, 1) := by decide +kernel
theorem dX7_bitsOf_2 : decode cX7_bitsOf 2 = .ok (.iload_n 0, 1) := by decide +kernel
theorem dX7_bitsOf_3 : decode cX7_bitsOf 3 = .ok (.istore_n 2, 1) := by decide +kernel
theorem dX7_bitsOf_4 : decode cX7_bitsOf 4 = .ok (.iload_n 2, 1) := by decide +kernel
theorem dX7_bitsOf_5 : decode cX7_bitsOf 5 = .ok (.ifCond .eq 15, 3) := by decide +kernel
theorem dX7_bitsOf_8 : decode cX7_bitsOf 8 = .ok (.iinc 1 1, 3) := by decide +kernel
theorem dX7_bitsOf_11 : decode cX7_bitsOf 11 = .ok (.iload_n 2, 1) := by decide +kernel
theorem dX7_bitsOf_12 : decode cX7_bitsOf 12 = .ok (.iload_n 2, 1) := by decide +kernel
theorem dX7_bitsOf_13 : decode cX7_bitsOf 13 = .ok (.iconst 1, 1) := by decide +kernel
theorem dX7_bitsOf_14 : decode cX7_bitsOf 14 = .ok (.isub, 1) := by decide +kernel
theorem dX7_bitsOf_15 : decode cX7_bitsOf 15 = .ok (.iand, 1) := by decide +kernel
theorem dX7_bitsOf_16 : decode cX7_bitsOf 16 = .ok (.istore_n 2, 1) := by decide +kernel
theorem dX7_bitsOf_17 : decode cX7_bitsOf 17 = .ok (.goto (-13), 3) := by decide +kernel
theorem dX7_bitsOf_20 : decode cX7_bitsOf 20 = .ok (.iload_n 1, 1) := by decide +kernel
theorem dX7_bitsOf_21 : decode cX7_bitsOf 21 = .ok (.ireturn, 1) := by decide +kernel
theorem dX7_both_0 : decode cX7_both 0 = .ok (.aload_n 0, 1) := by decide +kernel
theorem dX7_both_1 : decode cX7_both 1 = .ok (.invokevirtual 229, 3) := by decide +kernel
theorem dX7_both_4 : decode cX7_both 4 = .ok (.istore_n 1, 1) := by decide +kernel
theorem dX7_both_5 : decode cX7_both 5 = .ok (.aload_n 0, 1) := by decide +kernel
theorem dX7_both_6 : decode cX7_both 6 = .ok (.bipush 97, 2) := by decide +kernel
theorem dX7_both_8 : decode cX7_both 8 = .ok (.bipush 110, 2) := by decide +kernel
theorem dX7_both_10 : decode cX7_both 10 = .ok (.bipush 100, 2) := by decide +kernel
theorem dX7_both_12 : decode cX7_both 12 = .ok (.iconst 0, 1) := by decide +kernel
theorem dX7_both_13 : decode cX7_both 13 = .ok (.iconst 0, 1) := by decide +kernel
theorem dX7_both_14 : decode cX7_both 14 = .ok (.iconst 0, 1) := by decide +kernel
theorem dX7_both_15 : decode cX7_both 15 = .ok (.iconst 0, 1) := by decide +kernel
theorem dX7_both_16 : decode cX7_both 16 = .ok (.iconst 0, 1) := by decide +kernel
theorem dX7_both_17 : decode cX7_both 17 = .ok (.invokevirtual 185, 3) := by decide +kernel
theorem dX7_both_20 : decode cX7_both 20 = .ok (.ifCond .eq 29, 3) := by decide +kernel
theorem dX7_both_23 : decode cX7_both 23 = .ok (.aload_n 0, 1) := by decide +kernel
theorem dX7_both_24 : decode cX7_both 24 = .ok (.invokevirtual 182, 3) := by decide +kernel
theorem dX7_both_27 : decode cX7_both 27 = .ok (.aload_n 0, 1) := by decide +kernel
theorem dX7_both_28 : decode cX7_both 28 = .ok (.invokevirtual 229, 3) := by decide +kernel
theorem dX7_both_31 : decode cX7_both 31 = .ok (.istore_n 2, 1) := by decide +kernel
theorem dX7_both_32 : decode cX7_both 32 = .ok (.iload_n 1, 1) := by decide +kernel
theorem dX7_both_33 : decode cX7_both 33 = .ok (.ifCond .eq 11, 3) := by decide +kernel
theorem dX7_both_36 : decode cX7_both 36 = .ok (.iload_n 2, 1) := by decide +kernel
theorem dX7_both_37 : decode cX7_both 37 = .ok (.ifCond .eq 7, 3) := by decide +kernel
theorem dX7_both_40 : decode cX7_both 40 = .ok (.iconst 1, 1) := by decide +kernel
theorem dX7_both_41 : decode cX7_both 41 = .ok (.goto 4, 3) := by decide +kernel
theorem dX7_both_44 : decode cX7_both 44 = .ok (.iconst 0, 1) := by decide +kernel
theorem dX7_both_45 : decode cX7_both 45 = .ok (.istore_n 1, 1) := by decide +kernel
theorem dX7_both_46 : decode cX7_both 46 = .ok (.goto (-41), 3) := by decide +kernel
theorem dX7_both_49 : decode cX7_both 49 = .ok (.iload_n 1, 1) := by decide +kernel
theorem dX7_both_50 : decode cX7_both 50 = .ok (.ireturn, 1) := by decide +kernel
theorem dX7_byteAt_0 : decode cX7_byteAt 0 = .ok (.iload_n 1, 1) := by decide +kernel
theorem dX7_byteAt_1 : decode cX7_byteAt 1 = .ok (.aload_n 0, 1) := by decide +kernel
theorem dX7_byteAt_2 : decode cX7_byteAt 2 = .ok (.getfield 133, 3) := by decide +kernel
theorem dX7_byteAt_5 : decode cX7_byteAt 5 = .ok (.if_icmp .ge 17, 3) := by decide +kernel
theorem dX7_byteAt_8 : decode cX7_byteAt 8 = .ok (.aload_n 0, 1) := by decide +kernel
theorem dX7_byteAt_9 : decode cX7_byteAt 9 = .ok (.getfield 13, 3) := by decide +kernel
theorem dX7_byteAt_12 : decode cX7_byteAt 12 = .ok (.aload_n 0, 1) := by decide +kernel
theorem dX7_byteAt_13 : decode cX7_byteAt 13 = .ok (.getfield 136, 3) := by decide +kernel
theorem dX7_byteAt_16 : decode cX7_byteAt 16 = .ok (.iload_n 1, 1) := by decide +kernel
theorem dX7_byteAt_17 : decode cX7_byteAt 17 = .ok (.iadd, 1) := by decide +kernel
theorem dX7_byteAt_18 : decode cX7_byteAt 18 = .ok (.iaload, 1) := by decide +kernel
theorem dX7_byteAt_19 : decode cX7_byteAt 19 = .ok (.goto 4, 3) := by decide +kernel
theorem dX7_byteAt_22 : decode cX7_byteAt 22 = .ok (.iconst (-1), 1) := by decide +kernel
theorem dX7_byteAt_23 : decode cX7_byteAt 23 = .ok (.ireturn, 1) := by decide +kernel
theorem dX7_cell_0 : decode cX7_cell 0 = .ok (.iload_n 1, 1) := by decide +kernel
theorem dX7_cell_1 : decode cX7_cell 1 = .ok (.invokestatic 329, 3) := by decide +kernel
theorem dX7_cell_4 : decode cX7_cell 4 = .ok (.ifCond .ne 6, 3) := by decide +kernel
theorem dX7_cell_7 : decode cX7_cell 7 = .ok (.bipush (-2), 2) := by decide +kernel
theorem dX7_cell_9 : decode cX7_cell 9 = .ok (.ireturn, 1) := by decide +kernel
theorem dX7_cell_10 : decode cX7_cell 10 = .ok (.aload_n 0, 1) := by decide +kernel
theorem dX7_cell_11 : decode cX7_cell 11 = .ok (.getfield 68, 3) := by decide +kernel
theorem dX7_cell_14 : decode cX7_cell 14 = .ok (.iload_n 1, 1) := by decide +kernel
theorem dX7_cell_15 : decode cX7_cell 15 = .ok (.baload, 1) := by decide +kernel
theorem dX7_cell_16 : decode cX7_cell 16 = .ok (.ifCond .ne 6, 3) := by decide +kernel
theorem dX7_cell_19 : decode cX7_cell 19 = .ok (.bipush (-11), 2) := by decide +kernel
theorem dX7_cell_21 : decode cX7_cell 21 = .ok (.ireturn, 1) := by decide +kernel
theorem dX7_cell_22 : decode cX7_cell 22 = .ok (.iload_n 2, 1) := by decide +kernel
theorem dX7_cell_23 : decode cX7_cell 23 = .ok (.i2l, 1) := by decide +kernel
theorem dX7_cell_24 : decode cX7_cell 24 = .ok (.lconst 0, 1) := by decide +kernel
theorem dX7_cell_25 : decode cX7_cell 25 = .ok (.aload_n 0, 1) := by decide +kernel
theorem dX7_cell_26 : decode cX7_cell 26 = .ok (.getfield 75, 3) := by decide +kernel
theorem dX7_cell_29 : decode cX7_cell 29 = .ok (.iload_n 1, 1) := by decide +kernel
theorem dX7_cell_30 : decode cX7_cell 30 = .ok (.iaload, 1) := by decide +kernel
theorem dX7_cell_31 : decode cX7_cell 31 = .ok (.iconst 1, 1) := by decide +kernel
theorem dX7_cell_32 : decode cX7_cell 32 = .ok (.isub, 1) := by decide +kernel
theorem dX7_cell_33 : decode cX7_cell 33 = .ok (.i2l, 1) := by decide +kernel
theorem dX7_cell_34 : decode cX7_cell 34 = .ok (.invokestatic 91, 3) := by decide +kernel
theorem dX7_cell_37 : decode cX7_cell 37 = .ok (.ifCond .ne 6, 3) := by decide +kernel
theorem dX7_cell_40 : decode cX7_cell 40 = .ok (.bipush (-12), 2) := by decide +kernel
theorem dX7_cell_42 : decode cX7_cell 42 = .ok (.ireturn, 1) := by decide +kernel
theorem dX7_cell_43 : decode cX7_cell 43 = .ok (.aload_n 0, 1) := by decide +kernel
theorem dX7_cell_44 : decode cX7_cell 44 = .ok (.getfield 78, 3) := by decide +kernel
theorem dX7_cell_47 : decode cX7_cell 47 = .ok (.bipush 40, 2) := by decide +kernel
theorem dX7_cell_49 : decode cX7_cell 49 = .ok (.iload_n 1, 1) := by decide +kernel
theorem dX7_cell_50 : decode cX7_cell 50 = .ok (.imul, 1) := by decide +kernel
theorem dX7_cell_51 : decode cX7_cell 51 = .ok (.iload_n 2, 1) := by decide +kernel
theorem dX7_cell_52 : decode cX7_cell 52 = .ok (.iadd, 1) := by decide +kernel
theorem dX7_cell_53 : decode cX7_cell 53 = .ok (.aload_n 0, 1) := by decide +kernel
theorem dX7_cell_54 : decode cX7_cell 54 = .ok (.getfield 72, 3) := by decide +kernel
theorem dX7_cell_57 : decode cX7_cell 57 = .ok (.iload_n 1, 1) := by decide +kernel
theorem dX7_cell_58 : decode cX7_cell 58 = .ok (.iaload, 1) := by decide +kernel
theorem dX7_cell_59 : decode cX7_cell 59 = .ok (.ifCond .ne 8, 3) := by decide +kernel
theorem dX7_cell_62 : decode cX7_cell 62 = .ok (.iload_n 3, 1) := by decide +kernel
theorem dX7_cell_63 : decode cX7_cell 63 = .ok (.i2b, 1) := by decide +kernel
theorem dX7_cell_64 : decode cX7_cell 64 = .ok (.goto 19, 3) := by decide +kernel
theorem dX7_cell_67 : decode cX7_cell 67 = .ok (.aload_n 0, 1) := by decide +kernel
theorem dX7_cell_68 : decode cX7_cell 68 = .ok (.getfield 72, 3) := by decide +kernel
theorem dX7_cell_71 : decode cX7_cell 71 = .ok (.iload_n 1, 1) := by decide +kernel
theorem dX7_cell_72 : decode cX7_cell 72 = .ok (.iaload, 1) := by decide +kernel
theorem dX7_cell_73 : decode cX7_cell 73 = .ok (.iconst 1, 1) := by decide +kernel
theorem dX7_cell_74 : decode cX7_cell 74 = .ok (.if_icmp .ne 8, 3) := by decide +kernel
theorem dX7_cell_77 : decode cX7_cell 77 = .ok (.iload_n 3, 1) := by decide +kernel
theorem dX7_cell_78 : decode cX7_cell 78 = .ok (.i2s, 1) := by decide +kernel
theorem dX7_cell_79 : decode cX7_cell 79 = .ok (.goto 4, 3) := by decide +kernel
theorem dX7_cell_82 : decode cX7_cell 82 = .ok (.iload_n 3, 1) := by decide +kernel
theorem dX7_cell_83 : decode cX7_cell 83 = .ok (.iastore, 1) := by decide +kernel
theorem dX7_cell_84 : decode cX7_cell 84 = .ok (.iconst 1, 1) := by decide +kernel
theorem dX7_cell_85 : decode cX7_cell 85 = .ok (.ireturn, 1) := by decide +kernel
theorem dX7_chance_0 : decode cX7_chance 0 = .ok (.iload_n 2, 1) := by decide +kernel
theorem dX7_chance_1 : decode cX7_chance 1 = .ok (.i2l, 1) := by decide +kernel
theorem dX7_chance_2 : decode cX7_chance 2 = .ok (.lconst 1, 1) := by decide +kernel
theorem dX7_chance_3 : decode cX7_chance 3 = .ok (.ldc2_w 348, 3) := by decide +kernel
theorem dX7_chance_6 : decode cX7_chance 6 = .ok (.invokestatic 91, 3) := by decide +kernel
theorem dX7_chance_9 : decode cX7_chance 9 = .ok (.ifCond .eq 13, 3) := by decide +kernel
theorem dX7_chance_12 : decode cX7_chance 12 = .ok (.iload_n 3, 1) := by decide +kernel
theorem dX7_chance_13 : decode cX7_chance 13 = .ok (.i2l, 1) := by decide +kernel
theorem dX7_chance_14 : decode cX7_chance 14 = .ok (.lconst 0, 1) := by decide +kernel
theorem dX7_chance_15 : decode cX7_chance 15 = .ok (.lconst 1, 1) := by decide +kernel
theorem dX7_chance_16 : decode cX7_chance 16 = .ok (.invokestatic 91, 3) := by decide +kernel
theorem dX7_chance_19 : decode cX7_chance 19 = .ok (.ifCond .ne 7, 3) := by decide +kernel
theorem dX7_chance_22 : decode cX7_chance 22 = .ok (.ldc2_w 323, 3) := by decide +kernel
theorem dX7_chance_25 : decode cX7_chance 25 = .ok (.lreturn, 1) := by decide +kernel
theorem dX7_chance_26 : decode cX7_chance 26 = .ok (.aload_n 0, 1) := by decide +kernel
theorem dX7_chance_27 : decode cX7_chance 27 = .ok (.aload_n 0, 1) := by decide +kernel
theorem dX7_chance_28 : decode cX7_chance 28 = .ok (.invokevirtual 291, 3) := by decide +kernel
theorem dX7_chance_31 : decode cX7_chance 31 = .ok (.invokevirtual 294, 3) := by decide +kernel
theorem dX7_chance_34 : decode cX7_chance 34 = .ok (.aload_n 0, 1) := by decide +kernel
theorem dX7_chance_35 : decode cX7_chance 35 = .ok (.invokevirtual 298, 3) := by decide +kernel
theorem dX7_chance_38 : decode cX7_chance 38 = .ok (.istore 4, 2) := by decide +kernel
theorem dX7_chance_40 : decode cX7_chance 40 = .ok (.lconst 0, 1) := by decide +kernel
theorem dX7_chance_41 : decode cX7_chance 41 = .ok (.lstore 5, 2) := by decide +kernel
theorem dX7_chance_43 : decode cX7_chance 43 = .ok (.iconst 0, 1) := by decide +kernel
theorem dX7_chance_44 : decode cX7_chance 44 = .ok (.istore 7, 2) := by decide +kernel
theorem dX7_chance_46 : decode cX7_chance 46 = .ok (.iload 7, 2) := by decide +kernel
theorem dX7_chance_48 : decode cX7_chance 48 = .ok (.iload_n 2, 1) := by decide +kernel
theorem dX7_chance_49 : decode cX7_chance 49 = .ok (.if_icmp .ge 32, 3) := by decide +kernel
theorem dX7_chance_52 : decode cX7_chance 52 = .ok (.lload 5, 2) := by decide +kernel
theorem dX7_chance_54 : decode cX7_chance 54 = .ok (.aload_n 0, 1) := by decide +kernel
theorem dX7_chance_55 : decode cX7_chance 55 = .ok (.iload_n 1, 1) := by decide +kernel
theorem dX7_chance_56 : decode cX7_chance 56 = .ok (.iload 7, 2) := by decide +kernel
theorem dX7_chance_58 : decode cX7_chance 58 = .ok (.iadd, 1) := by decide +kernel
theorem dX7_chance_59 : decode cX7_chance 59 = .ok (.invokevirtual 345, 3) := by decide +kernel
theorem dX7_chance_62 : decode cX7_chance 62 = .ok (.iload 4, 2) := by decide +kernel
theorem dX7_chance_64 : decode cX7_chance 64 = .ok (.if_icmp .gt 7, 3) := by decide +kernel
theorem dX7_chance_67 : decode cX7_chance 67 = .ok (.lconst 1, 1) := by decide +kernel
theorem dX7_chance_68 : decode cX7_chance 68 = .ok (.goto 4, 3) := by decide +kernel
theorem dX7_chance_71 : decode cX7_chance 71 = .ok (.lconst 0, 1) := by decide +kernel
theorem dX7_chance_72 : decode cX7_chance 72 = .ok (.ladd, 1) := by decide +kernel
theorem dX7_chance_73 : decode cX7_chance 73 = .ok (.lstore 5, 2) := by decide +kernel
theorem dX7_chance_75 : decode cX7_chance 75 = .ok (.iinc 7 1, 3) := by decide +kernel
theorem dX7_chance_78 : decode cX7_chance 78 = .ok (.goto (-32), 3) := by decide +kernel
theorem dX7_chance_81 : decode cX7_chance 81 = .ok (.lload 5, 2) := by decide +kernel
theorem dX7_chance_83 : decode cX7_chance 83 = .ok (.iload_n 2, 1) := by decide +kernel
theorem dX7_chance_84 : decode cX7_chance 84 = .ok (.i2l, 1) := by decide +kernel
theorem dX7_chance_85 : decode cX7_chance 85 = .ok (.iload_n 3, 1) := by decide +kernel
theorem dX7_chance_86 : decode cX7_chance 86 = .ok (.invokestatic 325, 3) := by decide +kernel
theorem dX7_chance_89 : decode cX7_chance 89 = .ok (.lreturn, 1) := by decide +kernel
theorem dX7_change_0 : decode cX7_change 0 = .ok (.iload_n 1, 1) := by decide +kernel
theorem dX7_change_1 : decode cX7_change 1 = .ok (.i2l, 1) := by decide +kernel
theorem dX7_change_2 : decode cX7_change 2 = .ok (.lconst 0, 1) := by decide +kernel
theorem dX7_change_3 : decode cX7_change 3 = .ok (.lconst 1, 1) := by decide +kernel
theorem dX7_change_4 : decode cX7_change 4 = .ok (.invokestatic 91, 3) := by decide +kernel
theorem dX7_change_7 : decode cX7_change 7 = .ok (.ifCond .ne 6, 3) := by decide +kernel
theorem dX7_change_10 : decode cX7_change 10 = .ok (.bipush (-2), 2) := by decide +kernel
theorem dX7_change_12 : decode cX7_change 12 = .ok (.ireturn, 1) := by decide +kernel
theorem dX7_change_13 : decode cX7_change 13 = .ok (.aload_n 0, 1) := by decide +kernel
theorem dX7_change_14 : decode cX7_change 14 = .ok (.aload_n 0, 1) := by decide +kernel
theorem dX7_change_15 : decode cX7_change 15 = .ok (.invokevirtual 291, 3) := by decide +kernel
theorem dX7_change_18 : decode cX7_change 18 = .ok (.invokevirtual 294, 3) := by decide +kernel
theorem dX7_change_21 : decode cX7_change 21 = .ok (.aload_n 0, 1) := by decide +kernel
theorem dX7_change_22 : decode cX7_change 22 = .ok (.invokevirtual 313, 3) := by decide +kernel
theorem dX7_change_25 : decode cX7_change 25 = .ok (.aload_n 0, 1) := by decide +kernel
theorem dX7_change_26 : decode cX7_change 26 = .ok (.invokevirtual 298, 3) := by decide +kernel
theorem dX7_change_29 : decode cX7_change 29 = .ok (.istore_n 2, 1) := by decide +kernel
theorem dX7_change_30 : decode cX7_change 30 = .ok (.iconst (-1), 1) := by decide +kernel
theorem dX7_change_31 : decode cX7_change 31 = .ok (.istore_n 3, 1) := by decide +kernel
theorem dX7_change_32 : decode cX7_change 32 = .ok (.iconst 0, 1) := by decide +kernel
theorem dX7_change_33 : decode cX7_change 33 = .ok (.istore 4, 2) := by decide +kernel
theorem dX7_change_35 : decode cX7_change 35 = .ok (.iload 4, 2) := by decide +kernel
theorem dX7_change_37 : decode cX7_change 37 = .ok (.aload_n 0, 1) := by decide +kernel
theorem dX7_change_38 : decode cX7_change 38 = .ok (.getfield 88, 3) := by decide +kernel
theorem dX7_change_41 : decode cX7_change 41 = .ok (.if_icmp .ge 97, 3) := by decide +kernel
theorem dX7_change_44 : decode cX7_change 44 = .ok (.iload 4, 2) := by decide +kernel
theorem dX7_change_46 : decode cX7_change 46 = .ok (.iconst 1, 1) := by decide +kernel
theorem dX7_change_47 : decode cX7_change 47 = .ok (.iadd, 1) := by decide +kernel
theorem dX7_change_48 : decode cX7_change 48 = .ok (.istore 5, 2) := by decide +kernel
theorem dX7_change_50 : decode cX7_change 50 = .ok (.iload 5, 2) := by decide +kernel
theorem dX7_change_52 : decode cX7_change 52 = .ok (.aload_n 0, 1) := by decide +kernel
theorem dX7_change_53 : decode cX7_change 53 = .ok (.getfield 88, 3) := by decide +kernel
theorem dX7_change_56 : decode cX7_change 56 = .ok (.if_icmp .ge 76, 3) := by decide +kernel
theorem dX7_change_59 : decode cX7_change 59 = .ok (.aload_n 0, 1) := by decide +kernel
theorem dX7_change_60 : decode cX7_change 60 = .ok (.getfield 41, 3) := by decide +kernel
theorem dX7_change_63 : decode cX7_change 63 = .ok (.iload 4, 2) := by decide +kernel
theorem dX7_change_65 : decode cX7_change 65 = .ok (.aload_n 0, 1) := by decide +kernel
theorem dX7_change_66 : decode cX7_change 66 = .ok (.getfield 56, 3) := by decide +kernel
theorem dX7_change_69 : decode cX7_change 69 = .ok (.iload 5, 2) := by decide +kernel
theorem dX7_change_71 : decode cX7_change 71 = .ok (.iaload, 1) := by decide +kernel
theorem dX7_change_72 : decode cX7_change 72 = .ok (.iastore, 1) := by decide +kernel
theorem dX7_change_73 : decode cX7_change 73 = .ok (.aload_n 0, 1) := by decide +kernel
theorem dX7_change_74 : decode cX7_change 74 = .ok (.getfield 41, 3) := by decide +kernel
theorem dX7_change_77 : decode cX7_change 77 = .ok (.iload 5, 2) := by decide +kernel
theorem dX7_change_79 : decode cX7_change 79 = .ok (.aload_n 0, 1) := by decide +kernel
theorem dX7_change_80 : decode cX7_change 80 = .ok (.getfield 56, 3) := by decide +kernel
theorem dX7_change_83 : decode cX7_change 83 = .ok (.iload 4, 2) := by decide +kernel
theorem dX7_change_85 : decode cX7_change 85 = .ok (.iaload, 1) := by decide +kernel
theorem dX7_change_86 : decode cX7_change 86 = .ok (.iastore, 1) := by decide +kernel
theorem dX7_change_87 : decode cX7_change 87 = .ok (.aload_n 0, 1) := by decide +kernel
theorem dX7_change_88 : decode cX7_change 88 = .ok (.aload_n 0, 1) := by decide +kernel
theorem dX7_change_89 : decode cX7_change 89 = .ok (.getfield 88, 3) := by decide +kernel
theorem dX7_change_92 : decode cX7_change 92 = .ok (.invokevirtual 101, 3) := by decide +kernel
theorem dX7_change_95 : decode cX7_change 95 = .ok (.ifCond .ne 27, 3) := by decide +kernel
theorem dX7_change_98 : decode cX7_change 98 = .ok (.aload_n 0, 1) := by decide +kernel
theorem dX7_change_99 : decode cX7_change 99 = .ok (.invokevirtual 298, 3) := by decide +kernel
theorem dX7_change_102 : decode cX7_change 102 = .ok (.istore 6, 2) := by decide +kernel
theorem dX7_change_104 : decode cX7_change 104 = .ok (.iload 6, 2) := by decide +kernel
theorem dX7_change_106 : decode cX7_change 106 = .ok (.iload_n 2, 1) := by decide +kernel
theorem dX7_change_107 : decode cX7_change 107 = .ok (.if_icmp .ge 15, 3) := by decide +kernel
theorem dX7_change_110 : decode cX7_change 110 = .ok (.bipush 10, 2) := by decide +kernel
theorem dX7_change_112 : decode cX7_change 112 = .ok (.iload 4, 2) := by decide +kernel
theorem dX7_change_114 : decode cX7_change 114 = .ok (.imul, 1) := by decide +kernel
theorem dX7_change_115 : decode cX7_change 115 = .ok (.iload 5, 2) := by decide +kernel
theorem dX7_change_117 : decode cX7_change 117 = .ok (.iadd, 1) := by decide +kernel
theorem dX7_change_118 : decode cX7_change 118 = .ok (.istore_n 3, 1) := by decide +kernel
theorem dX7_change_119 : decode cX7_change 119 = .ok (.iload 6, 2) := by decide +kernel
theorem dX7_change_121 : decode cX7_change 121 = .ok (.istore_n 2, 1) := by decide +kernel
theorem dX7_change_122 : decode cX7_change 122 = .ok (.aload_n 0, 1) := by decide +kernel
theorem dX7_change_123 : decode cX7_change 123 = .ok (.invokevirtual 316, 3) := by decide +kernel
theorem dX7_change_126 : decode cX7_change 126 = .ok (.iinc 5 1, 3) := by decide +kernel
theorem dX7_change_129 : decode cX7_change 129 = .ok (.goto (-79), 3) := by decide +kernel
theorem dX7_change_132 : decode cX7_change 132 = .ok (.iinc 4 1, 3) := by decide +kernel
theorem dX7_change_135 : decode cX7_change 135 = .ok (.goto (-100), 3) := by decide +kernel
theorem dX7_change_138 : decode cX7_change 138 = .ok (.iload_n 1, 1) := by decide +kernel
theorem dX7_change_139 : decode cX7_change 139 = .ok (.ifCond .ne 7, 3) := by decide +kernel
theorem dX7_change_142 : decode cX7_change 142 = .ok (.iload_n 3, 1) := by decide +kernel
theorem dX7_change_143 : decode cX7_change 143 = .ok (.goto 4, 3) := by decide +kernel
theorem dX7_change_146 : decode cX7_change 146 = .ok (.iload_n 2, 1) := by decide +kernel
theorem dX7_change_147 : decode cX7_change 147 = .ok (.ireturn, 1) := by decide +kernel
theorem dX7_copy_0 : decode cX7_copy 0 = .ok (.iload_n 1, 1) := by decide +kernel
theorem dX7_copy_1 : decode cX7_copy 1 = .ok (.invokestatic 329, 3) := by decide +kernel
theorem dX7_copy_4 : decode cX7_copy 4 = .ok (.ifCond .eq 10, 3) := by decide +kernel
theorem dX7_copy_7 : decode cX7_copy 7 = .ok (.iload_n 3, 1) := by decide +kernel
theorem dX7_copy_8 : decode cX7_copy 8 = .ok (.invokestatic 329, 3) := by decide +kernel
theorem dX7_copy_11 : decode cX7_copy 11 = .ok (.ifCond .ne 6, 3) := by decide +kernel
theorem dX7_copy_14 : decode cX7_copy 14 = .ok (.bipush (-2), 2) := by decide +kernel
theorem dX7_copy_16 : decode cX7_copy 16 = .ok (.ireturn, 1) := by decide +kernel
theorem dX7_copy_17 : decode cX7_copy 17 = .ok (.aload_n 0, 1) := by decide +kernel
theorem dX7_copy_18 : decode cX7_copy 18 = .ok (.getfield 68, 3) := by decide +kernel
theorem dX7_copy_21 : decode cX7_copy 21 = .ok (.iload_n 1, 1) := by decide +kernel
theorem dX7_copy_22 : decode cX7_copy 22 = .ok (.baload, 1) := by decide +kernel
theorem dX7_copy_23 : decode cX7_copy 23 = .ok (.ifCond .eq 12, 3) := by decide +kernel
theorem dX7_copy_26 : decode cX7_copy 26 = .ok (.aload_n 0, 1) := by decide +kernel
theorem dX7_copy_27 : decode cX7_copy 27 = .ok (.getfield 68, 3) := by decide +kernel
theorem dX7_copy_30 : decode cX7_copy 30 = .ok (.iload_n 3, 1) := by decide +kernel
theorem dX7_copy_31 : decode cX7_copy 31 = .ok (.baload, 1) := by decide +kernel
theorem dX7_copy_32 : decode cX7_copy 32 = .ok (.ifCond .ne 6, 3) := by decide +kernel
theorem dX7_copy_35 : decode cX7_copy 35 = .ok (.bipush (-11), 2) := by decide +kernel
theorem dX7_copy_37 : decode cX7_copy 37 = .ok (.ireturn, 1) := by decide +kernel
theorem dX7_copy_38 : decode cX7_copy 38 = .ok (.aload_n 0, 1) := by decide +kernel
theorem dX7_copy_39 : decode cX7_copy 39 = .ok (.getfield 72, 3) := by decide +kernel
theorem dX7_copy_42 : decode cX7_copy 42 = .ok (.iload_n 1, 1) := by decide +kernel
theorem dX7_copy_43 : decode cX7_copy 43 = .ok (.iaload, 1) := by decide +kernel
theorem dX7_copy_44 : decode cX7_copy 44 = .ok (.aload_n 0, 1) := by decide +kernel
theorem dX7_copy_45 : decode cX7_copy 45 = .ok (.getfield 72, 3) := by decide +kernel
theorem dX7_copy_48 : decode cX7_copy 48 = .ok (.iload_n 3, 1) := by decide +kernel
theorem dX7_copy_49 : decode cX7_copy 49 = .ok (.iaload, 1) := by decide +kernel
theorem dX7_copy_50 : decode cX7_copy 50 = .ok (.if_icmp .eq 6, 3) := by decide +kernel
theorem dX7_copy_53 : decode cX7_copy 53 = .ok (.bipush (-13), 2) := by decide +kernel
theorem dX7_copy_55 : decode cX7_copy 55 = .ok (.ireturn, 1) := by decide +kernel
theorem dX7_copy_56 : decode cX7_copy 56 = .ok (.iload 5, 2) := by decide +kernel
theorem dX7_copy_58 : decode cX7_copy 58 = .ok (.ifCond .lt 39, 3) := by decide +kernel
theorem dX7_copy_61 : decode cX7_copy 61 = .ok (.iload_n 2, 1) := by decide +kernel
theorem dX7_copy_62 : decode cX7_copy 62 = .ok (.ifCond .lt 35, 3) := by decide +kernel
theorem dX7_copy_65 : decode cX7_copy 65 = .ok (.iload 4, 2) := by decide +kernel
theorem dX7_copy_67 : decode cX7_copy 67 = .ok (.ifCond .lt 30, 3) := by decide +kernel
theorem dX7_copy_70 : decode cX7_copy 70 = .ok (.iload_n 2, 1) := by decide +kernel
theorem dX7_copy_71 : decode cX7_copy 71 = .ok (.aload_n 0, 1) := by decide +kernel
theorem dX7_copy_72 : decode cX7_copy 72 = .ok (.getfield 75, 3) := by decide +kernel
theorem dX7_copy_75 : decode cX7_copy 75 = .ok (.iload_n 1, 1) := by decide +kernel
theorem dX7_copy_76 : decode cX7_copy 76 = .ok (.iaload, 1) := by decide +kernel
theorem dX7_copy_77 : decode cX7_copy 77 = .ok (.iload 5, 2) := by decide +kernel
theorem dX7_copy_79 : decode cX7_copy 79 = .ok (.isub, 1) := by decide +kernel
theorem dX7_copy_80 : decode cX7_copy 80 = .ok (.if_icmp .gt 17, 3) := by decide +kernel
theorem dX7_copy_83 : decode cX7_copy 83 = .ok (.iload 4, 2) := by decide +kernel
theorem dX7_copy_85 : decode cX7_copy 85 = .ok (.aload_n 0, 1) := by decide +kernel
theorem dX7_copy_86 : decode cX7_copy 86 = .ok (.getfield 75, 3) := by decide +kernel
theorem dX7_copy_89 : decode cX7_copy 89 = .ok (.iload_n 3, 1) := by decide +kernel
theorem dX7_copy_90 : decode cX7_copy 90 = .ok (.iaload, 1) := by decide +kernel
theorem dX7_copy_91 : decode cX7_copy 91 = .ok (.iload 5, 2) := by decide +kernel
theorem dX7_copy_93 : decode cX7_copy 93 = .ok (.isub, 1) := by decide +kernel
theorem dX7_copy_94 : decode cX7_copy 94 = .ok (.if_icmp .le 6, 3) := by decide +kernel
theorem dX7_copy_97 : decode cX7_copy 97 = .ok (.bipush (-12), 2) := by decide +kernel
theorem dX7_copy_99 : decode cX7_copy 99 = .ok (.ireturn, 1) := by decide +kernel
theorem dX7_copy_100 : decode cX7_copy 100 = .ok (.iload_n 1, 1) := by decide +kernel
theorem dX7_copy_101 : decode cX7_copy 101 = .ok (.iload_n 3, 1) := by decide +kernel
theorem dX7_copy_102 : decode cX7_copy 102 = .ok (.if_icmp .ne 13, 3) := by decide +kernel
theorem dX7_copy_105 : decode cX7_copy 105 = .ok (.iload_n 2, 1) := by decide +kernel
theorem dX7_copy_106 : decode cX7_copy 106 = .ok (.iload 4, 2) := by decide +kernel
theorem dX7_copy_108 : decode cX7_copy 108 = .ok (.if_icmp .ge 7, 3) := by decide +kernel
theorem dX7_copy_111 : decode cX7_copy 111 = .ok (.iconst 1, 1) := by decide +kernel
theorem dX7_copy_112 : decode cX7_copy 112 = .ok (.goto 4, 3) := by decide +kernel
theorem dX7_copy_115 : decode cX7_copy 115 = .ok (.iconst 0, 1) := by decide +kernel
theorem dX7_copy_116 : decode cX7_copy 116 = .ok (.istore 6, 2) := by decide +kernel
theorem dX7_copy_118 : decode cX7_copy 118 = .ok (.iconst 0, 1) := by decide +kernel
theorem dX7_copy_119 : decode cX7_copy 119 = .ok (.istore 7, 2) := by decide +kernel
theorem dX7_copy_121 : decode cX7_copy 121 = .ok (.iload 7, 2) := by decide +kernel
theorem dX7_copy_123 : decode cX7_copy 123 = .ok (.iload 5, 2) := by decide +kernel
theorem dX7_copy_125 : decode cX7_copy 125 = .ok (.if_icmp .ge 57, 3) := by decide +kernel
theorem dX7_copy_128 : decode cX7_copy 128 = .ok (.iload 6, 2) := by decide +kernel
theorem dX7_copy_130 : decode cX7_copy 130 = .ok (.ifCond .eq 13, 3) := by decide +kernel
theorem dX7_copy_133 : decode cX7_copy 133 = .ok (.iload 5, 2) := by decide +kernel
theorem dX7_copy_135 : decode cX7_copy 135 = .ok (.iconst 1, 1) := by decide +kernel
theorem dX7_copy_136 : decode cX7_copy 136 = .ok (.isub, 1) := by decide +kernel
theorem dX7_copy_137 : decode cX7_copy 137 = .ok (.iload 7, 2) := by decide +kernel
theorem dX7_copy_139 : decode cX7_copy 139 = .ok (.isub, 1) := by decide +kernel
theorem dX7_copy_140 : decode cX7_copy 140 = .ok (.goto 5, 3) := by decide +kernel
theorem dX7_copy_143 : decode cX7_copy 143 = .ok (.iload 7, 2) := by decide +kernel
theorem dX7_copy_145 : decode cX7_copy 145 = .ok (.istore 8, 2) := by decide +kernel
theorem dX7_copy_147 : decode cX7_copy 147 = .ok (.aload_n 0, 1) := by decide +kernel
theorem dX7_copy_148 : decode cX7_copy 148 = .ok (.getfield 78, 3) := by decide +kernel
theorem dX7_copy_151 : decode cX7_copy 151 = .ok (.bipush 40, 2) := by decide +kernel
theorem dX7_copy_153 : decode cX7_copy 153 = .ok (.iload_n 3, 1) := by decide +kernel
theorem dX7_copy_154 : decode cX7_copy 154 = .ok (.imul, 1) := by decide +kernel
theorem dX7_copy_155 : decode cX7_copy 155 = .ok (.iload 4, 2) := by decide +kernel
theorem dX7_copy_157 : decode cX7_copy 157 = .ok (.iadd, 1) := by decide +kernel
theorem dX7_copy_158 : decode cX7_copy 158 = .ok (.iload 8, 2) := by decide +kernel
theorem dX7_copy_160 : decode cX7_copy 160 = .ok (.iadd, 1) := by decide +kernel
theorem dX7_copy_161 : decode cX7_copy 161 = .ok (.aload_n 0, 1) := by decide +kernel
theorem dX7_copy_162 : decode cX7_copy 162 = .ok (.getfield 78, 3) := by decide +kernel
theorem dX7_copy_165 : decode cX7_copy 165 = .ok (.bipush 40, 2) := by decide +kernel
theorem dX7_copy_167 : decode cX7_copy 167 = .ok (.iload_n 1, 1) := by decide +kernel
theorem dX7_copy_168 : decode cX7_copy 168 = .ok (.imul, 1) := by decide +kernel
theorem dX7_copy_169 : decode cX7_copy 169 = .ok (.iload_n 2, 1) := by decide +kernel
theorem dX7_copy_170 : decode cX7_copy 170 = .ok (.iadd, 1) := by decide +kernel
theorem dX7_copy_171 : decode cX7_copy 171 = .ok (.iload 8, 2) := by decide +kernel
theorem dX7_copy_173 : decode cX7_copy 173 = .ok (.iadd, 1) := by decide +kernel
theorem dX7_copy_174 : decode cX7_copy 174 = .ok (.iaload, 1) := by decide +kernel
theorem dX7_copy_175 : decode cX7_copy 175 = .ok (.iastore, 1) := by decide +kernel
theorem dX7_copy_176 : decode cX7_copy 176 = .ok (.iinc 7 1, 3) := by decide +kernel
theorem dX7_copy_179 : decode cX7_copy 179 = .ok (.goto (-58), 3) := by decide +kernel
theorem dX7_copy_182 : decode cX7_copy 182 = .ok (.iload 5, 2) := by decide +kernel
theorem dX7_copy_184 : decode cX7_copy 184 = .ok (.ireturn, 1) := by decide +kernel
theorem dX7_costAt_0 : decode cX7_costAt 0 = .ok (.iconst 0, 1) := by decide +kernel
theorem dX7_costAt_1 : decode cX7_costAt 1 = .ok (.istore_n 3, 1) := by decide +kernel
theorem dX7_costAt_2 : decode cX7_costAt 2 = .ok (.aload_n 0, 1) := by decide +kernel
theorem dX7_costAt_3 : decode cX7_costAt 3 = .ok (.iload_n 1, 1) := by decide +kernel
theorem dX7_costAt_4 : decode cX7_costAt 4 = .ok (.invokevirtual 273, 3) := by decide +kernel
theorem dX7_costAt_7 : decode cX7_costAt 7 = .ok (.istore 4, 2) := by decide +kernel
theorem dX7_costAt_9 : decode cX7_costAt 9 = .ok (.iconst 0, 1) := by decide +kernel
theorem dX7_costAt_10 : decode cX7_costAt 10 = .ok (.istore 5, 2) := by decide +kernel
theorem dX7_costAt_12 : decode cX7_costAt 12 = .ok (.iload 5, 2) := by decide +kernel
theorem dX7_costAt_14 : decode cX7_costAt 14 = .ok (.aload_n 0, 1) := by decide +kernel
theorem dX7_costAt_15 : decode cX7_costAt 15 = .ok (.getfield 88, 3) := by decide +kernel
theorem dX7_costAt_18 : decode cX7_costAt 18 = .ok (.if_icmp .ge 78, 3) := by decide +kernel
theorem dX7_costAt_21 : decode cX7_costAt 21 = .ok (.iload_n 2, 1) := by decide +kernel
theorem dX7_costAt_22 : decode cX7_costAt 22 = .ok (.ifCond .eq 74, 3) := by decide +kernel
theorem dX7_costAt_25 : decode cX7_costAt 25 = .ok (.bipush 30, 2) := by decide +kernel
theorem dX7_costAt_27 : decode cX7_costAt 27 = .ok (.iload 5, 2) := by decide +kernel
theorem dX7_costAt_29 : decode cX7_costAt 29 = .ok (.imul, 1) := by decide +kernel
theorem dX7_costAt_30 : decode cX7_costAt 30 = .ok (.iconst 3, 1) := by decide +kernel
theorem dX7_costAt_31 : decode cX7_costAt 31 = .ok (.iload_n 1, 1) := by decide +kernel
theorem dX7_costAt_32 : decode cX7_costAt 32 = .ok (.imul, 1) := by decide +kernel
theorem dX7_costAt_33 : decode cX7_costAt 33 = .ok (.iadd, 1) := by decide +kernel
theorem dX7_costAt_34 : decode cX7_costAt 34 = .ok (.aload_n 0, 1) := by decide +kernel
theorem dX7_costAt_35 : decode cX7_costAt 35 = .ok (.getfield 41, 3) := by decide +kernel
theorem dX7_costAt_38 : decode cX7_costAt 38 = .ok (.iload 5, 2) := by decide +kernel
theorem dX7_costAt_40 : decode cX7_costAt 40 = .ok (.iaload, 1) := by decide +kernel
theorem dX7_costAt_41 : decode cX7_costAt 41 = .ok (.iconst 2, 1) := by decide +kernel
theorem dX7_costAt_42 : decode cX7_costAt 42 = .ok (.idiv, 1) := by decide +kernel
theorem dX7_costAt_43 : decode cX7_costAt 43 = .ok (.iadd, 1) := by decide +kernel
theorem dX7_costAt_44 : decode cX7_costAt 44 = .ok (.istore 6, 2) := by decide +kernel
theorem dX7_costAt_46 : decode cX7_costAt 46 = .ok (.iload_n 2, 1) := by decide +kernel
theorem dX7_costAt_47 : decode cX7_costAt 47 = .ok (.iload 5, 2) := by decide +kernel
theorem dX7_costAt_49 : decode cX7_costAt 49 = .ok (.ishr, 1) := by decide +kernel
theorem dX7_costAt_50 : decode cX7_costAt 50 = .ok (.iconst 1, 1) := by decide +kernel
theorem dX7_costAt_51 : decode cX7_costAt 51 = .ok (.iand, 1) := by decide +kernel
theorem dX7_costAt_52 : decode cX7_costAt 52 = .ok (.iconst 1, 1) := by decide +kernel
theorem dX7_costAt_53 : decode cX7_costAt 53 = .ok (.if_icmp .ne 16, 3) := by decide +kernel
theorem dX7_costAt_56 : decode cX7_costAt 56 = .ok (.iload_n 3, 1) := by decide +kernel
theorem dX7_costAt_57 : decode cX7_costAt 57 = .ok (.aload_n 0, 1) := by decide +kernel
theorem dX7_costAt_58 : decode cX7_costAt 58 = .ok (.getfield 47, 3) := by decide +kernel
theorem dX7_costAt_61 : decode cX7_costAt 61 = .ok (.iload 6, 2) := by decide +kernel
theorem dX7_costAt_63 : decode cX7_costAt 63 = .ok (.iaload, 1) := by decide +kernel
theorem dX7_costAt_64 : decode cX7_costAt 64 = .ok (.iadd, 1) := by decide +kernel
theorem dX7_costAt_65 : decode cX7_costAt 65 = .ok (.istore_n 3, 1) := by decide +kernel
theorem dX7_costAt_66 : decode cX7_costAt 66 = .ok (.goto 24, 3) := by decide +kernel
theorem dX7_costAt_69 : decode cX7_costAt 69 = .ok (.iload 4, 2) := by decide +kernel
theorem dX7_costAt_71 : decode cX7_costAt 71 = .ok (.iload 5, 2) := by decide +kernel
theorem dX7_costAt_73 : decode cX7_costAt 73 = .ok (.ishr, 1) := by decide +kernel
theorem dX7_costAt_74 : decode cX7_costAt 74 = .ok (.iconst 1, 1) := by decide +kernel
theorem dX7_costAt_75 : decode cX7_costAt 75 = .ok (.iand, 1) := by decide +kernel
theorem dX7_costAt_76 : decode cX7_costAt 76 = .ok (.iconst 1, 1) := by decide +kernel
theorem dX7_costAt_77 : decode cX7_costAt 77 = .ok (.if_icmp .ne 13, 3) := by decide +kernel
theorem dX7_costAt_80 : decode cX7_costAt 80 = .ok (.iload_n 3, 1) := by decide +kernel
theorem dX7_costAt_81 : decode cX7_costAt 81 = .ok (.aload_n 0, 1) := by decide +kernel
theorem dX7_costAt_82 : decode cX7_costAt 82 = .ok (.getfield 50, 3) := by decide +kernel
theorem dX7_costAt_85 : decode cX7_costAt 85 = .ok (.iload 6, 2) := by decide +kernel
theorem dX7_costAt_87 : decode cX7_costAt 87 = .ok (.iaload, 1) := by decide +kernel
theorem dX7_costAt_88 : decode cX7_costAt 88 = .ok (.iadd, 1) := by decide +kernel
theorem dX7_costAt_89 : decode cX7_costAt 89 = .ok (.istore_n 3, 1) := by decide +kernel
theorem dX7_costAt_90 : decode cX7_costAt 90 = .ok (.iinc 5 1, 3) := by decide +kernel
theorem dX7_costAt_93 : decode cX7_costAt 93 = .ok (.goto (-81), 3) := by decide +kernel
theorem dX7_costAt_96 : decode cX7_costAt 96 = .ok (.iload_n 3, 1) := by decide +kernel
theorem dX7_costAt_97 : decode cX7_costAt 97 = .ok (.ireturn, 1) := by decide +kernel
theorem dX7_costOfStanding_0 : decode cX7_costOfStanding 0 = .ok (.aload_n 0, 1) := by decide +kernel
theorem dX7_costOfStanding_1 : decode cX7_costOfStanding 1 = .ok (.invokevirtual 298, 3) := by decide +kernel
theorem dX7_costOfStanding_4 : decode cX7_costOfStanding 4 = .ok (.istore_n 1, 1) := by decide +kernel
theorem dX7_costOfStanding_5 : decode cX7_costOfStanding 5 = .ok (.iconst 0, 1) := by decide +kernel
theorem dX7_costOfStanding_6 : decode cX7_costOfStanding 6 = .ok (.istore_n 2, 1) := by decide +kernel
theorem dX7_costOfStanding_7 : decode cX7_costOfStanding 7 = .ok (.iload_n 2, 1) := by decide +kernel
theorem dX7_costOfStanding_8 : decode cX7_costOfStanding 8 = .ok (.aload_n 0, 1) := by decide +kernel
theorem dX7_costOfStanding_9 : decode cX7_costOfStanding 9 = .ok (.getfield 88, 3) := by decide +kernel
theorem dX7_costOfStanding_12 : decode cX7_costOfStanding 12 = .ok (.if_icmp .ge 48, 3) := by decide +kernel
theorem dX7_costOfStanding_15 : decode cX7_costOfStanding 15 = .ok (.iload_n 1, 1) := by decide +kernel
theorem dX7_costOfStanding_16 : decode cX7_costOfStanding 16 = .ok (.aload_n 0, 1) := by decide +kernel
theorem dX7_costOfStanding_17 : decode cX7_costOfStanding 17 = .ok (.getfield 41, 3) := by decide +kernel
theorem dX7_costOfStanding_20 : decode cX7_costOfStanding 20 = .ok (.iload_n 2, 1) := by decide +kernel
theorem dX7_costOfStanding_21 : decode cX7_costOfStanding 21 = .ok (.iaload, 1) := by decide +kernel
theorem dX7_costOfStanding_22 : decode cX7_costOfStanding 22 = .ok (.aload_n 0, 1) := by decide +kernel
theorem dX7_costOfStanding_23 : decode cX7_costOfStanding 23 = .ok (.getfield 56, 3) := by decide +kernel
theorem dX7_costOfStanding_26 : decode cX7_costOfStanding 26 = .ok (.iload_n 2, 1) := by decide +kernel
theorem dX7_costOfStanding_27 : decode cX7_costOfStanding 27 = .ok (.iaload, 1) := by decide +kernel
theorem dX7_costOfStanding_28 : decode cX7_costOfStanding 28 = .ok (.if_icmp .eq 23, 3) := by decide +kernel
theorem dX7_costOfStanding_31 : decode cX7_costOfStanding 31 = .ok (.aload_n 0, 1) := by decide +kernel
theorem dX7_costOfStanding_32 : decode cX7_costOfStanding 32 = .ok (.getfield 53, 3) := by decide +kernel
theorem dX7_costOfStanding_35 : decode cX7_costOfStanding 35 = .ok (.iconst 3, 1) := by decide +kernel
theorem dX7_costOfStanding_36 : decode cX7_costOfStanding 36 = .ok (.iload_n 2, 1) := by decide +kernel
theorem dX7_costOfStanding_37 : decode cX7_costOfStanding 37 = .ok (.imul, 1) := by decide +kernel
theorem dX7_costOfStanding_38 : decode cX7_costOfStanding 38 = .ok (.aload_n 0, 1) := by decide +kernel
theorem dX7_costOfStanding_39 : decode cX7_costOfStanding 39 = .ok (.getfield 41, 3) := by decide +kernel
theorem dX7_costOfStanding_42 : decode cX7_costOfStanding 42 = .ok (.iload_n 2, 1) := by decide +kernel
theorem dX7_costOfStanding_43 : decode cX7_costOfStanding 43 = .ok (.iaload, 1) := by decide +kernel
theorem dX7_costOfStanding_44 : decode cX7_costOfStanding 44 = .ok (.iconst 2, 1) := by decide +kernel
theorem dX7_costOfStanding_45 : decode cX7_costOfStanding 45 = .ok (.idiv, 1) := by decide +kernel
theorem dX7_costOfStanding_46 : decode cX7_costOfStanding 46 = .ok (.iadd, 1) := by decide +kernel
theorem dX7_costOfStanding_47 : decode cX7_costOfStanding 47 = .ok (.iaload, 1) := by decide +kernel
theorem dX7_costOfStanding_48 : decode cX7_costOfStanding 48 = .ok (.goto 4, 3) := by decide +kernel
theorem dX7_costOfStanding_51 : decode cX7_costOfStanding 51 = .ok (.iconst 0, 1) := by decide +kernel
theorem dX7_costOfStanding_52 : decode cX7_costOfStanding 52 = .ok (.iadd, 1) := by decide +kernel
theorem dX7_costOfStanding_53 : decode cX7_costOfStanding 53 = .ok (.istore_n 1, 1) := by decide +kernel
theorem dX7_costOfStanding_54 : decode cX7_costOfStanding 54 = .ok (.iinc 2 1, 3) := by decide +kernel
theorem dX7_costOfStanding_57 : decode cX7_costOfStanding 57 = .ok (.goto (-50), 3) := by decide +kernel
theorem dX7_costOfStanding_60 : decode cX7_costOfStanding 60 = .ok (.iload_n 1, 1) := by decide +kernel
theorem dX7_costOfStanding_61 : decode cX7_costOfStanding 61 = .ok (.ireturn, 1) := by decide +kernel
theorem dX7_costsOf_0 : decode cX7_costsOf 0 = .ok (.aload_n 0, 1) := by decide +kernel
theorem dX7_costsOf_1 : decode cX7_costsOf 1 = .ok (.getfield 26, 3) := by decide +kernel
theorem dX7_costsOf_4 : decode cX7_costsOf 4 = .ok (.iload_n 1, 1) := by decide +kernel
theorem dX7_costsOf_5 : decode cX7_costsOf 5 = .ok (.iaload, 1) := by decide +kernel
theorem dX7_costsOf_6 : decode cX7_costsOf 6 = .ok (.istore_n 3, 1) := by decide +kernel
theorem dX7_costsOf_7 : decode cX7_costsOf 7 = .ok (.iload_n 3, 1) := by decide +kernel
theorem dX7_costsOf_8 : decode cX7_costsOf 8 = .ok (.iconst 2, 1) := by decide +kernel
theorem dX7_costsOf_9 : decode cX7_costsOf 9 = .ok (.if_icmp .ne 9, 3) := by decide +kernel
theorem dX7_costsOf_12 : decode cX7_costsOf 12 = .ok (.iconst 2, 1) := by decide +kernel
theorem dX7_costsOf_13 : decode cX7_costsOf 13 = .ok (.iload_n 2, 1) := by decide +kernel
theorem dX7_costsOf_14 : decode cX7_costsOf 14 = .ok (.imul, 1) := by decide +kernel
theorem dX7_costsOf_15 : decode cX7_costsOf 15 = .ok (.goto 44, 3) := by decide +kernel
theorem dX7_costsOf_18 : decode cX7_costsOf 18 = .ok (.iload_n 3, 1) := by decide +kernel
theorem dX7_costsOf_19 : decode cX7_costsOf 19 = .ok (.iconst 4, 1) := by decide +kernel
theorem dX7_costsOf_20 : decode cX7_costsOf 20 = .ok (.if_icmp .ne 16, 3) := by decide +kernel
theorem dX7_costsOf_23 : decode cX7_costsOf 23 = .ok (.iconst 2, 1) := by decide +kernel
theorem dX7_costsOf_24 : decode cX7_costsOf 24 = .ok (.iload_n 2, 1) := by decide +kernel
theorem dX7_costsOf_25 : decode cX7_costsOf 25 = .ok (.imul, 1) := by decide +kernel
theorem dX7_costsOf_26 : decode cX7_costsOf 26 = .ok (.aload_n 0, 1) := by decide +kernel
theorem dX7_costsOf_27 : decode cX7_costsOf 27 = .ok (.getfield 32, 3) := by decide +kernel
theorem dX7_costsOf_30 : decode cX7_costsOf 30 = .ok (.iload_n 1, 1) := by decide +kernel
theorem dX7_costsOf_31 : decode cX7_costsOf 31 = .ok (.iaload, 1) := by decide +kernel
theorem dX7_costsOf_32 : decode cX7_costsOf 32 = .ok (.iadd, 1) := by decide +kernel
theorem dX7_costsOf_33 : decode cX7_costsOf 33 = .ok (.goto 26, 3) := by decide +kernel
theorem dX7_costsOf_36 : decode cX7_costsOf 36 = .ok (.iload_n 3, 1) := by decide +kernel
theorem dX7_costsOf_37 : decode cX7_costsOf 37 = .ok (.iconst 3, 1) := by decide +kernel
theorem dX7_costsOf_38 : decode cX7_costsOf 38 = .ok (.if_icmp .ne 9, 3) := by decide +kernel
theorem dX7_costsOf_41 : decode cX7_costsOf 41 = .ok (.iload_n 2, 1) := by decide +kernel
theorem dX7_costsOf_42 : decode cX7_costsOf 42 = .ok (.iconst 1, 1) := by decide +kernel
theorem dX7_costsOf_43 : decode cX7_costsOf 43 = .ok (.isub, 1) := by decide +kernel
theorem dX7_costsOf_44 : decode cX7_costsOf 44 = .ok (.goto 15, 3) := by decide +kernel
theorem dX7_costsOf_47 : decode cX7_costsOf 47 = .ok (.iload_n 3, 1) := by decide +kernel
theorem dX7_costsOf_48 : decode cX7_costsOf 48 = .ok (.iconst 5, 1) := by decide +kernel
theorem dX7_costsOf_49 : decode cX7_costsOf 49 = .ok (.if_icmp .ne 9, 3) := by decide +kernel
theorem dX7_costsOf_52 : decode cX7_costsOf 52 = .ok (.iload_n 2, 1) := by decide +kernel
theorem dX7_costsOf_53 : decode cX7_costsOf 53 = .ok (.iconst 2, 1) := by decide +kernel
theorem dX7_costsOf_54 : decode cX7_costsOf 54 = .ok (.idiv, 1) := by decide +kernel
theorem dX7_costsOf_55 : decode cX7_costsOf 55 = .ok (.goto 4, 3) := by decide +kernel
theorem dX7_costsOf_58 : decode cX7_costsOf 58 = .ok (.iload_n 2, 1) := by decide +kernel
theorem dX7_costsOf_59 : decode cX7_costsOf 59 = .ok (.istore 4, 2) := by decide +kernel
theorem dX7_costsOf_61 : decode cX7_costsOf 61 = .ok (.iload 4, 2) := by decide +kernel
theorem dX7_costsOf_63 : decode cX7_costsOf 63 = .ok (.ifCond .ge 7, 3) := by decide +kernel
theorem dX7_costsOf_66 : decode cX7_costsOf 66 = .ok (.iconst 0, 1) := by decide +kernel
theorem dX7_costsOf_67 : decode cX7_costsOf 67 = .ok (.goto 5, 3) := by decide +kernel
theorem dX7_costsOf_70 : decode cX7_costsOf 70 = .ok (.iload 4, 2) := by decide +kernel
theorem dX7_costsOf_72 : decode cX7_costsOf 72 = .ok (.ireturn, 1) := by decide +kernel
theorem dX7_count_0 : decode cX7_count 0 = .ok (.iload_n 1, 1) := by decide +kernel
theorem dX7_count_1 : decode cX7_count 1 = .ok (.i2l, 1) := by decide +kernel
theorem dX7_count_2 : decode cX7_count 2 = .ok (.lconst 0, 1) := by decide +kernel
theorem dX7_count_3 : decode cX7_count 3 = .ok (.ldc2_w 356, 3) := by decide +kernel
theorem dX7_count_6 : decode cX7_count 6 = .ok (.invokestatic 91, 3) := by decide +kernel
theorem dX7_count_9 : decode cX7_count 9 = .ok (.ifCond .ne 6, 3) := by decide +kernel
theorem dX7_count_12 : decode cX7_count 12 = .ok (.bipush (-2), 2) := by decide +kernel
theorem dX7_count_14 : decode cX7_count 14 = .ok (.ireturn, 1) := by decide +kernel
theorem dX7_count_15 : decode cX7_count 15 = .ok (.iload_n 1, 1) := by decide +kernel
theorem dX7_count_16 : decode cX7_count 16 = .ok (.ifCond .ne 10, 3) := by decide +kernel
theorem dX7_count_19 : decode cX7_count 19 = .ok (.aload_n 0, 1) := by decide +kernel
theorem dX7_count_20 : decode cX7_count 20 = .ok (.getfield 88, 3) := by decide +kernel
theorem dX7_count_23 : decode cX7_count 23 = .ok (.goto 43, 3) := by decide +kernel
theorem dX7_count_26 : decode cX7_count 26 = .ok (.iload_n 1, 1) := by decide +kernel
theorem dX7_count_27 : decode cX7_count 27 = .ok (.iconst 1, 1) := by decide +kernel
theorem dX7_count_28 : decode cX7_count 28 = .ok (.if_icmp .ne 10, 3) := by decide +kernel
theorem dX7_count_31 : decode cX7_count 31 = .ok (.aload_n 0, 1) := by decide +kernel
theorem dX7_count_32 : decode cX7_count 32 = .ok (.getfield 23, 3) := by decide +kernel
theorem dX7_count_35 : decode cX7_count 35 = .ok (.goto 31, 3) := by decide +kernel
theorem dX7_count_38 : decode cX7_count 38 = .ok (.iload_n 1, 1) := by decide +kernel
theorem dX7_count_39 : decode cX7_count 39 = .ok (.iconst 2, 1) := by decide +kernel
theorem dX7_count_40 : decode cX7_count 40 = .ok (.if_icmp .ne 10, 3) := by decide +kernel
theorem dX7_count_43 : decode cX7_count 43 = .ok (.aload_n 0, 1) := by decide +kernel
theorem dX7_count_44 : decode cX7_count 44 = .ok (.getfield 85, 3) := by decide +kernel
theorem dX7_count_47 : decode cX7_count 47 = .ok (.goto 19, 3) := by decide +kernel
theorem dX7_count_50 : decode cX7_count 50 = .ok (.iload_n 1, 1) := by decide +kernel
theorem dX7_count_51 : decode cX7_count 51 = .ok (.iconst 3, 1) := by decide +kernel
theorem dX7_count_52 : decode cX7_count 52 = .ok (.if_icmp .ne 10, 3) := by decide +kernel
theorem dX7_count_55 : decode cX7_count 55 = .ok (.aload_n 0, 1) := by decide +kernel
theorem dX7_count_56 : decode cX7_count 56 = .ok (.getfield 130, 3) := by decide +kernel
theorem dX7_count_59 : decode cX7_count 59 = .ok (.goto 7, 3) := by decide +kernel
theorem dX7_count_62 : decode cX7_count 62 = .ok (.aload_n 0, 1) := by decide +kernel
theorem dX7_count_63 : decode cX7_count 63 = .ok (.getfield 247, 3) := by decide +kernel
theorem dX7_count_66 : decode cX7_count 66 = .ok (.ireturn, 1) := by decide +kernel
theorem dX7_doesLet_0 : decode cX7_doesLet 0 = .ok (.aload_n 0, 1) := by decide +kernel
theorem dX7_doesLet_1 : decode cX7_doesLet 1 = .ok (.getfield 26, 3) := by decide +kernel
theorem dX7_doesLet_4 : decode cX7_doesLet 4 = .ok (.iload_n 1, 1) := by decide +kernel
theorem dX7_doesLet_5 : decode cX7_doesLet 5 = .ok (.iaload, 1) := by decide +kernel
theorem dX7_doesLet_6 : decode cX7_doesLet 6 = .ok (.istore_n 3, 1) := by decide +kernel
theorem dX7_doesLet_7 : decode cX7_doesLet 7 = .ok (.aload_n 0, 1) := by decide +kernel
theorem dX7_doesLet_8 : decode cX7_doesLet 8 = .ok (.getfield 32, 3) := by decide +kernel
theorem dX7_doesLet_11 : decode cX7_doesLet 11 = .ok (.iload_n 2, 1) := by decide +kernel
theorem dX7_doesLet_12 : decode cX7_doesLet 12 = .ok (.iaload, 1) := by decide +kernel
theorem dX7_doesLet_13 : decode cX7_doesLet 13 = .ok (.istore 4, 2) := by decide +kernel
theorem dX7_doesLet_15 : decode cX7_doesLet 15 = .ok (.iload_n 3, 1) := by decide +kernel
theorem dX7_doesLet_16 : decode cX7_doesLet 16 = .ok (.ifCond .eq 13, 3) := by decide +kernel
theorem dX7_doesLet_19 : decode cX7_doesLet 19 = .ok (.iload_n 3, 1) := by decide +kernel
theorem dX7_doesLet_20 : decode cX7_doesLet 20 = .ok (.iconst 2, 1) := by decide +kernel
theorem dX7_doesLet_21 : decode cX7_doesLet 21 = .ok (.if_icmp .eq 8, 3) := by decide +kernel
theorem dX7_doesLet_24 : decode cX7_doesLet 24 = .ok (.iload_n 3, 1) := by decide +kernel
theorem dX7_doesLet_25 : decode cX7_doesLet 25 = .ok (.iconst 4, 1) := by decide +kernel
theorem dX7_doesLet_26 : decode cX7_doesLet 26 = .ok (.if_icmp .ne 5, 3) := by decide +kernel
theorem dX7_doesLet_29 : decode cX7_doesLet 29 = .ok (.iconst 0, 1) := by decide +kernel
theorem dX7_doesLet_30 : decode cX7_doesLet 30 = .ok (.ireturn, 1) := by decide +kernel
theorem dX7_doesLet_31 : decode cX7_doesLet 31 = .ok (.iload 4, 2) := by decide +kernel
theorem dX7_doesLet_33 : decode cX7_doesLet 33 = .ok (.aload_n 0, 1) := by decide +kernel
theorem dX7_doesLet_34 : decode cX7_doesLet 34 = .ok (.getfield 29, 3) := by decide +kernel
theorem dX7_doesLet_37 : decode cX7_doesLet 37 = .ok (.iload_n 1, 1) := by decide +kernel
theorem dX7_doesLet_38 : decode cX7_doesLet 38 = .ok (.iaload, 1) := by decide +kernel
theorem dX7_doesLet_39 : decode cX7_doesLet 39 = .ok (.if_icmp .ge 5, 3) := by decide +kernel
theorem dX7_doesLet_42 : decode cX7_doesLet 42 = .ok (.iconst 1, 1) := by decide +kernel
theorem dX7_doesLet_43 : decode cX7_doesLet 43 = .ok (.ireturn, 1) := by decide +kernel
theorem dX7_doesLet_44 : decode cX7_doesLet 44 = .ok (.iload_n 3, 1) := by decide +kernel
theorem dX7_doesLet_45 : decode cX7_doesLet 45 = .ok (.iconst 3, 1) := by decide +kernel
theorem dX7_doesLet_46 : decode cX7_doesLet 46 = .ok (.if_icmp .ne 14, 3) := by decide +kernel
theorem dX7_doesLet_49 : decode cX7_doesLet 49 = .ok (.aload_n 0, 1) := by decide +kernel
theorem dX7_doesLet_50 : decode cX7_doesLet 50 = .ok (.getfield 41, 3) := by decide +kernel
theorem dX7_doesLet_53 : decode cX7_doesLet 53 = .ok (.iload_n 1, 1) := by decide +kernel
theorem dX7_doesLet_54 : decode cX7_doesLet 54 = .ok (.iaload, 1) := by decide +kernel
theorem dX7_doesLet_55 : decode cX7_doesLet 55 = .ok (.iconst 2, 1) := by decide +kernel
theorem dX7_doesLet_56 : decode cX7_doesLet 56 = .ok (.idiv, 1) := by decide +kernel
theorem dX7_doesLet_57 : decode cX7_doesLet 57 = .ok (.ifCond .eq 22, 3) := by decide +kernel
theorem dX7_doesLet_60 : decode cX7_doesLet 60 = .ok (.iload_n 3, 1) := by decide +kernel
theorem dX7_doesLet_61 : decode cX7_doesLet 61 = .ok (.iconst 5, 1) := by decide +kernel
theorem dX7_doesLet_62 : decode cX7_doesLet 62 = .ok (.if_icmp .ne 21, 3) := by decide +kernel
theorem dX7_doesLet_65 : decode cX7_doesLet 65 = .ok (.iload 4, 2) := by decide +kernel
theorem dX7_doesLet_67 : decode cX7_doesLet 67 = .ok (.aload_n 0, 1) := by decide +kernel
theorem dX7_doesLet_68 : decode cX7_doesLet 68 = .ok (.getfield 32, 3) := by decide +kernel
theorem dX7_doesLet_71 : decode cX7_doesLet 71 = .ok (.iload_n 1, 1) := by decide +kernel
theorem dX7_doesLet_72 : decode cX7_doesLet 72 = .ok (.iaload, 1) := by decide +kernel
theorem dX7_doesLet_73 : decode cX7_doesLet 73 = .ok (.iadd, 1) := by decide +kernel
theorem dX7_doesLet_74 : decode cX7_doesLet 74 = .ok (.bipush 10, 2) := by decide +kernel
theorem dX7_doesLet_76 : decode cX7_doesLet 76 = .ok (.if_icmp .ge 7, 3) := by decide +kernel
theorem dX7_doesLet_79 : decode cX7_doesLet 79 = .ok (.iconst 1, 1) := by decide +kernel
theorem dX7_doesLet_80 : decode cX7_doesLet 80 = .ok (.goto 4, 3) := by decide +kernel
theorem dX7_doesLet_83 : decode cX7_doesLet 83 = .ok (.iconst 0, 1) := by decide +kernel
theorem dX7_doesLet_84 : decode cX7_doesLet 84 = .ok (.ireturn, 1) := by decide +kernel
theorem dX7_drawn_0 : decode cX7_drawn 0 = .ok (.aload_n 0, 1) := by decide +kernel
theorem dX7_drawn_1 : decode cX7_drawn 1 = .ok (.iload_n 1, 1) := by decide +kernel
theorem dX7_drawn_2 : decode cX7_drawn 2 = .ok (.invokevirtual 345, 3) := by decide +kernel
theorem dX7_drawn_5 : decode cX7_drawn 5 = .ok (.ireturn, 1) := by decide +kernel
theorem dX7_draws_0 : decode cX7_draws 0 = .ok (.aload_n 0, 1) := by decide +kernel
theorem dX7_draws_1 : decode cX7_draws 1 = .ok (.aload_n 0, 1) := by decide +kernel
theorem dX7_draws_2 : decode cX7_draws 2 = .ok (.invokevirtual 291, 3) := by decide +kernel
theorem dX7_draws_5 : decode cX7_draws 5 = .ok (.invokevirtual 294, 3) := by decide +kernel
theorem dX7_draws_8 : decode cX7_draws 8 = .ok (.aload_n 0, 1) := by decide +kernel
theorem dX7_draws_9 : decode cX7_draws 9 = .ok (.invokevirtual 313, 3) := by decide +kernel
theorem dX7_draws_12 : decode cX7_draws 12 = .ok (.iload_n 1, 1) := by decide +kernel
theorem dX7_draws_13 : decode cX7_draws 13 = .ok (.istore_n 2, 1) := by decide +kernel
theorem dX7_draws_14 : decode cX7_draws 14 = .ok (.iconst 0, 1) := by decide +kernel
theorem dX7_draws_15 : decode cX7_draws 15 = .ok (.istore_n 3, 1) := by decide +kernel
theorem dX7_draws_16 : decode cX7_draws 16 = .ok (.iload_n 3, 1) := by decide +kernel
theorem dX7_draws_17 : decode cX7_draws 17 = .ok (.aload_n 0, 1) := by decide +kernel
theorem dX7_draws_18 : decode cX7_draws 18 = .ok (.getfield 88, 3) := by decide +kernel
theorem dX7_draws_21 : decode cX7_draws 21 = .ok (.if_icmp .ge 62, 3) := by decide +kernel
theorem dX7_draws_24 : decode cX7_draws 24 = .ok (.iload_n 2, 1) := by decide +kernel
theorem dX7_draws_25 : decode cX7_draws 25 = .ok (.ldc_w 344, 3) := by decide +kernel
theorem dX7_draws_28 : decode cX7_draws 28 = .ok (.imul, 1) := by decide +kernel
theorem dX7_draws_29 : decode cX7_draws 29 = .ok (.sipush 12345, 3) := by decide +kernel
theorem dX7_draws_32 : decode cX7_draws 32 = .ok (.iadd, 1) := by decide +kernel
theorem dX7_draws_33 : decode cX7_draws 33 = .ok (.istore_n 2, 1) := by decide +kernel
theorem dX7_draws_34 : decode cX7_draws 34 = .ok (.aload_n 0, 1) := by decide +kernel
theorem dX7_draws_35 : decode cX7_draws 35 = .ok (.getfield 41, 3) := by decide +kernel
theorem dX7_draws_38 : decode cX7_draws 38 = .ok (.iload_n 3, 1) := by decide +kernel
theorem dX7_draws_39 : decode cX7_draws 39 = .ok (.iload_n 2, 1) := by decide +kernel
theorem dX7_draws_40 : decode cX7_draws 40 = .ok (.bipush 9, 2) := by decide +kernel
theorem dX7_draws_42 : decode cX7_draws 42 = .ok (.iushr, 1) := by decide +kernel
theorem dX7_draws_43 : decode cX7_draws 43 = .ok (.bipush 6, 2) := by decide +kernel
theorem dX7_draws_45 : decode cX7_draws 45 = .ok (.irem, 1) := by decide +kernel
theorem dX7_draws_46 : decode cX7_draws 46 = .ok (.iastore, 1) := by decide +kernel
theorem dX7_draws_47 : decode cX7_draws 47 = .ok (.aload_n 0, 1) := by decide +kernel
theorem dX7_draws_48 : decode cX7_draws 48 = .ok (.iload_n 3, 1) := by decide +kernel
theorem dX7_draws_49 : decode cX7_draws 49 = .ok (.iconst 1, 1) := by decide +kernel
theorem dX7_draws_50 : decode cX7_draws 50 = .ok (.iadd, 1) := by decide +kernel
theorem dX7_draws_51 : decode cX7_draws 51 = .ok (.invokevirtual 101, 3) := by decide +kernel
theorem dX7_draws_54 : decode cX7_draws 54 = .ok (.ifCond .eq 23, 3) := by decide +kernel
theorem dX7_draws_57 : decode cX7_draws 57 = .ok (.aload_n 0, 1) := by decide +kernel
theorem dX7_draws_58 : decode cX7_draws 58 = .ok (.getfield 41, 3) := by decide +kernel
theorem dX7_draws_61 : decode cX7_draws 61 = .ok (.iload_n 3, 1) := by decide +kernel
theorem dX7_draws_62 : decode cX7_draws 62 = .ok (.aload_n 0, 1) := by decide +kernel
theorem dX7_draws_63 : decode cX7_draws 63 = .ok (.getfield 41, 3) := by decide +kernel
theorem dX7_draws_66 : decode cX7_draws 66 = .ok (.iload_n 3, 1) := by decide +kernel
theorem dX7_draws_67 : decode cX7_draws 67 = .ok (.iaload, 1) := by decide +kernel
theorem dX7_draws_68 : decode cX7_draws 68 = .ok (.iconst 1, 1) := by decide +kernel
theorem dX7_draws_69 : decode cX7_draws 69 = .ok (.iadd, 1) := by decide +kernel
theorem dX7_draws_70 : decode cX7_draws 70 = .ok (.bipush 6, 2) := by decide +kernel
theorem dX7_draws_72 : decode cX7_draws 72 = .ok (.irem, 1) := by decide +kernel
theorem dX7_draws_73 : decode cX7_draws 73 = .ok (.iastore, 1) := by decide +kernel
theorem dX7_draws_74 : decode cX7_draws 74 = .ok (.goto (-27), 3) := by decide +kernel
theorem dX7_draws_77 : decode cX7_draws 77 = .ok (.iinc 3 1, 3) := by decide +kernel
theorem dX7_draws_80 : decode cX7_draws 80 = .ok (.goto (-64), 3) := by decide +kernel
theorem dX7_draws_83 : decode cX7_draws 83 = .ok (.aload_n 0, 1) := by decide +kernel
theorem dX7_draws_84 : decode cX7_draws 84 = .ok (.invokevirtual 298, 3) := by decide +kernel
theorem dX7_draws_87 : decode cX7_draws 87 = .ok (.istore_n 3, 1) := by decide +kernel
theorem dX7_draws_88 : decode cX7_draws 88 = .ok (.aload_n 0, 1) := by decide +kernel
theorem dX7_draws_89 : decode cX7_draws 89 = .ok (.invokevirtual 316, 3) := by decide +kernel
theorem dX7_draws_92 : decode cX7_draws 92 = .ok (.iload_n 3, 1) := by decide +kernel
theorem dX7_draws_93 : decode cX7_draws 93 = .ok (.ireturn, 1) := by decide +kernel
theorem dX7_either_0 : decode cX7_either 0 = .ok (.aload_n 0, 1) := by decide +kernel
theorem dX7_either_1 : decode cX7_either 1 = .ok (.invokevirtual 237, 3) := by decide +kernel
theorem dX7_either_4 : decode cX7_either 4 = .ok (.istore_n 1, 1) := by decide +kernel
theorem dX7_either_5 : decode cX7_either 5 = .ok (.aload_n 0, 1) := by decide +kernel
theorem dX7_either_6 : decode cX7_either 6 = .ok (.bipush 111, 2) := by decide +kernel
theorem dX7_either_8 : decode cX7_either 8 = .ok (.bipush 114, 2) := by decide +kernel
theorem dX7_either_10 : decode cX7_either 10 = .ok (.iconst 0, 1) := by decide +kernel
theorem dX7_either_11 : decode cX7_either 11 = .ok (.iconst 0, 1) := by decide +kernel
theorem dX7_either_12 : decode cX7_either 12 = .ok (.iconst 0, 1) := by decide +kernel
theorem dX7_either_13 : decode cX7_either 13 = .ok (.iconst 0, 1) := by decide +kernel
theorem dX7_either_14 : decode cX7_either 14 = .ok (.iconst 0, 1) := by decide +kernel
theorem dX7_either_15 : decode cX7_either 15 = .ok (.iconst 0, 1) := by decide +kernel
theorem dX7_either_16 : decode cX7_either 16 = .ok (.invokevirtual 185, 3) := by decide +kernel
theorem dX7_either_19 : decode cX7_either 19 = .ok (.ifCond .eq 29, 3) := by decide +kernel
theorem dX7_either_22 : decode cX7_either 22 = .ok (.aload_n 0, 1) := by decide +kernel
theorem dX7_either_23 : decode cX7_either 23 = .ok (.invokevirtual 182, 3) := by decide +kernel
theorem dX7_either_26 : decode cX7_either 26 = .ok (.aload_n 0, 1) := by decide +kernel
theorem dX7_either_27 : decode cX7_either 27 = .ok (.invokevirtual 237, 3) := by decide +kernel
theorem dX7_either_30 : decode cX7_either 30 = .ok (.istore_n 2, 1) := by decide +kernel
theorem dX7_either_31 : decode cX7_either 31 = .ok (.iload_n 1, 1) := by decide +kernel
theorem dX7_either_32 : decode cX7_either 32 = .ok (.ifCond .ne 7, 3) := by decide +kernel
theorem dX7_either_35 : decode cX7_either 35 = .ok (.iload_n 2, 1) := by decide +kernel
theorem dX7_either_36 : decode cX7_either 36 = .ok (.ifCond .eq 7, 3) := by decide +kernel
theorem dX7_either_39 : decode cX7_either 39 = .ok (.iconst 1, 1) := by decide +kernel
theorem dX7_either_40 : decode cX7_either 40 = .ok (.goto 4, 3) := by decide +kernel
theorem dX7_either_43 : decode cX7_either 43 = .ok (.iconst 0, 1) := by decide +kernel
theorem dX7_either_44 : decode cX7_either 44 = .ok (.istore_n 1, 1) := by decide +kernel
theorem dX7_either_45 : decode cX7_either 45 = .ok (.goto (-40), 3) := by decide +kernel
theorem dX7_either_48 : decode cX7_either 48 = .ok (.iload_n 1, 1) := by decide +kernel
theorem dX7_either_49 : decode cX7_either 49 = .ok (.ireturn, 1) := by decide +kernel
theorem dX7_fail_0 : decode cX7_fail 0 = .ok (.aload_n 0, 1) := by decide +kernel
theorem dX7_fail_1 : decode cX7_fail 1 = .ok (.getfield 166, 3) := by decide +kernel
theorem dX7_fail_4 : decode cX7_fail 4 = .ok (.ifCond .ne 16, 3) := by decide +kernel
theorem dX7_fail_7 : decode cX7_fail 7 = .ok (.aload_n 0, 1) := by decide +kernel
theorem dX7_fail_8 : decode cX7_fail 8 = .ok (.iconst 1, 1) := by decide +kernel
theorem dX7_fail_9 : decode cX7_fail 9 = .ok (.putfield 166, 3) := by decide +kernel
theorem dX7_fail_12 : decode cX7_fail 12 = .ok (.aload_n 0, 1) := by decide +kernel
theorem dX7_fail_13 : decode cX7_fail 13 = .ok (.aload_n 0, 1) := by decide +kernel
theorem dX7_fail_14 : decode cX7_fail 14 = .ok (.getfield 146, 3) := by decide +kernel
theorem dX7_fail_17 : decode cX7_fail 17 = .ok (.putfield 170, 3) := by decide +kernel
theorem dX7_fail_20 : decode cX7_fail 20 = .ok (.return_, 1) := by decide +kernel
theorem dX7_feed_0 : decode cX7_feed 0 = .ok (.iload_n 1, 1) := by decide +kernel
theorem dX7_feed_1 : decode cX7_feed 1 = .ok (.i2l, 1) := by decide +kernel
theorem dX7_feed_2 : decode cX7_feed 2 = .ok (.lconst 0, 1) := by decide +kernel
theorem dX7_feed_3 : decode cX7_feed 3 = .ok (.ldc2_w 128, 3) := by decide +kernel
theorem dX7_feed_6 : decode cX7_feed 6 = .ok (.invokestatic 91, 3) := by decide +kernel
theorem dX7_feed_9 : decode cX7_feed 9 = .ok (.ifCond .ne 6, 3) := by decide +kernel
theorem dX7_feed_12 : decode cX7_feed 12 = .ok (.bipush (-2), 2) := by decide +kernel
theorem dX7_feed_14 : decode cX7_feed 14 = .ok (.ireturn, 1) := by decide +kernel
theorem dX7_feed_15 : decode cX7_feed 15 = .ok (.aload_n 0, 1) := by decide +kernel
theorem dX7_feed_16 : decode cX7_feed 16 = .ok (.getfield 130, 3) := by decide +kernel
theorem dX7_feed_19 : decode cX7_feed 19 = .ok (.sipush 160, 3) := by decide +kernel
theorem dX7_feed_22 : decode cX7_feed 22 = .ok (.if_icmp .ne 6, 3) := by decide +kernel
theorem dX7_feed_25 : decode cX7_feed 25 = .ok (.bipush (-4), 2) := by decide +kernel
theorem dX7_feed_27 : decode cX7_feed 27 = .ok (.ireturn, 1) := by decide +kernel
theorem dX7_feed_28 : decode cX7_feed 28 = .ok (.aload_n 0, 1) := by decide +kernel
theorem dX7_feed_29 : decode cX7_feed 29 = .ok (.getfield 20, 3) := by decide +kernel
theorem dX7_feed_32 : decode cX7_feed 32 = .ok (.aload_n 0, 1) := by decide +kernel
theorem dX7_feed_33 : decode cX7_feed 33 = .ok (.getfield 130, 3) := by decide +kernel
theorem dX7_feed_36 : decode cX7_feed 36 = .ok (.iload_n 1, 1) := by decide +kernel
theorem dX7_feed_37 : decode cX7_feed 37 = .ok (.iastore, 1) := by decide +kernel
theorem dX7_feed_38 : decode cX7_feed 38 = .ok (.aload_n 0, 1) := by decide +kernel
theorem dX7_feed_39 : decode cX7_feed 39 = .ok (.dup, 1) := by decide +kernel
theorem dX7_feed_40 : decode cX7_feed 40 = .ok (.getfield 130, 3) := by decide +kernel
theorem dX7_feed_43 : decode cX7_feed 43 = .ok (.iconst 1, 1) := by decide +kernel
theorem dX7_feed_44 : decode cX7_feed 44 = .ok (.iadd, 1) := by decide +kernel
theorem dX7_feed_45 : decode cX7_feed 45 = .ok (.putfield 130, 3) := by decide +kernel
theorem dX7_feed_48 : decode cX7_feed 48 = .ok (.aload_n 0, 1) := by decide +kernel
theorem dX7_feed_49 : decode cX7_feed 49 = .ok (.getfield 130, 3) := by decide +kernel
theorem dX7_feed_52 : decode cX7_feed 52 = .ok (.ireturn, 1) := by decide +kernel
theorem dX7_film_0 : decode cX7_film 0 = .ok (.iload_n 1, 1) := by decide +kernel
theorem dX7_film_1 : decode cX7_film 1 = .ok (.invokestatic 329, 3) := by decide +kernel
theorem dX7_film_4 : decode cX7_film 4 = .ok (.ifCond .eq 15, 3) := by decide +kernel
theorem dX7_film_7 : decode cX7_film 7 = .ok (.iload_n 2, 1) := by decide +kernel
theorem dX7_film_8 : decode cX7_film 8 = .ok (.i2l, 1) := by decide +kernel
theorem dX7_film_9 : decode cX7_film 9 = .ok (.lconst 0, 1) := by decide +kernel
theorem dX7_film_10 : decode cX7_film 10 = .ok (.ldc2_w 164, 3) := by decide +kernel
theorem dX7_film_13 : decode cX7_film 13 = .ok (.invokestatic 91, 3) := by decide +kernel
theorem dX7_film_16 : decode cX7_film 16 = .ok (.ifCond .ne 6, 3) := by decide +kernel
theorem dX7_film_19 : decode cX7_film 19 = .ok (.bipush (-2), 2) := by decide +kernel
theorem dX7_film_21 : decode cX7_film 21 = .ok (.ireturn, 1) := by decide +kernel
theorem dX7_film_22 : decode cX7_film 22 = .ok (.aload_n 0, 1) := by decide +kernel
theorem dX7_film_23 : decode cX7_film 23 = .ok (.aload_n 0, 1) := by decide +kernel
theorem dX7_film_24 : decode cX7_film 24 = .ok (.invokevirtual 291, 3) := by decide +kernel
theorem dX7_film_27 : decode cX7_film 27 = .ok (.putfield 254, 3) := by decide +kernel
theorem dX7_film_30 : decode cX7_film 30 = .ok (.aload_n 0, 1) := by decide +kernel
theorem dX7_film_31 : decode cX7_film 31 = .ok (.iload_n 1, 1) := by decide +kernel
theorem dX7_film_32 : decode cX7_film 32 = .ok (.iconst 0, 1) := by decide +kernel
theorem dX7_film_33 : decode cX7_film 33 = .ok (.iload_n 2, 1) := by decide +kernel
theorem dX7_film_34 : decode cX7_film 34 = .ok (.invokevirtual 341, 3) := by decide +kernel
theorem dX7_film_37 : decode cX7_film 37 = .ok (.pop, 1) := by decide +kernel
theorem dX7_film_38 : decode cX7_film 38 = .ok (.iconst 0, 1) := by decide +kernel
theorem dX7_film_39 : decode cX7_film 39 = .ok (.istore_n 3, 1) := by decide +kernel
theorem dX7_film_40 : decode cX7_film 40 = .ok (.iload_n 3, 1) := by decide +kernel
theorem dX7_film_41 : decode cX7_film 41 = .ok (.iload_n 2, 1) := by decide +kernel
theorem dX7_film_42 : decode cX7_film 42 = .ok (.if_icmp .ge 25, 3) := by decide +kernel
theorem dX7_film_45 : decode cX7_film 45 = .ok (.aload_n 0, 1) := by decide +kernel
theorem dX7_film_46 : decode cX7_film 46 = .ok (.getfield 78, 3) := by decide +kernel
theorem dX7_film_49 : decode cX7_film 49 = .ok (.bipush 40, 2) := by decide +kernel
theorem dX7_film_51 : decode cX7_film 51 = .ok (.iload_n 1, 1) := by decide +kernel
theorem dX7_film_52 : decode cX7_film 52 = .ok (.imul, 1) := by decide +kernel
theorem dX7_film_53 : decode cX7_film 53 = .ok (.iload_n 3, 1) := by decide +kernel
theorem dX7_film_54 : decode cX7_film 54 = .ok (.iadd, 1) := by decide +kernel
theorem dX7_film_55 : decode cX7_film 55 = .ok (.aload_n 0, 1) := by decide +kernel
theorem dX7_film_56 : decode cX7_film 56 = .ok (.iload_n 3, 1) := by decide +kernel
theorem dX7_film_57 : decode cX7_film 57 = .ok (.invokevirtual 285, 3) := by decide +kernel
theorem dX7_film_60 : decode cX7_film 60 = .ok (.iastore, 1) := by decide +kernel
theorem dX7_film_61 : decode cX7_film 61 = .ok (.iinc 3 1, 3) := by decide +kernel
theorem dX7_film_64 : decode cX7_film 64 = .ok (.goto (-24), 3) := by decide +kernel
theorem dX7_film_67 : decode cX7_film 67 = .ok (.iload_n 2, 1) := by decide +kernel
theorem dX7_film_68 : decode cX7_film 68 = .ok (.ireturn, 1) := by decide +kernel
theorem dX7_floor_0 : decode cX7_floor 0 = .ok (.iload_n 1, 1) := by decide +kernel
theorem dX7_floor_1 : decode cX7_floor 1 = .ok (.i2l, 1) := by decide +kernel
theorem dX7_floor_2 : decode cX7_floor 2 = .ok (.lconst 0, 1) := by decide +kernel
theorem dX7_floor_3 : decode cX7_floor 3 = .ok (.ldc2_w 112, 3) := by decide +kernel
theorem dX7_floor_6 : decode cX7_floor 6 = .ok (.invokestatic 91, 3) := by decide +kernel
theorem dX7_floor_9 : decode cX7_floor 9 = .ok (.ifCond .eq 15, 3) := by decide +kernel
theorem dX7_floor_12 : decode cX7_floor 12 = .ok (.iload_n 2, 1) := by decide +kernel
theorem dX7_floor_13 : decode cX7_floor 13 = .ok (.i2l, 1) := by decide +kernel
theorem dX7_floor_14 : decode cX7_floor 14 = .ok (.lconst 0, 1) := by decide +kernel
theorem dX7_floor_15 : decode cX7_floor 15 = .ok (.ldc2_w 108, 3) := by decide +kernel
theorem dX7_floor_18 : decode cX7_floor 18 = .ok (.invokestatic 91, 3) := by decide +kernel
theorem dX7_floor_21 : decode cX7_floor 21 = .ok (.ifCond .ne 6, 3) := by decide +kernel
theorem dX7_floor_24 : decode cX7_floor 24 = .ok (.bipush (-2), 2) := by decide +kernel
theorem dX7_floor_26 : decode cX7_floor 26 = .ok (.ireturn, 1) := by decide +kernel
theorem dX7_floor_27 : decode cX7_floor 27 = .ok (.aload_n 0, 1) := by decide +kernel
theorem dX7_floor_28 : decode cX7_floor 28 = .ok (.aload_n 0, 1) := by decide +kernel
theorem dX7_floor_29 : decode cX7_floor 29 = .ok (.invokevirtual 291, 3) := by decide +kernel
theorem dX7_floor_32 : decode cX7_floor 32 = .ok (.invokevirtual 294, 3) := by decide +kernel
theorem dX7_floor_35 : decode cX7_floor 35 = .ok (.aload_n 0, 1) := by decide +kernel
theorem dX7_floor_36 : decode cX7_floor 36 = .ok (.iload_n 1, 1) := by decide +kernel
theorem dX7_floor_37 : decode cX7_floor 37 = .ok (.invokevirtual 285, 3) := by decide +kernel
theorem dX7_floor_40 : decode cX7_floor 40 = .ok (.istore_n 3, 1) := by decide +kernel
theorem dX7_floor_41 : decode cX7_floor 41 = .ok (.iload_n 2, 1) := by decide +kernel
theorem dX7_floor_42 : decode cX7_floor 42 = .ok (.iconst 2, 1) := by decide +kernel
theorem dX7_floor_43 : decode cX7_floor 43 = .ok (.if_icmp .ge 18, 3) := by decide +kernel
theorem dX7_floor_46 : decode cX7_floor 46 = .ok (.iload_n 2, 1) := by decide +kernel
theorem dX7_floor_47 : decode cX7_floor 47 = .ok (.ifCond .ne 7, 3) := by decide +kernel
theorem dX7_floor_50 : decode cX7_floor 50 = .ok (.iload_n 3, 1) := by decide +kernel
theorem dX7_floor_51 : decode cX7_floor 51 = .ok (.goto 9, 3) := by decide +kernel
theorem dX7_floor_54 : decode cX7_floor 54 = .ok (.aload_n 0, 1) := by decide +kernel
theorem dX7_floor_55 : decode cX7_floor 55 = .ok (.iload_n 1, 1) := by decide +kernel
theorem dX7_floor_56 : decode cX7_floor 56 = .ok (.iload_n 3, 1) := by decide +kernel
theorem dX7_floor_57 : decode cX7_floor 57 = .ok (.invokevirtual 288, 3) := by decide +kernel
theorem dX7_floor_60 : decode cX7_floor 60 = .ok (.ireturn, 1) := by decide +kernel
theorem dX7_floor_61 : decode cX7_floor 61 = .ok (.iconst 0, 1) := by decide +kernel
theorem dX7_floor_62 : decode cX7_floor 62 = .ok (.istore 4, 2) := by decide +kernel
theorem dX7_floor_64 : decode cX7_floor 64 = .ok (.iconst 0, 1) := by decide +kernel
theorem dX7_floor_65 : decode cX7_floor 65 = .ok (.istore 5, 2) := by decide +kernel
theorem dX7_floor_67 : decode cX7_floor 67 = .ok (.iload 5, 2) := by decide +kernel
theorem dX7_floor_69 : decode cX7_floor 69 = .ok (.aload_n 0, 1) := by decide +kernel
theorem dX7_floor_70 : decode cX7_floor 70 = .ok (.getfield 88, 3) := by decide +kernel
theorem dX7_floor_73 : decode cX7_floor 73 = .ok (.if_icmp .ge 44, 3) := by decide +kernel
theorem dX7_floor_76 : decode cX7_floor 76 = .ok (.iload 4, 2) := by decide +kernel
theorem dX7_floor_78 : decode cX7_floor 78 = .ok (.aload_n 0, 1) := by decide +kernel
theorem dX7_floor_79 : decode cX7_floor 79 = .ok (.getfield 35, 3) := by decide +kernel
theorem dX7_floor_82 : decode cX7_floor 82 = .ok (.iload 5, 2) := by decide +kernel
theorem dX7_floor_84 : decode cX7_floor 84 = .ok (.iaload, 1) := by decide +kernel
theorem dX7_floor_85 : decode cX7_floor 85 = .ok (.iload_n 1, 1) := by decide +kernel
theorem dX7_floor_86 : decode cX7_floor 86 = .ok (.if_icmp .gt 18, 3) := by decide +kernel
theorem dX7_floor_89 : decode cX7_floor 89 = .ok (.aload_n 0, 1) := by decide +kernel
theorem dX7_floor_90 : decode cX7_floor 90 = .ok (.getfield 38, 3) := by decide +kernel
theorem dX7_floor_93 : decode cX7_floor 93 = .ok (.iload 5, 2) := by decide +kernel
theorem dX7_floor_95 : decode cX7_floor 95 = .ok (.iaload, 1) := by decide +kernel
theorem dX7_floor_96 : decode cX7_floor 96 = .ok (.iload_n 1, 1) := by decide +kernel
theorem dX7_floor_97 : decode cX7_floor 97 = .ok (.if_icmp .le 7, 3) := by decide +kernel
theorem dX7_floor_100 : decode cX7_floor 100 = .ok (.iconst 1, 1) := by decide +kernel
theorem dX7_floor_101 : decode cX7_floor 101 = .ok (.goto 4, 3) := by decide +kernel
theorem dX7_floor_104 : decode cX7_floor 104 = .ok (.iconst 0, 1) := by decide +kernel
theorem dX7_floor_105 : decode cX7_floor 105 = .ok (.iload 5, 2) := by decide +kernel
theorem dX7_floor_107 : decode cX7_floor 107 = .ok (.ishl, 1) := by decide +kernel
theorem dX7_floor_108 : decode cX7_floor 108 = .ok (.ior, 1) := by decide +kernel
theorem dX7_floor_109 : decode cX7_floor 109 = .ok (.istore 4, 2) := by decide +kernel
theorem dX7_floor_111 : decode cX7_floor 111 = .ok (.iinc 5 1, 3) := by decide +kernel
theorem dX7_floor_114 : decode cX7_floor 114 = .ok (.goto (-47), 3) := by decide +kernel
theorem dX7_floor_117 : decode cX7_floor 117 = .ok (.iload 4, 2) := by decide +kernel
theorem dX7_floor_119 : decode cX7_floor 119 = .ok (.ireturn, 1) := by decide +kernel
theorem dX7_force_0 : decode cX7_force 0 = .ok (.iload_n 1, 1) := by decide +kernel
theorem dX7_force_1 : decode cX7_force 1 = .ok (.i2l, 1) := by decide +kernel
theorem dX7_force_2 : decode cX7_force 2 = .ok (.lconst 0, 1) := by decide +kernel
theorem dX7_force_3 : decode cX7_force 3 = .ok (.aload_n 0, 1) := by decide +kernel
theorem dX7_force_4 : decode cX7_force 4 = .ok (.getfield 85, 3) := by decide +kernel
theorem dX7_force_7 : decode cX7_force 7 = .ok (.iconst 1, 1) := by decide +kernel
theorem dX7_force_8 : decode cX7_force 8 = .ok (.isub, 1) := by decide +kernel
theorem dX7_force_9 : decode cX7_force 9 = .ok (.i2l, 1) := by decide +kernel
theorem dX7_force_10 : decode cX7_force 10 = .ok (.invokestatic 91, 3) := by decide +kernel
theorem dX7_force_13 : decode cX7_force 13 = .ok (.ifCond .ne 6, 3) := by decide +kernel
theorem dX7_force_16 : decode cX7_force 16 = .ok (.bipush (-2), 2) := by decide +kernel
theorem dX7_force_18 : decode cX7_force 18 = .ok (.ireturn, 1) := by decide +kernel
theorem dX7_force_19 : decode cX7_force 19 = .ok (.aload_n 0, 1) := by decide +kernel
theorem dX7_force_20 : decode cX7_force 20 = .ok (.getfield 247, 3) := by decide +kernel
theorem dX7_force_23 : decode cX7_force 23 = .ok (.istore_n 2, 1) := by decide +kernel
end
section
theorem dX7_force_24 : decode cX7_force 24 = .ok (.aload_n 0, 1) := by decide +kernel
theorem dX7_force_25 : decode cX7_force 25 = .ok (.iload_n 1, 1) := by decide +kernel
theorem dX7_force_26 : decode cX7_force 26 = .ok (.putfield 247, 3) := by decide +kernel
theorem dX7_force_29 : decode cX7_force 29 = .ok (.iload_n 2, 1) := by decide +kernel
theorem dX7_force_30 : decode cX7_force 30 = .ok (.ireturn, 1) := by decide +kernel
theorem dX7_gathers_0 : decode cX7_gathers 0 = .ok (.aload_n 0, 1) := by decide +kernel
theorem dX7_gathers_1 : decode cX7_gathers 1 = .ok (.iload_n 1, 1) := by decide +kernel
theorem dX7_gathers_2 : decode cX7_gathers 2 = .ok (.putfield 254, 3) := by decide +kernel
theorem dX7_gathers_5 : decode cX7_gathers 5 = .ok (.iconst 0, 1) := by decide +kernel
theorem dX7_gathers_6 : decode cX7_gathers 6 = .ok (.istore_n 2, 1) := by decide +kernel
theorem dX7_gathers_7 : decode cX7_gathers 7 = .ok (.iload_n 2, 1) := by decide +kernel
theorem dX7_gathers_8 : decode cX7_gathers 8 = .ok (.bipush 10, 2) := by decide +kernel
theorem dX7_gathers_10 : decode cX7_gathers 10 = .ok (.if_icmp .ge 126, 3) := by decide +kernel
theorem dX7_gathers_13 : decode cX7_gathers 13 = .ok (.aload_n 0, 1) := by decide +kernel
theorem dX7_gathers_14 : decode cX7_gathers 14 = .ok (.iload_n 2, 1) := by decide +kernel
theorem dX7_gathers_15 : decode cX7_gathers 15 = .ok (.invokevirtual 257, 3) := by decide +kernel
theorem dX7_gathers_18 : decode cX7_gathers 18 = .ok (.istore_n 3, 1) := by decide +kernel
theorem dX7_gathers_19 : decode cX7_gathers 19 = .ok (.iconst 0, 1) := by decide +kernel
theorem dX7_gathers_20 : decode cX7_gathers 20 = .ok (.istore 4, 2) := by decide +kernel
theorem dX7_gathers_22 : decode cX7_gathers 22 = .ok (.iload 4, 2) := by decide +kernel
theorem dX7_gathers_24 : decode cX7_gathers 24 = .ok (.aload_n 0, 1) := by decide +kernel
theorem dX7_gathers_25 : decode cX7_gathers 25 = .ok (.getfield 88, 3) := by decide +kernel
theorem dX7_gathers_28 : decode cX7_gathers 28 = .ok (.if_icmp .ge 102, 3) := by decide +kernel
theorem dX7_gathers_31 : decode cX7_gathers 31 = .ok (.iconst 0, 1) := by decide +kernel
theorem dX7_gathers_32 : decode cX7_gathers 32 = .ok (.istore 5, 2) := by decide +kernel
theorem dX7_gathers_34 : decode cX7_gathers 34 = .ok (.iload 5, 2) := by decide +kernel
theorem dX7_gathers_36 : decode cX7_gathers 36 = .ok (.iconst 3, 1) := by decide +kernel
theorem dX7_gathers_37 : decode cX7_gathers 37 = .ok (.if_icmp .ge 87, 3) := by decide +kernel
theorem dX7_gathers_40 : decode cX7_gathers 40 = .ok (.aload_n 0, 1) := by decide +kernel
theorem dX7_gathers_41 : decode cX7_gathers 41 = .ok (.getfield 35, 3) := by decide +kernel
theorem dX7_gathers_44 : decode cX7_gathers 44 = .ok (.iload 4, 2) := by decide +kernel
theorem dX7_gathers_46 : decode cX7_gathers 46 = .ok (.iaload, 1) := by decide +kernel
theorem dX7_gathers_47 : decode cX7_gathers 47 = .ok (.iload_n 2, 1) := by decide +kernel
theorem dX7_gathers_48 : decode cX7_gathers 48 = .ok (.if_icmp .gt 76, 3) := by decide +kernel
theorem dX7_gathers_51 : decode cX7_gathers 51 = .ok (.aload_n 0, 1) := by decide +kernel
theorem dX7_gathers_52 : decode cX7_gathers 52 = .ok (.getfield 38, 3) := by decide +kernel
theorem dX7_gathers_55 : decode cX7_gathers 55 = .ok (.iload 4, 2) := by decide +kernel
theorem dX7_gathers_57 : decode cX7_gathers 57 = .ok (.iaload, 1) := by decide +kernel
theorem dX7_gathers_58 : decode cX7_gathers 58 = .ok (.iload_n 2, 1) := by decide +kernel
theorem dX7_gathers_59 : decode cX7_gathers 59 = .ok (.if_icmp .le 65, 3) := by decide +kernel
theorem dX7_gathers_62 : decode cX7_gathers 62 = .ok (.bipush 30, 2) := by decide +kernel
theorem dX7_gathers_64 : decode cX7_gathers 64 = .ok (.iload 4, 2) := by decide +kernel
theorem dX7_gathers_66 : decode cX7_gathers 66 = .ok (.imul, 1) := by decide +kernel
theorem dX7_gathers_67 : decode cX7_gathers 67 = .ok (.iconst 3, 1) := by decide +kernel
theorem dX7_gathers_68 : decode cX7_gathers 68 = .ok (.iload_n 2, 1) := by decide +kernel
theorem dX7_gathers_69 : decode cX7_gathers 69 = .ok (.imul, 1) := by decide +kernel
theorem dX7_gathers_70 : decode cX7_gathers 70 = .ok (.iadd, 1) := by decide +kernel
theorem dX7_gathers_71 : decode cX7_gathers 71 = .ok (.iload 5, 2) := by decide +kernel
theorem dX7_gathers_73 : decode cX7_gathers 73 = .ok (.iadd, 1) := by decide +kernel
theorem dX7_gathers_74 : decode cX7_gathers 74 = .ok (.istore 6, 2) := by decide +kernel
theorem dX7_gathers_76 : decode cX7_gathers 76 = .ok (.aload_n 0, 1) := by decide +kernel
theorem dX7_gathers_77 : decode cX7_gathers 77 = .ok (.getfield 47, 3) := by decide +kernel
theorem dX7_gathers_80 : decode cX7_gathers 80 = .ok (.iload 6, 2) := by decide +kernel
theorem dX7_gathers_82 : decode cX7_gathers 82 = .ok (.aload_n 0, 1) := by decide +kernel
theorem dX7_gathers_83 : decode cX7_gathers 83 = .ok (.iload 4, 2) := by decide +kernel
theorem dX7_gathers_85 : decode cX7_gathers 85 = .ok (.aload_n 0, 1) := by decide +kernel
theorem dX7_gathers_86 : decode cX7_gathers 86 = .ok (.iconst 0, 1) := by decide +kernel
theorem dX7_gathers_87 : decode cX7_gathers 87 = .ok (.iload 4, 2) := by decide +kernel
theorem dX7_gathers_89 : decode cX7_gathers 89 = .ok (.iload_n 2, 1) := by decide +kernel
theorem dX7_gathers_90 : decode cX7_gathers 90 = .ok (.iload 5, 2) := by decide +kernel
theorem dX7_gathers_92 : decode cX7_gathers 92 = .ok (.iload_n 3, 1) := by decide +kernel
theorem dX7_gathers_93 : decode cX7_gathers 93 = .ok (.invokevirtual 260, 3) := by decide +kernel
theorem dX7_gathers_96 : decode cX7_gathers 96 = .ok (.invokevirtual 264, 3) := by decide +kernel
theorem dX7_gathers_99 : decode cX7_gathers 99 = .ok (.iastore, 1) := by decide +kernel
theorem dX7_gathers_100 : decode cX7_gathers 100 = .ok (.aload_n 0, 1) := by decide +kernel
theorem dX7_gathers_101 : decode cX7_gathers 101 = .ok (.getfield 50, 3) := by decide +kernel
theorem dX7_gathers_104 : decode cX7_gathers 104 = .ok (.iload 6, 2) := by decide +kernel
theorem dX7_gathers_106 : decode cX7_gathers 106 = .ok (.aload_n 0, 1) := by decide +kernel
theorem dX7_gathers_107 : decode cX7_gathers 107 = .ok (.iconst 1, 1) := by decide +kernel
theorem dX7_gathers_108 : decode cX7_gathers 108 = .ok (.iload 4, 2) := by decide +kernel
theorem dX7_gathers_110 : decode cX7_gathers 110 = .ok (.iload_n 2, 1) := by decide +kernel
theorem dX7_gathers_111 : decode cX7_gathers 111 = .ok (.iload 5, 2) := by decide +kernel
theorem dX7_gathers_113 : decode cX7_gathers 113 = .ok (.iload_n 3, 1) := by decide +kernel
theorem dX7_gathers_114 : decode cX7_gathers 114 = .ok (.invokevirtual 260, 3) := by decide +kernel
theorem dX7_gathers_117 : decode cX7_gathers 117 = .ok (.iastore, 1) := by decide +kernel
theorem dX7_gathers_118 : decode cX7_gathers 118 = .ok (.iinc 5 1, 3) := by decide +kernel
theorem dX7_gathers_121 : decode cX7_gathers 121 = .ok (.goto (-87), 3) := by decide +kernel
theorem dX7_gathers_124 : decode cX7_gathers 124 = .ok (.iinc 4 1, 3) := by decide +kernel
theorem dX7_gathers_127 : decode cX7_gathers 127 = .ok (.goto (-105), 3) := by decide +kernel
theorem dX7_gathers_130 : decode cX7_gathers 130 = .ok (.iinc 2 1, 3) := by decide +kernel
theorem dX7_gathers_133 : decode cX7_gathers 133 = .ok (.goto (-126), 3) := by decide +kernel
theorem dX7_gathers_136 : decode cX7_gathers 136 = .ok (.iconst 0, 1) := by decide +kernel
theorem dX7_gathers_137 : decode cX7_gathers 137 = .ok (.istore_n 2, 1) := by decide +kernel
theorem dX7_gathers_138 : decode cX7_gathers 138 = .ok (.iload_n 2, 1) := by decide +kernel
theorem dX7_gathers_139 : decode cX7_gathers 139 = .ok (.aload_n 0, 1) := by decide +kernel
theorem dX7_gathers_140 : decode cX7_gathers 140 = .ok (.getfield 88, 3) := by decide +kernel
theorem dX7_gathers_143 : decode cX7_gathers 143 = .ok (.if_icmp .ge 46, 3) := by decide +kernel
theorem dX7_gathers_146 : decode cX7_gathers 146 = .ok (.iconst 0, 1) := by decide +kernel
theorem dX7_gathers_147 : decode cX7_gathers 147 = .ok (.istore_n 3, 1) := by decide +kernel
theorem dX7_gathers_148 : decode cX7_gathers 148 = .ok (.iload_n 3, 1) := by decide +kernel
theorem dX7_gathers_149 : decode cX7_gathers 149 = .ok (.iconst 3, 1) := by decide +kernel
theorem dX7_gathers_150 : decode cX7_gathers 150 = .ok (.if_icmp .ge 33, 3) := by decide +kernel
theorem dX7_gathers_153 : decode cX7_gathers 153 = .ok (.aload_n 0, 1) := by decide +kernel
theorem dX7_gathers_154 : decode cX7_gathers 154 = .ok (.getfield 53, 3) := by decide +kernel
theorem dX7_gathers_157 : decode cX7_gathers 157 = .ok (.iconst 3, 1) := by decide +kernel
theorem dX7_gathers_158 : decode cX7_gathers 158 = .ok (.iload_n 2, 1) := by decide +kernel
theorem dX7_gathers_159 : decode cX7_gathers 159 = .ok (.imul, 1) := by decide +kernel
theorem dX7_gathers_160 : decode cX7_gathers 160 = .ok (.iload_n 3, 1) := by decide +kernel
theorem dX7_gathers_161 : decode cX7_gathers 161 = .ok (.iadd, 1) := by decide +kernel
theorem dX7_gathers_162 : decode cX7_gathers 162 = .ok (.aload_n 0, 1) := by decide +kernel
theorem dX7_gathers_163 : decode cX7_gathers 163 = .ok (.iconst 2, 1) := by decide +kernel
theorem dX7_gathers_164 : decode cX7_gathers 164 = .ok (.iload_n 2, 1) := by decide +kernel
theorem dX7_gathers_165 : decode cX7_gathers 165 = .ok (.aload_n 0, 1) := by decide +kernel
theorem dX7_gathers_166 : decode cX7_gathers 166 = .ok (.getfield 35, 3) := by decide +kernel
theorem dX7_gathers_169 : decode cX7_gathers 169 = .ok (.iload_n 2, 1) := by decide +kernel
theorem dX7_gathers_170 : decode cX7_gathers 170 = .ok (.iaload, 1) := by decide +kernel
theorem dX7_gathers_171 : decode cX7_gathers 171 = .ok (.iload_n 3, 1) := by decide +kernel
theorem dX7_gathers_172 : decode cX7_gathers 172 = .ok (.iconst 0, 1) := by decide +kernel
theorem dX7_gathers_173 : decode cX7_gathers 173 = .ok (.invokevirtual 260, 3) := by decide +kernel
theorem dX7_gathers_176 : decode cX7_gathers 176 = .ok (.iastore, 1) := by decide +kernel
theorem dX7_gathers_177 : decode cX7_gathers 177 = .ok (.iinc 3 1, 3) := by decide +kernel
theorem dX7_gathers_180 : decode cX7_gathers 180 = .ok (.goto (-32), 3) := by decide +kernel
theorem dX7_gathers_183 : decode cX7_gathers 183 = .ok (.iinc 2 1, 3) := by decide +kernel
theorem dX7_gathers_186 : decode cX7_gathers 186 = .ok (.goto (-48), 3) := by decide +kernel
theorem dX7_gathers_189 : decode cX7_gathers 189 = .ok (.return_, 1) := by decide +kernel
theorem dX7_image_0 : decode cX7_image 0 = .ok (.iconst 0, 1) := by decide +kernel
theorem dX7_image_1 : decode cX7_image 1 = .ok (.istore_n 1, 1) := by decide +kernel
theorem dX7_image_2 : decode cX7_image 2 = .ok (.iload_n 1, 1) := by decide +kernel
theorem dX7_image_3 : decode cX7_image 3 = .ok (.iconst 5, 1) := by decide +kernel
theorem dX7_image_4 : decode cX7_image 4 = .ok (.if_icmp .ge 80, 3) := by decide +kernel
theorem dX7_image_7 : decode cX7_image 7 = .ok (.aload_n 0, 1) := by decide +kernel
theorem dX7_image_8 : decode cX7_image 8 = .ok (.getfield 62, 3) := by decide +kernel
theorem dX7_image_11 : decode cX7_image 11 = .ok (.iload_n 1, 1) := by decide +kernel
theorem dX7_image_12 : decode cX7_image 12 = .ok (.aload_n 0, 1) := by decide +kernel
theorem dX7_image_13 : decode cX7_image 13 = .ok (.getfield 29, 3) := by decide +kernel
theorem dX7_image_16 : decode cX7_image 16 = .ok (.iload_n 1, 1) := by decide +kernel
theorem dX7_image_17 : decode cX7_image 17 = .ok (.iaload, 1) := by decide +kernel
theorem dX7_image_18 : decode cX7_image 18 = .ok (.iastore, 1) := by decide +kernel
theorem dX7_image_19 : decode cX7_image 19 = .ok (.aload_n 0, 1) := by decide +kernel
theorem dX7_image_20 : decode cX7_image 20 = .ok (.getfield 62, 3) := by decide +kernel
theorem dX7_image_23 : decode cX7_image 23 = .ok (.iconst 5, 1) := by decide +kernel
theorem dX7_image_24 : decode cX7_image 24 = .ok (.iload_n 1, 1) := by decide +kernel
theorem dX7_image_25 : decode cX7_image 25 = .ok (.iadd, 1) := by decide +kernel
theorem dX7_image_26 : decode cX7_image 26 = .ok (.aload_n 0, 1) := by decide +kernel
theorem dX7_image_27 : decode cX7_image 27 = .ok (.getfield 32, 3) := by decide +kernel
theorem dX7_image_30 : decode cX7_image 30 = .ok (.iload_n 1, 1) := by decide +kernel
theorem dX7_image_31 : decode cX7_image 31 = .ok (.iaload, 1) := by decide +kernel
theorem dX7_image_32 : decode cX7_image 32 = .ok (.iastore, 1) := by decide +kernel
theorem dX7_image_33 : decode cX7_image 33 = .ok (.aload_n 0, 1) := by decide +kernel
theorem dX7_image_34 : decode cX7_image 34 = .ok (.getfield 62, 3) := by decide +kernel
theorem dX7_image_37 : decode cX7_image 37 = .ok (.bipush 10, 2) := by decide +kernel
theorem dX7_image_39 : decode cX7_image 39 = .ok (.iload_n 1, 1) := by decide +kernel
theorem dX7_image_40 : decode cX7_image 40 = .ok (.iadd, 1) := by decide +kernel
theorem dX7_image_41 : decode cX7_image 41 = .ok (.aload_n 0, 1) := by decide +kernel
theorem dX7_image_42 : decode cX7_image 42 = .ok (.getfield 38, 3) := by decide +kernel
theorem dX7_image_45 : decode cX7_image 45 = .ok (.iload_n 1, 1) := by decide +kernel
theorem dX7_image_46 : decode cX7_image 46 = .ok (.iaload, 1) := by decide +kernel
theorem dX7_image_47 : decode cX7_image 47 = .ok (.iastore, 1) := by decide +kernel
theorem dX7_image_48 : decode cX7_image 48 = .ok (.aload_n 0, 1) := by decide +kernel
theorem dX7_image_49 : decode cX7_image 49 = .ok (.getfield 62, 3) := by decide +kernel
theorem dX7_image_52 : decode cX7_image 52 = .ok (.bipush 15, 2) := by decide +kernel
theorem dX7_image_54 : decode cX7_image 54 = .ok (.iload_n 1, 1) := by decide +kernel
theorem dX7_image_55 : decode cX7_image 55 = .ok (.iadd, 1) := by decide +kernel
theorem dX7_image_56 : decode cX7_image 56 = .ok (.aload_n 0, 1) := by decide +kernel
theorem dX7_image_57 : decode cX7_image 57 = .ok (.getfield 41, 3) := by decide +kernel
theorem dX7_image_60 : decode cX7_image 60 = .ok (.iload_n 1, 1) := by decide +kernel
theorem dX7_image_61 : decode cX7_image 61 = .ok (.iaload, 1) := by decide +kernel
theorem dX7_image_62 : decode cX7_image 62 = .ok (.iastore, 1) := by decide +kernel
theorem dX7_image_63 : decode cX7_image 63 = .ok (.aload_n 0, 1) := by decide +kernel
theorem dX7_image_64 : decode cX7_image 64 = .ok (.getfield 62, 3) := by decide +kernel
theorem dX7_image_67 : decode cX7_image 67 = .ok (.bipush 20, 2) := by decide +kernel
theorem dX7_image_69 : decode cX7_image 69 = .ok (.iload_n 1, 1) := by decide +kernel
theorem dX7_image_70 : decode cX7_image 70 = .ok (.iadd, 1) := by decide +kernel
theorem dX7_image_71 : decode cX7_image 71 = .ok (.aload_n 0, 1) := by decide +kernel
theorem dX7_image_72 : decode cX7_image 72 = .ok (.getfield 44, 3) := by decide +kernel
theorem dX7_image_75 : decode cX7_image 75 = .ok (.iload_n 1, 1) := by decide +kernel
theorem dX7_image_76 : decode cX7_image 76 = .ok (.iaload, 1) := by decide +kernel
theorem dX7_image_77 : decode cX7_image 77 = .ok (.iastore, 1) := by decide +kernel
theorem dX7_image_78 : decode cX7_image 78 = .ok (.iinc 1 1, 3) := by decide +kernel
theorem dX7_image_81 : decode cX7_image 81 = .ok (.goto (-79), 3) := by decide +kernel
theorem dX7_image_84 : decode cX7_image 84 = .ok (.aload_n 0, 1) := by decide +kernel
theorem dX7_image_85 : decode cX7_image 85 = .ok (.aload_n 0, 1) := by decide +kernel
theorem dX7_image_86 : decode cX7_image 86 = .ok (.getfield 88, 3) := by decide +kernel
theorem dX7_image_89 : decode cX7_image 89 = .ok (.putfield 65, 3) := by decide +kernel
theorem dX7_image_92 : decode cX7_image 92 = .ok (.aload_n 0, 1) := by decide +kernel
theorem dX7_image_93 : decode cX7_image 93 = .ok (.aload_n 0, 1) := by decide +kernel
theorem dX7_image_94 : decode cX7_image 94 = .ok (.getfield 23, 3) := by decide +kernel
theorem dX7_image_97 : decode cX7_image 97 = .ok (.putfield 350, 3) := by decide +kernel
theorem dX7_image_100 : decode cX7_image 100 = .ok (.aload_n 0, 1) := by decide +kernel
theorem dX7_image_101 : decode cX7_image 101 = .ok (.aload_n 0, 1) := by decide +kernel
theorem dX7_image_102 : decode cX7_image 102 = .ok (.getfield 247, 3) := by decide +kernel
theorem dX7_image_105 : decode cX7_image 105 = .ok (.putfield 353, 3) := by decide +kernel
theorem dX7_image_108 : decode cX7_image 108 = .ok (.aload_n 0, 1) := by decide +kernel
theorem dX7_image_109 : decode cX7_image 109 = .ok (.getfield 88, 3) := by decide +kernel
theorem dX7_image_112 : decode cX7_image 112 = .ok (.ireturn, 1) := by decide +kernel
theorem dX7_in_0 : decode cX7_in 0 = .ok (.lload_n 0, 1) := by decide +kernel
theorem dX7_in_1 : decode cX7_in 1 = .ok (.lload_n 2, 1) := by decide +kernel
theorem dX7_in_2 : decode cX7_in 2 = .ok (.lcmp, 1) := by decide +kernel
theorem dX7_in_3 : decode cX7_in 3 = .ok (.ifCond .lt 14, 3) := by decide +kernel
theorem dX7_in_6 : decode cX7_in 6 = .ok (.lload_n 0, 1) := by decide +kernel
theorem dX7_in_7 : decode cX7_in 7 = .ok (.lload 4, 2) := by decide +kernel
theorem dX7_in_9 : decode cX7_in 9 = .ok (.lcmp, 1) := by decide +kernel
theorem dX7_in_10 : decode cX7_in 10 = .ok (.ifCond .gt 7, 3) := by decide +kernel
theorem dX7_in_13 : decode cX7_in 13 = .ok (.iconst 1, 1) := by decide +kernel
theorem dX7_in_14 : decode cX7_in 14 = .ok (.goto 4, 3) := by decide +kernel
theorem dX7_in_17 : decode cX7_in 17 = .ok (.iconst 0, 1) := by decide +kernel
theorem dX7_in_18 : decode cX7_in 18 = .ok (.ireturn, 1) := by decide +kernel
theorem dX7_init_0 : decode cX7_init 0 = .ok (.aload_n 0, 1) := by decide +kernel
theorem dX7_init_1 : decode cX7_init 1 = .ok (.invokespecial 7, 3) := by decide +kernel
theorem dX7_init_4 : decode cX7_init 4 = .ok (.aload_n 0, 1) := by decide +kernel
theorem dX7_init_5 : decode cX7_init 5 = .ok (.sipush 960, 3) := by decide +kernel
theorem dX7_init_8 : decode cX7_init 8 = .ok (.newarray .int, 2) := by decide +kernel
theorem dX7_init_10 : decode cX7_init 10 = .ok (.putfield 13, 3) := by decide +kernel
theorem dX7_init_13 : decode cX7_init 13 = .ok (.aload_n 0, 1) := by decide +kernel
theorem dX7_init_14 : decode cX7_init 14 = .ok (.bipush 6, 2) := by decide +kernel
theorem dX7_init_16 : decode cX7_init 16 = .ok (.newarray .int, 2) := by decide +kernel
theorem dX7_init_18 : decode cX7_init 18 = .ok (.putfield 17, 3) := by decide +kernel
theorem dX7_init_21 : decode cX7_init 21 = .ok (.aload_n 0, 1) := by decide +kernel
theorem dX7_init_22 : decode cX7_init 22 = .ok (.sipush 160, 3) := by decide +kernel
theorem dX7_init_25 : decode cX7_init 25 = .ok (.newarray .int, 2) := by decide +kernel
theorem dX7_init_27 : decode cX7_init 27 = .ok (.putfield 20, 3) := by decide +kernel
theorem dX7_init_30 : decode cX7_init 30 = .ok (.aload_n 0, 1) := by decide +kernel
theorem dX7_init_31 : decode cX7_init 31 = .ok (.iconst 1, 1) := by decide +kernel
theorem dX7_init_32 : decode cX7_init 32 = .ok (.putfield 23, 3) := by decide +kernel
theorem dX7_init_35 : decode cX7_init 35 = .ok (.aload_n 0, 1) := by decide +kernel
theorem dX7_init_36 : decode cX7_init 36 = .ok (.iconst 5, 1) := by decide +kernel
theorem dX7_init_37 : decode cX7_init 37 = .ok (.newarray .int, 2) := by decide +kernel
theorem dX7_init_39 : decode cX7_init 39 = .ok (.putfield 26, 3) := by decide +kernel
theorem dX7_init_42 : decode cX7_init 42 = .ok (.aload_n 0, 1) := by decide +kernel
theorem dX7_init_43 : decode cX7_init 43 = .ok (.iconst 5, 1) := by decide +kernel
theorem dX7_init_44 : decode cX7_init 44 = .ok (.newarray .int, 2) := by decide +kernel
theorem dX7_init_46 : decode cX7_init 46 = .ok (.putfield 29, 3) := by decide +kernel
theorem dX7_init_49 : decode cX7_init 49 = .ok (.aload_n 0, 1) := by decide +kernel
theorem dX7_init_50 : decode cX7_init 50 = .ok (.iconst 5, 1) := by decide +kernel
theorem dX7_init_51 : decode cX7_init 51 = .ok (.newarray .int, 2) := by decide +kernel
theorem dX7_init_53 : decode cX7_init 53 = .ok (.putfield 32, 3) := by decide +kernel
theorem dX7_init_56 : decode cX7_init 56 = .ok (.aload_n 0, 1) := by decide +kernel
theorem dX7_init_57 : decode cX7_init 57 = .ok (.iconst 5, 1) := by decide +kernel
theorem dX7_init_58 : decode cX7_init 58 = .ok (.newarray .int, 2) := by decide +kernel
theorem dX7_init_60 : decode cX7_init 60 = .ok (.putfield 35, 3) := by decide +kernel
theorem dX7_init_63 : decode cX7_init 63 = .ok (.aload_n 0, 1) := by decide +kernel
theorem dX7_init_64 : decode cX7_init 64 = .ok (.iconst 5, 1) := by decide +kernel
theorem dX7_init_65 : decode cX7_init 65 = .ok (.newarray .int, 2) := by decide +kernel
theorem dX7_init_67 : decode cX7_init 67 = .ok (.putfield 38, 3) := by decide +kernel
theorem dX7_init_70 : decode cX7_init 70 = .ok (.aload_n 0, 1) := by decide +kernel
theorem dX7_init_71 : decode cX7_init 71 = .ok (.iconst 5, 1) := by decide +kernel
theorem dX7_init_72 : decode cX7_init 72 = .ok (.newarray .int, 2) := by decide +kernel
theorem dX7_init_74 : decode cX7_init 74 = .ok (.putfield 41, 3) := by decide +kernel
theorem dX7_init_77 : decode cX7_init 77 = .ok (.aload_n 0, 1) := by decide +kernel
theorem dX7_init_78 : decode cX7_init 78 = .ok (.iconst 5, 1) := by decide +kernel
theorem dX7_init_79 : decode cX7_init 79 = .ok (.newarray .int, 2) := by decide +kernel
theorem dX7_init_81 : decode cX7_init 81 = .ok (.putfield 44, 3) := by decide +kernel
theorem dX7_init_84 : decode cX7_init 84 = .ok (.aload_n 0, 1) := by decide +kernel
theorem dX7_init_85 : decode cX7_init 85 = .ok (.sipush 150, 3) := by decide +kernel
theorem dX7_init_88 : decode cX7_init 88 = .ok (.newarray .int, 2) := by decide +kernel
theorem dX7_init_90 : decode cX7_init 90 = .ok (.putfield 47, 3) := by decide +kernel
theorem dX7_init_93 : decode cX7_init 93 = .ok (.aload_n 0, 1) := by decide +kernel
theorem dX7_init_94 : decode cX7_init 94 = .ok (.sipush 150, 3) := by decide +kernel
theorem dX7_init_97 : decode cX7_init 97 = .ok (.newarray .int, 2) := by decide +kernel
theorem dX7_init_99 : decode cX7_init 99 = .ok (.putfield 50, 3) := by decide +kernel
theorem dX7_init_102 : decode cX7_init 102 = .ok (.aload_n 0, 1) := by decide +kernel
theorem dX7_init_103 : decode cX7_init 103 = .ok (.bipush 15, 2) := by decide +kernel
theorem dX7_init_105 : decode cX7_init 105 = .ok (.newarray .int, 2) := by decide +kernel
theorem dX7_init_107 : decode cX7_init 107 = .ok (.putfield 53, 3) := by decide +kernel
theorem dX7_init_110 : decode cX7_init 110 = .ok (.aload_n 0, 1) := by decide +kernel
theorem dX7_init_111 : decode cX7_init 111 = .ok (.iconst 5, 1) := by decide +kernel
theorem dX7_init_112 : decode cX7_init 112 = .ok (.newarray .int, 2) := by decide +kernel
theorem dX7_init_114 : decode cX7_init 114 = .ok (.putfield 56, 3) := by decide +kernel
theorem dX7_init_117 : decode cX7_init 117 = .ok (.aload_n 0, 1) := by decide +kernel
theorem dX7_init_118 : decode cX7_init 118 = .ok (.iconst 5, 1) := by decide +kernel
theorem dX7_init_119 : decode cX7_init 119 = .ok (.newarray .int, 2) := by decide +kernel
theorem dX7_init_121 : decode cX7_init 121 = .ok (.putfield 59, 3) := by decide +kernel
theorem dX7_init_124 : decode cX7_init 124 = .ok (.aload_n 0, 1) := by decide +kernel
theorem dX7_init_125 : decode cX7_init 125 = .ok (.bipush 25, 2) := by decide +kernel
theorem dX7_init_127 : decode cX7_init 127 = .ok (.newarray .int, 2) := by decide +kernel
theorem dX7_init_129 : decode cX7_init 129 = .ok (.putfield 62, 3) := by decide +kernel
theorem dX7_init_132 : decode cX7_init 132 = .ok (.aload_n 0, 1) := by decide +kernel
theorem dX7_init_133 : decode cX7_init 133 = .ok (.iconst (-1), 1) := by decide +kernel
theorem dX7_init_134 : decode cX7_init 134 = .ok (.putfield 65, 3) := by decide +kernel
theorem dX7_init_137 : decode cX7_init 137 = .ok (.aload_n 0, 1) := by decide +kernel
theorem dX7_init_138 : decode cX7_init 138 = .ok (.iconst 4, 1) := by decide +kernel
theorem dX7_init_139 : decode cX7_init 139 = .ok (.newarray .boolean, 2) := by decide +kernel
theorem dX7_init_141 : decode cX7_init 141 = .ok (.putfield 68, 3) := by decide +kernel
theorem dX7_init_144 : decode cX7_init 144 = .ok (.aload_n 0, 1) := by decide +kernel
theorem dX7_init_145 : decode cX7_init 145 = .ok (.iconst 4, 1) := by decide +kernel
theorem dX7_init_146 : decode cX7_init 146 = .ok (.newarray .int, 2) := by decide +kernel
theorem dX7_init_148 : decode cX7_init 148 = .ok (.putfield 72, 3) := by decide +kernel
theorem dX7_init_151 : decode cX7_init 151 = .ok (.aload_n 0, 1) := by decide +kernel
theorem dX7_init_152 : decode cX7_init 152 = .ok (.iconst 4, 1) := by decide +kernel
theorem dX7_init_153 : decode cX7_init 153 = .ok (.newarray .int, 2) := by decide +kernel
theorem dX7_init_155 : decode cX7_init 155 = .ok (.putfield 75, 3) := by decide +kernel
theorem dX7_init_158 : decode cX7_init 158 = .ok (.aload_n 0, 1) := by decide +kernel
theorem dX7_init_159 : decode cX7_init 159 = .ok (.sipush 160, 3) := by decide +kernel
theorem dX7_init_162 : decode cX7_init 162 = .ok (.newarray .int, 2) := by decide +kernel
theorem dX7_init_164 : decode cX7_init 164 = .ok (.putfield 78, 3) := by decide +kernel
theorem dX7_init_167 : decode cX7_init 167 = .ok (.aload_n 0, 1) := by decide +kernel
theorem dX7_init_168 : decode cX7_init 168 = .ok (.iconst 0, 1) := by decide +kernel
theorem dX7_init_169 : decode cX7_init 169 = .ok (.bipush 115, 2) := by decide +kernel
theorem dX7_init_171 : decode cX7_init 171 = .ok (.bipush 116, 2) := by decide +kernel
theorem dX7_init_173 : decode cX7_init 173 = .ok (.bipush 101, 2) := by decide +kernel
theorem dX7_init_175 : decode cX7_init 175 = .ok (.bipush 112, 2) := by decide +kernel
theorem dX7_init_177 : decode cX7_init 177 = .ok (.bipush 115, 2) := by decide +kernel
theorem dX7_init_179 : decode cX7_init 179 = .ok (.bipush 32, 2) := by decide +kernel
theorem dX7_init_181 : decode cX7_init 181 = .ok (.bipush 53, 2) := by decide +kernel
theorem dX7_init_183 : decode cX7_init 183 = .ok (.bipush 32, 2) := by decide +kernel
theorem dX7_init_185 : decode cX7_init 185 = .ok (.invokevirtual 81, 3) := by decide +kernel
theorem dX7_init_188 : decode cX7_init 188 = .ok (.aload_n 0, 1) := by decide +kernel
theorem dX7_init_189 : decode cX7_init 189 = .ok (.bipush 8, 2) := by decide +kernel
theorem dX7_init_191 : decode cX7_init 191 = .ok (.bipush 59, 2) := by decide +kernel
theorem dX7_init_193 : decode cX7_init 193 = .ok (.bipush 32, 2) := by decide +kernel
theorem dX7_init_195 : decode cX7_init 195 = .ok (.bipush 108, 2) := by decide +kernel
theorem dX7_init_197 : decode cX7_init 197 = .ok (.bipush 97, 2) := by decide +kernel
theorem dX7_init_199 : decode cX7_init 199 = .ok (.bipush 116, 2) := by decide +kernel
theorem dX7_init_201 : decode cX7_init 201 = .ok (.bipush 101, 2) := by decide +kernel
theorem dX7_init_203 : decode cX7_init 203 = .ok (.bipush 32, 2) := by decide +kernel
theorem dX7_init_205 : decode cX7_init 205 = .ok (.bipush 49, 2) := by decide +kernel
theorem dX7_init_207 : decode cX7_init 207 = .ok (.invokevirtual 81, 3) := by decide +kernel
theorem dX7_init_210 : decode cX7_init 210 = .ok (.aload_n 0, 1) := by decide +kernel
theorem dX7_init_211 : decode cX7_init 211 = .ok (.bipush 16, 2) := by decide +kernel
theorem dX7_init_213 : decode cX7_init 213 = .ok (.bipush 32, 2) := by decide +kernel
theorem dX7_init_215 : decode cX7_init 215 = .ok (.bipush 59, 2) := by decide +kernel
theorem dX7_init_217 : decode cX7_init 217 = .ok (.bipush 32, 2) := by decide +kernel
theorem dX7_init_219 : decode cX7_init 219 = .ok (.bipush 109, 2) := by decide +kernel
theorem dX7_init_221 : decode cX7_init 221 = .ok (.bipush 111, 2) := by decide +kernel
theorem dX7_init_223 : decode cX7_init 223 = .ok (.bipush 118, 2) := by decide +kernel
theorem dX7_init_225 : decode cX7_init 225 = .ok (.bipush 101, 2) := by decide +kernel
theorem dX7_init_227 : decode cX7_init 227 = .ok (.bipush 115, 2) := by decide +kernel
theorem dX7_init_229 : decode cX7_init 229 = .ok (.invokevirtual 81, 3) := by decide +kernel
theorem dX7_init_232 : decode cX7_init 232 = .ok (.aload_n 0, 1) := by decide +kernel
theorem dX7_init_233 : decode cX7_init 233 = .ok (.bipush 24, 2) := by decide +kernel
theorem dX7_init_235 : decode cX7_init 235 = .ok (.bipush 32, 2) := by decide +kernel
theorem dX7_init_237 : decode cX7_init 237 = .ok (.bipush 51, 2) := by decide +kernel
theorem dX7_init_239 : decode cX7_init 239 = .ok (.bipush 32, 2) := by decide +kernel
theorem dX7_init_241 : decode cX7_init 241 = .ok (.bipush 59, 2) := by decide +kernel
theorem dX7_init_243 : decode cX7_init 243 = .ok (.bipush 32, 2) := by decide +kernel
theorem dX7_init_245 : decode cX7_init 245 = .ok (.bipush 32, 2) := by decide +kernel
theorem dX7_init_247 : decode cX7_init 247 = .ok (.bipush 32, 2) := by decide +kernel
theorem dX7_init_249 : decode cX7_init 249 = .ok (.bipush 32, 2) := by decide +kernel
theorem dX7_init_251 : decode cX7_init 251 = .ok (.invokevirtual 81, 3) := by decide +kernel
theorem dX7_init_254 : decode cX7_init 254 = .ok (.aload_n 0, 1) := by decide +kernel
theorem dX7_init_255 : decode cX7_init 255 = .ok (.getfield 17, 3) := by decide +kernel
theorem dX7_init_258 : decode cX7_init 258 = .ok (.iconst 0, 1) := by decide +kernel
theorem dX7_init_259 : decode cX7_init 259 = .ok (.bipush 32, 2) := by decide +kernel
theorem dX7_init_261 : decode cX7_init 261 = .ok (.iastore, 1) := by decide +kernel
theorem dX7_init_262 : decode cX7_init 262 = .ok (.aload_n 0, 1) := by decide +kernel
theorem dX7_init_263 : decode cX7_init 263 = .ok (.iconst 1, 1) := by decide +kernel
theorem dX7_init_264 : decode cX7_init 264 = .ok (.putfield 85, 3) := by decide +kernel
theorem dX7_init_267 : decode cX7_init 267 = .ok (.return_, 1) := by decide +kernel
theorem dX7_insideAt_0 : decode cX7_insideAt 0 = .ok (.iconst 0, 1) := by decide +kernel
theorem dX7_insideAt_1 : decode cX7_insideAt 1 = .ok (.istore_n 2, 1) := by decide +kernel
theorem dX7_insideAt_2 : decode cX7_insideAt 2 = .ok (.iconst 0, 1) := by decide +kernel
theorem dX7_insideAt_3 : decode cX7_insideAt 3 = .ok (.istore_n 3, 1) := by decide +kernel
theorem dX7_insideAt_4 : decode cX7_insideAt 4 = .ok (.iload_n 3, 1) := by decide +kernel
theorem dX7_insideAt_5 : decode cX7_insideAt 5 = .ok (.aload_n 0, 1) := by decide +kernel
theorem dX7_insideAt_6 : decode cX7_insideAt 6 = .ok (.getfield 88, 3) := by decide +kernel
theorem dX7_insideAt_9 : decode cX7_insideAt 9 = .ok (.if_icmp .ge 49, 3) := by decide +kernel
theorem dX7_insideAt_12 : decode cX7_insideAt 12 = .ok (.iload_n 2, 1) := by decide +kernel
theorem dX7_insideAt_13 : decode cX7_insideAt 13 = .ok (.aload_n 0, 1) := by decide +kernel
theorem dX7_insideAt_14 : decode cX7_insideAt 14 = .ok (.getfield 254, 3) := by decide +kernel
theorem dX7_insideAt_17 : decode cX7_insideAt 17 = .ok (.iload_n 3, 1) := by decide +kernel
theorem dX7_insideAt_18 : decode cX7_insideAt 18 = .ok (.ishr, 1) := by decide +kernel
theorem dX7_insideAt_19 : decode cX7_insideAt 19 = .ok (.iconst 1, 1) := by decide +kernel
theorem dX7_insideAt_20 : decode cX7_insideAt 20 = .ok (.iand, 1) := by decide +kernel
theorem dX7_insideAt_21 : decode cX7_insideAt 21 = .ok (.iconst 1, 1) := by decide +kernel
theorem dX7_insideAt_22 : decode cX7_insideAt 22 = .ok (.if_icmp .ne 27, 3) := by decide +kernel
theorem dX7_insideAt_25 : decode cX7_insideAt 25 = .ok (.aload_n 0, 1) := by decide +kernel
theorem dX7_insideAt_26 : decode cX7_insideAt 26 = .ok (.getfield 35, 3) := by decide +kernel
theorem dX7_insideAt_29 : decode cX7_insideAt 29 = .ok (.iload_n 3, 1) := by decide +kernel
theorem dX7_insideAt_30 : decode cX7_insideAt 30 = .ok (.iaload, 1) := by decide +kernel
theorem dX7_insideAt_31 : decode cX7_insideAt 31 = .ok (.iload_n 1, 1) := by decide +kernel
theorem dX7_insideAt_32 : decode cX7_insideAt 32 = .ok (.if_icmp .ge 17, 3) := by decide +kernel
theorem dX7_insideAt_35 : decode cX7_insideAt 35 = .ok (.aload_n 0, 1) := by decide +kernel
theorem dX7_insideAt_36 : decode cX7_insideAt 36 = .ok (.getfield 38, 3) := by decide +kernel
theorem dX7_insideAt_39 : decode cX7_insideAt 39 = .ok (.iload_n 3, 1) := by decide +kernel
theorem dX7_insideAt_40 : decode cX7_insideAt 40 = .ok (.iaload, 1) := by decide +kernel
theorem dX7_insideAt_41 : decode cX7_insideAt 41 = .ok (.iload_n 1, 1) := by decide +kernel
theorem dX7_insideAt_42 : decode cX7_insideAt 42 = .ok (.if_icmp .lt 7, 3) := by decide +kernel
theorem dX7_insideAt_45 : decode cX7_insideAt 45 = .ok (.iconst 1, 1) := by decide +kernel
theorem dX7_insideAt_46 : decode cX7_insideAt 46 = .ok (.goto 4, 3) := by decide +kernel
theorem dX7_insideAt_49 : decode cX7_insideAt 49 = .ok (.iconst 0, 1) := by decide +kernel
theorem dX7_insideAt_50 : decode cX7_insideAt 50 = .ok (.iadd, 1) := by decide +kernel
theorem dX7_insideAt_51 : decode cX7_insideAt 51 = .ok (.istore_n 2, 1) := by decide +kernel
theorem dX7_insideAt_52 : decode cX7_insideAt 52 = .ok (.iinc 3 1, 3) := by decide +kernel
theorem dX7_insideAt_55 : decode cX7_insideAt 55 = .ok (.goto (-51), 3) := by decide +kernel
theorem dX7_insideAt_58 : decode cX7_insideAt 58 = .ok (.iload_n 2, 1) := by decide +kernel
theorem dX7_insideAt_59 : decode cX7_insideAt 59 = .ok (.ireturn, 1) := by decide +kernel
theorem dX7_isLetter_0 : decode cX7_isLetter 0 = .ok (.aload_n 0, 1) := by decide +kernel
theorem dX7_isLetter_1 : decode cX7_isLetter 1 = .ok (.getfield 146, 3) := by decide +kernel
theorem dX7_isLetter_4 : decode cX7_isLetter 4 = .ok (.iload_n 1, 1) := by decide +kernel
theorem dX7_isLetter_5 : decode cX7_isLetter 5 = .ok (.iadd, 1) := by decide +kernel
theorem dX7_isLetter_6 : decode cX7_isLetter 6 = .ok (.aload_n 0, 1) := by decide +kernel
theorem dX7_isLetter_7 : decode cX7_isLetter 7 = .ok (.getfield 139, 3) := by decide +kernel
theorem dX7_isLetter_10 : decode cX7_isLetter 10 = .ok (.if_icmp .ge 25, 3) := by decide +kernel
theorem dX7_isLetter_13 : decode cX7_isLetter 13 = .ok (.aload_n 0, 1) := by decide +kernel
theorem dX7_isLetter_14 : decode cX7_isLetter 14 = .ok (.aload_n 0, 1) := by decide +kernel
theorem dX7_isLetter_15 : decode cX7_isLetter 15 = .ok (.getfield 146, 3) := by decide +kernel
theorem dX7_isLetter_18 : decode cX7_isLetter 18 = .ok (.iload_n 1, 1) := by decide +kernel
theorem dX7_isLetter_19 : decode cX7_isLetter 19 = .ok (.iadd, 1) := by decide +kernel
theorem dX7_isLetter_20 : decode cX7_isLetter 20 = .ok (.invokevirtual 142, 3) := by decide +kernel
theorem dX7_isLetter_23 : decode cX7_isLetter 23 = .ok (.iload_n 2, 1) := by decide +kernel
theorem dX7_isLetter_24 : decode cX7_isLetter 24 = .ok (.if_icmp .ne 7, 3) := by decide +kernel
theorem dX7_isLetter_27 : decode cX7_isLetter 27 = .ok (.iconst 1, 1) := by decide +kernel
theorem dX7_isLetter_28 : decode cX7_isLetter 28 = .ok (.goto 16, 3) := by decide +kernel
theorem dX7_isLetter_31 : decode cX7_isLetter 31 = .ok (.iconst 0, 1) := by decide +kernel
theorem dX7_isLetter_32 : decode cX7_isLetter 32 = .ok (.goto 12, 3) := by decide +kernel
theorem dX7_isLetter_35 : decode cX7_isLetter 35 = .ok (.iload_n 2, 1) := by decide +kernel
theorem dX7_isLetter_36 : decode cX7_isLetter 36 = .ok (.ifCond .ne 7, 3) := by decide +kernel
theorem dX7_isLetter_39 : decode cX7_isLetter 39 = .ok (.iconst 1, 1) := by decide +kernel
theorem dX7_isLetter_40 : decode cX7_isLetter 40 = .ok (.goto 4, 3) := by decide +kernel
theorem dX7_isLetter_43 : decode cX7_isLetter 43 = .ok (.iconst 0, 1) := by decide +kernel
theorem dX7_isLetter_44 : decode cX7_isLetter 44 = .ok (.ireturn, 1) := by decide +kernel
theorem dX7_isRider_0 : decode cX7_isRider 0 = .ok (.iload_n 1, 1) := by decide +kernel
theorem dX7_isRider_1 : decode cX7_isRider 1 = .ok (.i2l, 1) := by decide +kernel
theorem dX7_isRider_2 : decode cX7_isRider 2 = .ok (.lconst 0, 1) := by decide +kernel
theorem dX7_isRider_3 : decode cX7_isRider 3 = .ok (.aload_n 0, 1) := by decide +kernel
theorem dX7_isRider_4 : decode cX7_isRider 4 = .ok (.getfield 88, 3) := by decide +kernel
theorem dX7_isRider_7 : decode cX7_isRider 7 = .ok (.iconst 1, 1) := by decide +kernel
theorem dX7_isRider_8 : decode cX7_isRider 8 = .ok (.isub, 1) := by decide +kernel
theorem dX7_isRider_9 : decode cX7_isRider 9 = .ok (.i2l, 1) := by decide +kernel
theorem dX7_isRider_10 : decode cX7_isRider 10 = .ok (.invokestatic 91, 3) := by decide +kernel
theorem dX7_isRider_13 : decode cX7_isRider 13 = .ok (.ireturn, 1) := by decide +kernel
theorem dX7_isSheet_0 : decode cX7_isSheet 0 = .ok (.iload_n 0, 1) := by decide +kernel
theorem dX7_isSheet_1 : decode cX7_isSheet 1 = .ok (.i2l, 1) := by decide +kernel
theorem dX7_isSheet_2 : decode cX7_isSheet 2 = .ok (.lconst 0, 1) := by decide +kernel
theorem dX7_isSheet_3 : decode cX7_isSheet 3 = .ok (.ldc2_w 358, 3) := by decide +kernel
theorem dX7_isSheet_6 : decode cX7_isSheet 6 = .ok (.invokestatic 91, 3) := by decide +kernel
theorem dX7_isSheet_9 : decode cX7_isSheet 9 = .ok (.ireturn, 1) := by decide +kernel
theorem dX7_isSign_0 : decode cX7_isSign 0 = .ok (.aload_n 0, 1) := by decide +kernel
theorem dX7_isSign_1 : decode cX7_isSign 1 = .ok (.getfield 166, 3) := by decide +kernel
theorem dX7_isSign_4 : decode cX7_isSign 4 = .ok (.ifCond .ne 25, 3) := by decide +kernel
theorem dX7_isSign_7 : decode cX7_isSign 7 = .ok (.aload_n 0, 1) := by decide +kernel
theorem dX7_isSign_8 : decode cX7_isSign 8 = .ok (.getfield 149, 3) := by decide +kernel
theorem dX7_isSign_11 : decode cX7_isSign 11 = .ok (.iconst 3, 1) := by decide +kernel
theorem dX7_isSign_12 : decode cX7_isSign 12 = .ok (.if_icmp .ne 17, 3) := by decide +kernel
theorem dX7_isSign_15 : decode cX7_isSign 15 = .ok (.aload_n 0, 1) := by decide +kernel
theorem dX7_isSign_16 : decode cX7_isSign 16 = .ok (.getfield 160, 3) := by decide +kernel
theorem dX7_isSign_19 : decode cX7_isSign 19 = .ok (.iload_n 1, 1) := by decide +kernel
theorem dX7_isSign_20 : decode cX7_isSign 20 = .ok (.i2l, 1) := by decide +kernel
theorem dX7_isSign_21 : decode cX7_isSign 21 = .ok (.lcmp, 1) := by decide +kernel
theorem dX7_isSign_22 : decode cX7_isSign 22 = .ok (.ifCond .ne 7, 3) := by decide +kernel
theorem dX7_isSign_25 : decode cX7_isSign 25 = .ok (.iconst 1, 1) := by decide +kernel
theorem dX7_isSign_26 : decode cX7_isSign 26 = .ok (.goto 4, 3) := by decide +kernel
theorem dX7_isSign_29 : decode cX7_isSign 29 = .ok (.iconst 0, 1) := by decide +kernel
theorem dX7_isSign_30 : decode cX7_isSign 30 = .ok (.ireturn, 1) := by decide +kernel
theorem dX7_isWord_0 : decode cX7_isWord 0 = .ok (.aload_n 0, 1) := by decide +kernel
theorem dX7_isWord_1 : decode cX7_isWord 1 = .ok (.getfield 166, 3) := by decide +kernel
theorem dX7_isWord_4 : decode cX7_isWord 4 = .ok (.ifCond .ne 108, 3) := by decide +kernel
theorem dX7_isWord_7 : decode cX7_isWord 7 = .ok (.aload_n 0, 1) := by decide +kernel
theorem dX7_isWord_8 : decode cX7_isWord 8 = .ok (.getfield 149, 3) := by decide +kernel
theorem dX7_isWord_11 : decode cX7_isWord 11 = .ok (.iconst 1, 1) := by decide +kernel
theorem dX7_isWord_12 : decode cX7_isWord 12 = .ok (.if_icmp .ne 100, 3) := by decide +kernel
theorem dX7_isWord_15 : decode cX7_isWord 15 = .ok (.aload_n 0, 1) := by decide +kernel
theorem dX7_isWord_16 : decode cX7_isWord 16 = .ok (.getfield 139, 3) := by decide +kernel
theorem dX7_isWord_19 : decode cX7_isWord 19 = .ok (.aload_n 0, 1) := by decide +kernel
theorem dX7_isWord_20 : decode cX7_isWord 20 = .ok (.getfield 146, 3) := by decide +kernel
theorem dX7_isWord_23 : decode cX7_isWord 23 = .ok (.bipush 8, 2) := by decide +kernel
theorem dX7_isWord_25 : decode cX7_isWord 25 = .ok (.iadd, 1) := by decide +kernel
theorem dX7_isWord_26 : decode cX7_isWord 26 = .ok (.if_icmp .gt 86, 3) := by decide +kernel
theorem dX7_isWord_29 : decode cX7_isWord 29 = .ok (.aload_n 0, 1) := by decide +kernel
theorem dX7_isWord_30 : decode cX7_isWord 30 = .ok (.iconst 0, 1) := by decide +kernel
theorem dX7_isWord_31 : decode cX7_isWord 31 = .ok (.iload_n 1, 1) := by decide +kernel
theorem dX7_isWord_32 : decode cX7_isWord 32 = .ok (.invokevirtual 173, 3) := by decide +kernel
theorem dX7_isWord_35 : decode cX7_isWord 35 = .ok (.ifCond .eq 77, 3) := by decide +kernel
theorem dX7_isWord_38 : decode cX7_isWord 38 = .ok (.aload_n 0, 1) := by decide +kernel
theorem dX7_isWord_39 : decode cX7_isWord 39 = .ok (.iconst 1, 1) := by decide +kernel
theorem dX7_isWord_40 : decode cX7_isWord 40 = .ok (.iload_n 2, 1) := by decide +kernel
theorem dX7_isWord_41 : decode cX7_isWord 41 = .ok (.invokevirtual 173, 3) := by decide +kernel
theorem dX7_isWord_44 : decode cX7_isWord 44 = .ok (.ifCond .eq 68, 3) := by decide +kernel
theorem dX7_isWord_47 : decode cX7_isWord 47 = .ok (.aload_n 0, 1) := by decide +kernel
theorem dX7_isWord_48 : decode cX7_isWord 48 = .ok (.iconst 2, 1) := by decide +kernel
theorem dX7_isWord_49 : decode cX7_isWord 49 = .ok (.iload_n 3, 1) := by decide +kernel
theorem dX7_isWord_50 : decode cX7_isWord 50 = .ok (.invokevirtual 173, 3) := by decide +kernel
theorem dX7_isWord_53 : decode cX7_isWord 53 = .ok (.ifCond .eq 59, 3) := by decide +kernel
theorem dX7_isWord_56 : decode cX7_isWord 56 = .ok (.aload_n 0, 1) := by decide +kernel
theorem dX7_isWord_57 : decode cX7_isWord 57 = .ok (.iconst 3, 1) := by decide +kernel
theorem dX7_isWord_58 : decode cX7_isWord 58 = .ok (.iload 4, 2) := by decide +kernel
theorem dX7_isWord_60 : decode cX7_isWord 60 = .ok (.invokevirtual 173, 3) := by decide +kernel
theorem dX7_isWord_63 : decode cX7_isWord 63 = .ok (.ifCond .eq 49, 3) := by decide +kernel
theorem dX7_isWord_66 : decode cX7_isWord 66 = .ok (.aload_n 0, 1) := by decide +kernel
theorem dX7_isWord_67 : decode cX7_isWord 67 = .ok (.iconst 4, 1) := by decide +kernel
theorem dX7_isWord_68 : decode cX7_isWord 68 = .ok (.iload 5, 2) := by decide +kernel
theorem dX7_isWord_70 : decode cX7_isWord 70 = .ok (.invokevirtual 173, 3) := by decide +kernel
theorem dX7_isWord_73 : decode cX7_isWord 73 = .ok (.ifCond .eq 39, 3) := by decide +kernel
theorem dX7_isWord_76 : decode cX7_isWord 76 = .ok (.aload_n 0, 1) := by decide +kernel
theorem dX7_isWord_77 : decode cX7_isWord 77 = .ok (.iconst 5, 1) := by decide +kernel
theorem dX7_isWord_78 : decode cX7_isWord 78 = .ok (.iload 6, 2) := by decide +kernel
theorem dX7_isWord_80 : decode cX7_isWord 80 = .ok (.invokevirtual 173, 3) := by decide +kernel
theorem dX7_isWord_83 : decode cX7_isWord 83 = .ok (.ifCond .eq 29, 3) := by decide +kernel
theorem dX7_isWord_86 : decode cX7_isWord 86 = .ok (.aload_n 0, 1) := by decide +kernel
theorem dX7_isWord_87 : decode cX7_isWord 87 = .ok (.bipush 6, 2) := by decide +kernel
theorem dX7_isWord_89 : decode cX7_isWord 89 = .ok (.iload 7, 2) := by decide +kernel
theorem dX7_isWord_91 : decode cX7_isWord 91 = .ok (.invokevirtual 173, 3) := by decide +kernel
theorem dX7_isWord_94 : decode cX7_isWord 94 = .ok (.ifCond .eq 18, 3) := by decide +kernel
theorem dX7_isWord_97 : decode cX7_isWord 97 = .ok (.aload_n 0, 1) := by decide +kernel
theorem dX7_isWord_98 : decode cX7_isWord 98 = .ok (.bipush 7, 2) := by decide +kernel
theorem dX7_isWord_100 : decode cX7_isWord 100 = .ok (.iload 8, 2) := by decide +kernel
theorem dX7_isWord_102 : decode cX7_isWord 102 = .ok (.invokevirtual 173, 3) := by decide +kernel
theorem dX7_isWord_105 : decode cX7_isWord 105 = .ok (.ifCond .eq 7, 3) := by decide +kernel
theorem dX7_isWord_108 : decode cX7_isWord 108 = .ok (.iconst 1, 1) := by decide +kernel
theorem dX7_isWord_109 : decode cX7_isWord 109 = .ok (.goto 4, 3) := by decide +kernel
theorem dX7_isWord_112 : decode cX7_isWord 112 = .ok (.iconst 0, 1) := by decide +kernel
theorem dX7_isWord_113 : decode cX7_isWord 113 = .ok (.ireturn, 1) := by decide +kernel
theorem dX7_keeps_0 : decode cX7_keeps 0 = .ok (.iconst 0, 1) := by decide +kernel
theorem dX7_keeps_1 : decode cX7_keeps 1 = .ok (.istore_n 1, 1) := by decide +kernel
theorem dX7_keeps_2 : decode cX7_keeps 2 = .ok (.iload_n 1, 1) := by decide +kernel
theorem dX7_keeps_3 : decode cX7_keeps 3 = .ok (.iconst 5, 1) := by decide +kernel
theorem dX7_keeps_4 : decode cX7_keeps 4 = .ok (.if_icmp .ge 21, 3) := by decide +kernel
theorem dX7_keeps_7 : decode cX7_keeps 7 = .ok (.aload_n 0, 1) := by decide +kernel
theorem dX7_keeps_8 : decode cX7_keeps 8 = .ok (.getfield 56, 3) := by decide +kernel
theorem dX7_keeps_11 : decode cX7_keeps 11 = .ok (.iload_n 1, 1) := by decide +kernel
theorem dX7_keeps_12 : decode cX7_keeps 12 = .ok (.aload_n 0, 1) := by decide +kernel
theorem dX7_keeps_13 : decode cX7_keeps 13 = .ok (.getfield 41, 3) := by decide +kernel
theorem dX7_keeps_16 : decode cX7_keeps 16 = .ok (.iload_n 1, 1) := by decide +kernel
theorem dX7_keeps_17 : decode cX7_keeps 17 = .ok (.iaload, 1) := by decide +kernel
theorem dX7_keeps_18 : decode cX7_keeps 18 = .ok (.iastore, 1) := by decide +kernel
theorem dX7_keeps_19 : decode cX7_keeps 19 = .ok (.iinc 1 1, 3) := by decide +kernel
theorem dX7_keeps_22 : decode cX7_keeps 22 = .ok (.goto (-20), 3) := by decide +kernel
theorem dX7_keeps_25 : decode cX7_keeps 25 = .ok (.return_, 1) := by decide +kernel
theorem dX7_landings_0 : decode cX7_landings 0 = .ok (.aload_n 0, 1) := by decide +kernel
theorem dX7_landings_1 : decode cX7_landings 1 = .ok (.iload_n 1, 1) := by decide +kernel
theorem dX7_landings_2 : decode cX7_landings 2 = .ok (.invokevirtual 332, 3) := by decide +kernel
theorem dX7_landings_5 : decode cX7_landings 5 = .ok (.istore_n 2, 1) := by decide +kernel
theorem dX7_landings_6 : decode cX7_landings 6 = .ok (.iload_n 2, 1) := by decide +kernel
theorem dX7_landings_7 : decode cX7_landings 7 = .ok (.ifCond .ne 11, 3) := by decide +kernel
theorem dX7_landings_10 : decode cX7_landings 10 = .ok (.aload_n 0, 1) := by decide +kernel
theorem dX7_landings_11 : decode cX7_landings 11 = .ok (.iload_n 1, 1) := by decide +kernel
theorem dX7_landings_12 : decode cX7_landings 12 = .ok (.invokevirtual 335, 3) := by decide +kernel
theorem dX7_landings_15 : decode cX7_landings 15 = .ok (.goto 4, 3) := by decide +kernel
theorem dX7_landings_18 : decode cX7_landings 18 = .ok (.iload_n 2, 1) := by decide +kernel
theorem dX7_landings_19 : decode cX7_landings 19 = .ok (.ireturn, 1) := by decide +kernel
theorem dX7_landingsBad_0 : decode cX7_landingsBad 0 = .ok (.iload_n 1, 1) := by decide +kernel
theorem dX7_landingsBad_1 : decode cX7_landingsBad 1 = .ok (.invokestatic 329, 3) := by decide +kernel
theorem dX7_landingsBad_4 : decode cX7_landingsBad 4 = .ok (.ifCond .ne 6, 3) := by decide +kernel
theorem dX7_landingsBad_7 : decode cX7_landingsBad 7 = .ok (.bipush (-2), 2) := by decide +kernel
theorem dX7_landingsBad_9 : decode cX7_landingsBad 9 = .ok (.ireturn, 1) := by decide +kernel
theorem dX7_landingsBad_10 : decode cX7_landingsBad 10 = .ok (.aload_n 0, 1) := by decide +kernel
theorem dX7_landingsBad_11 : decode cX7_landingsBad 11 = .ok (.getfield 68, 3) := by decide +kernel
theorem dX7_landingsBad_14 : decode cX7_landingsBad 14 = .ok (.iload_n 1, 1) := by decide +kernel
theorem dX7_landingsBad_15 : decode cX7_landingsBad 15 = .ok (.baload, 1) := by decide +kernel
theorem dX7_landingsBad_16 : decode cX7_landingsBad 16 = .ok (.ifCond .ne 6, 3) := by decide +kernel
theorem dX7_landingsBad_19 : decode cX7_landingsBad 19 = .ok (.bipush (-11), 2) := by decide +kernel
theorem dX7_landingsBad_21 : decode cX7_landingsBad 21 = .ok (.ireturn, 1) := by decide +kernel
theorem dX7_landingsBad_22 : decode cX7_landingsBad 22 = .ok (.aload_n 0, 1) := by decide +kernel
theorem dX7_landingsBad_23 : decode cX7_landingsBad 23 = .ok (.getfield 75, 3) := by decide +kernel
theorem dX7_landingsBad_26 : decode cX7_landingsBad 26 = .ok (.iload_n 1, 1) := by decide +kernel
theorem dX7_landingsBad_27 : decode cX7_landingsBad 27 = .ok (.iaload, 1) := by decide +kernel
theorem dX7_landingsBad_28 : decode cX7_landingsBad 28 = .ok (.bipush 10, 2) := by decide +kernel
theorem dX7_landingsBad_30 : decode cX7_landingsBad 30 = .ok (.if_icmp .le 8, 3) := by decide +kernel
theorem dX7_landingsBad_33 : decode cX7_landingsBad 33 = .ok (.bipush (-2), 2) := by decide +kernel
theorem dX7_landingsBad_35 : decode cX7_landingsBad 35 = .ok (.goto 4, 3) := by decide +kernel
theorem dX7_landingsBad_38 : decode cX7_landingsBad 38 = .ok (.iconst 0, 1) := by decide +kernel
theorem dX7_landingsBad_39 : decode cX7_landingsBad 39 = .ok (.ireturn, 1) := by decide +kernel
theorem dX7_lays_0 : decode cX7_lays 0 = .ok (.iload_n 2, 1) := by decide +kernel
theorem dX7_lays_1 : decode cX7_lays 1 = .ok (.ifCond .ne 13, 3) := by decide +kernel
theorem dX7_lays_4 : decode cX7_lays 4 = .ok (.aload_n 0, 1) := by decide +kernel
theorem dX7_lays_5 : decode cX7_lays 5 = .ok (.getfield 38, 3) := by decide +kernel
theorem dX7_lays_8 : decode cX7_lays 8 = .ok (.iload_n 1, 1) := by decide +kernel
theorem dX7_lays_9 : decode cX7_lays 9 = .ok (.iload_n 3, 1) := by decide +kernel
theorem dX7_lays_10 : decode cX7_lays 10 = .ok (.iastore, 1) := by decide +kernel
theorem dX7_lays_11 : decode cX7_lays 11 = .ok (.goto 25, 3) := by decide +kernel
theorem dX7_lays_14 : decode cX7_lays 14 = .ok (.iload_n 2, 1) := by decide +kernel
theorem dX7_lays_15 : decode cX7_lays 15 = .ok (.iconst 1, 1) := by decide +kernel
theorem dX7_lays_16 : decode cX7_lays 16 = .ok (.if_icmp .ne 13, 3) := by decide +kernel
theorem dX7_lays_19 : decode cX7_lays 19 = .ok (.aload_n 0, 1) := by decide +kernel
theorem dX7_lays_20 : decode cX7_lays 20 = .ok (.getfield 41, 3) := by decide +kernel
theorem dX7_lays_23 : decode cX7_lays 23 = .ok (.iload_n 1, 1) := by decide +kernel
theorem dX7_lays_24 : decode cX7_lays 24 = .ok (.iload_n 3, 1) := by decide +kernel
theorem dX7_lays_25 : decode cX7_lays 25 = .ok (.iastore, 1) := by decide +kernel
theorem dX7_lays_26 : decode cX7_lays 26 = .ok (.goto 10, 3) := by decide +kernel
theorem dX7_lays_29 : decode cX7_lays 29 = .ok (.aload_n 0, 1) := by decide +kernel
theorem dX7_lays_30 : decode cX7_lays 30 = .ok (.getfield 26, 3) := by decide +kernel
theorem dX7_lays_33 : decode cX7_lays 33 = .ok (.iload_n 1, 1) := by decide +kernel
theorem dX7_lays_34 : decode cX7_lays 34 = .ok (.iload_n 3, 1) := by decide +kernel
theorem dX7_lays_35 : decode cX7_lays 35 = .ok (.iastore, 1) := by decide +kernel
theorem dX7_lays_36 : decode cX7_lays 36 = .ok (.return_, 1) := by decide +kernel
theorem dX7_laysBack_0 : decode cX7_laysBack 0 = .ok (.iconst 0, 1) := by decide +kernel
theorem dX7_laysBack_1 : decode cX7_laysBack 1 = .ok (.istore_n 1, 1) := by decide +kernel
theorem dX7_laysBack_2 : decode cX7_laysBack 2 = .ok (.iload_n 1, 1) := by decide +kernel
theorem dX7_laysBack_3 : decode cX7_laysBack 3 = .ok (.iconst 5, 1) := by decide +kernel
theorem dX7_laysBack_4 : decode cX7_laysBack 4 = .ok (.if_icmp .ge 21, 3) := by decide +kernel
theorem dX7_laysBack_7 : decode cX7_laysBack 7 = .ok (.aload_n 0, 1) := by decide +kernel
theorem dX7_laysBack_8 : decode cX7_laysBack 8 = .ok (.getfield 41, 3) := by decide +kernel
theorem dX7_laysBack_11 : decode cX7_laysBack 11 = .ok (.iload_n 1, 1) := by decide +kernel
theorem dX7_laysBack_12 : decode cX7_laysBack 12 = .ok (.aload_n 0, 1) := by decide +kernel
theorem dX7_laysBack_13 : decode cX7_laysBack 13 = .ok (.getfield 56, 3) := by decide +kernel
theorem dX7_laysBack_16 : decode cX7_laysBack 16 = .ok (.iload_n 1, 1) := by decide +kernel
theorem dX7_laysBack_17 : decode cX7_laysBack 17 = .ok (.iaload, 1) := by decide +kernel
theorem dX7_laysBack_18 : decode cX7_laysBack 18 = .ok (.iastore, 1) := by decide +kernel
theorem dX7_laysBack_19 : decode cX7_laysBack 19 = .ok (.iinc 1 1, 3) := by decide +kernel
theorem dX7_laysBack_22 : decode cX7_laysBack 22 = .ok (.goto (-20), 3) := by decide +kernel
theorem dX7_laysBack_25 : decode cX7_laysBack 25 = .ok (.return_, 1) := by decide +kernel
theorem dX7_lets_0 : decode cX7_lets 0 = .ok (.aload_n 0, 1) := by decide +kernel
theorem dX7_lets_1 : decode cX7_lets 1 = .ok (.iload_n 1, 1) := by decide +kernel
theorem dX7_lets_2 : decode cX7_lets 2 = .ok (.invokevirtual 105, 3) := by decide +kernel
theorem dX7_lets_5 : decode cX7_lets 5 = .ok (.ifCond .eq 16, 3) := by decide +kernel
theorem dX7_lets_8 : decode cX7_lets 8 = .ok (.aload_n 0, 1) := by decide +kernel
theorem dX7_lets_9 : decode cX7_lets 9 = .ok (.iload_n 2, 1) := by decide +kernel
theorem dX7_lets_10 : decode cX7_lets 10 = .ok (.invokevirtual 105, 3) := by decide +kernel
theorem dX7_lets_13 : decode cX7_lets 13 = .ok (.ifCond .eq 8, 3) := by decide +kernel
theorem dX7_lets_16 : decode cX7_lets 16 = .ok (.iload_n 1, 1) := by decide +kernel
theorem dX7_lets_17 : decode cX7_lets 17 = .ok (.iload_n 2, 1) := by decide +kernel
theorem dX7_lets_18 : decode cX7_lets 18 = .ok (.if_icmp .ne 6, 3) := by decide +kernel
theorem dX7_lets_21 : decode cX7_lets 21 = .ok (.bipush (-2), 2) := by decide +kernel
theorem dX7_lets_23 : decode cX7_lets 23 = .ok (.ireturn, 1) := by decide +kernel
theorem dX7_lets_24 : decode cX7_lets 24 = .ok (.aload_n 0, 1) := by decide +kernel
theorem dX7_lets_25 : decode cX7_lets 25 = .ok (.iload_n 1, 1) := by decide +kernel
theorem dX7_lets_26 : decode cX7_lets 26 = .ok (.iload_n 2, 1) := by decide +kernel
theorem dX7_lets_27 : decode cX7_lets 27 = .ok (.invokevirtual 124, 3) := by decide +kernel
theorem dX7_lets_30 : decode cX7_lets 30 = .ok (.ifCond .eq 7, 3) := by decide +kernel
theorem dX7_lets_33 : decode cX7_lets 33 = .ok (.iconst 1, 1) := by decide +kernel
theorem dX7_lets_34 : decode cX7_lets 34 = .ok (.goto 4, 3) := by decide +kernel
theorem dX7_lets_37 : decode cX7_lets 37 = .ok (.iconst 0, 1) := by decide +kernel
theorem dX7_lets_38 : decode cX7_lets 38 = .ok (.ireturn, 1) := by decide +kernel
theorem dX7_lowest_0 : decode cX7_lowest 0 = .ok (.lload_n 0, 1) := by decide +kernel
theorem dX7_lowest_1 : decode cX7_lowest 1 = .ok (.lstore 5, 2) := by decide +kernel
theorem dX7_lowest_3 : decode cX7_lowest 3 = .ok (.lload_n 2, 1) := by decide +kernel
theorem dX7_lowest_4 : decode cX7_lowest 4 = .ok (.lstore 7, 2) := by decide +kernel
theorem dX7_lowest_6 : decode cX7_lowest 6 = .ok (.lload 7, 2) := by decide +kernel
theorem dX7_lowest_8 : decode cX7_lowest 8 = .ok (.lconst 0, 1) := by decide +kernel
theorem dX7_lowest_9 : decode cX7_lowest 9 = .ok (.lcmp, 1) := by decide +kernel
theorem dX7_lowest_10 : decode cX7_lowest 10 = .ok (.ifCond .eq 21, 3) := by decide +kernel
theorem dX7_lowest_13 : decode cX7_lowest 13 = .ok (.lload 5, 2) := by decide +kernel
theorem dX7_lowest_15 : decode cX7_lowest 15 = .ok (.lload 7, 2) := by decide +kernel
theorem dX7_lowest_17 : decode cX7_lowest 17 = .ok (.lrem, 1) := by decide +kernel
theorem dX7_lowest_18 : decode cX7_lowest 18 = .ok (.lstore 9, 2) := by decide +kernel
theorem dX7_lowest_20 : decode cX7_lowest 20 = .ok (.lload 7, 2) := by decide +kernel
theorem dX7_lowest_22 : decode cX7_lowest 22 = .ok (.lstore 5, 2) := by decide +kernel
theorem dX7_lowest_24 : decode cX7_lowest 24 = .ok (.lload 9, 2) := by decide +kernel
theorem dX7_lowest_26 : decode cX7_lowest 26 = .ok (.lstore 7, 2) := by decide +kernel
theorem dX7_lowest_28 : decode cX7_lowest 28 = .ok (.goto (-22), 3) := by decide +kernel
theorem dX7_lowest_31 : decode cX7_lowest 31 = .ok (.iload 4, 2) := by decide +kernel
theorem dX7_lowest_33 : decode cX7_lowest 33 = .ok (.ifCond .ne 10, 3) := by decide +kernel
theorem dX7_lowest_36 : decode cX7_lowest 36 = .ok (.lload_n 0, 1) := by decide +kernel
theorem dX7_lowest_37 : decode cX7_lowest 37 = .ok (.lload 5, 2) := by decide +kernel
theorem dX7_lowest_39 : decode cX7_lowest 39 = .ok (.ldiv, 1) := by decide +kernel
theorem dX7_lowest_40 : decode cX7_lowest 40 = .ok (.goto 7, 3) := by decide +kernel
theorem dX7_lowest_43 : decode cX7_lowest 43 = .ok (.lload_n 2, 1) := by decide +kernel
theorem dX7_lowest_44 : decode cX7_lowest 44 = .ok (.lload 5, 2) := by decide +kernel
theorem dX7_lowest_46 : decode cX7_lowest 46 = .ok (.ldiv, 1) := by decide +kernel
theorem dX7_lowest_47 : decode cX7_lowest 47 = .ok (.lreturn, 1) := by decide +kernel
theorem dX7_mean_0 : decode cX7_mean 0 = .ok (.iload_n 1, 1) := by decide +kernel
theorem dX7_mean_1 : decode cX7_mean 1 = .ok (.i2l, 1) := by decide +kernel
theorem dX7_mean_2 : decode cX7_mean 2 = .ok (.lconst 0, 1) := by decide +kernel
theorem dX7_mean_3 : decode cX7_mean 3 = .ok (.lconst 1, 1) := by decide +kernel
theorem dX7_mean_4 : decode cX7_mean 4 = .ok (.invokestatic 91, 3) := by decide +kernel
theorem dX7_mean_7 : decode cX7_mean 7 = .ok (.ifCond .eq 13, 3) := by decide +kernel
theorem dX7_mean_10 : decode cX7_mean 10 = .ok (.iload_n 2, 1) := by decide +kernel
theorem dX7_mean_11 : decode cX7_mean 11 = .ok (.i2l, 1) := by decide +kernel
theorem dX7_mean_12 : decode cX7_mean 12 = .ok (.lconst 0, 1) := by decide +kernel
theorem dX7_mean_13 : decode cX7_mean 13 = .ok (.lconst 1, 1) := by decide +kernel
theorem dX7_mean_14 : decode cX7_mean 14 = .ok (.invokestatic 91, 3) := by decide +kernel
theorem dX7_mean_17 : decode cX7_mean 17 = .ok (.ifCond .ne 7, 3) := by decide +kernel
theorem dX7_mean_20 : decode cX7_mean 20 = .ok (.ldc2_w 323, 3) := by decide +kernel
theorem dX7_mean_23 : decode cX7_mean 23 = .ok (.lreturn, 1) := by decide +kernel
theorem dX7_mean_24 : decode cX7_mean 24 = .ok (.lconst 0, 1) := by decide +kernel
theorem dX7_mean_25 : decode cX7_mean 25 = .ok (.lstore_n 3, 1) := by decide +kernel
theorem dX7_mean_26 : decode cX7_mean 26 = .ok (.lconst 1, 1) := by decide +kernel
theorem dX7_mean_27 : decode cX7_mean 27 = .ok (.lstore 5, 2) := by decide +kernel
theorem dX7_mean_29 : decode cX7_mean 29 = .ok (.iconst 0, 1) := by decide +kernel
theorem dX7_mean_30 : decode cX7_mean 30 = .ok (.istore 7, 2) := by decide +kernel
theorem dX7_mean_32 : decode cX7_mean 32 = .ok (.iload 7, 2) := by decide +kernel
theorem dX7_mean_34 : decode cX7_mean 34 = .ok (.aload_n 0, 1) := by decide +kernel
theorem dX7_mean_35 : decode cX7_mean 35 = .ok (.getfield 88, 3) := by decide +kernel
theorem dX7_mean_38 : decode cX7_mean 38 = .ok (.if_icmp .ge 17, 3) := by decide +kernel
theorem dX7_mean_41 : decode cX7_mean 41 = .ok (.lload 5, 2) := by decide +kernel
theorem dX7_mean_43 : decode cX7_mean 43 = .ok (.ldc2_w 110, 3) := by decide +kernel
theorem dX7_mean_46 : decode cX7_mean 46 = .ok (.lmul, 1) := by decide +kernel
theorem dX7_mean_47 : decode cX7_mean 47 = .ok (.lstore 5, 2) := by decide +kernel
theorem dX7_mean_49 : decode cX7_mean 49 = .ok (.iinc 7 1, 3) := by decide +kernel
theorem dX7_mean_52 : decode cX7_mean 52 = .ok (.goto (-20), 3) := by decide +kernel
theorem dX7_mean_55 : decode cX7_mean 55 = .ok (.iconst 0, 1) := by decide +kernel
theorem dX7_mean_56 : decode cX7_mean 56 = .ok (.istore 7, 2) := by decide +kernel
theorem dX7_mean_58 : decode cX7_mean 58 = .ok (.iload 7, 2) := by decide +kernel
theorem dX7_mean_60 : decode cX7_mean 60 = .ok (.aload_n 0, 1) := by decide +kernel
theorem dX7_mean_61 : decode cX7_mean 61 = .ok (.invokevirtual 291, 3) := by decide +kernel
theorem dX7_mean_64 : decode cX7_mean 64 = .ok (.if_icmp .gt 115, 3) := by decide +kernel
theorem dX7_mean_67 : decode cX7_mean 67 = .ok (.lconst 1, 1) := by decide +kernel
theorem dX7_mean_68 : decode cX7_mean 68 = .ok (.lstore 8, 2) := by decide +kernel
theorem dX7_mean_70 : decode cX7_mean 70 = .ok (.iconst 0, 1) := by decide +kernel
theorem dX7_mean_71 : decode cX7_mean 71 = .ok (.istore 10, 2) := by decide +kernel
theorem dX7_mean_73 : decode cX7_mean 73 = .ok (.iload 10, 2) := by decide +kernel
theorem dX7_mean_75 : decode cX7_mean 75 = .ok (.aload_n 0, 1) := by decide +kernel
theorem dX7_mean_76 : decode cX7_mean 76 = .ok (.getfield 88, 3) := by decide +kernel
theorem dX7_mean_79 : decode cX7_mean 79 = .ok (.if_icmp .ge 47, 3) := by decide +kernel
theorem dX7_mean_82 : decode cX7_mean 82 = .ok (.lload 8, 2) := by decide +kernel
theorem dX7_mean_84 : decode cX7_mean 84 = .ok (.iload 7, 2) := by decide +kernel
theorem dX7_mean_86 : decode cX7_mean 86 = .ok (.iload 10, 2) := by decide +kernel
theorem dX7_mean_88 : decode cX7_mean 88 = .ok (.ishr, 1) := by decide +kernel
theorem dX7_mean_89 : decode cX7_mean 89 = .ok (.iconst 1, 1) := by decide +kernel
theorem dX7_mean_90 : decode cX7_mean 90 = .ok (.iand, 1) := by decide +kernel
theorem dX7_mean_91 : decode cX7_mean 91 = .ok (.iconst 1, 1) := by decide +kernel
theorem dX7_mean_92 : decode cX7_mean 92 = .ok (.if_icmp .ne 14, 3) := by decide +kernel
theorem dX7_mean_95 : decode cX7_mean 95 = .ok (.aload_n 0, 1) := by decide +kernel
theorem dX7_mean_96 : decode cX7_mean 96 = .ok (.getfield 44, 3) := by decide +kernel
theorem dX7_mean_99 : decode cX7_mean 99 = .ok (.iload 10, 2) := by decide +kernel
theorem dX7_mean_101 : decode cX7_mean 101 = .ok (.iaload, 1) := by decide +kernel
theorem dX7_mean_102 : decode cX7_mean 102 = .ok (.i2l, 1) := by decide +kernel
theorem dX7_mean_103 : decode cX7_mean 103 = .ok (.goto 14, 3) := by decide +kernel
theorem dX7_mean_106 : decode cX7_mean 106 = .ok (.bipush 100, 2) := by decide +kernel
theorem dX7_mean_108 : decode cX7_mean 108 = .ok (.aload_n 0, 1) := by decide +kernel
theorem dX7_mean_109 : decode cX7_mean 109 = .ok (.getfield 44, 3) := by decide +kernel
theorem dX7_mean_112 : decode cX7_mean 112 = .ok (.iload 10, 2) := by decide +kernel
theorem dX7_mean_114 : decode cX7_mean 114 = .ok (.iaload, 1) := by decide +kernel
theorem dX7_mean_115 : decode cX7_mean 115 = .ok (.isub, 1) := by decide +kernel
theorem dX7_mean_116 : decode cX7_mean 116 = .ok (.i2l, 1) := by decide +kernel
theorem dX7_mean_117 : decode cX7_mean 117 = .ok (.lmul, 1) := by decide +kernel
theorem dX7_mean_118 : decode cX7_mean 118 = .ok (.lstore 8, 2) := by decide +kernel
theorem dX7_mean_120 : decode cX7_mean 120 = .ok (.iinc 10 1, 3) := by decide +kernel
theorem dX7_mean_123 : decode cX7_mean 123 = .ok (.goto (-50), 3) := by decide +kernel
theorem dX7_mean_126 : decode cX7_mean 126 = .ok (.lload 8, 2) := by decide +kernel
theorem dX7_mean_128 : decode cX7_mean 128 = .ok (.lconst 0, 1) := by decide +kernel
theorem dX7_mean_129 : decode cX7_mean 129 = .ok (.lcmp, 1) := by decide +kernel
theorem dX7_mean_130 : decode cX7_mean 130 = .ok (.ifCond .le 43, 3) := by decide +kernel
theorem dX7_mean_133 : decode cX7_mean 133 = .ok (.aload_n 0, 1) := by decide +kernel
theorem dX7_mean_134 : decode cX7_mean 134 = .ok (.iload 7, 2) := by decide +kernel
theorem dX7_mean_136 : decode cX7_mean 136 = .ok (.invokevirtual 294, 3) := by decide +kernel
theorem dX7_mean_139 : decode cX7_mean 139 = .ok (.aload_n 0, 1) := by decide +kernel
theorem dX7_mean_140 : decode cX7_mean 140 = .ok (.invokevirtual 298, 3) := by decide +kernel
theorem dX7_mean_143 : decode cX7_mean 143 = .ok (.istore 10, 2) := by decide +kernel
theorem dX7_mean_145 : decode cX7_mean 145 = .ok (.lload_n 3, 1) := by decide +kernel
theorem dX7_mean_146 : decode cX7_mean 146 = .ok (.lload 8, 2) := by decide +kernel
theorem dX7_mean_148 : decode cX7_mean 148 = .ok (.iload_n 1, 1) := by decide +kernel
theorem dX7_mean_149 : decode cX7_mean 149 = .ok (.ifCond .ne 8, 3) := by decide +kernel
theorem dX7_mean_152 : decode cX7_mean 152 = .ok (.iload 10, 2) := by decide +kernel
theorem dX7_mean_154 : decode cX7_mean 154 = .ok (.goto 15, 3) := by decide +kernel
theorem dX7_mean_157 : decode cX7_mean 157 = .ok (.aload_n 0, 1) := by decide +kernel
theorem dX7_mean_158 : decode cX7_mean 158 = .ok (.getfield 279, 3) := by decide +kernel
theorem dX7_mean_161 : decode cX7_mean 161 = .ok (.ifCond .ne 7, 3) := by decide +kernel
theorem dX7_mean_164 : decode cX7_mean 164 = .ok (.iconst 1, 1) := by decide +kernel
theorem dX7_mean_165 : decode cX7_mean 165 = .ok (.goto 4, 3) := by decide +kernel
theorem dX7_mean_168 : decode cX7_mean 168 = .ok (.iconst 0, 1) := by decide +kernel
theorem dX7_mean_169 : decode cX7_mean 169 = .ok (.i2l, 1) := by decide +kernel
theorem dX7_mean_170 : decode cX7_mean 170 = .ok (.lmul, 1) := by decide +kernel
theorem dX7_mean_171 : decode cX7_mean 171 = .ok (.ladd, 1) := by decide +kernel
theorem dX7_mean_172 : decode cX7_mean 172 = .ok (.lstore_n 3, 1) := by decide +kernel
theorem dX7_mean_173 : decode cX7_mean 173 = .ok (.iinc 7 1, 3) := by decide +kernel
theorem dX7_mean_176 : decode cX7_mean 176 = .ok (.goto (-118), 3) := by decide +kernel
theorem dX7_mean_179 : decode cX7_mean 179 = .ok (.lload_n 3, 1) := by decide +kernel
theorem dX7_mean_180 : decode cX7_mean 180 = .ok (.lload 5, 2) := by decide +kernel
theorem dX7_mean_182 : decode cX7_mean 182 = .ok (.iload_n 2, 1) := by decide +kernel
theorem dX7_mean_183 : decode cX7_mean 183 = .ok (.invokestatic 325, 3) := by decide +kernel
theorem dX7_mean_186 : decode cX7_mean 186 = .ok (.lreturn, 1) := by decide +kernel
theorem dX7_mustFor_0 : decode cX7_mustFor 0 = .ok (.aload_n 0, 1) := by decide +kernel
theorem dX7_mustFor_1 : decode cX7_mustFor 1 = .ok (.iload_n 1, 1) := by decide +kernel
theorem dX7_mustFor_2 : decode cX7_mustFor 2 = .ok (.iload_n 2, 1) := by decide +kernel
theorem dX7_mustFor_3 : decode cX7_mustFor 3 = .ok (.iconst (-1), 1) := by decide +kernel
theorem dX7_mustFor_4 : decode cX7_mustFor 4 = .ok (.invokevirtual 267, 3) := by decide +kernel
theorem dX7_mustFor_7 : decode cX7_mustFor 7 = .ok (.istore_n 3, 1) := by decide +kernel
theorem dX7_mustFor_8 : decode cX7_mustFor 8 = .ok (.aload_n 0, 1) := by decide +kernel
theorem dX7_mustFor_9 : decode cX7_mustFor 9 = .ok (.getfield 23, 3) := by decide +kernel
theorem dX7_mustFor_12 : decode cX7_mustFor 12 = .ok (.iconst 1, 1) := by decide +kernel
theorem dX7_mustFor_13 : decode cX7_mustFor 13 = .ok (.if_icmp .ne 5, 3) := by decide +kernel
theorem dX7_mustFor_16 : decode cX7_mustFor 16 = .ok (.iload_n 3, 1) := by decide +kernel
theorem dX7_mustFor_17 : decode cX7_mustFor 17 = .ok (.ireturn, 1) := by decide +kernel
theorem dX7_mustFor_18 : decode cX7_mustFor 18 = .ok (.aload_n 0, 1) := by decide +kernel
theorem dX7_mustFor_19 : decode cX7_mustFor 19 = .ok (.iload_n 1, 1) := by decide +kernel
theorem dX7_mustFor_20 : decode cX7_mustFor 20 = .ok (.iload_n 2, 1) := by decide +kernel
theorem dX7_mustFor_21 : decode cX7_mustFor 21 = .ok (.iconst 1, 1) := by decide +kernel
theorem dX7_mustFor_22 : decode cX7_mustFor 22 = .ok (.invokevirtual 267, 3) := by decide +kernel
theorem dX7_mustFor_25 : decode cX7_mustFor 25 = .ok (.istore 4, 2) := by decide +kernel
theorem dX7_mustFor_27 : decode cX7_mustFor 27 = .ok (.iload 4, 2) := by decide +kernel
theorem dX7_mustFor_29 : decode cX7_mustFor 29 = .ok (.invokestatic 270, 3) := by decide +kernel
theorem dX7_mustFor_32 : decode cX7_mustFor 32 = .ok (.iload_n 3, 1) := by decide +kernel
theorem dX7_mustFor_33 : decode cX7_mustFor 33 = .ok (.invokestatic 270, 3) := by decide +kernel
theorem dX7_mustFor_36 : decode cX7_mustFor 36 = .ok (.if_icmp .ge 8, 3) := by decide +kernel
theorem dX7_mustFor_39 : decode cX7_mustFor 39 = .ok (.iload 4, 2) := by decide +kernel
theorem dX7_mustFor_41 : decode cX7_mustFor 41 = .ok (.goto 4, 3) := by decide +kernel
theorem dX7_mustFor_44 : decode cX7_mustFor 44 = .ok (.iload_n 3, 1) := by decide +kernel
theorem dX7_mustFor_45 : decode cX7_mustFor 45 = .ok (.ireturn, 1) := by decide +kernel
theorem dX7_name_0 : decode cX7_name 0 = .ok (.aload_n 0, 1) := by decide +kernel
theorem dX7_name_1 : decode cX7_name 1 = .ok (.bipush 114, 2) := by decide +kernel
theorem dX7_name_3 : decode cX7_name 3 = .ok (.bipush 105, 2) := by decide +kernel
theorem dX7_name_5 : decode cX7_name 5 = .ok (.bipush 100, 2) := by decide +kernel
theorem dX7_name_7 : decode cX7_name 7 = .ok (.bipush 101, 2) := by decide +kernel
theorem dX7_name_9 : decode cX7_name 9 = .ok (.bipush 114, 2) := by decide +kernel
theorem dX7_name_11 : decode cX7_name 11 = .ok (.iconst 0, 1) := by decide +kernel
theorem dX7_name_12 : decode cX7_name 12 = .ok (.iconst 0, 1) := by decide +kernel
theorem dX7_name_13 : decode cX7_name 13 = .ok (.iconst 0, 1) := by decide +kernel
theorem dX7_name_14 : decode cX7_name 14 = .ok (.invokevirtual 185, 3) := by decide +kernel
theorem dX7_name_17 : decode cX7_name 17 = .ok (.ifCond .eq 8, 3) := by decide +kernel
theorem dX7_name_20 : decode cX7_name 20 = .ok (.aload_n 0, 1) := by decide +kernel
theorem dX7_name_21 : decode cX7_name 21 = .ok (.getfield 189, 3) := by decide +kernel
theorem dX7_name_24 : decode cX7_name 24 = .ok (.ireturn, 1) := by decide +kernel
theorem dX7_name_25 : decode cX7_name 25 = .ok (.aload_n 0, 1) := by decide +kernel
theorem dX7_name_26 : decode cX7_name 26 = .ok (.bipush 102, 2) := by decide +kernel
theorem dX7_name_28 : decode cX7_name 28 = .ok (.bipush 108, 2) := by decide +kernel
theorem dX7_name_30 : decode cX7_name 30 = .ok (.bipush 111, 2) := by decide +kernel
theorem dX7_name_32 : decode cX7_name 32 = .ok (.bipush 111, 2) := by decide +kernel
theorem dX7_name_34 : decode cX7_name 34 = .ok (.bipush 114, 2) := by decide +kernel
theorem dX7_name_36 : decode cX7_name 36 = .ok (.iconst 0, 1) := by decide +kernel
theorem dX7_name_37 : decode cX7_name 37 = .ok (.iconst 0, 1) := by decide +kernel
theorem dX7_name_38 : decode cX7_name 38 = .ok (.iconst 0, 1) := by decide +kernel
theorem dX7_name_39 : decode cX7_name 39 = .ok (.invokevirtual 185, 3) := by decide +kernel
theorem dX7_name_42 : decode cX7_name 42 = .ok (.ifCond .eq 8, 3) := by decide +kernel
theorem dX7_name_45 : decode cX7_name 45 = .ok (.aload_n 0, 1) := by decide +kernel
theorem dX7_name_46 : decode cX7_name 46 = .ok (.getfield 192, 3) := by decide +kernel
theorem dX7_name_49 : decode cX7_name 49 = .ok (.ireturn, 1) := by decide +kernel
theorem dX7_name_50 : decode cX7_name 50 = .ok (.aload_n 0, 1) := by decide +kernel
theorem dX7_name_51 : decode cX7_name 51 = .ok (.bipush 115, 2) := by decide +kernel
theorem dX7_name_53 : decode cX7_name 53 = .ok (.bipush 105, 2) := by decide +kernel
theorem dX7_name_55 : decode cX7_name 55 = .ok (.bipush 122, 2) := by decide +kernel
theorem dX7_name_57 : decode cX7_name 57 = .ok (.bipush 101, 2) := by decide +kernel
theorem dX7_name_59 : decode cX7_name 59 = .ok (.iconst 0, 1) := by decide +kernel
theorem dX7_name_60 : decode cX7_name 60 = .ok (.iconst 0, 1) := by decide +kernel
theorem dX7_name_61 : decode cX7_name 61 = .ok (.iconst 0, 1) := by decide +kernel
theorem dX7_name_62 : decode cX7_name 62 = .ok (.iconst 0, 1) := by decide +kernel
theorem dX7_name_63 : decode cX7_name 63 = .ok (.invokevirtual 185, 3) := by decide +kernel
theorem dX7_name_66 : decode cX7_name 66 = .ok (.ifCond .eq 8, 3) := by decide +kernel
theorem dX7_name_69 : decode cX7_name 69 = .ok (.aload_n 0, 1) := by decide +kernel
theorem dX7_name_70 : decode cX7_name 70 = .ok (.getfield 195, 3) := by decide +kernel
theorem dX7_name_73 : decode cX7_name 73 = .ok (.ireturn, 1) := by decide +kernel
theorem dX7_name_74 : decode cX7_name 74 = .ok (.aload_n 0, 1) := by decide +kernel
theorem dX7_name_75 : decode cX7_name 75 = .ok (.bipush 114, 2) := by decide +kernel
theorem dX7_name_77 : decode cX7_name 77 = .ok (.bipush 111, 2) := by decide +kernel
theorem dX7_name_79 : decode cX7_name 79 = .ok (.bipush 119, 2) := by decide +kernel
theorem dX7_name_81 : decode cX7_name 81 = .ok (.iconst 0, 1) := by decide +kernel
theorem dX7_name_82 : decode cX7_name 82 = .ok (.iconst 0, 1) := by decide +kernel
theorem dX7_name_83 : decode cX7_name 83 = .ok (.iconst 0, 1) := by decide +kernel
theorem dX7_name_84 : decode cX7_name 84 = .ok (.iconst 0, 1) := by decide +kernel
theorem dX7_name_85 : decode cX7_name 85 = .ok (.iconst 0, 1) := by decide +kernel
theorem dX7_name_86 : decode cX7_name 86 = .ok (.invokevirtual 185, 3) := by decide +kernel
theorem dX7_name_89 : decode cX7_name 89 = .ok (.ifCond .eq 8, 3) := by decide +kernel
theorem dX7_name_92 : decode cX7_name 92 = .ok (.aload_n 0, 1) := by decide +kernel
theorem dX7_name_93 : decode cX7_name 93 = .ok (.getfield 198, 3) := by decide +kernel
theorem dX7_name_96 : decode cX7_name 96 = .ok (.ireturn, 1) := by decide +kernel
theorem dX7_name_97 : decode cX7_name 97 = .ok (.aload_n 0, 1) := by decide +kernel
theorem dX7_name_98 : decode cX7_name 98 = .ok (.bipush 110, 2) := by decide +kernel
theorem dX7_name_100 : decode cX7_name 100 = .ok (.bipush 117, 2) := by decide +kernel
theorem dX7_name_102 : decode cX7_name 102 = .ok (.bipush 109, 2) := by decide +kernel
theorem dX7_name_104 : decode cX7_name 104 = .ok (.bipush 98, 2) := by decide +kernel
theorem dX7_name_106 : decode cX7_name 106 = .ok (.bipush 101, 2) := by decide +kernel
theorem dX7_name_108 : decode cX7_name 108 = .ok (.bipush 114, 2) := by decide +kernel
theorem dX7_name_110 : decode cX7_name 110 = .ok (.iconst 0, 1) := by decide +kernel
theorem dX7_name_111 : decode cX7_name 111 = .ok (.iconst 0, 1) := by decide +kernel
theorem dX7_name_112 : decode cX7_name 112 = .ok (.invokevirtual 185, 3) := by decide +kernel
theorem dX7_name_115 : decode cX7_name 115 = .ok (.ifCond .eq 8, 3) := by decide +kernel
theorem dX7_name_118 : decode cX7_name 118 = .ok (.aload_n 0, 1) := by decide +kernel
theorem dX7_name_119 : decode cX7_name 119 = .ok (.getfield 201, 3) := by decide +kernel
theorem dX7_name_122 : decode cX7_name 122 = .ok (.ireturn, 1) := by decide +kernel
theorem dX7_name_123 : decode cX7_name 123 = .ok (.aload_n 0, 1) := by decide +kernel
theorem dX7_name_124 : decode cX7_name 124 = .ok (.bipush 105, 2) := by decide +kernel
theorem dX7_name_126 : decode cX7_name 126 = .ok (.bipush 110, 2) := by decide +kernel
theorem dX7_name_128 : decode cX7_name 128 = .ok (.bipush 115, 2) := by decide +kernel
theorem dX7_name_130 : decode cX7_name 130 = .ok (.bipush 105, 2) := by decide +kernel
theorem dX7_name_132 : decode cX7_name 132 = .ok (.bipush 100, 2) := by decide +kernel
theorem dX7_name_134 : decode cX7_name 134 = .ok (.bipush 101, 2) := by decide +kernel
theorem dX7_name_136 : decode cX7_name 136 = .ok (.iconst 0, 1) := by decide +kernel
theorem dX7_name_137 : decode cX7_name 137 = .ok (.iconst 0, 1) := by decide +kernel
theorem dX7_name_138 : decode cX7_name 138 = .ok (.invokevirtual 185, 3) := by decide +kernel
theorem dX7_name_141 : decode cX7_name 141 = .ok (.ifCond .eq 8, 3) := by decide +kernel
theorem dX7_name_144 : decode cX7_name 144 = .ok (.aload_n 0, 1) := by decide +kernel
theorem dX7_name_145 : decode cX7_name 145 = .ok (.getfield 204, 3) := by decide +kernel
theorem dX7_name_148 : decode cX7_name 148 = .ok (.ireturn, 1) := by decide +kernel
theorem dX7_name_149 : decode cX7_name 149 = .ok (.aload_n 0, 1) := by decide +kernel
theorem dX7_name_150 : decode cX7_name 150 = .ok (.invokevirtual 179, 3) := by decide +kernel
theorem dX7_name_153 : decode cX7_name 153 = .ok (.iconst 0, 1) := by decide +kernel
theorem dX7_name_154 : decode cX7_name 154 = .ok (.ireturn, 1) := by decide +kernel
theorem dX7_next_0 : decode cX7_next 0 = .ok (.aload_n 0, 1) := by decide +kernel
theorem dX7_next_1 : decode cX7_next 1 = .ok (.aload_n 0, 1) := by decide +kernel
theorem dX7_next_2 : decode cX7_next 2 = .ok (.getfield 139, 3) := by decide +kernel
theorem dX7_next_5 : decode cX7_next 5 = .ok (.invokevirtual 142, 3) := by decide +kernel
theorem dX7_next_8 : decode cX7_next 8 = .ok (.bipush 32, 2) := by decide +kernel
theorem dX7_next_10 : decode cX7_next 10 = .ok (.if_icmp .eq 16, 3) := by decide +kernel
theorem dX7_next_13 : decode cX7_next 13 = .ok (.aload_n 0, 1) := by decide +kernel
theorem dX7_next_14 : decode cX7_next 14 = .ok (.aload_n 0, 1) := by decide +kernel
theorem dX7_next_15 : decode cX7_next 15 = .ok (.getfield 139, 3) := by decide +kernel
theorem dX7_next_18 : decode cX7_next 18 = .ok (.invokevirtual 142, 3) := by decide +kernel
theorem dX7_next_21 : decode cX7_next 21 = .ok (.bipush 10, 2) := by decide +kernel
theorem dX7_next_23 : decode cX7_next 23 = .ok (.if_icmp .ne 16, 3) := by decide +kernel
theorem dX7_next_26 : decode cX7_next 26 = .ok (.aload_n 0, 1) := by decide +kernel
theorem dX7_next_27 : decode cX7_next 27 = .ok (.dup, 1) := by decide +kernel
theorem dX7_next_28 : decode cX7_next 28 = .ok (.getfield 139, 3) := by decide +kernel
theorem dX7_next_31 : decode cX7_next 31 = .ok (.iconst 1, 1) := by decide +kernel
theorem dX7_next_32 : decode cX7_next 32 = .ok (.iadd, 1) := by decide +kernel
theorem dX7_next_33 : decode cX7_next 33 = .ok (.putfield 139, 3) := by decide +kernel
theorem dX7_next_36 : decode cX7_next 36 = .ok (.goto (-36), 3) := by decide +kernel
theorem dX7_next_39 : decode cX7_next 39 = .ok (.aload_n 0, 1) := by decide +kernel
theorem dX7_next_40 : decode cX7_next 40 = .ok (.aload_n 0, 1) := by decide +kernel
theorem dX7_next_41 : decode cX7_next 41 = .ok (.getfield 139, 3) := by decide +kernel
theorem dX7_next_44 : decode cX7_next 44 = .ok (.putfield 146, 3) := by decide +kernel
theorem dX7_next_47 : decode cX7_next 47 = .ok (.aload_n 0, 1) := by decide +kernel
theorem dX7_next_48 : decode cX7_next 48 = .ok (.aload_n 0, 1) := by decide +kernel
theorem dX7_next_49 : decode cX7_next 49 = .ok (.getfield 139, 3) := by decide +kernel
theorem dX7_next_52 : decode cX7_next 52 = .ok (.invokevirtual 142, 3) := by decide +kernel
theorem dX7_next_55 : decode cX7_next 55 = .ok (.istore_n 1, 1) := by decide +kernel
theorem dX7_next_56 : decode cX7_next 56 = .ok (.aload_n 0, 1) := by decide +kernel
theorem dX7_next_57 : decode cX7_next 57 = .ok (.iconst 4, 1) := by decide +kernel
theorem dX7_next_58 : decode cX7_next 58 = .ok (.putfield 149, 3) := by decide +kernel
theorem dX7_next_61 : decode cX7_next 61 = .ok (.iload_n 1, 1) := by decide +kernel
theorem dX7_next_62 : decode cX7_next 62 = .ok (.ifCond .ge 19, 3) := by decide +kernel
theorem dX7_next_65 : decode cX7_next 65 = .ok (.aload_n 0, 1) := by decide +kernel
theorem dX7_next_66 : decode cX7_next 66 = .ok (.iconst 0, 1) := by decide +kernel
theorem dX7_next_67 : decode cX7_next 67 = .ok (.putfield 149, 3) := by decide +kernel
theorem dX7_next_70 : decode cX7_next 70 = .ok (.aload_n 0, 1) := by decide +kernel
theorem dX7_next_71 : decode cX7_next 71 = .ok (.aload_n 0, 1) := by decide +kernel
theorem dX7_next_72 : decode cX7_next 72 = .ok (.getfield 133, 3) := by decide +kernel
theorem dX7_next_75 : decode cX7_next 75 = .ok (.putfield 146, 3) := by decide +kernel
theorem dX7_next_78 : decode cX7_next 78 = .ok (.goto 243, 3) := by decide +kernel
theorem dX7_next_81 : decode cX7_next 81 = .ok (.iload_n 1, 1) := by decide +kernel
theorem dX7_next_82 : decode cX7_next 82 = .ok (.i2l, 1) := by decide +kernel
theorem dX7_next_83 : decode cX7_next 83 = .ok (.ldc2_w 152, 3) := by decide +kernel
theorem dX7_next_86 : decode cX7_next 86 = .ok (.ldc2_w 154, 3) := by decide +kernel
theorem dX7_next_89 : decode cX7_next 89 = .ok (.invokestatic 91, 3) := by decide +kernel
theorem dX7_next_92 : decode cX7_next 92 = .ok (.ifCond .eq 42, 3) := by decide +kernel
theorem dX7_next_95 : decode cX7_next 95 = .ok (.aload_n 0, 1) := by decide +kernel
theorem dX7_next_96 : decode cX7_next 96 = .ok (.iconst 1, 1) := by decide +kernel
theorem dX7_next_97 : decode cX7_next 97 = .ok (.putfield 149, 3) := by decide +kernel
theorem dX7_next_100 : decode cX7_next 100 = .ok (.aload_n 0, 1) := by decide +kernel
theorem dX7_next_101 : decode cX7_next 101 = .ok (.aload_n 0, 1) := by decide +kernel
theorem dX7_next_102 : decode cX7_next 102 = .ok (.getfield 139, 3) := by decide +kernel
theorem dX7_next_105 : decode cX7_next 105 = .ok (.invokevirtual 142, 3) := by decide +kernel
theorem dX7_next_108 : decode cX7_next 108 = .ok (.i2l, 1) := by decide +kernel
theorem dX7_next_109 : decode cX7_next 109 = .ok (.ldc2_w 152, 3) := by decide +kernel
theorem dX7_next_112 : decode cX7_next 112 = .ok (.ldc2_w 154, 3) := by decide +kernel
theorem dX7_next_115 : decode cX7_next 115 = .ok (.invokestatic 91, 3) := by decide +kernel
theorem dX7_next_118 : decode cX7_next 118 = .ok (.ifCond .eq 203, 3) := by decide +kernel
theorem dX7_next_121 : decode cX7_next 121 = .ok (.aload_n 0, 1) := by decide +kernel
theorem dX7_next_122 : decode cX7_next 122 = .ok (.dup, 1) := by decide +kernel
theorem dX7_next_123 : decode cX7_next 123 = .ok (.getfield 139, 3) := by decide +kernel
theorem dX7_next_126 : decode cX7_next 126 = .ok (.iconst 1, 1) := by decide +kernel
theorem dX7_next_127 : decode cX7_next 127 = .ok (.iadd, 1) := by decide +kernel
theorem dX7_next_128 : decode cX7_next 128 = .ok (.putfield 139, 3) := by decide +kernel
theorem dX7_next_131 : decode cX7_next 131 = .ok (.goto (-31), 3) := by decide +kernel
theorem dX7_next_134 : decode cX7_next 134 = .ok (.iload_n 1, 1) := by decide +kernel
theorem dX7_next_135 : decode cX7_next 135 = .ok (.i2l, 1) := by decide +kernel
theorem dX7_next_136 : decode cX7_next 136 = .ok (.ldc2_w 156, 3) := by decide +kernel
theorem dX7_next_139 : decode cX7_next 139 = .ok (.ldc2_w 158, 3) := by decide +kernel
theorem dX7_next_142 : decode cX7_next 142 = .ok (.invokestatic 91, 3) := by decide +kernel
theorem dX7_next_145 : decode cX7_next 145 = .ok (.ifCond .eq 107, 3) := by decide +kernel
theorem dX7_next_148 : decode cX7_next 148 = .ok (.aload_n 0, 1) := by decide +kernel
theorem dX7_next_149 : decode cX7_next 149 = .ok (.iconst 2, 1) := by decide +kernel
theorem dX7_next_150 : decode cX7_next 150 = .ok (.putfield 149, 3) := by decide +kernel
theorem dX7_next_153 : decode cX7_next 153 = .ok (.aload_n 0, 1) := by decide +kernel
theorem dX7_next_154 : decode cX7_next 154 = .ok (.lconst 0, 1) := by decide +kernel
theorem dX7_next_155 : decode cX7_next 155 = .ok (.putfield 160, 3) := by decide +kernel
theorem dX7_next_158 : decode cX7_next 158 = .ok (.iconst 0, 1) := by decide +kernel
theorem dX7_next_159 : decode cX7_next 159 = .ok (.istore_n 2, 1) := by decide +kernel
theorem dX7_next_160 : decode cX7_next 160 = .ok (.aload_n 0, 1) := by decide +kernel
theorem dX7_next_161 : decode cX7_next 161 = .ok (.aload_n 0, 1) := by decide +kernel
theorem dX7_next_162 : decode cX7_next 162 = .ok (.getfield 139, 3) := by decide +kernel
theorem dX7_next_165 : decode cX7_next 165 = .ok (.invokevirtual 142, 3) := by decide +kernel
theorem dX7_next_168 : decode cX7_next 168 = .ok (.i2l, 1) := by decide +kernel
theorem dX7_next_169 : decode cX7_next 169 = .ok (.ldc2_w 156, 3) := by decide +kernel
theorem dX7_next_172 : decode cX7_next 172 = .ok (.ldc2_w 158, 3) := by decide +kernel
theorem dX7_next_175 : decode cX7_next 175 = .ok (.invokestatic 91, 3) := by decide +kernel
theorem dX7_next_178 : decode cX7_next 178 = .ok (.ifCond .eq 57, 3) := by decide +kernel
theorem dX7_next_181 : decode cX7_next 181 = .ok (.aload_n 0, 1) := by decide +kernel
theorem dX7_next_182 : decode cX7_next 182 = .ok (.iload_n 2, 1) := by decide +kernel
theorem dX7_next_183 : decode cX7_next 183 = .ok (.iconst 4, 1) := by decide +kernel
theorem dX7_next_184 : decode cX7_next 184 = .ok (.if_icmp .ge 28, 3) := by decide +kernel
theorem dX7_next_187 : decode cX7_next 187 = .ok (.ldc2_w 164, 3) := by decide +kernel
theorem dX7_next_190 : decode cX7_next 190 = .ok (.aload_n 0, 1) := by decide +kernel
theorem dX7_next_191 : decode cX7_next 191 = .ok (.getfield 160, 3) := by decide +kernel
theorem dX7_next_194 : decode cX7_next 194 = .ok (.lmul, 1) := by decide +kernel
theorem dX7_next_195 : decode cX7_next 195 = .ok (.aload_n 0, 1) := by decide +kernel
theorem dX7_next_196 : decode cX7_next 196 = .ok (.aload_n 0, 1) := by decide +kernel
theorem dX7_next_197 : decode cX7_next 197 = .ok (.getfield 139, 3) := by decide +kernel
theorem dX7_next_200 : decode cX7_next 200 = .ok (.invokevirtual 142, 3) := by decide +kernel
theorem dX7_next_203 : decode cX7_next 203 = .ok (.i2l, 1) := by decide +kernel
theorem dX7_next_204 : decode cX7_next 204 = .ok (.ladd, 1) := by decide +kernel
theorem dX7_next_205 : decode cX7_next 205 = .ok (.ldc2_w 156, 3) := by decide +kernel
theorem dX7_next_208 : decode cX7_next 208 = .ok (.lsub, 1) := by decide +kernel
theorem dX7_next_209 : decode cX7_next 209 = .ok (.goto 7, 3) := by decide +kernel
theorem dX7_next_212 : decode cX7_next 212 = .ok (.aload_n 0, 1) := by decide +kernel
theorem dX7_next_213 : decode cX7_next 213 = .ok (.getfield 160, 3) := by decide +kernel
theorem dX7_next_216 : decode cX7_next 216 = .ok (.putfield 160, 3) := by decide +kernel
theorem dX7_next_219 : decode cX7_next 219 = .ok (.iinc 2 1, 3) := by decide +kernel
theorem dX7_next_222 : decode cX7_next 222 = .ok (.aload_n 0, 1) := by decide +kernel
theorem dX7_next_223 : decode cX7_next 223 = .ok (.dup, 1) := by decide +kernel
theorem dX7_next_224 : decode cX7_next 224 = .ok (.getfield 139, 3) := by decide +kernel
theorem dX7_next_227 : decode cX7_next 227 = .ok (.iconst 1, 1) := by decide +kernel
theorem dX7_next_228 : decode cX7_next 228 = .ok (.iadd, 1) := by decide +kernel
theorem dX7_next_229 : decode cX7_next 229 = .ok (.putfield 139, 3) := by decide +kernel
theorem dX7_next_232 : decode cX7_next 232 = .ok (.goto (-72), 3) := by decide +kernel
theorem dX7_next_235 : decode cX7_next 235 = .ok (.aload_n 0, 1) := by decide +kernel
theorem dX7_next_236 : decode cX7_next 236 = .ok (.iload_n 2, 1) := by decide +kernel
theorem dX7_next_237 : decode cX7_next 237 = .ok (.iconst 4, 1) := by decide +kernel
theorem dX7_next_238 : decode cX7_next 238 = .ok (.if_icmp .le 7, 3) := by decide +kernel
theorem dX7_next_241 : decode cX7_next 241 = .ok (.iconst 4, 1) := by decide +kernel
theorem dX7_next_242 : decode cX7_next 242 = .ok (.goto 4, 3) := by decide +kernel
theorem dX7_next_245 : decode cX7_next 245 = .ok (.iconst 2, 1) := by decide +kernel
theorem dX7_next_246 : decode cX7_next 246 = .ok (.putfield 149, 3) := by decide +kernel
theorem dX7_next_249 : decode cX7_next 249 = .ok (.goto 72, 3) := by decide +kernel
theorem dX7_next_252 : decode cX7_next 252 = .ok (.iload_n 1, 1) := by decide +kernel
theorem dX7_next_253 : decode cX7_next 253 = .ok (.bipush 40, 2) := by decide +kernel
theorem dX7_next_255 : decode cX7_next 255 = .ok (.if_icmp .eq 45, 3) := by decide +kernel
theorem dX7_next_258 : decode cX7_next 258 = .ok (.iload_n 1, 1) := by decide +kernel
theorem dX7_next_259 : decode cX7_next 259 = .ok (.bipush 41, 2) := by decide +kernel
theorem dX7_next_261 : decode cX7_next 261 = .ok (.if_icmp .eq 39, 3) := by decide +kernel
theorem dX7_next_264 : decode cX7_next 264 = .ok (.iload_n 1, 1) := by decide +kernel
theorem dX7_next_265 : decode cX7_next 265 = .ok (.bipush 59, 2) := by decide +kernel
theorem dX7_next_267 : decode cX7_next 267 = .ok (.if_icmp .eq 33, 3) := by decide +kernel
theorem dX7_next_270 : decode cX7_next 270 = .ok (.iload_n 1, 1) := by decide +kernel
theorem dX7_next_271 : decode cX7_next 271 = .ok (.bipush 43, 2) := by decide +kernel
theorem dX7_next_273 : decode cX7_next 273 = .ok (.if_icmp .eq 27, 3) := by decide +kernel
theorem dX7_next_276 : decode cX7_next 276 = .ok (.iload_n 1, 1) := by decide +kernel
theorem dX7_next_277 : decode cX7_next 277 = .ok (.bipush 45, 2) := by decide +kernel
theorem dX7_next_279 : decode cX7_next 279 = .ok (.if_icmp .eq 21, 3) := by decide +kernel
theorem dX7_next_282 : decode cX7_next 282 = .ok (.iload_n 1, 1) := by decide +kernel
theorem dX7_next_283 : decode cX7_next 283 = .ok (.bipush 42, 2) := by decide +kernel
theorem dX7_next_285 : decode cX7_next 285 = .ok (.if_icmp .eq 15, 3) := by decide +kernel
theorem dX7_next_288 : decode cX7_next 288 = .ok (.iload_n 1, 1) := by decide +kernel
theorem dX7_next_289 : decode cX7_next 289 = .ok (.bipush 60, 2) := by decide +kernel
theorem dX7_next_291 : decode cX7_next 291 = .ok (.if_icmp .eq 9, 3) := by decide +kernel
theorem dX7_next_294 : decode cX7_next 294 = .ok (.iload_n 1, 1) := by decide +kernel
theorem dX7_next_295 : decode cX7_next 295 = .ok (.bipush 61, 2) := by decide +kernel
theorem dX7_next_297 : decode cX7_next 297 = .ok (.if_icmp .ne 24, 3) := by decide +kernel
theorem dX7_next_300 : decode cX7_next 300 = .ok (.aload_n 0, 1) := by decide +kernel
theorem dX7_next_301 : decode cX7_next 301 = .ok (.iconst 3, 1) := by decide +kernel
theorem dX7_next_302 : decode cX7_next 302 = .ok (.putfield 149, 3) := by decide +kernel
theorem dX7_next_305 : decode cX7_next 305 = .ok (.aload_n 0, 1) := by decide +kernel
theorem dX7_next_306 : decode cX7_next 306 = .ok (.iload_n 1, 1) := by decide +kernel
theorem dX7_next_307 : decode cX7_next 307 = .ok (.i2l, 1) := by decide +kernel
theorem dX7_next_308 : decode cX7_next 308 = .ok (.putfield 160, 3) := by decide +kernel
theorem dX7_next_311 : decode cX7_next 311 = .ok (.aload_n 0, 1) := by decide +kernel
theorem dX7_next_312 : decode cX7_next 312 = .ok (.dup, 1) := by decide +kernel
theorem dX7_next_313 : decode cX7_next 313 = .ok (.getfield 139, 3) := by decide +kernel
theorem dX7_next_316 : decode cX7_next 316 = .ok (.iconst 1, 1) := by decide +kernel
theorem dX7_next_317 : decode cX7_next 317 = .ok (.iadd, 1) := by decide +kernel
theorem dX7_next_318 : decode cX7_next 318 = .ok (.putfield 139, 3) := by decide +kernel
theorem dX7_next_321 : decode cX7_next 321 = .ok (.return_, 1) := by decide +kernel
theorem dX7_not_0 : decode cX7_not 0 = .ok (.aload_n 0, 1) := by decide +kernel
theorem dX7_not_1 : decode cX7_not 1 = .ok (.bipush 110, 2) := by decide +kernel
theorem dX7_not_3 : decode cX7_not 3 = .ok (.bipush 111, 2) := by decide +kernel
theorem dX7_not_5 : decode cX7_not 5 = .ok (.bipush 116, 2) := by decide +kernel
theorem dX7_not_7 : decode cX7_not 7 = .ok (.iconst 0, 1) := by decide +kernel
theorem dX7_not_8 : decode cX7_not 8 = .ok (.iconst 0, 1) := by decide +kernel
theorem dX7_not_9 : decode cX7_not 9 = .ok (.iconst 0, 1) := by decide +kernel
theorem dX7_not_10 : decode cX7_not 10 = .ok (.iconst 0, 1) := by decide +kernel
theorem dX7_not_11 : decode cX7_not 11 = .ok (.iconst 0, 1) := by decide +kernel
theorem dX7_not_12 : decode cX7_not 12 = .ok (.invokevirtual 185, 3) := by decide +kernel
theorem dX7_not_15 : decode cX7_not 15 = .ok (.ifCond .eq 37, 3) := by decide +kernel
theorem dX7_not_18 : decode cX7_not 18 = .ok (.aload_n 0, 1) := by decide +kernel
theorem dX7_not_19 : decode cX7_not 19 = .ok (.invokevirtual 210, 3) := by decide +kernel
theorem dX7_not_22 : decode cX7_not 22 = .ok (.ifCond .ne 5, 3) := by decide +kernel
theorem dX7_not_25 : decode cX7_not 25 = .ok (.iconst 0, 1) := by decide +kernel
theorem dX7_not_26 : decode cX7_not 26 = .ok (.ireturn, 1) := by decide +kernel
theorem dX7_not_27 : decode cX7_not 27 = .ok (.aload_n 0, 1) := by decide +kernel
theorem dX7_not_28 : decode cX7_not 28 = .ok (.invokevirtual 229, 3) := by decide +kernel
theorem dX7_not_31 : decode cX7_not 31 = .ok (.istore_n 1, 1) := by decide +kernel
theorem dX7_not_32 : decode cX7_not 32 = .ok (.aload_n 0, 1) := by decide +kernel
theorem dX7_not_33 : decode cX7_not 33 = .ok (.dup, 1) := by decide +kernel
theorem dX7_not_34 : decode cX7_not 34 = .ok (.getfield 176, 3) := by decide +kernel
theorem dX7_not_37 : decode cX7_not 37 = .ok (.iconst 1, 1) := by decide +kernel
theorem dX7_not_38 : decode cX7_not 38 = .ok (.isub, 1) := by decide +kernel
theorem dX7_not_39 : decode cX7_not 39 = .ok (.putfield 176, 3) := by decide +kernel
theorem dX7_not_42 : decode cX7_not 42 = .ok (.iload_n 1, 1) := by decide +kernel
theorem dX7_not_43 : decode cX7_not 43 = .ok (.ifCond .ne 7, 3) := by decide +kernel
theorem dX7_not_46 : decode cX7_not 46 = .ok (.iconst 1, 1) := by decide +kernel
theorem dX7_not_47 : decode cX7_not 47 = .ok (.goto 4, 3) := by decide +kernel
theorem dX7_not_50 : decode cX7_not 50 = .ok (.iconst 0, 1) := by decide +kernel
theorem dX7_not_51 : decode cX7_not 51 = .ok (.ireturn, 1) := by decide +kernel
theorem dX7_not_52 : decode cX7_not 52 = .ok (.aload_n 0, 1) := by decide +kernel
theorem dX7_not_53 : decode cX7_not 53 = .ok (.invokevirtual 232, 3) := by decide +kernel
theorem dX7_not_56 : decode cX7_not 56 = .ok (.istore_n 1, 1) := by decide +kernel
theorem dX7_not_57 : decode cX7_not 57 = .ok (.aload_n 0, 1) := by decide +kernel
theorem dX7_not_58 : decode cX7_not 58 = .ok (.bipush 60, 2) := by decide +kernel
theorem dX7_not_60 : decode cX7_not 60 = .ok (.invokevirtual 207, 3) := by decide +kernel
theorem dX7_not_63 : decode cX7_not 63 = .ok (.ifCond .ne 14, 3) := by decide +kernel
theorem dX7_not_66 : decode cX7_not 66 = .ok (.aload_n 0, 1) := by decide +kernel
theorem dX7_not_67 : decode cX7_not 67 = .ok (.bipush 61, 2) := by decide +kernel
theorem dX7_not_69 : decode cX7_not 69 = .ok (.invokevirtual 207, 3) := by decide +kernel
theorem dX7_not_72 : decode cX7_not 72 = .ok (.ifCond .ne 5, 3) := by decide +kernel
theorem dX7_not_75 : decode cX7_not 75 = .ok (.iload_n 1, 1) := by decide +kernel
theorem dX7_not_76 : decode cX7_not 76 = .ok (.ireturn, 1) := by decide +kernel
theorem dX7_not_77 : decode cX7_not 77 = .ok (.aload_n 0, 1) := by decide +kernel
theorem dX7_not_78 : decode cX7_not 78 = .ok (.getfield 160, 3) := by decide +kernel
theorem dX7_not_81 : decode cX7_not 81 = .ok (.ldc2_w 235, 3) := by decide +kernel
theorem dX7_not_84 : decode cX7_not 84 = .ok (.lcmp, 1) := by decide +kernel
theorem dX7_not_85 : decode cX7_not 85 = .ok (.ifCond .ne 7, 3) := by decide +kernel
theorem dX7_not_88 : decode cX7_not 88 = .ok (.iconst 1, 1) := by decide +kernel
theorem dX7_not_89 : decode cX7_not 89 = .ok (.goto 4, 3) := by decide +kernel
theorem dX7_not_92 : decode cX7_not 92 = .ok (.iconst 0, 1) := by decide +kernel
theorem dX7_not_93 : decode cX7_not 93 = .ok (.istore_n 2, 1) := by decide +kernel
theorem dX7_not_94 : decode cX7_not 94 = .ok (.aload_n 0, 1) := by decide +kernel
theorem dX7_not_95 : decode cX7_not 95 = .ok (.invokevirtual 182, 3) := by decide +kernel
theorem dX7_not_98 : decode cX7_not 98 = .ok (.aload_n 0, 1) := by decide +kernel
theorem dX7_not_99 : decode cX7_not 99 = .ok (.invokevirtual 232, 3) := by decide +kernel
theorem dX7_not_102 : decode cX7_not 102 = .ok (.istore_n 3, 1) := by decide +kernel
theorem dX7_not_103 : decode cX7_not 103 = .ok (.iload_n 2, 1) := by decide +kernel
theorem dX7_not_104 : decode cX7_not 104 = .ok (.ifCond .eq 11, 3) := by decide +kernel
theorem dX7_not_107 : decode cX7_not 107 = .ok (.iload_n 1, 1) := by decide +kernel
theorem dX7_not_108 : decode cX7_not 108 = .ok (.iload_n 3, 1) := by decide +kernel
theorem dX7_not_109 : decode cX7_not 109 = .ok (.if_icmp .ge 15, 3) := by decide +kernel
theorem dX7_not_112 : decode cX7_not 112 = .ok (.goto 8, 3) := by decide +kernel
theorem dX7_not_115 : decode cX7_not 115 = .ok (.iload_n 1, 1) := by decide +kernel
theorem dX7_not_116 : decode cX7_not 116 = .ok (.iload_n 3, 1) := by decide +kernel
theorem dX7_not_117 : decode cX7_not 117 = .ok (.if_icmp .ne 7, 3) := by decide +kernel
theorem dX7_not_120 : decode cX7_not 120 = .ok (.iconst 1, 1) := by decide +kernel
theorem dX7_not_121 : decode cX7_not 121 = .ok (.goto 4, 3) := by decide +kernel
theorem dX7_not_124 : decode cX7_not 124 = .ok (.iconst 0, 1) := by decide +kernel
theorem dX7_not_125 : decode cX7_not 125 = .ok (.ireturn, 1) := by decide +kernel
theorem dX7_one_0 : decode cX7_one 0 = .ok (.aload_n 0, 1) := by decide +kernel
theorem dX7_one_1 : decode cX7_one 1 = .ok (.iload_n 1, 1) := by decide +kernel
theorem dX7_one_2 : decode cX7_one 2 = .ok (.invokevirtual 105, 3) := by decide +kernel
theorem dX7_one_5 : decode cX7_one 5 = .ok (.ifCond .eq 13, 3) := by decide +kernel
theorem dX7_one_8 : decode cX7_one 8 = .ok (.iload_n 2, 1) := by decide +kernel
theorem dX7_one_9 : decode cX7_one 9 = .ok (.i2l, 1) := by decide +kernel
theorem dX7_one_10 : decode cX7_one 10 = .ok (.lconst 0, 1) := by decide +kernel
theorem dX7_one_11 : decode cX7_one 11 = .ok (.lconst 1, 1) := by decide +kernel
theorem dX7_one_12 : decode cX7_one 12 = .ok (.invokestatic 91, 3) := by decide +kernel
theorem dX7_one_15 : decode cX7_one 15 = .ok (.ifCond .ne 6, 3) := by decide +kernel
theorem dX7_one_18 : decode cX7_one 18 = .ok (.bipush (-2), 2) := by decide +kernel
theorem dX7_one_20 : decode cX7_one 20 = .ok (.ireturn, 1) := by decide +kernel
theorem dX7_one_21 : decode cX7_one 21 = .ok (.aload_n 0, 1) := by decide +kernel
theorem dX7_one_22 : decode cX7_one 22 = .ok (.aload_n 0, 1) := by decide +kernel
theorem dX7_one_23 : decode cX7_one 23 = .ok (.invokevirtual 291, 3) := by decide +kernel
theorem dX7_one_26 : decode cX7_one 26 = .ok (.invokevirtual 294, 3) := by decide +kernel
theorem dX7_one_29 : decode cX7_one 29 = .ok (.aload_n 0, 1) := by decide +kernel
theorem dX7_one_30 : decode cX7_one 30 = .ok (.invokevirtual 313, 3) := by decide +kernel
theorem dX7_one_33 : decode cX7_one 33 = .ok (.iconst (-1), 1) := by decide +kernel
theorem dX7_one_34 : decode cX7_one 34 = .ok (.istore_n 3, 1) := by decide +kernel
theorem dX7_one_35 : decode cX7_one 35 = .ok (.iconst 0, 1) := by decide +kernel
theorem dX7_one_36 : decode cX7_one 36 = .ok (.istore 4, 2) := by decide +kernel
theorem dX7_one_38 : decode cX7_one 38 = .ok (.iconst 0, 1) := by decide +kernel
theorem dX7_one_39 : decode cX7_one 39 = .ok (.istore 5, 2) := by decide +kernel
theorem dX7_one_41 : decode cX7_one 41 = .ok (.iload 5, 2) := by decide +kernel
theorem dX7_one_43 : decode cX7_one 43 = .ok (.bipush 6, 2) := by decide +kernel
theorem dX7_one_45 : decode cX7_one 45 = .ok (.if_icmp .ge 53, 3) := by decide +kernel
theorem dX7_one_48 : decode cX7_one 48 = .ok (.aload_n 0, 1) := by decide +kernel
theorem dX7_one_49 : decode cX7_one 49 = .ok (.getfield 41, 3) := by decide +kernel
theorem dX7_one_52 : decode cX7_one 52 = .ok (.iload_n 1, 1) := by decide +kernel
theorem dX7_one_53 : decode cX7_one 53 = .ok (.iload 5, 2) := by decide +kernel
theorem dX7_one_55 : decode cX7_one 55 = .ok (.iastore, 1) := by decide +kernel
theorem dX7_one_56 : decode cX7_one 56 = .ok (.aload_n 0, 1) := by decide +kernel
theorem dX7_one_57 : decode cX7_one 57 = .ok (.aload_n 0, 1) := by decide +kernel
theorem dX7_one_58 : decode cX7_one 58 = .ok (.getfield 88, 3) := by decide +kernel
theorem dX7_one_61 : decode cX7_one 61 = .ok (.invokevirtual 101, 3) := by decide +kernel
theorem dX7_one_64 : decode cX7_one 64 = .ok (.ifCond .ne 28, 3) := by decide +kernel
theorem dX7_one_67 : decode cX7_one 67 = .ok (.aload_n 0, 1) := by decide +kernel
theorem dX7_one_68 : decode cX7_one 68 = .ok (.invokevirtual 301, 3) := by decide +kernel
theorem dX7_one_71 : decode cX7_one 71 = .ok (.istore 6, 2) := by decide +kernel
theorem dX7_one_73 : decode cX7_one 73 = .ok (.iload_n 3, 1) := by decide +kernel
theorem dX7_one_74 : decode cX7_one 74 = .ok (.iconst (-1), 1) := by decide +kernel
theorem dX7_one_75 : decode cX7_one 75 = .ok (.if_icmp .eq 10, 3) := by decide +kernel
theorem dX7_one_78 : decode cX7_one 78 = .ok (.iload 6, 2) := by decide +kernel
theorem dX7_one_80 : decode cX7_one 80 = .ok (.iload 4, 2) := by decide +kernel
theorem dX7_one_82 : decode cX7_one 82 = .ok (.if_icmp .ge 10, 3) := by decide +kernel
theorem dX7_one_85 : decode cX7_one 85 = .ok (.iload 5, 2) := by decide +kernel
theorem dX7_one_87 : decode cX7_one 87 = .ok (.istore_n 3, 1) := by decide +kernel
theorem dX7_one_88 : decode cX7_one 88 = .ok (.iload 6, 2) := by decide +kernel
theorem dX7_one_90 : decode cX7_one 90 = .ok (.istore 4, 2) := by decide +kernel
theorem dX7_one_92 : decode cX7_one 92 = .ok (.iinc 5 1, 3) := by decide +kernel
theorem dX7_one_95 : decode cX7_one 95 = .ok (.goto (-54), 3) := by decide +kernel
theorem dX7_one_98 : decode cX7_one 98 = .ok (.aload_n 0, 1) := by decide +kernel
theorem dX7_one_99 : decode cX7_one 99 = .ok (.invokevirtual 316, 3) := by decide +kernel
theorem dX7_one_102 : decode cX7_one 102 = .ok (.iload_n 2, 1) := by decide +kernel
theorem dX7_one_103 : decode cX7_one 103 = .ok (.ifCond .ne 7, 3) := by decide +kernel
theorem dX7_one_106 : decode cX7_one 106 = .ok (.iload_n 3, 1) := by decide +kernel
theorem dX7_one_107 : decode cX7_one 107 = .ok (.goto 5, 3) := by decide +kernel
theorem dX7_one_110 : decode cX7_one 110 = .ok (.iload 4, 2) := by decide +kernel
theorem dX7_one_112 : decode cX7_one 112 = .ok (.ireturn, 1) := by decide +kernel
theorem dX7_opens_0 : decode cX7_opens 0 = .ok (.aload_n 0, 1) := by decide +kernel
theorem dX7_opens_1 : decode cX7_opens 1 = .ok (.getfield 176, 3) := by decide +kernel
theorem dX7_opens_4 : decode cX7_opens 4 = .ok (.iconst 5, 1) := by decide +kernel
theorem dX7_opens_5 : decode cX7_opens 5 = .ok (.if_icmp .ne 9, 3) := by decide +kernel
theorem dX7_opens_8 : decode cX7_opens 8 = .ok (.aload_n 0, 1) := by decide +kernel
theorem dX7_opens_9 : decode cX7_opens 9 = .ok (.invokevirtual 179, 3) := by decide +kernel
theorem dX7_opens_12 : decode cX7_opens 12 = .ok (.iconst 0, 1) := by decide +kernel
theorem dX7_opens_13 : decode cX7_opens 13 = .ok (.ireturn, 1) := by decide +kernel
theorem dX7_opens_14 : decode cX7_opens 14 = .ok (.aload_n 0, 1) := by decide +kernel
theorem dX7_opens_15 : decode cX7_opens 15 = .ok (.dup, 1) := by decide +kernel
theorem dX7_opens_16 : decode cX7_opens 16 = .ok (.getfield 176, 3) := by decide +kernel
theorem dX7_opens_19 : decode cX7_opens 19 = .ok (.iconst 1, 1) := by decide +kernel
theorem dX7_opens_20 : decode cX7_opens 20 = .ok (.iadd, 1) := by decide +kernel
theorem dX7_opens_21 : decode cX7_opens 21 = .ok (.putfield 176, 3) := by decide +kernel
theorem dX7_opens_24 : decode cX7_opens 24 = .ok (.aload_n 0, 1) := by decide +kernel
theorem dX7_opens_25 : decode cX7_opens 25 = .ok (.invokevirtual 182, 3) := by decide +kernel
theorem dX7_opens_28 : decode cX7_opens 28 = .ok (.iconst 1, 1) := by decide +kernel
theorem dX7_opens_29 : decode cX7_opens 29 = .ok (.ireturn, 1) := by decide +kernel
theorem dX7_over_0 : decode cX7_over 0 = .ok (.iload_n 0, 1) := by decide +kernel
theorem dX7_over_1 : decode cX7_over 1 = .ok (.ifCond .ne 7, 3) := by decide +kernel
theorem dX7_over_4 : decode cX7_over 4 = .ok (.iconst (-1), 1) := by decide +kernel
theorem dX7_over_5 : decode cX7_over 5 = .ok (.goto 27, 3) := by decide +kernel
theorem dX7_over_8 : decode cX7_over 8 = .ok (.iload_n 0, 1) := by decide +kernel
theorem dX7_over_9 : decode cX7_over 9 = .ok (.iconst 3, 1) := by decide +kernel
theorem dX7_over_10 : decode cX7_over 10 = .ok (.if_icmp .eq 8, 3) := by decide +kernel
theorem dX7_over_13 : decode cX7_over 13 = .ok (.iload_n 0, 1) := by decide +kernel
theorem dX7_over_14 : decode cX7_over 14 = .ok (.iconst 5, 1) := by decide +kernel
theorem dX7_over_15 : decode cX7_over 15 = .ok (.if_icmp .ne 7, 3) := by decide +kernel
theorem dX7_over_18 : decode cX7_over 18 = .ok (.iconst 1, 1) := by decide +kernel
theorem dX7_over_19 : decode cX7_over 19 = .ok (.goto 13, 3) := by decide +kernel
theorem dX7_over_22 : decode cX7_over 22 = .ok (.iload_n 0, 1) := by decide +kernel
theorem dX7_over_23 : decode cX7_over 23 = .ok (.iconst 4, 1) := by decide +kernel
theorem dX7_over_24 : decode cX7_over 24 = .ok (.if_icmp .ne 7, 3) := by decide +kernel
theorem dX7_over_27 : decode cX7_over 27 = .ok (.iconst 2, 1) := by decide +kernel
theorem dX7_over_28 : decode cX7_over 28 = .ok (.goto 4, 3) := by decide +kernel
theorem dX7_over_31 : decode cX7_over 31 = .ok (.iconst 0, 1) := by decide +kernel
theorem dX7_over_32 : decode cX7_over 32 = .ok (.ireturn, 1) := by decide +kernel
theorem dX7_part_0 : decode cX7_part 0 = .ok (.iload_n 1, 1) := by decide +kernel
theorem dX7_part_1 : decode cX7_part 1 = .ok (.ifCond .ne 7, 3) := by decide +kernel
theorem dX7_part_4 : decode cX7_part 4 = .ok (.aload_n 0, 1) := by decide +kernel
theorem dX7_part_5 : decode cX7_part 5 = .ok (.invokevirtual 179, 3) := by decide +kernel
theorem dX7_part_8 : decode cX7_part 8 = .ok (.aload_n 0, 1) := by decide +kernel
theorem dX7_part_9 : decode cX7_part 9 = .ok (.getfield 166, 3) := by decide +kernel
theorem dX7_part_12 : decode cX7_part 12 = .ok (.ifCond .ne 7, 3) := by decide +kernel
theorem dX7_part_15 : decode cX7_part 15 = .ok (.aload_n 0, 1) := by decide +kernel
theorem dX7_part_16 : decode cX7_part 16 = .ok (.invokevirtual 182, 3) := by decide +kernel
theorem dX7_part_19 : decode cX7_part 19 = .ok (.aload_n 0, 1) := by decide +kernel
theorem dX7_part_20 : decode cX7_part 20 = .ok (.getfield 166, 3) := by decide +kernel
theorem dX7_part_23 : decode cX7_part 23 = .ok (.ifCond .eq 7, 3) := by decide +kernel
theorem dX7_part_26 : decode cX7_part 26 = .ok (.iconst 0, 1) := by decide +kernel
theorem dX7_part_27 : decode cX7_part 27 = .ok (.goto 7, 3) := by decide +kernel
theorem dX7_part_30 : decode cX7_part 30 = .ok (.aload_n 0, 1) := by decide +kernel
theorem dX7_part_31 : decode cX7_part 31 = .ok (.invokevirtual 218, 3) := by decide +kernel
theorem dX7_part_34 : decode cX7_part 34 = .ok (.istore_n 2, 1) := by decide +kernel
theorem dX7_part_35 : decode cX7_part 35 = .ok (.aload_n 0, 1) := by decide +kernel
theorem dX7_part_36 : decode cX7_part 36 = .ok (.bipush 59, 2) := by decide +kernel
theorem dX7_part_38 : decode cX7_part 38 = .ok (.invokevirtual 207, 3) := by decide +kernel
theorem dX7_part_41 : decode cX7_part 41 = .ok (.ifCond .ne 7, 3) := by decide +kernel
theorem dX7_part_44 : decode cX7_part 44 = .ok (.aload_n 0, 1) := by decide +kernel
theorem dX7_part_45 : decode cX7_part 45 = .ok (.invokevirtual 179, 3) := by decide +kernel
theorem dX7_part_48 : decode cX7_part 48 = .ok (.aload_n 0, 1) := by decide +kernel
theorem dX7_part_49 : decode cX7_part 49 = .ok (.getfield 166, 3) := by decide +kernel
theorem dX7_part_52 : decode cX7_part 52 = .ok (.ifCond .ne 7, 3) := by decide +kernel
theorem dX7_part_55 : decode cX7_part 55 = .ok (.aload_n 0, 1) := by decide +kernel
theorem dX7_part_56 : decode cX7_part 56 = .ok (.invokevirtual 182, 3) := by decide +kernel
theorem dX7_part_59 : decode cX7_part 59 = .ok (.iload_n 2, 1) := by decide +kernel
theorem dX7_part_60 : decode cX7_part 60 = .ok (.ireturn, 1) := by decide +kernel
theorem dX7_puts_0 : decode cX7_puts 0 = .ok (.iload_n 2, 1) := by decide +kernel
theorem dX7_puts_1 : decode cX7_puts 1 = .ok (.iconst 3, 1) := by decide +kernel
theorem dX7_puts_2 : decode cX7_puts 2 = .ok (.if_icmp .ne 13, 3) := by decide +kernel
theorem dX7_puts_5 : decode cX7_puts 5 = .ok (.aload_n 0, 1) := by decide +kernel
theorem dX7_puts_6 : decode cX7_puts 6 = .ok (.getfield 38, 3) := by decide +kernel
theorem dX7_puts_9 : decode cX7_puts 9 = .ok (.iload_n 1, 1) := by decide +kernel
theorem dX7_puts_10 : decode cX7_puts 10 = .ok (.iload_n 3, 1) := by decide +kernel
theorem dX7_puts_11 : decode cX7_puts 11 = .ok (.iastore, 1) := by decide +kernel
theorem dX7_puts_12 : decode cX7_puts 12 = .ok (.goto 10, 3) := by decide +kernel
theorem dX7_puts_15 : decode cX7_puts 15 = .ok (.aload_n 0, 1) := by decide +kernel
theorem dX7_puts_16 : decode cX7_puts 16 = .ok (.getfield 41, 3) := by decide +kernel
theorem dX7_puts_19 : decode cX7_puts 19 = .ok (.iload_n 1, 1) := by decide +kernel
theorem dX7_puts_20 : decode cX7_puts 20 = .ok (.iload_n 3, 1) := by decide +kernel
theorem dX7_puts_21 : decode cX7_puts 21 = .ok (.iastore, 1) := by decide +kernel
theorem dX7_puts_22 : decode cX7_puts 22 = .ok (.return_, 1) := by decide +kernel
theorem dX7_putsFrom_0 : decode cX7_putsFrom 0 = .ok (.iload_n 1, 1) := by decide +kernel
theorem dX7_putsFrom_1 : decode cX7_putsFrom 1 = .ok (.aload_n 0, 1) := by decide +kernel
theorem dX7_putsFrom_2 : decode cX7_putsFrom 2 = .ok (.getfield 88, 3) := by decide +kernel
theorem dX7_putsFrom_5 : decode cX7_putsFrom 5 = .ok (.if_icmp .ne 62, 3) := by decide +kernel
theorem dX7_putsFrom_8 : decode cX7_putsFrom 8 = .ok (.aload_n 0, 1) := by decide +kernel
theorem dX7_putsFrom_9 : decode cX7_putsFrom 9 = .ok (.invokevirtual 301, 3) := by decide +kernel
theorem dX7_putsFrom_12 : decode cX7_putsFrom 12 = .ok (.istore_n 2, 1) := by decide +kernel
theorem dX7_putsFrom_13 : decode cX7_putsFrom 13 = .ok (.aload_n 0, 1) := by decide +kernel
theorem dX7_putsFrom_14 : decode cX7_putsFrom 14 = .ok (.getfield 304, 3) := by decide +kernel
theorem dX7_putsFrom_17 : decode cX7_putsFrom 17 = .ok (.ifCond .eq 11, 3) := by decide +kernel
theorem dX7_putsFrom_20 : decode cX7_putsFrom 20 = .ok (.iload_n 2, 1) := by decide +kernel
theorem dX7_putsFrom_21 : decode cX7_putsFrom 21 = .ok (.aload_n 0, 1) := by decide +kernel
theorem dX7_putsFrom_22 : decode cX7_putsFrom 22 = .ok (.getfield 307, 3) := by decide +kernel
theorem dX7_putsFrom_25 : decode cX7_putsFrom 25 = .ok (.if_icmp .ge 41, 3) := by decide +kernel
theorem dX7_putsFrom_28 : decode cX7_putsFrom 28 = .ok (.aload_n 0, 1) := by decide +kernel
theorem dX7_putsFrom_29 : decode cX7_putsFrom 29 = .ok (.iconst 1, 1) := by decide +kernel
theorem dX7_putsFrom_30 : decode cX7_putsFrom 30 = .ok (.putfield 304, 3) := by decide +kernel
theorem dX7_putsFrom_33 : decode cX7_putsFrom 33 = .ok (.aload_n 0, 1) := by decide +kernel
theorem dX7_putsFrom_34 : decode cX7_putsFrom 34 = .ok (.iload_n 2, 1) := by decide +kernel
theorem dX7_putsFrom_35 : decode cX7_putsFrom 35 = .ok (.putfield 307, 3) := by decide +kernel
theorem dX7_putsFrom_38 : decode cX7_putsFrom 38 = .ok (.iconst 0, 1) := by decide +kernel
theorem dX7_putsFrom_39 : decode cX7_putsFrom 39 = .ok (.istore_n 3, 1) := by decide +kernel
theorem dX7_putsFrom_40 : decode cX7_putsFrom 40 = .ok (.iload_n 3, 1) := by decide +kernel
theorem dX7_putsFrom_41 : decode cX7_putsFrom 41 = .ok (.aload_n 0, 1) := by decide +kernel
theorem dX7_putsFrom_42 : decode cX7_putsFrom 42 = .ok (.getfield 88, 3) := by decide +kernel
theorem dX7_putsFrom_45 : decode cX7_putsFrom 45 = .ok (.if_icmp .ge 21, 3) := by decide +kernel
theorem dX7_putsFrom_48 : decode cX7_putsFrom 48 = .ok (.aload_n 0, 1) := by decide +kernel
theorem dX7_putsFrom_49 : decode cX7_putsFrom 49 = .ok (.getfield 59, 3) := by decide +kernel
theorem dX7_putsFrom_52 : decode cX7_putsFrom 52 = .ok (.iload_n 3, 1) := by decide +kernel
theorem dX7_putsFrom_53 : decode cX7_putsFrom 53 = .ok (.aload_n 0, 1) := by decide +kernel
theorem dX7_putsFrom_54 : decode cX7_putsFrom 54 = .ok (.getfield 41, 3) := by decide +kernel
theorem dX7_putsFrom_57 : decode cX7_putsFrom 57 = .ok (.iload_n 3, 1) := by decide +kernel
theorem dX7_putsFrom_58 : decode cX7_putsFrom 58 = .ok (.iaload, 1) := by decide +kernel
theorem dX7_putsFrom_59 : decode cX7_putsFrom 59 = .ok (.iastore, 1) := by decide +kernel
theorem dX7_putsFrom_60 : decode cX7_putsFrom 60 = .ok (.iinc 3 1, 3) := by decide +kernel
theorem dX7_putsFrom_63 : decode cX7_putsFrom 63 = .ok (.goto (-23), 3) := by decide +kernel
theorem dX7_putsFrom_66 : decode cX7_putsFrom 66 = .ok (.return_, 1) := by decide +kernel
theorem dX7_putsFrom_67 : decode cX7_putsFrom 67 = .ok (.iconst 0, 1) := by decide +kernel
theorem dX7_putsFrom_68 : decode cX7_putsFrom 68 = .ok (.istore_n 2, 1) := by decide +kernel
theorem dX7_putsFrom_69 : decode cX7_putsFrom 69 = .ok (.iload_n 2, 1) := by decide +kernel
theorem dX7_putsFrom_70 : decode cX7_putsFrom 70 = .ok (.bipush 6, 2) := by decide +kernel
theorem dX7_putsFrom_72 : decode cX7_putsFrom 72 = .ok (.if_icmp .ge 33, 3) := by decide +kernel
theorem dX7_putsFrom_75 : decode cX7_putsFrom 75 = .ok (.aload_n 0, 1) := by decide +kernel
theorem dX7_putsFrom_76 : decode cX7_putsFrom 76 = .ok (.getfield 41, 3) := by decide +kernel
theorem dX7_putsFrom_79 : decode cX7_putsFrom 79 = .ok (.iload_n 1, 1) := by decide +kernel
theorem dX7_putsFrom_80 : decode cX7_putsFrom 80 = .ok (.iload_n 2, 1) := by decide +kernel
theorem dX7_putsFrom_81 : decode cX7_putsFrom 81 = .ok (.iastore, 1) := by decide +kernel
theorem dX7_putsFrom_82 : decode cX7_putsFrom 82 = .ok (.aload_n 0, 1) := by decide +kernel
theorem dX7_putsFrom_83 : decode cX7_putsFrom 83 = .ok (.iload_n 1, 1) := by decide +kernel
theorem dX7_putsFrom_84 : decode cX7_putsFrom 84 = .ok (.iconst 1, 1) := by decide +kernel
theorem dX7_putsFrom_85 : decode cX7_putsFrom 85 = .ok (.iadd, 1) := by decide +kernel
theorem dX7_putsFrom_86 : decode cX7_putsFrom 86 = .ok (.invokevirtual 101, 3) := by decide +kernel
theorem dX7_putsFrom_89 : decode cX7_putsFrom 89 = .ok (.ifCond .ne 10, 3) := by decide +kernel
theorem dX7_putsFrom_92 : decode cX7_putsFrom 92 = .ok (.aload_n 0, 1) := by decide +kernel
theorem dX7_putsFrom_93 : decode cX7_putsFrom 93 = .ok (.iload_n 1, 1) := by decide +kernel
theorem dX7_putsFrom_94 : decode cX7_putsFrom 94 = .ok (.iconst 1, 1) := by decide +kernel
theorem dX7_putsFrom_95 : decode cX7_putsFrom 95 = .ok (.iadd, 1) := by decide +kernel
theorem dX7_putsFrom_96 : decode cX7_putsFrom 96 = .ok (.invokevirtual 310, 3) := by decide +kernel
theorem dX7_putsFrom_99 : decode cX7_putsFrom 99 = .ok (.iinc 2 1, 3) := by decide +kernel
theorem dX7_putsFrom_102 : decode cX7_putsFrom 102 = .ok (.goto (-33), 3) := by decide +kernel
theorem dX7_putsFrom_105 : decode cX7_putsFrom 105 = .ok (.return_, 1) := by decide +kernel
theorem dX7_read_0 : decode cX7_read 0 = .ok (.aload_n 0, 1) := by decide +kernel
theorem dX7_read_1 : decode cX7_read 1 = .ok (.sipush 160, 3) := by decide +kernel
theorem dX7_read_4 : decode cX7_read 4 = .ok (.iload_n 1, 1) := by decide +kernel
theorem dX7_read_5 : decode cX7_read 5 = .ok (.imul, 1) := by decide +kernel
theorem dX7_read_6 : decode cX7_read 6 = .ok (.putfield 136, 3) := by decide +kernel
theorem dX7_read_9 : decode cX7_read 9 = .ok (.aload_n 0, 1) := by decide +kernel
theorem dX7_read_10 : decode cX7_read 10 = .ok (.aload_n 0, 1) := by decide +kernel
theorem dX7_read_11 : decode cX7_read 11 = .ok (.getfield 17, 3) := by decide +kernel
theorem dX7_read_14 : decode cX7_read 14 = .ok (.iload_n 1, 1) := by decide +kernel
theorem dX7_read_15 : decode cX7_read 15 = .ok (.iaload, 1) := by decide +kernel
theorem dX7_read_16 : decode cX7_read 16 = .ok (.putfield 133, 3) := by decide +kernel
theorem dX7_read_19 : decode cX7_read 19 = .ok (.aload_n 0, 1) := by decide +kernel
theorem dX7_read_20 : decode cX7_read 20 = .ok (.iconst 0, 1) := by decide +kernel
theorem dX7_read_21 : decode cX7_read 21 = .ok (.putfield 139, 3) := by decide +kernel
theorem dX7_read_24 : decode cX7_read 24 = .ok (.aload_n 0, 1) := by decide +kernel
theorem dX7_read_25 : decode cX7_read 25 = .ok (.iconst 0, 1) := by decide +kernel
theorem dX7_read_26 : decode cX7_read 26 = .ok (.putfield 176, 3) := by decide +kernel
theorem dX7_read_29 : decode cX7_read 29 = .ok (.aload_n 0, 1) := by decide +kernel
theorem dX7_read_30 : decode cX7_read 30 = .ok (.iconst 0, 1) := by decide +kernel
theorem dX7_read_31 : decode cX7_read 31 = .ok (.putfield 166, 3) := by decide +kernel
theorem dX7_read_34 : decode cX7_read 34 = .ok (.aload_n 0, 1) := by decide +kernel
theorem dX7_read_35 : decode cX7_read 35 = .ok (.invokevirtual 182, 3) := by decide +kernel
theorem dX7_read_38 : decode cX7_read 38 = .ok (.aload_n 0, 1) := by decide +kernel
theorem dX7_read_39 : decode cX7_read 39 = .ok (.aload_n 0, 1) := by decide +kernel
theorem dX7_read_40 : decode cX7_read 40 = .ok (.bipush 115, 2) := by decide +kernel
theorem dX7_read_42 : decode cX7_read 42 = .ok (.bipush 116, 2) := by decide +kernel
theorem dX7_read_44 : decode cX7_read 44 = .ok (.bipush 101, 2) := by decide +kernel
theorem dX7_read_46 : decode cX7_read 46 = .ok (.bipush 112, 2) := by decide +kernel
theorem dX7_read_48 : decode cX7_read 48 = .ok (.bipush 115, 2) := by decide +kernel
theorem dX7_read_50 : decode cX7_read 50 = .ok (.iconst 0, 1) := by decide +kernel
theorem dX7_read_51 : decode cX7_read 51 = .ok (.iconst 0, 1) := by decide +kernel
theorem dX7_read_52 : decode cX7_read 52 = .ok (.iconst 0, 1) := by decide +kernel
theorem dX7_read_53 : decode cX7_read 53 = .ok (.invokevirtual 185, 3) := by decide +kernel
theorem dX7_read_56 : decode cX7_read 56 = .ok (.invokevirtual 240, 3) := by decide +kernel
theorem dX7_read_59 : decode cX7_read 59 = .ok (.istore_n 3, 1) := by decide +kernel
theorem dX7_read_60 : decode cX7_read 60 = .ok (.aload_n 0, 1) := by decide +kernel
theorem dX7_read_61 : decode cX7_read 61 = .ok (.getfield 166, 3) := by decide +kernel
theorem dX7_read_64 : decode cX7_read 64 = .ok (.ifCond .eq 7, 3) := by decide +kernel
theorem dX7_read_67 : decode cX7_read 67 = .ok (.iconst 0, 1) := by decide +kernel
theorem dX7_read_68 : decode cX7_read 68 = .ok (.goto 23, 3) := by decide +kernel
theorem dX7_read_71 : decode cX7_read 71 = .ok (.aload_n 0, 1) := by decide +kernel
theorem dX7_read_72 : decode cX7_read 72 = .ok (.aload_n 0, 1) := by decide +kernel
theorem dX7_read_73 : decode cX7_read 73 = .ok (.bipush 108, 2) := by decide +kernel
theorem dX7_read_75 : decode cX7_read 75 = .ok (.bipush 97, 2) := by decide +kernel
theorem dX7_read_77 : decode cX7_read 77 = .ok (.bipush 116, 2) := by decide +kernel
theorem dX7_read_79 : decode cX7_read 79 = .ok (.bipush 101, 2) := by decide +kernel
theorem dX7_read_81 : decode cX7_read 81 = .ok (.iconst 0, 1) := by decide +kernel
theorem dX7_read_82 : decode cX7_read 82 = .ok (.iconst 0, 1) := by decide +kernel
theorem dX7_read_83 : decode cX7_read 83 = .ok (.iconst 0, 1) := by decide +kernel
theorem dX7_read_84 : decode cX7_read 84 = .ok (.iconst 0, 1) := by decide +kernel
theorem dX7_read_85 : decode cX7_read 85 = .ok (.invokevirtual 185, 3) := by decide +kernel
theorem dX7_read_88 : decode cX7_read 88 = .ok (.invokevirtual 240, 3) := by decide +kernel
theorem dX7_read_91 : decode cX7_read 91 = .ok (.istore 4, 2) := by decide +kernel
theorem dX7_read_93 : decode cX7_read 93 = .ok (.aload_n 0, 1) := by decide +kernel
theorem dX7_read_94 : decode cX7_read 94 = .ok (.getfield 166, 3) := by decide +kernel
theorem dX7_read_97 : decode cX7_read 97 = .ok (.ifCond .eq 7, 3) := by decide +kernel
theorem dX7_read_100 : decode cX7_read 100 = .ok (.iconst 0, 1) := by decide +kernel
theorem dX7_read_101 : decode cX7_read 101 = .ok (.goto 24, 3) := by decide +kernel
theorem dX7_read_104 : decode cX7_read 104 = .ok (.aload_n 0, 1) := by decide +kernel
theorem dX7_read_105 : decode cX7_read 105 = .ok (.aload_n 0, 1) := by decide +kernel
theorem dX7_read_106 : decode cX7_read 106 = .ok (.bipush 109, 2) := by decide +kernel
theorem dX7_read_108 : decode cX7_read 108 = .ok (.bipush 111, 2) := by decide +kernel
theorem dX7_read_110 : decode cX7_read 110 = .ok (.bipush 118, 2) := by decide +kernel
theorem dX7_read_112 : decode cX7_read 112 = .ok (.bipush 101, 2) := by decide +kernel
theorem dX7_read_114 : decode cX7_read 114 = .ok (.bipush 115, 2) := by decide +kernel
theorem dX7_read_116 : decode cX7_read 116 = .ok (.iconst 0, 1) := by decide +kernel
theorem dX7_read_117 : decode cX7_read 117 = .ok (.iconst 0, 1) := by decide +kernel
theorem dX7_read_118 : decode cX7_read 118 = .ok (.iconst 0, 1) := by decide +kernel
theorem dX7_read_119 : decode cX7_read 119 = .ok (.invokevirtual 185, 3) := by decide +kernel
theorem dX7_read_122 : decode cX7_read 122 = .ok (.invokevirtual 240, 3) := by decide +kernel
theorem dX7_read_125 : decode cX7_read 125 = .ok (.istore 5, 2) := by decide +kernel
theorem dX7_read_127 : decode cX7_read 127 = .ok (.aload_n 0, 1) := by decide +kernel
theorem dX7_read_128 : decode cX7_read 128 = .ok (.getfield 166, 3) := by decide +kernel
theorem dX7_read_131 : decode cX7_read 131 = .ok (.ifCond .ne 14, 3) := by decide +kernel
theorem dX7_read_134 : decode cX7_read 134 = .ok (.aload_n 0, 1) := by decide +kernel
theorem dX7_read_135 : decode cX7_read 135 = .ok (.getfield 149, 3) := by decide +kernel
theorem dX7_read_138 : decode cX7_read 138 = .ok (.ifCond .eq 7, 3) := by decide +kernel
theorem dX7_read_141 : decode cX7_read 141 = .ok (.aload_n 0, 1) := by decide +kernel
theorem dX7_read_142 : decode cX7_read 142 = .ok (.invokevirtual 179, 3) := by decide +kernel
theorem dX7_read_145 : decode cX7_read 145 = .ok (.iload_n 2, 1) := by decide +kernel
theorem dX7_read_146 : decode cX7_read 146 = .ok (.ifCond .ne 7, 3) := by decide +kernel
theorem dX7_read_149 : decode cX7_read 149 = .ok (.iload_n 3, 1) := by decide +kernel
theorem dX7_read_150 : decode cX7_read 150 = .ok (.goto 15, 3) := by decide +kernel
theorem dX7_read_153 : decode cX7_read 153 = .ok (.iload_n 2, 1) := by decide +kernel
theorem dX7_read_154 : decode cX7_read 154 = .ok (.iconst 1, 1) := by decide +kernel
theorem dX7_read_155 : decode cX7_read 155 = .ok (.if_icmp .ne 8, 3) := by decide +kernel
theorem dX7_read_158 : decode cX7_read 158 = .ok (.iload 4, 2) := by decide +kernel
theorem dX7_read_160 : decode cX7_read 160 = .ok (.goto 5, 3) := by decide +kernel
theorem dX7_read_163 : decode cX7_read 163 = .ok (.iload 5, 2) := by decide +kernel
theorem dX7_read_165 : decode cX7_read 165 = .ok (.ireturn, 1) := by decide +kernel
theorem dX7_ride_0 : decode cX7_ride 0 = .ok (.iload_n 1, 1) := by decide +kernel
theorem dX7_ride_1 : decode cX7_ride 1 = .ok (.i2l, 1) := by decide +kernel
theorem dX7_ride_2 : decode cX7_ride 2 = .ok (.lconst 0, 1) := by decide +kernel
theorem dX7_ride_3 : decode cX7_ride 3 = .ok (.ldc2_w 108, 3) := by decide +kernel
theorem dX7_ride_6 : decode cX7_ride 6 = .ok (.invokestatic 91, 3) := by decide +kernel
theorem dX7_ride_9 : decode cX7_ride 9 = .ok (.ifCond .ne 6, 3) := by decide +kernel
theorem dX7_ride_12 : decode cX7_ride 12 = .ok (.bipush (-2), 2) := by decide +kernel
theorem dX7_ride_14 : decode cX7_ride 14 = .ok (.ireturn, 1) := by decide +kernel
theorem dX7_ride_15 : decode cX7_ride 15 = .ok (.aload_n 0, 1) := by decide +kernel
theorem dX7_ride_16 : decode cX7_ride 16 = .ok (.aload_n 0, 1) := by decide +kernel
theorem dX7_ride_17 : decode cX7_ride 17 = .ok (.invokevirtual 291, 3) := by decide +kernel
theorem dX7_ride_20 : decode cX7_ride 20 = .ok (.invokevirtual 294, 3) := by decide +kernel
theorem dX7_ride_23 : decode cX7_ride 23 = .ok (.aload_n 0, 1) := by decide +kernel
theorem dX7_ride_24 : decode cX7_ride 24 = .ok (.invokevirtual 298, 3) := by decide +kernel
theorem dX7_ride_27 : decode cX7_ride 27 = .ok (.istore_n 2, 1) := by decide +kernel
theorem dX7_ride_28 : decode cX7_ride 28 = .ok (.iload_n 1, 1) := by decide +kernel
theorem dX7_ride_29 : decode cX7_ride 29 = .ok (.ifCond .ne 7, 3) := by decide +kernel
theorem dX7_ride_32 : decode cX7_ride 32 = .ok (.iload_n 2, 1) := by decide +kernel
theorem dX7_ride_33 : decode cX7_ride 33 = .ok (.goto 19, 3) := by decide +kernel
theorem dX7_ride_36 : decode cX7_ride 36 = .ok (.iload_n 1, 1) := by decide +kernel
theorem dX7_ride_37 : decode cX7_ride 37 = .ok (.iconst 1, 1) := by decide +kernel
theorem dX7_ride_38 : decode cX7_ride 38 = .ok (.if_icmp .ne 10, 3) := by decide +kernel
theorem dX7_ride_41 : decode cX7_ride 41 = .ok (.aload_n 0, 1) := by decide +kernel
theorem dX7_ride_42 : decode cX7_ride 42 = .ok (.getfield 279, 3) := by decide +kernel
theorem dX7_ride_45 : decode cX7_ride 45 = .ok (.goto 7, 3) := by decide +kernel
end
section
theorem dX7_ride_48 : decode cX7_ride 48 = .ok (.aload_n 0, 1) := by decide +kernel
theorem dX7_ride_49 : decode cX7_ride 49 = .ok (.getfield 282, 3) := by decide +kernel
theorem dX7_ride_52 : decode cX7_ride 52 = .ok (.ireturn, 1) := by decide +kernel
theorem dX7_rider_0 : decode cX7_rider 0 = .ok (.iload_n 1, 1) := by decide +kernel
theorem dX7_rider_1 : decode cX7_rider 1 = .ok (.i2l, 1) := by decide +kernel
theorem dX7_rider_2 : decode cX7_rider 2 = .ok (.lconst 0, 1) := by decide +kernel
theorem dX7_rider_3 : decode cX7_rider 3 = .ok (.ldc2_w 95, 3) := by decide +kernel
theorem dX7_rider_6 : decode cX7_rider 6 = .ok (.invokestatic 91, 3) := by decide +kernel
theorem dX7_rider_9 : decode cX7_rider 9 = .ok (.ifCond .eq 27, 3) := by decide +kernel
theorem dX7_rider_12 : decode cX7_rider 12 = .ok (.iload_n 2, 1) := by decide +kernel
theorem dX7_rider_13 : decode cX7_rider 13 = .ok (.i2l, 1) := by decide +kernel
theorem dX7_rider_14 : decode cX7_rider 14 = .ok (.lconst 0, 1) := by decide +kernel
theorem dX7_rider_15 : decode cX7_rider 15 = .ok (.ldc2_w 97, 3) := by decide +kernel
theorem dX7_rider_18 : decode cX7_rider 18 = .ok (.invokestatic 91, 3) := by decide +kernel
theorem dX7_rider_21 : decode cX7_rider 21 = .ok (.ifCond .eq 15, 3) := by decide +kernel
theorem dX7_rider_24 : decode cX7_rider 24 = .ok (.iload_n 3, 1) := by decide +kernel
theorem dX7_rider_25 : decode cX7_rider 25 = .ok (.i2l, 1) := by decide +kernel
theorem dX7_rider_26 : decode cX7_rider 26 = .ok (.lconst 0, 1) := by decide +kernel
theorem dX7_rider_27 : decode cX7_rider 27 = .ok (.ldc2_w 99, 3) := by decide +kernel
theorem dX7_rider_30 : decode cX7_rider 30 = .ok (.invokestatic 91, 3) := by decide +kernel
theorem dX7_rider_33 : decode cX7_rider 33 = .ok (.ifCond .ne 6, 3) := by decide +kernel
theorem dX7_rider_36 : decode cX7_rider 36 = .ok (.bipush (-2), 2) := by decide +kernel
theorem dX7_rider_38 : decode cX7_rider 38 = .ok (.ireturn, 1) := by decide +kernel
theorem dX7_rider_39 : decode cX7_rider 39 = .ok (.iload_n 3, 1) := by decide +kernel
theorem dX7_rider_40 : decode cX7_rider 40 = .ok (.bipush 100, 2) := by decide +kernel
theorem dX7_rider_42 : decode cX7_rider 42 = .ok (.idiv, 1) := by decide +kernel
theorem dX7_rider_43 : decode cX7_rider 43 = .ok (.istore 4, 2) := by decide +kernel
theorem dX7_rider_45 : decode cX7_rider 45 = .ok (.iload_n 3, 1) := by decide +kernel
theorem dX7_rider_46 : decode cX7_rider 46 = .ok (.bipush 10, 2) := by decide +kernel
theorem dX7_rider_48 : decode cX7_rider 48 = .ok (.idiv, 1) := by decide +kernel
theorem dX7_rider_49 : decode cX7_rider 49 = .ok (.bipush 10, 2) := by decide +kernel
theorem dX7_rider_51 : decode cX7_rider 51 = .ok (.irem, 1) := by decide +kernel
theorem dX7_rider_52 : decode cX7_rider 52 = .ok (.istore 5, 2) := by decide +kernel
theorem dX7_rider_54 : decode cX7_rider 54 = .ok (.iload 5, 2) := by decide +kernel
theorem dX7_rider_56 : decode cX7_rider 56 = .ok (.iload 4, 2) := by decide +kernel
theorem dX7_rider_58 : decode cX7_rider 58 = .ok (.if_icmp .le 12, 3) := by decide +kernel
theorem dX7_rider_61 : decode cX7_rider 61 = .ok (.iload_n 3, 1) := by decide +kernel
theorem dX7_rider_62 : decode cX7_rider 62 = .ok (.bipush 10, 2) := by decide +kernel
theorem dX7_rider_64 : decode cX7_rider 64 = .ok (.irem, 1) := by decide +kernel
theorem dX7_rider_65 : decode cX7_rider 65 = .ok (.bipush 6, 2) := by decide +kernel
theorem dX7_rider_67 : decode cX7_rider 67 = .ok (.if_icmp .lt 6, 3) := by decide +kernel
theorem dX7_rider_70 : decode cX7_rider 70 = .ok (.bipush (-2), 2) := by decide +kernel
theorem dX7_rider_72 : decode cX7_rider 72 = .ok (.ireturn, 1) := by decide +kernel
theorem dX7_rider_73 : decode cX7_rider 73 = .ok (.aload_n 0, 1) := by decide +kernel
theorem dX7_rider_74 : decode cX7_rider 74 = .ok (.getfield 88, 3) := by decide +kernel
theorem dX7_rider_77 : decode cX7_rider 77 = .ok (.iconst 5, 1) := by decide +kernel
theorem dX7_rider_78 : decode cX7_rider 78 = .ok (.if_icmp .ne 6, 3) := by decide +kernel
theorem dX7_rider_81 : decode cX7_rider 81 = .ok (.bipush (-4), 2) := by decide +kernel
theorem dX7_rider_83 : decode cX7_rider 83 = .ok (.ireturn, 1) := by decide +kernel
theorem dX7_rider_84 : decode cX7_rider 84 = .ok (.aload_n 0, 1) := by decide +kernel
theorem dX7_rider_85 : decode cX7_rider 85 = .ok (.getfield 26, 3) := by decide +kernel
theorem dX7_rider_88 : decode cX7_rider 88 = .ok (.aload_n 0, 1) := by decide +kernel
theorem dX7_rider_89 : decode cX7_rider 89 = .ok (.getfield 88, 3) := by decide +kernel
theorem dX7_rider_92 : decode cX7_rider 92 = .ok (.iload_n 1, 1) := by decide +kernel
theorem dX7_rider_93 : decode cX7_rider 93 = .ok (.iastore, 1) := by decide +kernel
theorem dX7_rider_94 : decode cX7_rider 94 = .ok (.aload_n 0, 1) := by decide +kernel
theorem dX7_rider_95 : decode cX7_rider 95 = .ok (.getfield 29, 3) := by decide +kernel
theorem dX7_rider_98 : decode cX7_rider 98 = .ok (.aload_n 0, 1) := by decide +kernel
theorem dX7_rider_99 : decode cX7_rider 99 = .ok (.getfield 88, 3) := by decide +kernel
theorem dX7_rider_102 : decode cX7_rider 102 = .ok (.iload_n 2, 1) := by decide +kernel
theorem dX7_rider_103 : decode cX7_rider 103 = .ok (.bipush 10, 2) := by decide +kernel
theorem dX7_rider_105 : decode cX7_rider 105 = .ok (.idiv, 1) := by decide +kernel
theorem dX7_rider_106 : decode cX7_rider 106 = .ok (.iastore, 1) := by decide +kernel
theorem dX7_rider_107 : decode cX7_rider 107 = .ok (.aload_n 0, 1) := by decide +kernel
theorem dX7_rider_108 : decode cX7_rider 108 = .ok (.getfield 32, 3) := by decide +kernel
theorem dX7_rider_111 : decode cX7_rider 111 = .ok (.aload_n 0, 1) := by decide +kernel
theorem dX7_rider_112 : decode cX7_rider 112 = .ok (.getfield 88, 3) := by decide +kernel
theorem dX7_rider_115 : decode cX7_rider 115 = .ok (.iload_n 2, 1) := by decide +kernel
theorem dX7_rider_116 : decode cX7_rider 116 = .ok (.bipush 10, 2) := by decide +kernel
theorem dX7_rider_118 : decode cX7_rider 118 = .ok (.irem, 1) := by decide +kernel
theorem dX7_rider_119 : decode cX7_rider 119 = .ok (.iastore, 1) := by decide +kernel
theorem dX7_rider_120 : decode cX7_rider 120 = .ok (.aload_n 0, 1) := by decide +kernel
theorem dX7_rider_121 : decode cX7_rider 121 = .ok (.getfield 35, 3) := by decide +kernel
theorem dX7_rider_124 : decode cX7_rider 124 = .ok (.aload_n 0, 1) := by decide +kernel
theorem dX7_rider_125 : decode cX7_rider 125 = .ok (.getfield 88, 3) := by decide +kernel
theorem dX7_rider_128 : decode cX7_rider 128 = .ok (.iload 4, 2) := by decide +kernel
theorem dX7_rider_130 : decode cX7_rider 130 = .ok (.iastore, 1) := by decide +kernel
theorem dX7_rider_131 : decode cX7_rider 131 = .ok (.aload_n 0, 1) := by decide +kernel
theorem dX7_rider_132 : decode cX7_rider 132 = .ok (.getfield 38, 3) := by decide +kernel
theorem dX7_rider_135 : decode cX7_rider 135 = .ok (.aload_n 0, 1) := by decide +kernel
theorem dX7_rider_136 : decode cX7_rider 136 = .ok (.getfield 88, 3) := by decide +kernel
theorem dX7_rider_139 : decode cX7_rider 139 = .ok (.iload 5, 2) := by decide +kernel
theorem dX7_rider_141 : decode cX7_rider 141 = .ok (.iastore, 1) := by decide +kernel
theorem dX7_rider_142 : decode cX7_rider 142 = .ok (.aload_n 0, 1) := by decide +kernel
theorem dX7_rider_143 : decode cX7_rider 143 = .ok (.getfield 41, 3) := by decide +kernel
theorem dX7_rider_146 : decode cX7_rider 146 = .ok (.aload_n 0, 1) := by decide +kernel
theorem dX7_rider_147 : decode cX7_rider 147 = .ok (.getfield 88, 3) := by decide +kernel
theorem dX7_rider_150 : decode cX7_rider 150 = .ok (.iload_n 3, 1) := by decide +kernel
theorem dX7_rider_151 : decode cX7_rider 151 = .ok (.bipush 10, 2) := by decide +kernel
theorem dX7_rider_153 : decode cX7_rider 153 = .ok (.irem, 1) := by decide +kernel
theorem dX7_rider_154 : decode cX7_rider 154 = .ok (.iastore, 1) := by decide +kernel
theorem dX7_rider_155 : decode cX7_rider 155 = .ok (.aload_n 0, 1) := by decide +kernel
theorem dX7_rider_156 : decode cX7_rider 156 = .ok (.getfield 44, 3) := by decide +kernel
theorem dX7_rider_159 : decode cX7_rider 159 = .ok (.aload_n 0, 1) := by decide +kernel
theorem dX7_rider_160 : decode cX7_rider 160 = .ok (.getfield 88, 3) := by decide +kernel
theorem dX7_rider_163 : decode cX7_rider 163 = .ok (.bipush 100, 2) := by decide +kernel
theorem dX7_rider_165 : decode cX7_rider 165 = .ok (.iastore, 1) := by decide +kernel
theorem dX7_rider_166 : decode cX7_rider 166 = .ok (.aload_n 0, 1) := by decide +kernel
theorem dX7_rider_167 : decode cX7_rider 167 = .ok (.aload_n 0, 1) := by decide +kernel
theorem dX7_rider_168 : decode cX7_rider 168 = .ok (.getfield 88, 3) := by decide +kernel
theorem dX7_rider_171 : decode cX7_rider 171 = .ok (.iconst 1, 1) := by decide +kernel
theorem dX7_rider_172 : decode cX7_rider 172 = .ok (.iadd, 1) := by decide +kernel
theorem dX7_rider_173 : decode cX7_rider 173 = .ok (.invokevirtual 101, 3) := by decide +kernel
theorem dX7_rider_176 : decode cX7_rider 176 = .ok (.ifCond .eq 6, 3) := by decide +kernel
theorem dX7_rider_179 : decode cX7_rider 179 = .ok (.bipush (-3), 2) := by decide +kernel
theorem dX7_rider_181 : decode cX7_rider 181 = .ok (.ireturn, 1) := by decide +kernel
theorem dX7_rider_182 : decode cX7_rider 182 = .ok (.aload_n 0, 1) := by decide +kernel
theorem dX7_rider_183 : decode cX7_rider 183 = .ok (.dup, 1) := by decide +kernel
theorem dX7_rider_184 : decode cX7_rider 184 = .ok (.getfield 88, 3) := by decide +kernel
theorem dX7_rider_187 : decode cX7_rider 187 = .ok (.iconst 1, 1) := by decide +kernel
theorem dX7_rider_188 : decode cX7_rider 188 = .ok (.iadd, 1) := by decide +kernel
theorem dX7_rider_189 : decode cX7_rider 189 = .ok (.putfield 88, 3) := by decide +kernel
theorem dX7_rider_192 : decode cX7_rider 192 = .ok (.aload_n 0, 1) := by decide +kernel
theorem dX7_rider_193 : decode cX7_rider 193 = .ok (.getfield 88, 3) := by decide +kernel
theorem dX7_rider_196 : decode cX7_rider 196 = .ok (.iconst 1, 1) := by decide +kernel
theorem dX7_rider_197 : decode cX7_rider 197 = .ok (.isub, 1) := by decide +kernel
theorem dX7_rider_198 : decode cX7_rider 198 = .ok (.ireturn, 1) := by decide +kernel
theorem dX7_riders_0 : decode cX7_riders 0 = .ok (.iload_n 1, 1) := by decide +kernel
theorem dX7_riders_1 : decode cX7_riders 1 = .ok (.invokestatic 329, 3) := by decide +kernel
theorem dX7_riders_4 : decode cX7_riders 4 = .ok (.ifCond .eq 28, 3) := by decide +kernel
theorem dX7_riders_7 : decode cX7_riders 7 = .ok (.iload_n 2, 1) := by decide +kernel
theorem dX7_riders_8 : decode cX7_riders 8 = .ok (.i2l, 1) := by decide +kernel
theorem dX7_riders_9 : decode cX7_riders 9 = .ok (.lconst 0, 1) := by decide +kernel
theorem dX7_riders_10 : decode cX7_riders 10 = .ok (.ldc2_w 108, 3) := by decide +kernel
theorem dX7_riders_13 : decode cX7_riders 13 = .ok (.invokestatic 91, 3) := by decide +kernel
theorem dX7_riders_16 : decode cX7_riders 16 = .ok (.ifCond .eq 16, 3) := by decide +kernel
theorem dX7_riders_19 : decode cX7_riders 19 = .ok (.iload 4, 2) := by decide +kernel
theorem dX7_riders_21 : decode cX7_riders 21 = .ok (.i2l, 1) := by decide +kernel
theorem dX7_riders_22 : decode cX7_riders 22 = .ok (.lconst 0, 1) := by decide +kernel
theorem dX7_riders_23 : decode cX7_riders 23 = .ok (.ldc2_w 95, 3) := by decide +kernel
theorem dX7_riders_26 : decode cX7_riders 26 = .ok (.invokestatic 91, 3) := by decide +kernel
theorem dX7_riders_29 : decode cX7_riders 29 = .ok (.ifCond .ne 6, 3) := by decide +kernel
theorem dX7_riders_32 : decode cX7_riders 32 = .ok (.bipush (-2), 2) := by decide +kernel
theorem dX7_riders_34 : decode cX7_riders 34 = .ok (.ireturn, 1) := by decide +kernel
theorem dX7_riders_35 : decode cX7_riders 35 = .ok (.aload_n 0, 1) := by decide +kernel
theorem dX7_riders_36 : decode cX7_riders 36 = .ok (.getfield 68, 3) := by decide +kernel
theorem dX7_riders_39 : decode cX7_riders 39 = .ok (.iload_n 1, 1) := by decide +kernel
theorem dX7_riders_40 : decode cX7_riders 40 = .ok (.baload, 1) := by decide +kernel
theorem dX7_riders_41 : decode cX7_riders 41 = .ok (.ifCond .eq 16, 3) := by decide +kernel
theorem dX7_riders_44 : decode cX7_riders 44 = .ok (.aload_n 0, 1) := by decide +kernel
theorem dX7_riders_45 : decode cX7_riders 45 = .ok (.getfield 72, 3) := by decide +kernel
theorem dX7_riders_48 : decode cX7_riders 48 = .ok (.iload_n 1, 1) := by decide +kernel
theorem dX7_riders_49 : decode cX7_riders 49 = .ok (.iaload, 1) := by decide +kernel
theorem dX7_riders_50 : decode cX7_riders 50 = .ok (.iload_n 2, 1) := by decide +kernel
theorem dX7_riders_51 : decode cX7_riders 51 = .ok (.if_icmp .eq 6, 3) := by decide +kernel
theorem dX7_riders_54 : decode cX7_riders 54 = .ok (.bipush (-13), 2) := by decide +kernel
theorem dX7_riders_56 : decode cX7_riders 56 = .ok (.ireturn, 1) := by decide +kernel
theorem dX7_riders_57 : decode cX7_riders 57 = .ok (.aload_n 0, 1) := by decide +kernel
theorem dX7_riders_58 : decode cX7_riders 58 = .ok (.getfield 68, 3) := by decide +kernel
theorem dX7_riders_61 : decode cX7_riders 61 = .ok (.iload_n 1, 1) := by decide +kernel
theorem dX7_riders_62 : decode cX7_riders 62 = .ok (.baload, 1) := by decide +kernel
theorem dX7_riders_63 : decode cX7_riders 63 = .ok (.ifCond .ne 6, 3) := by decide +kernel
theorem dX7_riders_66 : decode cX7_riders 66 = .ok (.bipush (-11), 2) := by decide +kernel
theorem dX7_riders_68 : decode cX7_riders 68 = .ok (.ireturn, 1) := by decide +kernel
theorem dX7_riders_69 : decode cX7_riders 69 = .ok (.iconst 0, 1) := by decide +kernel
theorem dX7_riders_70 : decode cX7_riders 70 = .ok (.istore 5, 2) := by decide +kernel
theorem dX7_riders_72 : decode cX7_riders 72 = .ok (.iconst 0, 1) := by decide +kernel
theorem dX7_riders_73 : decode cX7_riders 73 = .ok (.istore 6, 2) := by decide +kernel
theorem dX7_riders_75 : decode cX7_riders 75 = .ok (.iload 6, 2) := by decide +kernel
theorem dX7_riders_77 : decode cX7_riders 77 = .ok (.iload 4, 2) := by decide +kernel
theorem dX7_riders_79 : decode cX7_riders 79 = .ok (.if_icmp .ge 88, 3) := by decide +kernel
theorem dX7_riders_82 : decode cX7_riders 82 = .ok (.iload_n 3, 1) := by decide +kernel
theorem dX7_riders_83 : decode cX7_riders 83 = .ok (.ifCond .lt 20, 3) := by decide +kernel
theorem dX7_riders_86 : decode cX7_riders 86 = .ok (.iload_n 3, 1) := by decide +kernel
theorem dX7_riders_87 : decode cX7_riders 87 = .ok (.aload_n 0, 1) := by decide +kernel
theorem dX7_riders_88 : decode cX7_riders 88 = .ok (.getfield 75, 3) := by decide +kernel
theorem dX7_riders_91 : decode cX7_riders 91 = .ok (.iload_n 1, 1) := by decide +kernel
theorem dX7_riders_92 : decode cX7_riders 92 = .ok (.iaload, 1) := by decide +kernel
theorem dX7_riders_93 : decode cX7_riders 93 = .ok (.iconst 3, 1) := by decide +kernel
theorem dX7_riders_94 : decode cX7_riders 94 = .ok (.iload 6, 2) := by decide +kernel
theorem dX7_riders_96 : decode cX7_riders 96 = .ok (.imul, 1) := by decide +kernel
theorem dX7_riders_97 : decode cX7_riders 97 = .ok (.isub, 1) := by decide +kernel
theorem dX7_riders_98 : decode cX7_riders 98 = .ok (.iconst 3, 1) := by decide +kernel
theorem dX7_riders_99 : decode cX7_riders 99 = .ok (.isub, 1) := by decide +kernel
theorem dX7_riders_100 : decode cX7_riders 100 = .ok (.if_icmp .le 6, 3) := by decide +kernel
theorem dX7_riders_103 : decode cX7_riders 103 = .ok (.bipush (-12), 2) := by decide +kernel
theorem dX7_riders_105 : decode cX7_riders 105 = .ok (.ireturn, 1) := by decide +kernel
theorem dX7_riders_106 : decode cX7_riders 106 = .ok (.bipush 40, 2) := by decide +kernel
theorem dX7_riders_108 : decode cX7_riders 108 = .ok (.iload_n 1, 1) := by decide +kernel
theorem dX7_riders_109 : decode cX7_riders 109 = .ok (.imul, 1) := by decide +kernel
theorem dX7_riders_110 : decode cX7_riders 110 = .ok (.iload_n 3, 1) := by decide +kernel
theorem dX7_riders_111 : decode cX7_riders 111 = .ok (.iadd, 1) := by decide +kernel
theorem dX7_riders_112 : decode cX7_riders 112 = .ok (.iconst 3, 1) := by decide +kernel
theorem dX7_riders_113 : decode cX7_riders 113 = .ok (.iload 6, 2) := by decide +kernel
theorem dX7_riders_115 : decode cX7_riders 115 = .ok (.imul, 1) := by decide +kernel
theorem dX7_riders_116 : decode cX7_riders 116 = .ok (.iadd, 1) := by decide +kernel
theorem dX7_riders_117 : decode cX7_riders 117 = .ok (.istore 7, 2) := by decide +kernel
theorem dX7_riders_119 : decode cX7_riders 119 = .ok (.iload 5, 2) := by decide +kernel
theorem dX7_riders_121 : decode cX7_riders 121 = .ok (.aload_n 0, 1) := by decide +kernel
theorem dX7_riders_122 : decode cX7_riders 122 = .ok (.aload_n 0, 1) := by decide +kernel
theorem dX7_riders_123 : decode cX7_riders 123 = .ok (.getfield 78, 3) := by decide +kernel
theorem dX7_riders_126 : decode cX7_riders 126 = .ok (.iload 7, 2) := by decide +kernel
theorem dX7_riders_128 : decode cX7_riders 128 = .ok (.iaload, 1) := by decide +kernel
theorem dX7_riders_129 : decode cX7_riders 129 = .ok (.aload_n 0, 1) := by decide +kernel
theorem dX7_riders_130 : decode cX7_riders 130 = .ok (.getfield 78, 3) := by decide +kernel
theorem dX7_riders_133 : decode cX7_riders 133 = .ok (.iload 7, 2) := by decide +kernel
theorem dX7_riders_135 : decode cX7_riders 135 = .ok (.iconst 1, 1) := by decide +kernel
theorem dX7_riders_136 : decode cX7_riders 136 = .ok (.iadd, 1) := by decide +kernel
theorem dX7_riders_137 : decode cX7_riders 137 = .ok (.iaload, 1) := by decide +kernel
theorem dX7_riders_138 : decode cX7_riders 138 = .ok (.aload_n 0, 1) := by decide +kernel
theorem dX7_riders_139 : decode cX7_riders 139 = .ok (.getfield 78, 3) := by decide +kernel
theorem dX7_riders_142 : decode cX7_riders 142 = .ok (.iload 7, 2) := by decide +kernel
theorem dX7_riders_144 : decode cX7_riders 144 = .ok (.iconst 2, 1) := by decide +kernel
theorem dX7_riders_145 : decode cX7_riders 145 = .ok (.iadd, 1) := by decide +kernel
theorem dX7_riders_146 : decode cX7_riders 146 = .ok (.iaload, 1) := by decide +kernel
theorem dX7_riders_147 : decode cX7_riders 147 = .ok (.invokevirtual 362, 3) := by decide +kernel
theorem dX7_riders_150 : decode cX7_riders 150 = .ok (.ifCond .lt 7, 3) := by decide +kernel
theorem dX7_riders_153 : decode cX7_riders 153 = .ok (.iconst 1, 1) := by decide +kernel
theorem dX7_riders_154 : decode cX7_riders 154 = .ok (.goto 4, 3) := by decide +kernel
theorem dX7_riders_157 : decode cX7_riders 157 = .ok (.iconst 0, 1) := by decide +kernel
theorem dX7_riders_158 : decode cX7_riders 158 = .ok (.iadd, 1) := by decide +kernel
theorem dX7_riders_159 : decode cX7_riders 159 = .ok (.istore 5, 2) := by decide +kernel
theorem dX7_riders_161 : decode cX7_riders 161 = .ok (.iinc 6 1, 3) := by decide +kernel
theorem dX7_riders_164 : decode cX7_riders 164 = .ok (.goto (-89), 3) := by decide +kernel
theorem dX7_riders_167 : decode cX7_riders 167 = .ok (.iload 5, 2) := by decide +kernel
theorem dX7_riders_169 : decode cX7_riders 169 = .ok (.ireturn, 1) := by decide +kernel
theorem dX7_rides_0 : decode cX7_rides 0 = .ok (.iconst 0, 1) := by decide +kernel
theorem dX7_rides_1 : decode cX7_rides 1 = .ok (.istore_n 1, 1) := by decide +kernel
theorem dX7_rides_2 : decode cX7_rides 2 = .ok (.aload_n 0, 1) := by decide +kernel
theorem dX7_rides_3 : decode cX7_rides 3 = .ok (.iconst 0, 1) := by decide +kernel
theorem dX7_rides_4 : decode cX7_rides 4 = .ok (.putfield 279, 3) := by decide +kernel
theorem dX7_rides_7 : decode cX7_rides 7 = .ok (.aload_n 0, 1) := by decide +kernel
theorem dX7_rides_8 : decode cX7_rides 8 = .ok (.iconst 0, 1) := by decide +kernel
theorem dX7_rides_9 : decode cX7_rides 9 = .ok (.putfield 282, 3) := by decide +kernel
theorem dX7_rides_12 : decode cX7_rides 12 = .ok (.iconst 0, 1) := by decide +kernel
theorem dX7_rides_13 : decode cX7_rides 13 = .ok (.istore_n 2, 1) := by decide +kernel
theorem dX7_rides_14 : decode cX7_rides 14 = .ok (.iload_n 2, 1) := by decide +kernel
theorem dX7_rides_15 : decode cX7_rides 15 = .ok (.bipush 10, 2) := by decide +kernel
theorem dX7_rides_17 : decode cX7_rides 17 = .ok (.if_icmp .ge 57, 3) := by decide +kernel
theorem dX7_rides_20 : decode cX7_rides 20 = .ok (.aload_n 0, 1) := by decide +kernel
theorem dX7_rides_21 : decode cX7_rides 21 = .ok (.iload_n 2, 1) := by decide +kernel
theorem dX7_rides_22 : decode cX7_rides 22 = .ok (.invokevirtual 285, 3) := by decide +kernel
theorem dX7_rides_25 : decode cX7_rides 25 = .ok (.istore_n 3, 1) := by decide +kernel
theorem dX7_rides_26 : decode cX7_rides 26 = .ok (.aload_n 0, 1) := by decide +kernel
theorem dX7_rides_27 : decode cX7_rides 27 = .ok (.dup, 1) := by decide +kernel
theorem dX7_rides_28 : decode cX7_rides 28 = .ok (.getfield 279, 3) := by decide +kernel
theorem dX7_rides_31 : decode cX7_rides 31 = .ok (.iload_n 3, 1) := by decide +kernel
theorem dX7_rides_32 : decode cX7_rides 32 = .ok (.invokestatic 270, 3) := by decide +kernel
theorem dX7_rides_35 : decode cX7_rides 35 = .ok (.iadd, 1) := by decide +kernel
theorem dX7_rides_36 : decode cX7_rides 36 = .ok (.putfield 279, 3) := by decide +kernel
theorem dX7_rides_39 : decode cX7_rides 39 = .ok (.aload_n 0, 1) := by decide +kernel
theorem dX7_rides_40 : decode cX7_rides 40 = .ok (.dup, 1) := by decide +kernel
theorem dX7_rides_41 : decode cX7_rides 41 = .ok (.getfield 282, 3) := by decide +kernel
theorem dX7_rides_44 : decode cX7_rides 44 = .ok (.iload_n 3, 1) := by decide +kernel
theorem dX7_rides_45 : decode cX7_rides 45 = .ok (.ifCond .eq 7, 3) := by decide +kernel
theorem dX7_rides_48 : decode cX7_rides 48 = .ok (.iconst 1, 1) := by decide +kernel
theorem dX7_rides_49 : decode cX7_rides 49 = .ok (.goto 4, 3) := by decide +kernel
theorem dX7_rides_52 : decode cX7_rides 52 = .ok (.iconst 0, 1) := by decide +kernel
theorem dX7_rides_53 : decode cX7_rides 53 = .ok (.iload_n 2, 1) := by decide +kernel
theorem dX7_rides_54 : decode cX7_rides 54 = .ok (.ishl, 1) := by decide +kernel
theorem dX7_rides_55 : decode cX7_rides 55 = .ok (.ior, 1) := by decide +kernel
theorem dX7_rides_56 : decode cX7_rides 56 = .ok (.putfield 282, 3) := by decide +kernel
theorem dX7_rides_59 : decode cX7_rides 59 = .ok (.iload_n 1, 1) := by decide +kernel
theorem dX7_rides_60 : decode cX7_rides 60 = .ok (.aload_n 0, 1) := by decide +kernel
theorem dX7_rides_61 : decode cX7_rides 61 = .ok (.iload_n 2, 1) := by decide +kernel
theorem dX7_rides_62 : decode cX7_rides 62 = .ok (.iload_n 3, 1) := by decide +kernel
theorem dX7_rides_63 : decode cX7_rides 63 = .ok (.invokevirtual 288, 3) := by decide +kernel
theorem dX7_rides_66 : decode cX7_rides 66 = .ok (.iadd, 1) := by decide +kernel
theorem dX7_rides_67 : decode cX7_rides 67 = .ok (.istore_n 1, 1) := by decide +kernel
theorem dX7_rides_68 : decode cX7_rides 68 = .ok (.iinc 2 1, 3) := by decide +kernel
theorem dX7_rides_71 : decode cX7_rides 71 = .ok (.goto (-57), 3) := by decide +kernel
theorem dX7_rides_74 : decode cX7_rides 74 = .ok (.iload_n 1, 1) := by decide +kernel
theorem dX7_rides_75 : decode cX7_rides 75 = .ok (.ireturn, 1) := by decide +kernel
theorem dX7_says_0 : decode cX7_says 0 = .ok (.aload_n 0, 1) := by decide +kernel
theorem dX7_says_1 : decode cX7_says 1 = .ok (.iload_n 2, 1) := by decide +kernel
theorem dX7_says_2 : decode cX7_says 2 = .ok (.putfield 189, 3) := by decide +kernel
theorem dX7_says_5 : decode cX7_says 5 = .ok (.aload_n 0, 1) := by decide +kernel
theorem dX7_says_6 : decode cX7_says 6 = .ok (.iload_n 3, 1) := by decide +kernel
theorem dX7_says_7 : decode cX7_says 7 = .ok (.putfield 192, 3) := by decide +kernel
theorem dX7_says_10 : decode cX7_says 10 = .ok (.aload_n 0, 1) := by decide +kernel
theorem dX7_says_11 : decode cX7_says 11 = .ok (.aload_n 0, 1) := by decide +kernel
theorem dX7_says_12 : decode cX7_says 12 = .ok (.getfield 32, 3) := by decide +kernel
theorem dX7_says_15 : decode cX7_says 15 = .ok (.iload_n 2, 1) := by decide +kernel
theorem dX7_says_16 : decode cX7_says 16 = .ok (.iaload, 1) := by decide +kernel
theorem dX7_says_17 : decode cX7_says 17 = .ok (.putfield 195, 3) := by decide +kernel
theorem dX7_says_20 : decode cX7_says 20 = .ok (.aload_n 0, 1) := by decide +kernel
theorem dX7_says_21 : decode cX7_says 21 = .ok (.iload 4, 2) := by decide +kernel
theorem dX7_says_23 : decode cX7_says 23 = .ok (.putfield 198, 3) := by decide +kernel
theorem dX7_says_26 : decode cX7_says 26 = .ok (.aload_n 0, 1) := by decide +kernel
theorem dX7_says_27 : decode cX7_says 27 = .ok (.aload_n 0, 1) := by decide +kernel
theorem dX7_says_28 : decode cX7_says 28 = .ok (.getfield 29, 3) := by decide +kernel
theorem dX7_says_31 : decode cX7_says 31 = .ok (.iload_n 2, 1) := by decide +kernel
theorem dX7_says_32 : decode cX7_says 32 = .ok (.iaload, 1) := by decide +kernel
theorem dX7_says_33 : decode cX7_says 33 = .ok (.putfield 201, 3) := by decide +kernel
theorem dX7_says_36 : decode cX7_says 36 = .ok (.aload_n 0, 1) := by decide +kernel
theorem dX7_says_37 : decode cX7_says 37 = .ok (.iload 5, 2) := by decide +kernel
theorem dX7_says_39 : decode cX7_says 39 = .ok (.putfield 204, 3) := by decide +kernel
theorem dX7_says_42 : decode cX7_says 42 = .ok (.aload_n 0, 1) := by decide +kernel
theorem dX7_says_43 : decode cX7_says 43 = .ok (.aload_n 0, 1) := by decide +kernel
theorem dX7_says_44 : decode cX7_says 44 = .ok (.getfield 247, 3) := by decide +kernel
theorem dX7_says_47 : decode cX7_says 47 = .ok (.iload_n 1, 1) := by decide +kernel
theorem dX7_says_48 : decode cX7_says 48 = .ok (.invokevirtual 244, 3) := by decide +kernel
theorem dX7_says_51 : decode cX7_says 51 = .ok (.iconst 0, 1) := by decide +kernel
theorem dX7_says_52 : decode cX7_says 52 = .ok (.bipush 99, 2) := by decide +kernel
theorem dX7_says_54 : decode cX7_says 54 = .ok (.invokestatic 250, 3) := by decide +kernel
theorem dX7_says_57 : decode cX7_says 57 = .ok (.ireturn, 1) := by decide +kernel
theorem dX7_second_0 : decode cX7_second 0 = .ok (.iload_n 1, 1) := by decide +kernel
theorem dX7_second_1 : decode cX7_second 1 = .ok (.i2l, 1) := by decide +kernel
theorem dX7_second_2 : decode cX7_second 2 = .ok (.lconst 0, 1) := by decide +kernel
theorem dX7_second_3 : decode cX7_second 3 = .ok (.lconst 1, 1) := by decide +kernel
theorem dX7_second_4 : decode cX7_second 4 = .ok (.invokestatic 91, 3) := by decide +kernel
theorem dX7_second_7 : decode cX7_second 7 = .ok (.ifCond .ne 7, 3) := by decide +kernel
theorem dX7_second_10 : decode cX7_second 10 = .ok (.ldc_w 322, 3) := by decide +kernel
theorem dX7_second_13 : decode cX7_second 13 = .ok (.ireturn, 1) := by decide +kernel
theorem dX7_second_14 : decode cX7_second 14 = .ok (.iload_n 1, 1) := by decide +kernel
theorem dX7_second_15 : decode cX7_second 15 = .ok (.ifCond .ne 47, 3) := by decide +kernel
theorem dX7_second_18 : decode cX7_second 18 = .ok (.aload_n 0, 1) := by decide +kernel
theorem dX7_second_19 : decode cX7_second 19 = .ok (.getfield 23, 3) := by decide +kernel
theorem dX7_second_22 : decode cX7_second 22 = .ok (.istore_n 2, 1) := by decide +kernel
theorem dX7_second_23 : decode cX7_second 23 = .ok (.aload_n 0, 1) := by decide +kernel
theorem dX7_second_24 : decode cX7_second 24 = .ok (.aload_n 0, 1) := by decide +kernel
theorem dX7_second_25 : decode cX7_second 25 = .ok (.invokevirtual 291, 3) := by decide +kernel
theorem dX7_second_28 : decode cX7_second 28 = .ok (.invokevirtual 294, 3) := by decide +kernel
theorem dX7_second_31 : decode cX7_second 31 = .ok (.aload_n 0, 1) := by decide +kernel
theorem dX7_second_32 : decode cX7_second 32 = .ok (.iconst 1, 1) := by decide +kernel
theorem dX7_second_33 : decode cX7_second 33 = .ok (.putfield 23, 3) := by decide +kernel
theorem dX7_second_36 : decode cX7_second 36 = .ok (.aload_n 0, 1) := by decide +kernel
theorem dX7_second_37 : decode cX7_second 37 = .ok (.invokevirtual 298, 3) := by decide +kernel
theorem dX7_second_40 : decode cX7_second 40 = .ok (.istore_n 3, 1) := by decide +kernel
theorem dX7_second_41 : decode cX7_second 41 = .ok (.aload_n 0, 1) := by decide +kernel
theorem dX7_second_42 : decode cX7_second 42 = .ok (.iconst 2, 1) := by decide +kernel
theorem dX7_second_43 : decode cX7_second 43 = .ok (.putfield 23, 3) := by decide +kernel
theorem dX7_second_46 : decode cX7_second 46 = .ok (.aload_n 0, 1) := by decide +kernel
theorem dX7_second_47 : decode cX7_second 47 = .ok (.invokevirtual 298, 3) := by decide +kernel
theorem dX7_second_50 : decode cX7_second 50 = .ok (.istore 4, 2) := by decide +kernel
theorem dX7_second_52 : decode cX7_second 52 = .ok (.aload_n 0, 1) := by decide +kernel
theorem dX7_second_53 : decode cX7_second 53 = .ok (.iload_n 2, 1) := by decide +kernel
theorem dX7_second_54 : decode cX7_second 54 = .ok (.putfield 23, 3) := by decide +kernel
theorem dX7_second_57 : decode cX7_second 57 = .ok (.iload_n 3, 1) := by decide +kernel
theorem dX7_second_58 : decode cX7_second 58 = .ok (.iload 4, 2) := by decide +kernel
theorem dX7_second_60 : decode cX7_second 60 = .ok (.isub, 1) := by decide +kernel
theorem dX7_second_61 : decode cX7_second 61 = .ok (.ireturn, 1) := by decide +kernel
theorem dX7_second_62 : decode cX7_second 62 = .ok (.iconst (-1), 1) := by decide +kernel
theorem dX7_second_63 : decode cX7_second 63 = .ok (.istore_n 2, 1) := by decide +kernel
theorem dX7_second_64 : decode cX7_second 64 = .ok (.iconst 0, 1) := by decide +kernel
theorem dX7_second_65 : decode cX7_second 65 = .ok (.istore_n 3, 1) := by decide +kernel
theorem dX7_second_66 : decode cX7_second 66 = .ok (.iconst 0, 1) := by decide +kernel
theorem dX7_second_67 : decode cX7_second 67 = .ok (.istore 4, 2) := by decide +kernel
theorem dX7_second_69 : decode cX7_second 69 = .ok (.iload 4, 2) := by decide +kernel
theorem dX7_second_71 : decode cX7_second 71 = .ok (.aload_n 0, 1) := by decide +kernel
theorem dX7_second_72 : decode cX7_second 72 = .ok (.getfield 88, 3) := by decide +kernel
theorem dX7_second_75 : decode cX7_second 75 = .ok (.if_icmp .ge 47, 3) := by decide +kernel
theorem dX7_second_78 : decode cX7_second 78 = .ok (.aload_n 0, 1) := by decide +kernel
theorem dX7_second_79 : decode cX7_second 79 = .ok (.aload_n 0, 1) := by decide +kernel
theorem dX7_second_80 : decode cX7_second 80 = .ok (.invokevirtual 291, 3) := by decide +kernel
theorem dX7_second_83 : decode cX7_second 83 = .ok (.iconst 1, 1) := by decide +kernel
theorem dX7_second_84 : decode cX7_second 84 = .ok (.iload 4, 2) := by decide +kernel
theorem dX7_second_86 : decode cX7_second 86 = .ok (.ishl, 1) := by decide +kernel
theorem dX7_second_87 : decode cX7_second 87 = .ok (.iconst (-1), 1) := by decide +kernel
theorem dX7_second_88 : decode cX7_second 88 = .ok (.ixor, 1) := by decide +kernel
theorem dX7_second_89 : decode cX7_second 89 = .ok (.iand, 1) := by decide +kernel
theorem dX7_second_90 : decode cX7_second 90 = .ok (.invokevirtual 294, 3) := by decide +kernel
theorem dX7_second_93 : decode cX7_second 93 = .ok (.aload_n 0, 1) := by decide +kernel
theorem dX7_second_94 : decode cX7_second 94 = .ok (.invokevirtual 298, 3) := by decide +kernel
theorem dX7_second_97 : decode cX7_second 97 = .ok (.istore 5, 2) := by decide +kernel
theorem dX7_second_99 : decode cX7_second 99 = .ok (.iload_n 2, 1) := by decide +kernel
theorem dX7_second_100 : decode cX7_second 100 = .ok (.iconst (-1), 1) := by decide +kernel
theorem dX7_second_101 : decode cX7_second 101 = .ok (.if_icmp .eq 9, 3) := by decide +kernel
theorem dX7_second_104 : decode cX7_second 104 = .ok (.iload 5, 2) := by decide +kernel
theorem dX7_second_106 : decode cX7_second 106 = .ok (.iload_n 3, 1) := by decide +kernel
theorem dX7_second_107 : decode cX7_second 107 = .ok (.if_icmp .ge 9, 3) := by decide +kernel
theorem dX7_second_110 : decode cX7_second 110 = .ok (.iload 4, 2) := by decide +kernel
theorem dX7_second_112 : decode cX7_second 112 = .ok (.istore_n 2, 1) := by decide +kernel
theorem dX7_second_113 : decode cX7_second 113 = .ok (.iload 5, 2) := by decide +kernel
theorem dX7_second_115 : decode cX7_second 115 = .ok (.istore_n 3, 1) := by decide +kernel
theorem dX7_second_116 : decode cX7_second 116 = .ok (.iinc 4 1, 3) := by decide +kernel
theorem dX7_second_119 : decode cX7_second 119 = .ok (.goto (-50), 3) := by decide +kernel
theorem dX7_second_122 : decode cX7_second 122 = .ok (.iload_n 2, 1) := by decide +kernel
theorem dX7_second_123 : decode cX7_second 123 = .ok (.ireturn, 1) := by decide +kernel
theorem dX7_seeks_0 : decode cX7_seeks 0 = .ok (.aload_n 0, 1) := by decide +kernel
theorem dX7_seeks_1 : decode cX7_seeks 1 = .ok (.aload_n 0, 1) := by decide +kernel
theorem dX7_seeks_2 : decode cX7_seeks 2 = .ok (.invokevirtual 291, 3) := by decide +kernel
theorem dX7_seeks_5 : decode cX7_seeks 5 = .ok (.invokevirtual 294, 3) := by decide +kernel
theorem dX7_seeks_8 : decode cX7_seeks 8 = .ok (.aload_n 0, 1) := by decide +kernel
theorem dX7_seeks_9 : decode cX7_seeks 9 = .ok (.invokevirtual 313, 3) := by decide +kernel
theorem dX7_seeks_12 : decode cX7_seeks 12 = .ok (.aload_n 0, 1) := by decide +kernel
theorem dX7_seeks_13 : decode cX7_seeks 13 = .ok (.iconst 0, 1) := by decide +kernel
theorem dX7_seeks_14 : decode cX7_seeks 14 = .ok (.putfield 304, 3) := by decide +kernel
theorem dX7_seeks_17 : decode cX7_seeks 17 = .ok (.aload_n 0, 1) := by decide +kernel
theorem dX7_seeks_18 : decode cX7_seeks 18 = .ok (.iconst 0, 1) := by decide +kernel
theorem dX7_seeks_19 : decode cX7_seeks 19 = .ok (.invokevirtual 310, 3) := by decide +kernel
theorem dX7_seeks_22 : decode cX7_seeks 22 = .ok (.aload_n 0, 1) := by decide +kernel
theorem dX7_seeks_23 : decode cX7_seeks 23 = .ok (.invokevirtual 316, 3) := by decide +kernel
theorem dX7_seeks_26 : decode cX7_seeks 26 = .ok (.return_, 1) := by decide +kernel
theorem dX7_seen_0 : decode cX7_seen 0 = .ok (.iload_n 1, 1) := by decide +kernel
theorem dX7_seen_1 : decode cX7_seen 1 = .ok (.invokestatic 329, 3) := by decide +kernel
theorem dX7_seen_4 : decode cX7_seen 4 = .ok (.ifCond .eq 23, 3) := by decide +kernel
theorem dX7_seen_7 : decode cX7_seen 7 = .ok (.aload_n 0, 1) := by decide +kernel
theorem dX7_seen_8 : decode cX7_seen 8 = .ok (.iload_n 2, 1) := by decide +kernel
theorem dX7_seen_9 : decode cX7_seen 9 = .ok (.invokevirtual 105, 3) := by decide +kernel
theorem dX7_seen_12 : decode cX7_seen 12 = .ok (.ifCond .eq 15, 3) := by decide +kernel
theorem dX7_seen_15 : decode cX7_seen 15 = .ok (.iload_n 3, 1) := by decide +kernel
theorem dX7_seen_16 : decode cX7_seen 16 = .ok (.i2l, 1) := by decide +kernel
theorem dX7_seen_17 : decode cX7_seen 17 = .ok (.lconst 0, 1) := by decide +kernel
theorem dX7_seen_18 : decode cX7_seen 18 = .ok (.ldc2_w 108, 3) := by decide +kernel
theorem dX7_seen_21 : decode cX7_seen 21 = .ok (.invokestatic 91, 3) := by decide +kernel
theorem dX7_seen_24 : decode cX7_seen 24 = .ok (.ifCond .ne 6, 3) := by decide +kernel
theorem dX7_seen_27 : decode cX7_seen 27 = .ok (.bipush (-2), 2) := by decide +kernel
theorem dX7_seen_29 : decode cX7_seen 29 = .ok (.ireturn, 1) := by decide +kernel
theorem dX7_seen_30 : decode cX7_seen 30 = .ok (.aload_n 0, 1) := by decide +kernel
theorem dX7_seen_31 : decode cX7_seen 31 = .ok (.iload_n 1, 1) := by decide +kernel
theorem dX7_seen_32 : decode cX7_seen 32 = .ok (.invokevirtual 332, 3) := by decide +kernel
theorem dX7_seen_35 : decode cX7_seen 35 = .ok (.istore 4, 2) := by decide +kernel
theorem dX7_seen_37 : decode cX7_seen 37 = .ok (.iload 4, 2) := by decide +kernel
theorem dX7_seen_39 : decode cX7_seen 39 = .ok (.ifCond .eq 6, 3) := by decide +kernel
theorem dX7_seen_42 : decode cX7_seen 42 = .ok (.iload 4, 2) := by decide +kernel
theorem dX7_seen_44 : decode cX7_seen 44 = .ok (.ireturn, 1) := by decide +kernel
theorem dX7_seen_45 : decode cX7_seen 45 = .ok (.iload_n 3, 1) := by decide +kernel
theorem dX7_seen_46 : decode cX7_seen 46 = .ok (.ifCond .ne 12, 3) := by decide +kernel
theorem dX7_seen_49 : decode cX7_seen 49 = .ok (.aload_n 0, 1) := by decide +kernel
theorem dX7_seen_50 : decode cX7_seen 50 = .ok (.getfield 38, 3) := by decide +kernel
theorem dX7_seen_53 : decode cX7_seen 53 = .ok (.iload_n 2, 1) := by decide +kernel
theorem dX7_seen_54 : decode cX7_seen 54 = .ok (.iaload, 1) := by decide +kernel
theorem dX7_seen_55 : decode cX7_seen 55 = .ok (.goto 23, 3) := by decide +kernel
theorem dX7_seen_58 : decode cX7_seen 58 = .ok (.iload_n 3, 1) := by decide +kernel
theorem dX7_seen_59 : decode cX7_seen 59 = .ok (.iconst 1, 1) := by decide +kernel
theorem dX7_seen_60 : decode cX7_seen 60 = .ok (.if_icmp .ne 12, 3) := by decide +kernel
theorem dX7_seen_63 : decode cX7_seen 63 = .ok (.aload_n 0, 1) := by decide +kernel
theorem dX7_seen_64 : decode cX7_seen 64 = .ok (.getfield 41, 3) := by decide +kernel
theorem dX7_seen_67 : decode cX7_seen 67 = .ok (.iload_n 2, 1) := by decide +kernel
theorem dX7_seen_68 : decode cX7_seen 68 = .ok (.iaload, 1) := by decide +kernel
theorem dX7_seen_69 : decode cX7_seen 69 = .ok (.goto 9, 3) := by decide +kernel
theorem dX7_seen_72 : decode cX7_seen 72 = .ok (.aload_n 0, 1) := by decide +kernel
theorem dX7_seen_73 : decode cX7_seen 73 = .ok (.getfield 26, 3) := by decide +kernel
theorem dX7_seen_76 : decode cX7_seen 76 = .ok (.iload_n 2, 1) := by decide +kernel
theorem dX7_seen_77 : decode cX7_seen 77 = .ok (.iaload, 1) := by decide +kernel
theorem dX7_seen_78 : decode cX7_seen 78 = .ok (.istore 5, 2) := by decide +kernel
theorem dX7_seen_80 : decode cX7_seen 80 = .ok (.iconst 0, 1) := by decide +kernel
theorem dX7_seen_81 : decode cX7_seen 81 = .ok (.istore 6, 2) := by decide +kernel
theorem dX7_seen_83 : decode cX7_seen 83 = .ok (.iload_n 3, 1) := by decide +kernel
theorem dX7_seen_84 : decode cX7_seen 84 = .ok (.ifCond .ne 14, 3) := by decide +kernel
theorem dX7_seen_87 : decode cX7_seen 87 = .ok (.aload_n 0, 1) := by decide +kernel
theorem dX7_seen_88 : decode cX7_seen 88 = .ok (.getfield 35, 3) := by decide +kernel
theorem dX7_seen_91 : decode cX7_seen 91 = .ok (.iload_n 2, 1) := by decide +kernel
theorem dX7_seen_92 : decode cX7_seen 92 = .ok (.iaload, 1) := by decide +kernel
theorem dX7_seen_93 : decode cX7_seen 93 = .ok (.iconst 1, 1) := by decide +kernel
theorem dX7_seen_94 : decode cX7_seen 94 = .ok (.iadd, 1) := by decide +kernel
theorem dX7_seen_95 : decode cX7_seen 95 = .ok (.goto 4, 3) := by decide +kernel
theorem dX7_seen_98 : decode cX7_seen 98 = .ok (.iconst 0, 1) := by decide +kernel
theorem dX7_seen_99 : decode cX7_seen 99 = .ok (.istore 7, 2) := by decide +kernel
theorem dX7_seen_101 : decode cX7_seen 101 = .ok (.iload 7, 2) := by decide +kernel
theorem dX7_seen_103 : decode cX7_seen 103 = .ok (.iload_n 3, 1) := by decide +kernel
theorem dX7_seen_104 : decode cX7_seen 104 = .ok (.ifCond .ne 8, 3) := by decide +kernel
theorem dX7_seen_107 : decode cX7_seen 107 = .ok (.bipush 10, 2) := by decide +kernel
theorem dX7_seen_109 : decode cX7_seen 109 = .ok (.goto 5, 3) := by decide +kernel
theorem dX7_seen_112 : decode cX7_seen 112 = .ok (.bipush 6, 2) := by decide +kernel
theorem dX7_seen_114 : decode cX7_seen 114 = .ok (.if_icmp .ge 46, 3) := by decide +kernel
theorem dX7_seen_117 : decode cX7_seen 117 = .ok (.aload_n 0, 1) := by decide +kernel
theorem dX7_seen_118 : decode cX7_seen 118 = .ok (.iload_n 2, 1) := by decide +kernel
theorem dX7_seen_119 : decode cX7_seen 119 = .ok (.iload_n 3, 1) := by decide +kernel
theorem dX7_seen_120 : decode cX7_seen 120 = .ok (.iload 7, 2) := by decide +kernel
theorem dX7_seen_122 : decode cX7_seen 122 = .ok (.invokevirtual 338, 3) := by decide +kernel
theorem dX7_seen_125 : decode cX7_seen 125 = .ok (.aload_n 0, 1) := by decide +kernel
theorem dX7_seen_126 : decode cX7_seen 126 = .ok (.aload_n 0, 1) := by decide +kernel
theorem dX7_seen_127 : decode cX7_seen 127 = .ok (.getfield 88, 3) := by decide +kernel
theorem dX7_seen_130 : decode cX7_seen 130 = .ok (.invokevirtual 101, 3) := by decide +kernel
theorem dX7_seen_133 : decode cX7_seen 133 = .ok (.ifCond .ne 21, 3) := by decide +kernel
theorem dX7_seen_136 : decode cX7_seen 136 = .ok (.aload_n 0, 1) := by decide +kernel
theorem dX7_seen_137 : decode cX7_seen 137 = .ok (.iload_n 1, 1) := by decide +kernel
theorem dX7_seen_138 : decode cX7_seen 138 = .ok (.invokevirtual 335, 3) := by decide +kernel
theorem dX7_seen_141 : decode cX7_seen 141 = .ok (.iconst (-1), 1) := by decide +kernel
theorem dX7_seen_142 : decode cX7_seen 142 = .ok (.if_icmp .ne 12, 3) := by decide +kernel
theorem dX7_seen_145 : decode cX7_seen 145 = .ok (.iload 6, 2) := by decide +kernel
theorem dX7_seen_147 : decode cX7_seen 147 = .ok (.iconst 1, 1) := by decide +kernel
theorem dX7_seen_148 : decode cX7_seen 148 = .ok (.iload 7, 2) := by decide +kernel
theorem dX7_seen_150 : decode cX7_seen 150 = .ok (.ishl, 1) := by decide +kernel
theorem dX7_seen_151 : decode cX7_seen 151 = .ok (.ior, 1) := by decide +kernel
theorem dX7_seen_152 : decode cX7_seen 152 = .ok (.istore 6, 2) := by decide +kernel
theorem dX7_seen_154 : decode cX7_seen 154 = .ok (.iinc 7 1, 3) := by decide +kernel
theorem dX7_seen_157 : decode cX7_seen 157 = .ok (.goto (-56), 3) := by decide +kernel
theorem dX7_seen_160 : decode cX7_seen 160 = .ok (.aload_n 0, 1) := by decide +kernel
theorem dX7_seen_161 : decode cX7_seen 161 = .ok (.iload_n 2, 1) := by decide +kernel
theorem dX7_seen_162 : decode cX7_seen 162 = .ok (.iload_n 3, 1) := by decide +kernel
theorem dX7_seen_163 : decode cX7_seen 163 = .ok (.iload 5, 2) := by decide +kernel
theorem dX7_seen_165 : decode cX7_seen 165 = .ok (.invokevirtual 338, 3) := by decide +kernel
theorem dX7_seen_168 : decode cX7_seen 168 = .ok (.iload 6, 2) := by decide +kernel
theorem dX7_seen_170 : decode cX7_seen 170 = .ok (.ireturn, 1) := by decide +kernel
theorem dX7_set_0 : decode cX7_set 0 = .ok (.iload_n 1, 1) := by decide +kernel
theorem dX7_set_1 : decode cX7_set 1 = .ok (.i2l, 1) := by decide +kernel
theorem dX7_set_2 : decode cX7_set 2 = .ok (.lconst 0, 1) := by decide +kernel
theorem dX7_set_3 : decode cX7_set 3 = .ok (.ldc2_w 95, 3) := by decide +kernel
theorem dX7_set_6 : decode cX7_set 6 = .ok (.invokestatic 91, 3) := by decide +kernel
theorem dX7_set_9 : decode cX7_set 9 = .ok (.ifCond .eq 15, 3) := by decide +kernel
theorem dX7_set_12 : decode cX7_set 12 = .ok (.iload_n 1, 1) := by decide +kernel
theorem dX7_set_13 : decode cX7_set 13 = .ok (.ifCond .le 14, 3) := by decide +kernel
theorem dX7_set_16 : decode cX7_set 16 = .ok (.aload_n 0, 1) := by decide +kernel
theorem dX7_set_17 : decode cX7_set 17 = .ok (.iload_n 2, 1) := by decide +kernel
theorem dX7_set_18 : decode cX7_set 18 = .ok (.invokevirtual 105, 3) := by decide +kernel
theorem dX7_set_21 : decode cX7_set 21 = .ok (.ifCond .ne 6, 3) := by decide +kernel
theorem dX7_set_24 : decode cX7_set 24 = .ok (.bipush (-2), 2) := by decide +kernel
theorem dX7_set_26 : decode cX7_set 26 = .ok (.ireturn, 1) := by decide +kernel
theorem dX7_set_27 : decode cX7_set 27 = .ok (.iload_n 1, 1) := by decide +kernel
theorem dX7_set_28 : decode cX7_set 28 = .ok (.ifCond .ne 7, 3) := by decide +kernel
theorem dX7_set_31 : decode cX7_set 31 = .ok (.iconst 1, 1) := by decide +kernel
theorem dX7_set_32 : decode cX7_set 32 = .ok (.goto 20, 3) := by decide +kernel
theorem dX7_set_35 : decode cX7_set 35 = .ok (.iload_n 1, 1) := by decide +kernel
theorem dX7_set_36 : decode cX7_set 36 = .ok (.iconst 3, 1) := by decide +kernel
theorem dX7_set_37 : decode cX7_set 37 = .ok (.if_icmp .ne 14, 3) := by decide +kernel
theorem dX7_set_40 : decode cX7_set 40 = .ok (.aload_n 0, 1) := by decide +kernel
theorem dX7_set_41 : decode cX7_set 41 = .ok (.getfield 35, 3) := by decide +kernel
theorem dX7_set_44 : decode cX7_set 44 = .ok (.iload_n 2, 1) := by decide +kernel
theorem dX7_set_45 : decode cX7_set 45 = .ok (.iaload, 1) := by decide +kernel
theorem dX7_set_46 : decode cX7_set 46 = .ok (.iconst 1, 1) := by decide +kernel
theorem dX7_set_47 : decode cX7_set 47 = .ok (.iadd, 1) := by decide +kernel
theorem dX7_set_48 : decode cX7_set 48 = .ok (.goto 4, 3) := by decide +kernel
theorem dX7_set_51 : decode cX7_set 51 = .ok (.iconst 0, 1) := by decide +kernel
theorem dX7_set_52 : decode cX7_set 52 = .ok (.istore 4, 2) := by decide +kernel
theorem dX7_set_54 : decode cX7_set 54 = .ok (.iload_n 3, 1) := by decide +kernel
theorem dX7_set_55 : decode cX7_set 55 = .ok (.i2l, 1) := by decide +kernel
theorem dX7_set_56 : decode cX7_set 56 = .ok (.iload 4, 2) := by decide +kernel
theorem dX7_set_58 : decode cX7_set 58 = .ok (.i2l, 1) := by decide +kernel
theorem dX7_set_59 : decode cX7_set 59 = .ok (.iload_n 1, 1) := by decide +kernel
theorem dX7_set_60 : decode cX7_set 60 = .ok (.ifCond .ne 9, 3) := by decide +kernel
theorem dX7_set_63 : decode cX7_set 63 = .ok (.ldc2_w 108, 3) := by decide +kernel
theorem dX7_set_66 : decode cX7_set 66 = .ok (.goto 28, 3) := by decide +kernel
theorem dX7_set_69 : decode cX7_set 69 = .ok (.iload_n 1, 1) := by decide +kernel
theorem dX7_set_70 : decode cX7_set 70 = .ok (.iconst 4, 1) := by decide +kernel
theorem dX7_set_71 : decode cX7_set 71 = .ok (.if_icmp .ne 9, 3) := by decide +kernel
theorem dX7_set_74 : decode cX7_set 74 = .ok (.ldc2_w 95, 3) := by decide +kernel
theorem dX7_set_77 : decode cX7_set 77 = .ok (.goto 17, 3) := by decide +kernel
theorem dX7_set_80 : decode cX7_set 80 = .ok (.iload_n 1, 1) := by decide +kernel
theorem dX7_set_81 : decode cX7_set 81 = .ok (.iconst 5, 1) := by decide +kernel
theorem dX7_set_82 : decode cX7_set 82 = .ok (.if_icmp .ne 9, 3) := by decide +kernel
theorem dX7_set_85 : decode cX7_set 85 = .ok (.ldc2_w 110, 3) := by decide +kernel
theorem dX7_set_88 : decode cX7_set 88 = .ok (.goto 6, 3) := by decide +kernel
theorem dX7_set_91 : decode cX7_set 91 = .ok (.ldc2_w 112, 3) := by decide +kernel
theorem dX7_set_94 : decode cX7_set 94 = .ok (.invokestatic 91, 3) := by decide +kernel
theorem dX7_set_97 : decode cX7_set 97 = .ok (.ifCond .ne 6, 3) := by decide +kernel
theorem dX7_set_100 : decode cX7_set 100 = .ok (.bipush (-2), 2) := by decide +kernel
theorem dX7_set_102 : decode cX7_set 102 = .ok (.ireturn, 1) := by decide +kernel
theorem dX7_set_103 : decode cX7_set 103 = .ok (.iload_n 1, 1) := by decide +kernel
theorem dX7_set_104 : decode cX7_set 104 = .ok (.ifCond .ne 10, 3) := by decide +kernel
theorem dX7_set_107 : decode cX7_set 107 = .ok (.aload_n 0, 1) := by decide +kernel
theorem dX7_set_108 : decode cX7_set 108 = .ok (.getfield 23, 3) := by decide +kernel
theorem dX7_set_111 : decode cX7_set 111 = .ok (.goto 9, 3) := by decide +kernel
theorem dX7_set_114 : decode cX7_set 114 = .ok (.aload_n 0, 1) := by decide +kernel
theorem dX7_set_115 : decode cX7_set 115 = .ok (.iload_n 2, 1) := by decide +kernel
theorem dX7_set_116 : decode cX7_set 116 = .ok (.iload_n 1, 1) := by decide +kernel
theorem dX7_set_117 : decode cX7_set 117 = .ok (.invokevirtual 114, 3) := by decide +kernel
theorem dX7_set_120 : decode cX7_set 120 = .ok (.istore 5, 2) := by decide +kernel
theorem dX7_set_122 : decode cX7_set 122 = .ok (.iload_n 1, 1) := by decide +kernel
theorem dX7_set_123 : decode cX7_set 123 = .ok (.ifCond .ne 11, 3) := by decide +kernel
theorem dX7_set_126 : decode cX7_set 126 = .ok (.aload_n 0, 1) := by decide +kernel
theorem dX7_set_127 : decode cX7_set 127 = .ok (.iload_n 3, 1) := by decide +kernel
theorem dX7_set_128 : decode cX7_set 128 = .ok (.putfield 23, 3) := by decide +kernel
theorem dX7_set_131 : decode cX7_set 131 = .ok (.goto 77, 3) := by decide +kernel
theorem dX7_set_134 : decode cX7_set 134 = .ok (.iload_n 1, 1) := by decide +kernel
theorem dX7_set_135 : decode cX7_set 135 = .ok (.iconst 1, 1) := by decide +kernel
theorem dX7_set_136 : decode cX7_set 136 = .ok (.if_icmp .ne 13, 3) := by decide +kernel
theorem dX7_set_139 : decode cX7_set 139 = .ok (.aload_n 0, 1) := by decide +kernel
theorem dX7_set_140 : decode cX7_set 140 = .ok (.getfield 29, 3) := by decide +kernel
theorem dX7_set_143 : decode cX7_set 143 = .ok (.iload_n 2, 1) := by decide +kernel
theorem dX7_set_144 : decode cX7_set 144 = .ok (.iload_n 3, 1) := by decide +kernel
theorem dX7_set_145 : decode cX7_set 145 = .ok (.iastore, 1) := by decide +kernel
theorem dX7_set_146 : decode cX7_set 146 = .ok (.goto 62, 3) := by decide +kernel
theorem dX7_set_149 : decode cX7_set 149 = .ok (.iload_n 1, 1) := by decide +kernel
theorem dX7_set_150 : decode cX7_set 150 = .ok (.iconst 2, 1) := by decide +kernel
theorem dX7_set_151 : decode cX7_set 151 = .ok (.if_icmp .ne 13, 3) := by decide +kernel
theorem dX7_set_154 : decode cX7_set 154 = .ok (.aload_n 0, 1) := by decide +kernel
theorem dX7_set_155 : decode cX7_set 155 = .ok (.getfield 32, 3) := by decide +kernel
theorem dX7_set_158 : decode cX7_set 158 = .ok (.iload_n 2, 1) := by decide +kernel
theorem dX7_set_159 : decode cX7_set 159 = .ok (.iload_n 3, 1) := by decide +kernel
theorem dX7_set_160 : decode cX7_set 160 = .ok (.iastore, 1) := by decide +kernel
theorem dX7_set_161 : decode cX7_set 161 = .ok (.goto 47, 3) := by decide +kernel
theorem dX7_set_164 : decode cX7_set 164 = .ok (.iload_n 1, 1) := by decide +kernel
theorem dX7_set_165 : decode cX7_set 165 = .ok (.iconst 5, 1) := by decide +kernel
theorem dX7_set_166 : decode cX7_set 166 = .ok (.if_icmp .ne 13, 3) := by decide +kernel
theorem dX7_set_169 : decode cX7_set 169 = .ok (.aload_n 0, 1) := by decide +kernel
theorem dX7_set_170 : decode cX7_set 170 = .ok (.getfield 44, 3) := by decide +kernel
theorem dX7_set_173 : decode cX7_set 173 = .ok (.iload_n 2, 1) := by decide +kernel
theorem dX7_set_174 : decode cX7_set 174 = .ok (.iload_n 3, 1) := by decide +kernel
theorem dX7_set_175 : decode cX7_set 175 = .ok (.iastore, 1) := by decide +kernel
theorem dX7_set_176 : decode cX7_set 176 = .ok (.goto 32, 3) := by decide +kernel
theorem dX7_set_179 : decode cX7_set 179 = .ok (.aload_n 0, 1) := by decide +kernel
theorem dX7_set_180 : decode cX7_set 180 = .ok (.iload_n 2, 1) := by decide +kernel
theorem dX7_set_181 : decode cX7_set 181 = .ok (.iload_n 1, 1) := by decide +kernel
theorem dX7_set_182 : decode cX7_set 182 = .ok (.iload_n 3, 1) := by decide +kernel
theorem dX7_set_183 : decode cX7_set 183 = .ok (.invokevirtual 118, 3) := by decide +kernel
theorem dX7_set_186 : decode cX7_set 186 = .ok (.aload_n 0, 1) := by decide +kernel
theorem dX7_set_187 : decode cX7_set 187 = .ok (.aload_n 0, 1) := by decide +kernel
theorem dX7_set_188 : decode cX7_set 188 = .ok (.getfield 88, 3) := by decide +kernel
theorem dX7_set_191 : decode cX7_set 191 = .ok (.invokevirtual 101, 3) := by decide +kernel
theorem dX7_set_194 : decode cX7_set 194 = .ok (.ifCond .eq 14, 3) := by decide +kernel
theorem dX7_set_197 : decode cX7_set 197 = .ok (.aload_n 0, 1) := by decide +kernel
theorem dX7_set_198 : decode cX7_set 198 = .ok (.iload_n 2, 1) := by decide +kernel
theorem dX7_set_199 : decode cX7_set 199 = .ok (.iload_n 1, 1) := by decide +kernel
theorem dX7_set_200 : decode cX7_set 200 = .ok (.iload 5, 2) := by decide +kernel
theorem dX7_set_202 : decode cX7_set 202 = .ok (.invokevirtual 118, 3) := by decide +kernel
theorem dX7_set_205 : decode cX7_set 205 = .ok (.bipush (-3), 2) := by decide +kernel
theorem dX7_set_207 : decode cX7_set 207 = .ok (.ireturn, 1) := by decide +kernel
theorem dX7_set_208 : decode cX7_set 208 = .ok (.iload 5, 2) := by decide +kernel
theorem dX7_set_210 : decode cX7_set 210 = .ok (.ireturn, 1) := by decide +kernel
theorem dX7_sheet_0 : decode cX7_sheet 0 = .ok (.iload_n 1, 1) := by decide +kernel
theorem dX7_sheet_1 : decode cX7_sheet 1 = .ok (.invokestatic 329, 3) := by decide +kernel
theorem dX7_sheet_4 : decode cX7_sheet 4 = .ok (.ifCond .eq 27, 3) := by decide +kernel
theorem dX7_sheet_7 : decode cX7_sheet 7 = .ok (.iload_n 2, 1) := by decide +kernel
theorem dX7_sheet_8 : decode cX7_sheet 8 = .ok (.i2l, 1) := by decide +kernel
theorem dX7_sheet_9 : decode cX7_sheet 9 = .ok (.ldc2_w 360, 3) := by decide +kernel
theorem dX7_sheet_12 : decode cX7_sheet 12 = .ok (.ldc2_w 108, 3) := by decide +kernel
theorem dX7_sheet_15 : decode cX7_sheet 15 = .ok (.invokestatic 91, 3) := by decide +kernel
theorem dX7_sheet_18 : decode cX7_sheet 18 = .ok (.ifCond .eq 13, 3) := by decide +kernel
theorem dX7_sheet_21 : decode cX7_sheet 21 = .ok (.iload_n 2, 1) := by decide +kernel
theorem dX7_sheet_22 : decode cX7_sheet 22 = .ok (.ifCond .lt 12, 3) := by decide +kernel
theorem dX7_sheet_25 : decode cX7_sheet 25 = .ok (.iload_n 3, 1) := by decide +kernel
theorem dX7_sheet_26 : decode cX7_sheet 26 = .ok (.bipush 40, 2) := by decide +kernel
theorem dX7_sheet_28 : decode cX7_sheet 28 = .ok (.if_icmp .le 6, 3) := by decide +kernel
theorem dX7_sheet_31 : decode cX7_sheet 31 = .ok (.bipush (-2), 2) := by decide +kernel
theorem dX7_sheet_33 : decode cX7_sheet 33 = .ok (.ireturn, 1) := by decide +kernel
theorem dX7_sheet_34 : decode cX7_sheet 34 = .ok (.iload_n 2, 1) := by decide +kernel
theorem dX7_sheet_35 : decode cX7_sheet 35 = .ok (.ifCond .lt 10, 3) := by decide +kernel
theorem dX7_sheet_38 : decode cX7_sheet 38 = .ok (.iload_n 3, 1) := by decide +kernel
theorem dX7_sheet_39 : decode cX7_sheet 39 = .ok (.ifCond .ge 6, 3) := by decide +kernel
theorem dX7_sheet_42 : decode cX7_sheet 42 = .ok (.bipush (-14), 2) := by decide +kernel
theorem dX7_sheet_44 : decode cX7_sheet 44 = .ok (.ireturn, 1) := by decide +kernel
theorem dX7_sheet_45 : decode cX7_sheet 45 = .ok (.aload_n 0, 1) := by decide +kernel
theorem dX7_sheet_46 : decode cX7_sheet 46 = .ok (.getfield 68, 3) := by decide +kernel
theorem dX7_sheet_49 : decode cX7_sheet 49 = .ok (.iload_n 1, 1) := by decide +kernel
theorem dX7_sheet_50 : decode cX7_sheet 50 = .ok (.iload_n 2, 1) := by decide +kernel
theorem dX7_sheet_51 : decode cX7_sheet 51 = .ok (.ifCond .lt 7, 3) := by decide +kernel
theorem dX7_sheet_54 : decode cX7_sheet 54 = .ok (.iconst 1, 1) := by decide +kernel
theorem dX7_sheet_55 : decode cX7_sheet 55 = .ok (.goto 4, 3) := by decide +kernel
theorem dX7_sheet_58 : decode cX7_sheet 58 = .ok (.iconst 0, 1) := by decide +kernel
theorem dX7_sheet_59 : decode cX7_sheet 59 = .ok (.bastore, 1) := by decide +kernel
theorem dX7_sheet_60 : decode cX7_sheet 60 = .ok (.aload_n 0, 1) := by decide +kernel
theorem dX7_sheet_61 : decode cX7_sheet 61 = .ok (.getfield 72, 3) := by decide +kernel
theorem dX7_sheet_64 : decode cX7_sheet 64 = .ok (.iload_n 1, 1) := by decide +kernel
theorem dX7_sheet_65 : decode cX7_sheet 65 = .ok (.iload_n 2, 1) := by decide +kernel
theorem dX7_sheet_66 : decode cX7_sheet 66 = .ok (.iastore, 1) := by decide +kernel
theorem dX7_sheet_67 : decode cX7_sheet 67 = .ok (.aload_n 0, 1) := by decide +kernel
theorem dX7_sheet_68 : decode cX7_sheet 68 = .ok (.getfield 75, 3) := by decide +kernel
theorem dX7_sheet_71 : decode cX7_sheet 71 = .ok (.iload_n 1, 1) := by decide +kernel
theorem dX7_sheet_72 : decode cX7_sheet 72 = .ok (.iload_n 3, 1) := by decide +kernel
theorem dX7_sheet_73 : decode cX7_sheet 73 = .ok (.iastore, 1) := by decide +kernel
theorem dX7_sheet_74 : decode cX7_sheet 74 = .ok (.iconst 0, 1) := by decide +kernel
theorem dX7_sheet_75 : decode cX7_sheet 75 = .ok (.istore 4, 2) := by decide +kernel
theorem dX7_sheet_77 : decode cX7_sheet 77 = .ok (.iload 4, 2) := by decide +kernel
theorem dX7_sheet_79 : decode cX7_sheet 79 = .ok (.iload_n 3, 1) := by decide +kernel
theorem dX7_sheet_80 : decode cX7_sheet 80 = .ok (.if_icmp .ge 26, 3) := by decide +kernel
theorem dX7_sheet_83 : decode cX7_sheet 83 = .ok (.iload_n 2, 1) := by decide +kernel
theorem dX7_sheet_84 : decode cX7_sheet 84 = .ok (.ifCond .lt 22, 3) := by decide +kernel
theorem dX7_sheet_87 : decode cX7_sheet 87 = .ok (.aload_n 0, 1) := by decide +kernel
theorem dX7_sheet_88 : decode cX7_sheet 88 = .ok (.getfield 78, 3) := by decide +kernel
theorem dX7_sheet_91 : decode cX7_sheet 91 = .ok (.bipush 40, 2) := by decide +kernel
theorem dX7_sheet_93 : decode cX7_sheet 93 = .ok (.iload_n 1, 1) := by decide +kernel
theorem dX7_sheet_94 : decode cX7_sheet 94 = .ok (.imul, 1) := by decide +kernel
theorem dX7_sheet_95 : decode cX7_sheet 95 = .ok (.iload 4, 2) := by decide +kernel
theorem dX7_sheet_97 : decode cX7_sheet 97 = .ok (.iadd, 1) := by decide +kernel
theorem dX7_sheet_98 : decode cX7_sheet 98 = .ok (.iconst 0, 1) := by decide +kernel
theorem dX7_sheet_99 : decode cX7_sheet 99 = .ok (.iastore, 1) := by decide +kernel
theorem dX7_sheet_100 : decode cX7_sheet 100 = .ok (.iinc 4 1, 3) := by decide +kernel
theorem dX7_sheet_103 : decode cX7_sheet 103 = .ok (.goto (-26), 3) := by decide +kernel
theorem dX7_sheet_106 : decode cX7_sheet 106 = .ok (.iconst 1, 1) := by decide +kernel
theorem dX7_sheet_107 : decode cX7_sheet 107 = .ok (.ireturn, 1) := by decide +kernel
theorem dX7_spell_0 : decode cX7_spell 0 = .ok (.aload_n 0, 1) := by decide +kernel
theorem dX7_spell_1 : decode cX7_spell 1 = .ok (.getfield 13, 3) := by decide +kernel
theorem dX7_spell_4 : decode cX7_spell 4 = .ok (.iload_n 1, 1) := by decide +kernel
theorem dX7_spell_5 : decode cX7_spell 5 = .ok (.iload_n 2, 1) := by decide +kernel
theorem dX7_spell_6 : decode cX7_spell 6 = .ok (.iastore, 1) := by decide +kernel
theorem dX7_spell_7 : decode cX7_spell 7 = .ok (.aload_n 0, 1) := by decide +kernel
theorem dX7_spell_8 : decode cX7_spell 8 = .ok (.getfield 13, 3) := by decide +kernel
theorem dX7_spell_11 : decode cX7_spell 11 = .ok (.iload_n 1, 1) := by decide +kernel
theorem dX7_spell_12 : decode cX7_spell 12 = .ok (.iconst 1, 1) := by decide +kernel
theorem dX7_spell_13 : decode cX7_spell 13 = .ok (.iadd, 1) := by decide +kernel
theorem dX7_spell_14 : decode cX7_spell 14 = .ok (.iload_n 3, 1) := by decide +kernel
theorem dX7_spell_15 : decode cX7_spell 15 = .ok (.iastore, 1) := by decide +kernel
theorem dX7_spell_16 : decode cX7_spell 16 = .ok (.aload_n 0, 1) := by decide +kernel
theorem dX7_spell_17 : decode cX7_spell 17 = .ok (.getfield 13, 3) := by decide +kernel
theorem dX7_spell_20 : decode cX7_spell 20 = .ok (.iload_n 1, 1) := by decide +kernel
theorem dX7_spell_21 : decode cX7_spell 21 = .ok (.iconst 2, 1) := by decide +kernel
theorem dX7_spell_22 : decode cX7_spell 22 = .ok (.iadd, 1) := by decide +kernel
theorem dX7_spell_23 : decode cX7_spell 23 = .ok (.iload 4, 2) := by decide +kernel
theorem dX7_spell_25 : decode cX7_spell 25 = .ok (.iastore, 1) := by decide +kernel
theorem dX7_spell_26 : decode cX7_spell 26 = .ok (.aload_n 0, 1) := by decide +kernel
theorem dX7_spell_27 : decode cX7_spell 27 = .ok (.getfield 13, 3) := by decide +kernel
theorem dX7_spell_30 : decode cX7_spell 30 = .ok (.iload_n 1, 1) := by decide +kernel
theorem dX7_spell_31 : decode cX7_spell 31 = .ok (.iconst 3, 1) := by decide +kernel
theorem dX7_spell_32 : decode cX7_spell 32 = .ok (.iadd, 1) := by decide +kernel
theorem dX7_spell_33 : decode cX7_spell 33 = .ok (.iload 5, 2) := by decide +kernel
theorem dX7_spell_35 : decode cX7_spell 35 = .ok (.iastore, 1) := by decide +kernel
theorem dX7_spell_36 : decode cX7_spell 36 = .ok (.aload_n 0, 1) := by decide +kernel
theorem dX7_spell_37 : decode cX7_spell 37 = .ok (.getfield 13, 3) := by decide +kernel
theorem dX7_spell_40 : decode cX7_spell 40 = .ok (.iload_n 1, 1) := by decide +kernel
theorem dX7_spell_41 : decode cX7_spell 41 = .ok (.iconst 4, 1) := by decide +kernel
theorem dX7_spell_42 : decode cX7_spell 42 = .ok (.iadd, 1) := by decide +kernel
theorem dX7_spell_43 : decode cX7_spell 43 = .ok (.iload 6, 2) := by decide +kernel
theorem dX7_spell_45 : decode cX7_spell 45 = .ok (.iastore, 1) := by decide +kernel
theorem dX7_spell_46 : decode cX7_spell 46 = .ok (.aload_n 0, 1) := by decide +kernel
theorem dX7_spell_47 : decode cX7_spell 47 = .ok (.getfield 13, 3) := by decide +kernel
theorem dX7_spell_50 : decode cX7_spell 50 = .ok (.iload_n 1, 1) := by decide +kernel
theorem dX7_spell_51 : decode cX7_spell 51 = .ok (.iconst 5, 1) := by decide +kernel
theorem dX7_spell_52 : decode cX7_spell 52 = .ok (.iadd, 1) := by decide +kernel
theorem dX7_spell_53 : decode cX7_spell 53 = .ok (.iload 7, 2) := by decide +kernel
theorem dX7_spell_55 : decode cX7_spell 55 = .ok (.iastore, 1) := by decide +kernel
theorem dX7_spell_56 : decode cX7_spell 56 = .ok (.aload_n 0, 1) := by decide +kernel
theorem dX7_spell_57 : decode cX7_spell 57 = .ok (.getfield 13, 3) := by decide +kernel
theorem dX7_spell_60 : decode cX7_spell 60 = .ok (.iload_n 1, 1) := by decide +kernel
theorem dX7_spell_61 : decode cX7_spell 61 = .ok (.bipush 6, 2) := by decide +kernel
theorem dX7_spell_63 : decode cX7_spell 63 = .ok (.iadd, 1) := by decide +kernel
theorem dX7_spell_64 : decode cX7_spell 64 = .ok (.iload 8, 2) := by decide +kernel
theorem dX7_spell_66 : decode cX7_spell 66 = .ok (.iastore, 1) := by decide +kernel
theorem dX7_spell_67 : decode cX7_spell 67 = .ok (.aload_n 0, 1) := by decide +kernel
theorem dX7_spell_68 : decode cX7_spell 68 = .ok (.getfield 13, 3) := by decide +kernel
theorem dX7_spell_71 : decode cX7_spell 71 = .ok (.iload_n 1, 1) := by decide +kernel
theorem dX7_spell_72 : decode cX7_spell 72 = .ok (.bipush 7, 2) := by decide +kernel
theorem dX7_spell_74 : decode cX7_spell 74 = .ok (.iadd, 1) := by decide +kernel
theorem dX7_spell_75 : decode cX7_spell 75 = .ok (.iload 9, 2) := by decide +kernel
theorem dX7_spell_77 : decode cX7_spell 77 = .ok (.iastore, 1) := by decide +kernel
theorem dX7_spell_78 : decode cX7_spell 78 = .ok (.return_, 1) := by decide +kernel
theorem dX7_stand_0 : decode cX7_stand 0 = .ok (.iload_n 1, 1) := by decide +kernel
theorem dX7_stand_1 : decode cX7_stand 1 = .ok (.iconst (-1), 1) := by decide +kernel
theorem dX7_stand_2 : decode cX7_stand 2 = .ok (.if_icmp .eq 14, 3) := by decide +kernel
theorem dX7_stand_5 : decode cX7_stand 5 = .ok (.aload_n 0, 1) := by decide +kernel
theorem dX7_stand_6 : decode cX7_stand 6 = .ok (.iload_n 1, 1) := by decide +kernel
theorem dX7_stand_7 : decode cX7_stand 7 = .ok (.invokevirtual 105, 3) := by decide +kernel
theorem dX7_stand_10 : decode cX7_stand 10 = .ok (.ifCond .ne 6, 3) := by decide +kernel
theorem dX7_stand_13 : decode cX7_stand 13 = .ok (.bipush (-100), 2) := by decide +kernel
theorem dX7_stand_15 : decode cX7_stand 15 = .ok (.ireturn, 1) := by decide +kernel
theorem dX7_stand_16 : decode cX7_stand 16 = .ok (.aload_n 0, 1) := by decide +kernel
theorem dX7_stand_17 : decode cX7_stand 17 = .ok (.invokevirtual 319, 3) := by decide +kernel
theorem dX7_stand_20 : decode cX7_stand 20 = .ok (.iload_n 1, 1) := by decide +kernel
theorem dX7_stand_21 : decode cX7_stand 21 = .ok (.iconst (-1), 1) := by decide +kernel
theorem dX7_stand_22 : decode cX7_stand 22 = .ok (.if_icmp .ne 10, 3) := by decide +kernel
theorem dX7_stand_25 : decode cX7_stand 25 = .ok (.aload_n 0, 1) := by decide +kernel
theorem dX7_stand_26 : decode cX7_stand 26 = .ok (.getfield 307, 3) := by decide +kernel
theorem dX7_stand_29 : decode cX7_stand 29 = .ok (.goto 9, 3) := by decide +kernel
theorem dX7_stand_32 : decode cX7_stand 32 = .ok (.aload_n 0, 1) := by decide +kernel
theorem dX7_stand_33 : decode cX7_stand 33 = .ok (.getfield 59, 3) := by decide +kernel
theorem dX7_stand_36 : decode cX7_stand 36 = .ok (.iload_n 1, 1) := by decide +kernel
theorem dX7_stand_37 : decode cX7_stand 37 = .ok (.iaload, 1) := by decide +kernel
theorem dX7_stand_38 : decode cX7_stand 38 = .ok (.ireturn, 1) := by decide +kernel
theorem dX7_stands_0 : decode cX7_stands 0 = .ok (.aload_n 0, 1) := by decide +kernel
theorem dX7_stands_1 : decode cX7_stands 1 = .ok (.invokevirtual 319, 3) := by decide +kernel
theorem dX7_stands_4 : decode cX7_stands 4 = .ok (.iconst 0, 1) := by decide +kernel
theorem dX7_stands_5 : decode cX7_stands 5 = .ok (.istore_n 1, 1) := by decide +kernel
theorem dX7_stands_6 : decode cX7_stands 6 = .ok (.iconst 0, 1) := by decide +kernel
theorem dX7_stands_7 : decode cX7_stands 7 = .ok (.istore_n 2, 1) := by decide +kernel
theorem dX7_stands_8 : decode cX7_stands 8 = .ok (.iload_n 2, 1) := by decide +kernel
theorem dX7_stands_9 : decode cX7_stands 9 = .ok (.aload_n 0, 1) := by decide +kernel
theorem dX7_stands_10 : decode cX7_stands 10 = .ok (.getfield 88, 3) := by decide +kernel
theorem dX7_stands_13 : decode cX7_stands 13 = .ok (.if_icmp .ge 44, 3) := by decide +kernel
theorem dX7_stands_16 : decode cX7_stands 16 = .ok (.iload_n 1, 1) := by decide +kernel
theorem dX7_stands_17 : decode cX7_stands 17 = .ok (.aload_n 0, 1) := by decide +kernel
theorem dX7_stands_18 : decode cX7_stands 18 = .ok (.getfield 41, 3) := by decide +kernel
theorem dX7_stands_21 : decode cX7_stands 21 = .ok (.iload_n 2, 1) := by decide +kernel
theorem dX7_stands_22 : decode cX7_stands 22 = .ok (.iaload, 1) := by decide +kernel
theorem dX7_stands_23 : decode cX7_stands 23 = .ok (.aload_n 0, 1) := by decide +kernel
theorem dX7_stands_24 : decode cX7_stands 24 = .ok (.getfield 59, 3) := by decide +kernel
theorem dX7_stands_27 : decode cX7_stands 27 = .ok (.iload_n 2, 1) := by decide +kernel
theorem dX7_stands_28 : decode cX7_stands 28 = .ok (.iaload, 1) := by decide +kernel
theorem dX7_stands_29 : decode cX7_stands 29 = .ok (.if_icmp .eq 7, 3) := by decide +kernel
theorem dX7_stands_32 : decode cX7_stands 32 = .ok (.iconst 1, 1) := by decide +kernel
theorem dX7_stands_33 : decode cX7_stands 33 = .ok (.goto 4, 3) := by decide +kernel
theorem dX7_stands_36 : decode cX7_stands 36 = .ok (.iconst 0, 1) := by decide +kernel
theorem dX7_stands_37 : decode cX7_stands 37 = .ok (.iadd, 1) := by decide +kernel
theorem dX7_stands_38 : decode cX7_stands 38 = .ok (.istore_n 1, 1) := by decide +kernel
theorem dX7_stands_39 : decode cX7_stands 39 = .ok (.aload_n 0, 1) := by decide +kernel
theorem dX7_stands_40 : decode cX7_stands 40 = .ok (.getfield 41, 3) := by decide +kernel
theorem dX7_stands_43 : decode cX7_stands 43 = .ok (.iload_n 2, 1) := by decide +kernel
theorem dX7_stands_44 : decode cX7_stands 44 = .ok (.aload_n 0, 1) := by decide +kernel
theorem dX7_stands_45 : decode cX7_stands 45 = .ok (.getfield 59, 3) := by decide +kernel
theorem dX7_stands_48 : decode cX7_stands 48 = .ok (.iload_n 2, 1) := by decide +kernel
theorem dX7_stands_49 : decode cX7_stands 49 = .ok (.iaload, 1) := by decide +kernel
theorem dX7_stands_50 : decode cX7_stands 50 = .ok (.iastore, 1) := by decide +kernel
theorem dX7_stands_51 : decode cX7_stands 51 = .ok (.iinc 2 1, 3) := by decide +kernel
theorem dX7_stands_54 : decode cX7_stands 54 = .ok (.goto (-46), 3) := by decide +kernel
theorem dX7_stands_57 : decode cX7_stands 57 = .ok (.iload_n 1, 1) := by decide +kernel
theorem dX7_stands_58 : decode cX7_stands 58 = .ok (.ireturn, 1) := by decide +kernel
theorem dX7_stayingAt_0 : decode cX7_stayingAt 0 = .ok (.iconst 0, 1) := by decide +kernel
theorem dX7_stayingAt_1 : decode cX7_stayingAt 1 = .ok (.istore_n 2, 1) := by decide +kernel
theorem dX7_stayingAt_2 : decode cX7_stayingAt 2 = .ok (.iconst 0, 1) := by decide +kernel
theorem dX7_stayingAt_3 : decode cX7_stayingAt 3 = .ok (.istore_n 3, 1) := by decide +kernel
theorem dX7_stayingAt_4 : decode cX7_stayingAt 4 = .ok (.iload_n 3, 1) := by decide +kernel
theorem dX7_stayingAt_5 : decode cX7_stayingAt 5 = .ok (.aload_n 0, 1) := by decide +kernel
theorem dX7_stayingAt_6 : decode cX7_stayingAt 6 = .ok (.getfield 88, 3) := by decide +kernel
theorem dX7_stayingAt_9 : decode cX7_stayingAt 9 = .ok (.if_icmp .ge 51, 3) := by decide +kernel
theorem dX7_stayingAt_12 : decode cX7_stayingAt 12 = .ok (.iload_n 2, 1) := by decide +kernel
theorem dX7_stayingAt_13 : decode cX7_stayingAt 13 = .ok (.aload_n 0, 1) := by decide +kernel
theorem dX7_stayingAt_14 : decode cX7_stayingAt 14 = .ok (.getfield 254, 3) := by decide +kernel
theorem dX7_stayingAt_17 : decode cX7_stayingAt 17 = .ok (.iload_n 3, 1) := by decide +kernel
theorem dX7_stayingAt_18 : decode cX7_stayingAt 18 = .ok (.ishr, 1) := by decide +kernel
theorem dX7_stayingAt_19 : decode cX7_stayingAt 19 = .ok (.iconst 1, 1) := by decide +kernel
theorem dX7_stayingAt_20 : decode cX7_stayingAt 20 = .ok (.iand, 1) := by decide +kernel
theorem dX7_stayingAt_21 : decode cX7_stayingAt 21 = .ok (.iconst 1, 1) := by decide +kernel
theorem dX7_stayingAt_22 : decode cX7_stayingAt 22 = .ok (.if_icmp .ne 27, 3) := by decide +kernel
theorem dX7_stayingAt_25 : decode cX7_stayingAt 25 = .ok (.aload_n 0, 1) := by decide +kernel
theorem dX7_stayingAt_26 : decode cX7_stayingAt 26 = .ok (.getfield 35, 3) := by decide +kernel
theorem dX7_stayingAt_29 : decode cX7_stayingAt 29 = .ok (.iload_n 3, 1) := by decide +kernel
theorem dX7_stayingAt_30 : decode cX7_stayingAt 30 = .ok (.iaload, 1) := by decide +kernel
theorem dX7_stayingAt_31 : decode cX7_stayingAt 31 = .ok (.iload_n 1, 1) := by decide +kernel
theorem dX7_stayingAt_32 : decode cX7_stayingAt 32 = .ok (.if_icmp .ge 17, 3) := by decide +kernel
theorem dX7_stayingAt_35 : decode cX7_stayingAt 35 = .ok (.aload_n 0, 1) := by decide +kernel
theorem dX7_stayingAt_36 : decode cX7_stayingAt 36 = .ok (.getfield 38, 3) := by decide +kernel
theorem dX7_stayingAt_39 : decode cX7_stayingAt 39 = .ok (.iload_n 3, 1) := by decide +kernel
theorem dX7_stayingAt_40 : decode cX7_stayingAt 40 = .ok (.iaload, 1) := by decide +kernel
theorem dX7_stayingAt_41 : decode cX7_stayingAt 41 = .ok (.iload_n 1, 1) := by decide +kernel
theorem dX7_stayingAt_42 : decode cX7_stayingAt 42 = .ok (.if_icmp .le 7, 3) := by decide +kernel
theorem dX7_stayingAt_45 : decode cX7_stayingAt 45 = .ok (.iconst 1, 1) := by decide +kernel
theorem dX7_stayingAt_46 : decode cX7_stayingAt 46 = .ok (.goto 4, 3) := by decide +kernel
theorem dX7_stayingAt_49 : decode cX7_stayingAt 49 = .ok (.iconst 0, 1) := by decide +kernel
theorem dX7_stayingAt_50 : decode cX7_stayingAt 50 = .ok (.iload_n 3, 1) := by decide +kernel
theorem dX7_stayingAt_51 : decode cX7_stayingAt 51 = .ok (.ishl, 1) := by decide +kernel
theorem dX7_stayingAt_52 : decode cX7_stayingAt 52 = .ok (.ior, 1) := by decide +kernel
theorem dX7_stayingAt_53 : decode cX7_stayingAt 53 = .ok (.istore_n 2, 1) := by decide +kernel
theorem dX7_stayingAt_54 : decode cX7_stayingAt 54 = .ok (.iinc 3 1, 3) := by decide +kernel
theorem dX7_stayingAt_57 : decode cX7_stayingAt 57 = .ok (.goto (-53), 3) := by decide +kernel
theorem dX7_stayingAt_60 : decode cX7_stayingAt 60 = .ok (.iload_n 2, 1) := by decide +kernel
theorem dX7_stayingAt_61 : decode cX7_stayingAt 61 = .ok (.ireturn, 1) := by decide +kernel
theorem dX7_stepsAt_0 : decode cX7_stepsAt 0 = .ok (.aload_n 0, 1) := by decide +kernel
theorem dX7_stepsAt_1 : decode cX7_stepsAt 1 = .ok (.iload_n 1, 1) := by decide +kernel
theorem dX7_stepsAt_2 : decode cX7_stepsAt 2 = .ok (.invokevirtual 273, 3) := by decide +kernel
theorem dX7_stepsAt_5 : decode cX7_stepsAt 5 = .ok (.istore_n 2, 1) := by decide +kernel
theorem dX7_stepsAt_6 : decode cX7_stepsAt 6 = .ok (.iconst 0, 1) := by decide +kernel
theorem dX7_stepsAt_7 : decode cX7_stepsAt 7 = .ok (.istore_n 3, 1) := by decide +kernel
theorem dX7_stepsAt_8 : decode cX7_stepsAt 8 = .ok (.iload_n 2, 1) := by decide +kernel
theorem dX7_stepsAt_9 : decode cX7_stepsAt 9 = .ok (.istore 4, 2) := by decide +kernel
theorem dX7_stepsAt_11 : decode cX7_stepsAt 11 = .ok (.iconst 0, 1) := by decide +kernel
theorem dX7_stepsAt_12 : decode cX7_stepsAt 12 = .ok (.istore 5, 2) := by decide +kernel
theorem dX7_stepsAt_14 : decode cX7_stepsAt 14 = .ok (.iload 5, 2) := by decide +kernel
theorem dX7_stepsAt_16 : decode cX7_stepsAt 16 = .ok (.aload_n 0, 1) := by decide +kernel
theorem dX7_stepsAt_17 : decode cX7_stepsAt 17 = .ok (.getfield 88, 3) := by decide +kernel
theorem dX7_stepsAt_20 : decode cX7_stepsAt 20 = .ok (.if_icmp .ge 43, 3) := by decide +kernel
theorem dX7_stepsAt_23 : decode cX7_stepsAt 23 = .ok (.aload_n 0, 1) := by decide +kernel
theorem dX7_stepsAt_24 : decode cX7_stepsAt 24 = .ok (.getfield 254, 3) := by decide +kernel
theorem dX7_stepsAt_27 : decode cX7_stepsAt 27 = .ok (.iload 5, 2) := by decide +kernel
theorem dX7_stepsAt_29 : decode cX7_stepsAt 29 = .ok (.ishr, 1) := by decide +kernel
theorem dX7_stepsAt_30 : decode cX7_stepsAt 30 = .ok (.iconst 1, 1) := by decide +kernel
theorem dX7_stepsAt_31 : decode cX7_stepsAt 31 = .ok (.iand, 1) := by decide +kernel
theorem dX7_stepsAt_32 : decode cX7_stepsAt 32 = .ok (.iconst 1, 1) := by decide +kernel
theorem dX7_stepsAt_33 : decode cX7_stepsAt 33 = .ok (.if_icmp .ne 24, 3) := by decide +kernel
theorem dX7_stepsAt_36 : decode cX7_stepsAt 36 = .ok (.aload_n 0, 1) := by decide +kernel
theorem dX7_stepsAt_37 : decode cX7_stepsAt 37 = .ok (.getfield 38, 3) := by decide +kernel
theorem dX7_stepsAt_40 : decode cX7_stepsAt 40 = .ok (.iload 5, 2) := by decide +kernel
theorem dX7_stepsAt_42 : decode cX7_stepsAt 42 = .ok (.iaload, 1) := by decide +kernel
theorem dX7_stepsAt_43 : decode cX7_stepsAt 43 = .ok (.iload_n 1, 1) := by decide +kernel
theorem dX7_stepsAt_44 : decode cX7_stepsAt 44 = .ok (.if_icmp .ne 13, 3) := by decide +kernel
theorem dX7_stepsAt_47 : decode cX7_stepsAt 47 = .ok (.iload_n 3, 1) := by decide +kernel
theorem dX7_stepsAt_48 : decode cX7_stepsAt 48 = .ok (.aload_n 0, 1) := by decide +kernel
theorem dX7_stepsAt_49 : decode cX7_stepsAt 49 = .ok (.iload 5, 2) := by decide +kernel
theorem dX7_stepsAt_51 : decode cX7_stepsAt 51 = .ok (.iload_n 2, 1) := by decide +kernel
theorem dX7_stepsAt_52 : decode cX7_stepsAt 52 = .ok (.invokevirtual 276, 3) := by decide +kernel
theorem dX7_stepsAt_55 : decode cX7_stepsAt 55 = .ok (.ior, 1) := by decide +kernel
theorem dX7_stepsAt_56 : decode cX7_stepsAt 56 = .ok (.istore_n 3, 1) := by decide +kernel
theorem dX7_stepsAt_57 : decode cX7_stepsAt 57 = .ok (.iinc 5 1, 3) := by decide +kernel
theorem dX7_stepsAt_60 : decode cX7_stepsAt 60 = .ok (.goto (-46), 3) := by decide +kernel
theorem dX7_stepsAt_63 : decode cX7_stepsAt 63 = .ok (.iconst 0, 1) := by decide +kernel
theorem dX7_stepsAt_64 : decode cX7_stepsAt 64 = .ok (.istore 5, 2) := by decide +kernel
theorem dX7_stepsAt_66 : decode cX7_stepsAt 66 = .ok (.iload 5, 2) := by decide +kernel
theorem dX7_stepsAt_68 : decode cX7_stepsAt 68 = .ok (.aload_n 0, 1) := by decide +kernel
theorem dX7_stepsAt_69 : decode cX7_stepsAt 69 = .ok (.getfield 88, 3) := by decide +kernel
theorem dX7_stepsAt_72 : decode cX7_stepsAt 72 = .ok (.if_icmp .ge 53, 3) := by decide +kernel
theorem dX7_stepsAt_75 : decode cX7_stepsAt 75 = .ok (.aload_n 0, 1) := by decide +kernel
theorem dX7_stepsAt_76 : decode cX7_stepsAt 76 = .ok (.getfield 254, 3) := by decide +kernel
theorem dX7_stepsAt_79 : decode cX7_stepsAt 79 = .ok (.iload 5, 2) := by decide +kernel
theorem dX7_stepsAt_81 : decode cX7_stepsAt 81 = .ok (.ishr, 1) := by decide +kernel
theorem dX7_stepsAt_82 : decode cX7_stepsAt 82 = .ok (.iconst 1, 1) := by decide +kernel
theorem dX7_stepsAt_83 : decode cX7_stepsAt 83 = .ok (.iand, 1) := by decide +kernel
theorem dX7_stepsAt_84 : decode cX7_stepsAt 84 = .ok (.iconst 1, 1) := by decide +kernel
theorem dX7_stepsAt_85 : decode cX7_stepsAt 85 = .ok (.if_icmp .ne 34, 3) := by decide +kernel
theorem dX7_stepsAt_88 : decode cX7_stepsAt 88 = .ok (.aload_n 0, 1) := by decide +kernel
theorem dX7_stepsAt_89 : decode cX7_stepsAt 89 = .ok (.getfield 35, 3) := by decide +kernel
theorem dX7_stepsAt_92 : decode cX7_stepsAt 92 = .ok (.iload 5, 2) := by decide +kernel
theorem dX7_stepsAt_94 : decode cX7_stepsAt 94 = .ok (.iaload, 1) := by decide +kernel
theorem dX7_stepsAt_95 : decode cX7_stepsAt 95 = .ok (.iload_n 1, 1) := by decide +kernel
theorem dX7_stepsAt_96 : decode cX7_stepsAt 96 = .ok (.if_icmp .ne 23, 3) := by decide +kernel
theorem dX7_stepsAt_99 : decode cX7_stepsAt 99 = .ok (.iload_n 3, 1) := by decide +kernel
theorem dX7_stepsAt_100 : decode cX7_stepsAt 100 = .ok (.aload_n 0, 1) := by decide +kernel
theorem dX7_stepsAt_101 : decode cX7_stepsAt 101 = .ok (.iload 5, 2) := by decide +kernel
theorem dX7_stepsAt_103 : decode cX7_stepsAt 103 = .ok (.iload 4, 2) := by decide +kernel
theorem dX7_stepsAt_105 : decode cX7_stepsAt 105 = .ok (.invokevirtual 276, 3) := by decide +kernel
theorem dX7_stepsAt_108 : decode cX7_stepsAt 108 = .ok (.ior, 1) := by decide +kernel
theorem dX7_stepsAt_109 : decode cX7_stepsAt 109 = .ok (.istore_n 3, 1) := by decide +kernel
theorem dX7_stepsAt_110 : decode cX7_stepsAt 110 = .ok (.iload 4, 2) := by decide +kernel
theorem dX7_stepsAt_112 : decode cX7_stepsAt 112 = .ok (.iconst 1, 1) := by decide +kernel
theorem dX7_stepsAt_113 : decode cX7_stepsAt 113 = .ok (.iload 5, 2) := by decide +kernel
theorem dX7_stepsAt_115 : decode cX7_stepsAt 115 = .ok (.ishl, 1) := by decide +kernel
theorem dX7_stepsAt_116 : decode cX7_stepsAt 116 = .ok (.ior, 1) := by decide +kernel
theorem dX7_stepsAt_117 : decode cX7_stepsAt 117 = .ok (.istore 4, 2) := by decide +kernel
theorem dX7_stepsAt_119 : decode cX7_stepsAt 119 = .ok (.iinc 5 1, 3) := by decide +kernel
theorem dX7_stepsAt_122 : decode cX7_stepsAt 122 = .ok (.goto (-56), 3) := by decide +kernel
theorem dX7_stepsAt_125 : decode cX7_stepsAt 125 = .ok (.iload_n 3, 1) := by decide +kernel
theorem dX7_stepsAt_126 : decode cX7_stepsAt 126 = .ok (.ireturn, 1) := by decide +kernel
theorem dX7_taken_0 : decode cX7_taken 0 = .ok (.iload_n 2, 1) := by decide +kernel
theorem dX7_taken_1 : decode cX7_taken 1 = .ok (.i2l, 1) := by decide +kernel
theorem dX7_taken_2 : decode cX7_taken 2 = .ok (.lconst 0, 1) := by decide +kernel
theorem dX7_taken_3 : decode cX7_taken 3 = .ok (.ldc2_w 95, 3) := by decide +kernel
theorem dX7_taken_6 : decode cX7_taken 6 = .ok (.invokestatic 91, 3) := by decide +kernel
theorem dX7_taken_9 : decode cX7_taken 9 = .ok (.ifCond .ne 6, 3) := by decide +kernel
theorem dX7_taken_12 : decode cX7_taken 12 = .ok (.bipush (-2), 2) := by decide +kernel
theorem dX7_taken_14 : decode cX7_taken 14 = .ok (.ireturn, 1) := by decide +kernel
theorem dX7_taken_15 : decode cX7_taken 15 = .ok (.aload_n 0, 1) := by decide +kernel
theorem dX7_taken_16 : decode cX7_taken 16 = .ok (.iload_n 1, 1) := by decide +kernel
theorem dX7_taken_17 : decode cX7_taken 17 = .ok (.invokevirtual 105, 3) := by decide +kernel
theorem dX7_taken_20 : decode cX7_taken 20 = .ok (.ifCond .ne 6, 3) := by decide +kernel
theorem dX7_taken_23 : decode cX7_taken 23 = .ok (.bipush (-11), 2) := by decide +kernel
theorem dX7_taken_25 : decode cX7_taken 25 = .ok (.ireturn, 1) := by decide +kernel
theorem dX7_taken_26 : decode cX7_taken 26 = .ok (.aload_n 0, 1) := by decide +kernel
theorem dX7_taken_27 : decode cX7_taken 27 = .ok (.getfield 26, 3) := by decide +kernel
theorem dX7_taken_30 : decode cX7_taken 30 = .ok (.iload_n 1, 1) := by decide +kernel
theorem dX7_taken_31 : decode cX7_taken 31 = .ok (.iaload, 1) := by decide +kernel
theorem dX7_taken_32 : decode cX7_taken 32 = .ok (.istore_n 3, 1) := by decide +kernel
theorem dX7_taken_33 : decode cX7_taken 33 = .ok (.iload_n 3, 1) := by decide +kernel
theorem dX7_taken_34 : decode cX7_taken 34 = .ok (.iconst (-1), 1) := by decide +kernel
theorem dX7_taken_35 : decode cX7_taken 35 = .ok (.if_icmp .eq 16, 3) := by decide +kernel
theorem dX7_taken_38 : decode cX7_taken 38 = .ok (.iload_n 3, 1) := by decide +kernel
theorem dX7_taken_39 : decode cX7_taken 39 = .ok (.iload_n 2, 1) := by decide +kernel
theorem dX7_taken_40 : decode cX7_taken 40 = .ok (.if_icmp .eq 11, 3) := by decide +kernel
theorem dX7_taken_43 : decode cX7_taken 43 = .ok (.iload_n 3, 1) := by decide +kernel
theorem dX7_taken_44 : decode cX7_taken 44 = .ok (.invokestatic 365, 3) := by decide +kernel
theorem dX7_taken_47 : decode cX7_taken 47 = .ok (.istore_n 3, 1) := by decide +kernel
theorem dX7_taken_48 : decode cX7_taken 48 = .ok (.goto (-15), 3) := by decide +kernel
theorem dX7_taken_51 : decode cX7_taken 51 = .ok (.iload_n 3, 1) := by decide +kernel
theorem dX7_taken_52 : decode cX7_taken 52 = .ok (.iload_n 2, 1) := by decide +kernel
theorem dX7_taken_53 : decode cX7_taken 53 = .ok (.if_icmp .ne 12, 3) := by decide +kernel
theorem dX7_taken_56 : decode cX7_taken 56 = .ok (.aload_n 0, 1) := by decide +kernel
theorem dX7_taken_57 : decode cX7_taken 57 = .ok (.getfield 29, 3) := by decide +kernel
theorem dX7_taken_60 : decode cX7_taken 60 = .ok (.iload_n 1, 1) := by decide +kernel
theorem dX7_taken_61 : decode cX7_taken 61 = .ok (.iaload, 1) := by decide +kernel
theorem dX7_taken_62 : decode cX7_taken 62 = .ok (.goto 5, 3) := by decide +kernel
theorem dX7_taken_65 : decode cX7_taken 65 = .ok (.bipush (-13), 2) := by decide +kernel
theorem dX7_taken_67 : decode cX7_taken 67 = .ok (.ireturn, 1) := by decide +kernel
theorem dX7_term_0 : decode cX7_term 0 = .ok (.aload_n 0, 1) := by decide +kernel
theorem dX7_term_1 : decode cX7_term 1 = .ok (.invokevirtual 214, 3) := by decide +kernel
theorem dX7_term_4 : decode cX7_term 4 = .ok (.istore_n 1, 1) := by decide +kernel
theorem dX7_term_5 : decode cX7_term 5 = .ok (.aload_n 0, 1) := by decide +kernel
theorem dX7_term_6 : decode cX7_term 6 = .ok (.bipush 42, 2) := by decide +kernel
theorem dX7_term_8 : decode cX7_term 8 = .ok (.invokevirtual 207, 3) := by decide +kernel
theorem dX7_term_11 : decode cX7_term 11 = .ok (.ifCond .eq 17, 3) := by decide +kernel
theorem dX7_term_14 : decode cX7_term 14 = .ok (.aload_n 0, 1) := by decide +kernel
theorem dX7_term_15 : decode cX7_term 15 = .ok (.invokevirtual 182, 3) := by decide +kernel
theorem dX7_term_18 : decode cX7_term 18 = .ok (.iload_n 1, 1) := by decide +kernel
theorem dX7_term_19 : decode cX7_term 19 = .ok (.aload_n 0, 1) := by decide +kernel
theorem dX7_term_20 : decode cX7_term 20 = .ok (.invokevirtual 214, 3) := by decide +kernel
theorem dX7_term_23 : decode cX7_term 23 = .ok (.imul, 1) := by decide +kernel
theorem dX7_term_24 : decode cX7_term 24 = .ok (.istore_n 1, 1) := by decide +kernel
theorem dX7_term_25 : decode cX7_term 25 = .ok (.goto (-20), 3) := by decide +kernel
theorem dX7_term_28 : decode cX7_term 28 = .ok (.iload_n 1, 1) := by decide +kernel
theorem dX7_term_29 : decode cX7_term 29 = .ok (.ireturn, 1) := by decide +kernel
theorem dX7_text_0 : decode cX7_text 0 = .ok (.aload_n 0, 1) := by decide +kernel
theorem dX7_text_1 : decode cX7_text 1 = .ok (.getfield 85, 3) := by decide +kernel
theorem dX7_text_4 : decode cX7_text 4 = .ok (.bipush 6, 2) := by decide +kernel
theorem dX7_text_6 : decode cX7_text 6 = .ok (.if_icmp .ne 6, 3) := by decide +kernel
theorem dX7_text_9 : decode cX7_text 9 = .ok (.bipush (-4), 2) := by decide +kernel
theorem dX7_text_11 : decode cX7_text 11 = .ok (.ireturn, 1) := by decide +kernel
theorem dX7_text_12 : decode cX7_text 12 = .ok (.iconst 0, 1) := by decide +kernel
theorem dX7_text_13 : decode cX7_text 13 = .ok (.istore_n 1, 1) := by decide +kernel
theorem dX7_text_14 : decode cX7_text 14 = .ok (.iload_n 1, 1) := by decide +kernel
theorem dX7_text_15 : decode cX7_text 15 = .ok (.aload_n 0, 1) := by decide +kernel
theorem dX7_text_16 : decode cX7_text 16 = .ok (.getfield 130, 3) := by decide +kernel
theorem dX7_text_19 : decode cX7_text 19 = .ok (.if_icmp .ge 30, 3) := by decide +kernel
theorem dX7_text_22 : decode cX7_text 22 = .ok (.aload_n 0, 1) := by decide +kernel
theorem dX7_text_23 : decode cX7_text 23 = .ok (.getfield 13, 3) := by decide +kernel
theorem dX7_text_26 : decode cX7_text 26 = .ok (.sipush 160, 3) := by decide +kernel
theorem dX7_text_29 : decode cX7_text 29 = .ok (.aload_n 0, 1) := by decide +kernel
theorem dX7_text_30 : decode cX7_text 30 = .ok (.getfield 85, 3) := by decide +kernel
theorem dX7_text_33 : decode cX7_text 33 = .ok (.imul, 1) := by decide +kernel
theorem dX7_text_34 : decode cX7_text 34 = .ok (.iload_n 1, 1) := by decide +kernel
theorem dX7_text_35 : decode cX7_text 35 = .ok (.iadd, 1) := by decide +kernel
theorem dX7_text_36 : decode cX7_text 36 = .ok (.aload_n 0, 1) := by decide +kernel
theorem dX7_text_37 : decode cX7_text 37 = .ok (.getfield 20, 3) := by decide +kernel
theorem dX7_text_40 : decode cX7_text 40 = .ok (.iload_n 1, 1) := by decide +kernel
theorem dX7_text_41 : decode cX7_text 41 = .ok (.iaload, 1) := by decide +kernel
theorem dX7_text_42 : decode cX7_text 42 = .ok (.iastore, 1) := by decide +kernel
theorem dX7_text_43 : decode cX7_text 43 = .ok (.iinc 1 1, 3) := by decide +kernel
theorem dX7_text_46 : decode cX7_text 46 = .ok (.goto (-32), 3) := by decide +kernel
theorem dX7_text_49 : decode cX7_text 49 = .ok (.aload_n 0, 1) := by decide +kernel
theorem dX7_text_50 : decode cX7_text 50 = .ok (.getfield 17, 3) := by decide +kernel
theorem dX7_text_53 : decode cX7_text 53 = .ok (.aload_n 0, 1) := by decide +kernel
theorem dX7_text_54 : decode cX7_text 54 = .ok (.getfield 85, 3) := by decide +kernel
theorem dX7_text_57 : decode cX7_text 57 = .ok (.aload_n 0, 1) := by decide +kernel
theorem dX7_text_58 : decode cX7_text 58 = .ok (.getfield 130, 3) := by decide +kernel
theorem dX7_text_61 : decode cX7_text 61 = .ok (.iastore, 1) := by decide +kernel
theorem dX7_text_62 : decode cX7_text 62 = .ok (.aload_n 0, 1) := by decide +kernel
theorem dX7_text_63 : decode cX7_text 63 = .ok (.iconst 0, 1) := by decide +kernel
theorem dX7_text_64 : decode cX7_text 64 = .ok (.putfield 130, 3) := by decide +kernel
theorem dX7_text_67 : decode cX7_text 67 = .ok (.aload_n 0, 1) := by decide +kernel
theorem dX7_text_68 : decode cX7_text 68 = .ok (.aload_n 0, 1) := by decide +kernel
theorem dX7_text_69 : decode cX7_text 69 = .ok (.getfield 85, 3) := by decide +kernel
theorem dX7_text_72 : decode cX7_text 72 = .ok (.iconst 0, 1) := by decide +kernel
theorem dX7_text_73 : decode cX7_text 73 = .ok (.invokevirtual 244, 3) := by decide +kernel
theorem dX7_text_76 : decode cX7_text 76 = .ok (.istore_n 1, 1) := by decide +kernel
theorem dX7_text_77 : decode cX7_text 77 = .ok (.aload_n 0, 1) := by decide +kernel
theorem dX7_text_78 : decode cX7_text 78 = .ok (.getfield 166, 3) := by decide +kernel
theorem dX7_text_81 : decode cX7_text 81 = .ok (.ifCond .eq 11, 3) := by decide +kernel
theorem dX7_text_84 : decode cX7_text 84 = .ok (.bipush (-100), 2) := by decide +kernel
theorem dX7_text_86 : decode cX7_text 86 = .ok (.aload_n 0, 1) := by decide +kernel
theorem dX7_text_87 : decode cX7_text 87 = .ok (.getfield 170, 3) := by decide +kernel
theorem dX7_text_90 : decode cX7_text 90 = .ok (.isub, 1) := by decide +kernel
theorem dX7_text_91 : decode cX7_text 91 = .ok (.ireturn, 1) := by decide +kernel
theorem dX7_text_92 : decode cX7_text 92 = .ok (.aload_n 0, 1) := by decide +kernel
theorem dX7_text_93 : decode cX7_text 93 = .ok (.dup, 1) := by decide +kernel
theorem dX7_text_94 : decode cX7_text 94 = .ok (.getfield 85, 3) := by decide +kernel
theorem dX7_text_97 : decode cX7_text 97 = .ok (.iconst 1, 1) := by decide +kernel
theorem dX7_text_98 : decode cX7_text 98 = .ok (.iadd, 1) := by decide +kernel
theorem dX7_text_99 : decode cX7_text 99 = .ok (.putfield 85, 3) := by decide +kernel
theorem dX7_text_102 : decode cX7_text 102 = .ok (.aload_n 0, 1) := by decide +kernel
theorem dX7_text_103 : decode cX7_text 103 = .ok (.getfield 85, 3) := by decide +kernel
theorem dX7_text_106 : decode cX7_text 106 = .ok (.iconst 1, 1) := by decide +kernel
theorem dX7_text_107 : decode cX7_text 107 = .ok (.isub, 1) := by decide +kernel
theorem dX7_text_108 : decode cX7_text 108 = .ok (.ireturn, 1) := by decide +kernel
theorem dX7_told_0 : decode cX7_told 0 = .ok (.aload_n 0, 1) := by decide +kernel
theorem dX7_told_1 : decode cX7_told 1 = .ok (.iload_n 1, 1) := by decide +kernel
theorem dX7_told_2 : decode cX7_told 2 = .ok (.invokevirtual 105, 3) := by decide +kernel
theorem dX7_told_5 : decode cX7_told 5 = .ok (.ifCond .eq 15, 3) := by decide +kernel
theorem dX7_told_8 : decode cX7_told 8 = .ok (.iload_n 2, 1) := by decide +kernel
theorem dX7_told_9 : decode cX7_told 9 = .ok (.i2l, 1) := by decide +kernel
theorem dX7_told_10 : decode cX7_told 10 = .ok (.lconst 0, 1) := by decide +kernel
theorem dX7_told_11 : decode cX7_told 11 = .ok (.ldc2_w 122, 3) := by decide +kernel
theorem dX7_told_14 : decode cX7_told 14 = .ok (.invokestatic 91, 3) := by decide +kernel
theorem dX7_told_17 : decode cX7_told 17 = .ok (.ifCond .ne 6, 3) := by decide +kernel
theorem dX7_told_20 : decode cX7_told 20 = .ok (.bipush (-2), 2) := by decide +kernel
theorem dX7_told_22 : decode cX7_told 22 = .ok (.ireturn, 1) := by decide +kernel
theorem dX7_told_23 : decode cX7_told 23 = .ok (.iload_n 2, 1) := by decide +kernel
theorem dX7_told_24 : decode cX7_told 24 = .ok (.iconst 3, 1) := by decide +kernel
theorem dX7_told_25 : decode cX7_told 25 = .ok (.if_icmp .ge 37, 3) := by decide +kernel
theorem dX7_told_28 : decode cX7_told 28 = .ok (.iload_n 2, 1) := by decide +kernel
theorem dX7_told_29 : decode cX7_told 29 = .ok (.ifCond .ne 12, 3) := by decide +kernel
theorem dX7_told_32 : decode cX7_told 32 = .ok (.aload_n 0, 1) := by decide +kernel
theorem dX7_told_33 : decode cX7_told 33 = .ok (.getfield 26, 3) := by decide +kernel
theorem dX7_told_36 : decode cX7_told 36 = .ok (.iload_n 1, 1) := by decide +kernel
theorem dX7_told_37 : decode cX7_told 37 = .ok (.iaload, 1) := by decide +kernel
theorem dX7_told_38 : decode cX7_told 38 = .ok (.goto 23, 3) := by decide +kernel
theorem dX7_told_41 : decode cX7_told 41 = .ok (.iload_n 2, 1) := by decide +kernel
theorem dX7_told_42 : decode cX7_told 42 = .ok (.iconst 1, 1) := by decide +kernel
theorem dX7_told_43 : decode cX7_told 43 = .ok (.if_icmp .ne 12, 3) := by decide +kernel
theorem dX7_told_46 : decode cX7_told 46 = .ok (.aload_n 0, 1) := by decide +kernel
theorem dX7_told_47 : decode cX7_told 47 = .ok (.getfield 29, 3) := by decide +kernel
theorem dX7_told_50 : decode cX7_told 50 = .ok (.iload_n 1, 1) := by decide +kernel
theorem dX7_told_51 : decode cX7_told 51 = .ok (.iaload, 1) := by decide +kernel
theorem dX7_told_52 : decode cX7_told 52 = .ok (.goto 9, 3) := by decide +kernel
theorem dX7_told_55 : decode cX7_told 55 = .ok (.aload_n 0, 1) := by decide +kernel
theorem dX7_told_56 : decode cX7_told 56 = .ok (.getfield 32, 3) := by decide +kernel
theorem dX7_told_59 : decode cX7_told 59 = .ok (.iload_n 1, 1) := by decide +kernel
theorem dX7_told_60 : decode cX7_told 60 = .ok (.iaload, 1) := by decide +kernel
theorem dX7_told_61 : decode cX7_told 61 = .ok (.ireturn, 1) := by decide +kernel
theorem dX7_told_62 : decode cX7_told 62 = .ok (.iload_n 2, 1) := by decide +kernel
theorem dX7_told_63 : decode cX7_told 63 = .ok (.iconst 3, 1) := by decide +kernel
theorem dX7_told_64 : decode cX7_told 64 = .ok (.if_icmp .ne 12, 3) := by decide +kernel
theorem dX7_told_67 : decode cX7_told 67 = .ok (.aload_n 0, 1) := by decide +kernel
theorem dX7_told_68 : decode cX7_told 68 = .ok (.getfield 38, 3) := by decide +kernel
theorem dX7_told_71 : decode cX7_told 71 = .ok (.iload_n 1, 1) := by decide +kernel
theorem dX7_told_72 : decode cX7_told 72 = .ok (.iaload, 1) := by decide +kernel
theorem dX7_told_73 : decode cX7_told 73 = .ok (.goto 37, 3) := by decide +kernel
theorem dX7_told_76 : decode cX7_told 76 = .ok (.iload_n 2, 1) := by decide +kernel
theorem dX7_told_77 : decode cX7_told 77 = .ok (.iconst 4, 1) := by decide +kernel
theorem dX7_told_78 : decode cX7_told 78 = .ok (.if_icmp .ne 12, 3) := by decide +kernel
theorem dX7_told_81 : decode cX7_told 81 = .ok (.aload_n 0, 1) := by decide +kernel
theorem dX7_told_82 : decode cX7_told 82 = .ok (.getfield 41, 3) := by decide +kernel
theorem dX7_told_85 : decode cX7_told 85 = .ok (.iload_n 1, 1) := by decide +kernel
theorem dX7_told_86 : decode cX7_told 86 = .ok (.iaload, 1) := by decide +kernel
theorem dX7_told_87 : decode cX7_told 87 = .ok (.goto 23, 3) := by decide +kernel
theorem dX7_told_90 : decode cX7_told 90 = .ok (.iload_n 2, 1) := by decide +kernel
theorem dX7_told_91 : decode cX7_told 91 = .ok (.iconst 5, 1) := by decide +kernel
theorem dX7_told_92 : decode cX7_told 92 = .ok (.if_icmp .ne 12, 3) := by decide +kernel
theorem dX7_told_95 : decode cX7_told 95 = .ok (.aload_n 0, 1) := by decide +kernel
theorem dX7_told_96 : decode cX7_told 96 = .ok (.getfield 44, 3) := by decide +kernel
theorem dX7_told_99 : decode cX7_told 99 = .ok (.iload_n 1, 1) := by decide +kernel
theorem dX7_told_100 : decode cX7_told 100 = .ok (.iaload, 1) := by decide +kernel
theorem dX7_told_101 : decode cX7_told 101 = .ok (.goto 9, 3) := by decide +kernel
theorem dX7_told_104 : decode cX7_told 104 = .ok (.aload_n 0, 1) := by decide +kernel
theorem dX7_told_105 : decode cX7_told 105 = .ok (.getfield 35, 3) := by decide +kernel
theorem dX7_told_108 : decode cX7_told 108 = .ok (.iload_n 1, 1) := by decide +kernel
theorem dX7_told_109 : decode cX7_told 109 = .ok (.iaload, 1) := by decide +kernel
theorem dX7_told_110 : decode cX7_told 110 = .ok (.ireturn, 1) := by decide +kernel
theorem dX7_unlikeAt_0 : decode cX7_unlikeAt 0 = .ok (.aload_n 0, 1) := by decide +kernel
theorem dX7_unlikeAt_1 : decode cX7_unlikeAt 1 = .ok (.aload_n 0, 1) := by decide +kernel
theorem dX7_unlikeAt_2 : decode cX7_unlikeAt 2 = .ok (.invokevirtual 291, 3) := by decide +kernel
theorem dX7_unlikeAt_5 : decode cX7_unlikeAt 5 = .ok (.putfield 254, 3) := by decide +kernel
theorem dX7_unlikeAt_8 : decode cX7_unlikeAt 8 = .ok (.iconst 0, 1) := by decide +kernel
theorem dX7_unlikeAt_9 : decode cX7_unlikeAt 9 = .ok (.istore_n 2, 1) := by decide +kernel
theorem dX7_unlikeAt_10 : decode cX7_unlikeAt 10 = .ok (.iload_n 2, 1) := by decide +kernel
theorem dX7_unlikeAt_11 : decode cX7_unlikeAt 11 = .ok (.aload_n 0, 1) := by decide +kernel
theorem dX7_unlikeAt_12 : decode cX7_unlikeAt 12 = .ok (.getfield 75, 3) := by decide +kernel
theorem dX7_unlikeAt_15 : decode cX7_unlikeAt 15 = .ok (.iload_n 1, 1) := by decide +kernel
theorem dX7_unlikeAt_16 : decode cX7_unlikeAt 16 = .ok (.iaload, 1) := by decide +kernel
theorem dX7_unlikeAt_17 : decode cX7_unlikeAt 17 = .ok (.if_icmp .ge 30, 3) := by decide +kernel
theorem dX7_unlikeAt_20 : decode cX7_unlikeAt 20 = .ok (.aload_n 0, 1) := by decide +kernel
theorem dX7_unlikeAt_21 : decode cX7_unlikeAt 21 = .ok (.iload_n 2, 1) := by decide +kernel
theorem dX7_unlikeAt_22 : decode cX7_unlikeAt 22 = .ok (.invokevirtual 285, 3) := by decide +kernel
theorem dX7_unlikeAt_25 : decode cX7_unlikeAt 25 = .ok (.aload_n 0, 1) := by decide +kernel
theorem dX7_unlikeAt_26 : decode cX7_unlikeAt 26 = .ok (.getfield 78, 3) := by decide +kernel
theorem dX7_unlikeAt_29 : decode cX7_unlikeAt 29 = .ok (.bipush 40, 2) := by decide +kernel
theorem dX7_unlikeAt_31 : decode cX7_unlikeAt 31 = .ok (.iload_n 1, 1) := by decide +kernel
theorem dX7_unlikeAt_32 : decode cX7_unlikeAt 32 = .ok (.imul, 1) := by decide +kernel
theorem dX7_unlikeAt_33 : decode cX7_unlikeAt 33 = .ok (.iload_n 2, 1) := by decide +kernel
theorem dX7_unlikeAt_34 : decode cX7_unlikeAt 34 = .ok (.iadd, 1) := by decide +kernel
theorem dX7_unlikeAt_35 : decode cX7_unlikeAt 35 = .ok (.iaload, 1) := by decide +kernel
theorem dX7_unlikeAt_36 : decode cX7_unlikeAt 36 = .ok (.if_icmp .eq 5, 3) := by decide +kernel
theorem dX7_unlikeAt_39 : decode cX7_unlikeAt 39 = .ok (.iload_n 2, 1) := by decide +kernel
theorem dX7_unlikeAt_40 : decode cX7_unlikeAt 40 = .ok (.ireturn, 1) := by decide +kernel
theorem dX7_unlikeAt_41 : decode cX7_unlikeAt 41 = .ok (.iinc 2 1, 3) := by decide +kernel
theorem dX7_unlikeAt_44 : decode cX7_unlikeAt 44 = .ok (.goto (-34), 3) := by decide +kernel
theorem dX7_unlikeAt_47 : decode cX7_unlikeAt 47 = .ok (.iconst (-1), 1) := by decide +kernel
theorem dX7_unlikeAt_48 : decode cX7_unlikeAt 48 = .ok (.ireturn, 1) := by decide +kernel
theorem dX7_within_0 : decode cX7_within 0 = .ok (.iload_n 0, 1) := by decide +kernel
theorem dX7_within_1 : decode cX7_within 1 = .ok (.iload_n 1, 1) := by decide +kernel
theorem dX7_within_2 : decode cX7_within 2 = .ok (.if_icmp .ge 7, 3) := by decide +kernel
theorem dX7_within_5 : decode cX7_within 5 = .ok (.iload_n 1, 1) := by decide +kernel
theorem dX7_within_6 : decode cX7_within 6 = .ok (.goto 13, 3) := by decide +kernel
theorem dX7_within_9 : decode cX7_within 9 = .ok (.iload_n 0, 1) := by decide +kernel
theorem dX7_within_10 : decode cX7_within 10 = .ok (.iload_n 2, 1) := by decide +kernel
theorem dX7_within_11 : decode cX7_within 11 = .ok (.if_icmp .le 7, 3) := by decide +kernel
theorem dX7_within_14 : decode cX7_within 14 = .ok (.iload_n 2, 1) := by decide +kernel
theorem dX7_within_15 : decode cX7_within 15 = .ok (.goto 4, 3) := by decide +kernel
theorem dX7_within_18 : decode cX7_within 18 = .ok (.iload_n 0, 1) := by decide +kernel
theorem dX7_within_19 : decode cX7_within 19 = .ok (.ireturn, 1) := by decide +kernel
end
section
/-! THE SMALL MACHINE. Everything that the law makes lies in cells that are numbered from 0 in the order in which they are made: cell k is the real cell (base + k). A small heap is: shapes (a list: tag, size), ints I k j, references R k j, longs L k j of cell k at place j. XV: from this frame and small heap the method ends, its answer and the small heap then keep Q. -/
abbrev XE : Type := Launch × Heap × va_G × (Nat → ClassId) × (Nat → Nat)
def xN (E : XE) : Nat := E.2.1.size
def xA (E : XE) : Nat → Prop := fun q => xN E ≤ q
def xD (E : XE) : va_G := E.2.2.1
def xk (E : XE) : Nat → ClassId := E.2.2.2.1
def xp (E : XE) : Nat → Nat := E.2.2.2.2
/-- a small value as a real one; .float w stands for the old cell xp w (a String constant, a static array) -/
def sv (E : XE) : Value → Value
  | .ref k => .ref (xN E + k)
  | .float w => .ref (xp E w.toNat)
  | v => v
theorem sv_cat (E : XE) (v : Value) : (sv E v).category = v.category := by cases v <;> rfl
theorem sv_cats (E : XE) (st : List Value) : ((st.map (sv E)).map fun v => v.category).sum = (st.map fun v => v.category).sum := by
  rw [List.map_map]; congr 1; exact List.map_congr_left fun v _ => sv_cat E v
abbrev XSh : Type := List (Nat × Nat)
abbrev XI : Type := Nat → Nat → Int32
abbrev XRf : Type := Nat → Nat → Option Nat
abbrev XL : Type := Nat → Nat → Int64
def xft : Nat → Nat → FieldType
  | 0 => tyX0
  | 1 => tyX1
  | 2 => tyX2
  | 3 => tyX3
  | 4 => tyX4
  | 5 => tyX5
  | 6 => tyX6
  | _ => tyX7
def xrf (E : XE) (r : Option Nat) : Option Nat := r.map (fun a => xN E + a)
def xfv (E : XE) (ty : FieldType) (I : XI) (R : XRf) (L : XL) (k j : Nat) : Value := match ty with
  | .long => .long (L k j)
  | .object _ => va_rf (xrf E (R k j))
  | .array _ => va_rf (xrf E (R k j))
  | _ => .int (I k j)
def xce (E : XE) (q : Nat × Nat) (k : Nat) (I : XI) (R : XRf) (L : XL) : va_E :=
  if q.1 < 8 then .inr (q.1, (List.range q.2).map (fun j => xfv E (xft q.1 j) I R L k j))
  else if q.1 < 10 then .inl (xk E (q.1 - 8), q.2, .inl (I k))
  else .inl (xk E (q.1 - 8), q.2, .inr (.inr (.inr (.inr (fun j => xrf E (R k j))))))
def xw (E : XE) (sh : XSh) (I : XI) (R : XRf) (L : XL) : va_W := (List.range sh.length).map (fun k => (xN E + k, xce E (sh.getD k (0, 0)) k I R L))
def xty (E : XE) : List (ClassId × FieldType) := [(xk E 0, .int), (xk E 1, .boolean), (xk E 2, .object "GetsOutFirst$Text"), (xk E 3, .object "GetsOutFirst$Sheet")]
theorem xw_len (E : XE) (sh : XSh) (I : XI) (R : XRf) (L : XL) : (xw E sh I R L).length = sh.length := by simp [xw]
theorem xw_at {E : XE} {sh : XSh} {I : XI} {R : XRf} {L : XL} {k : Nat} {q : Nat × Nat} (h : sh[k]? = some q) : (xw E sh I R L)[k]? = some (xN E + k, xce E q k I R L) := by
  have hk : k < sh.length := (List.getElem?_eq_some_iff.mp h).1
  have hq : sh[k] = q := (List.getElem?_eq_some_iff.mp h).2
  simp [xw, hk, List.getD, hq]
theorem xce_cong {E : XE} {q : Nat × Nat} {k : Nat} {I I' : XI} {R R' : XRf} {L L' : XL} (hI : I' k = I k) (hR : R' k = R k) (hL : L' k = L k) : xce E q k I' R' L' = xce E q k I R L := by
  unfold xce xfv
  rw [hI, hR, hL]
theorem xw_set {E : XE} {sh : XSh} {I I' : XI} {R R' : XRf} {L L' : XL} {k : Nat} {q : Nat × Nat} {e : va_E} (h : sh[k]? = some q) (he : e = xce E q k I' R' L') (hI : ∀ a, a ≠ k → I' a = I a) (hR : ∀ a, a ≠ k → R' a = R a) (hL : ∀ a, a ≠ k → L' a = L a) :
    (xw E sh I R L).set k (xN E + k, e) = xw E sh I' R' L' := by
  have hk : k < sh.length := (List.getElem?_eq_some_iff.mp h).1
  apply List.ext_getElem?
  intro a
  by_cases ha : a = k
  · subst ha
    rw [List.getElem?_set_self (by rw [xw_len]; exact hk), xw_at h, he]
  · rw [List.getElem?_set_ne (Ne.symm ha)]
    by_cases hl : a < sh.length
    · obtain ⟨z, hz⟩ : ∃ z, sh[a]? = some z := ⟨_, List.getElem?_eq_getElem hl⟩
      rw [xw_at hz, xw_at hz, xce_cong (hI a ha) (hR a ha) (hL a ha)]
    · rw [List.getElem?_eq_none (by rw [xw_len]; omega), List.getElem?_eq_none (by rw [xw_len]; omega)]
theorem xw_push {E : XE} {sh : XSh} {I : XI} {R : XRf} {L : XL} (q : Nat × Nat) : xw E (sh ++ [q]) I R L = xw E sh I R L ++ [(xN E + sh.length, xce E q sh.length I R L)] := by
  apply List.ext_getElem?
  intro a
  by_cases hl : a < sh.length
  · obtain ⟨z, hz⟩ : ∃ z, sh[a]? = some z := ⟨_, List.getElem?_eq_getElem hl⟩
    rw [List.getElem?_append_left (by rw [xw_len]; exact hl), xw_at hz, xw_at (q := z) (by rw [List.getElem?_append_left hl]; exact hz)]
  · by_cases he : a = sh.length
    · subst he
      rw [xw_at (q := q) (by simp), List.getElem?_append_right (by rw [xw_len]; exact Nat.le_refl _), xw_len]
      simp
    · rw [List.getElem?_eq_none (by rw [xw_len, List.length_append]; simp; omega), List.getElem?_eq_none (by rw [List.length_append, xw_len]; simp; omega)]
/-- updates -/
def xi (I : XI) (k j : Nat) (x : Int32) : XI := fun a => if a = k then upd (I k) j x else I a
def xr (R : XRf) (k j : Nat) (v : Option Nat) : XRf := fun a => if a = k then va_up (R k) j v else R a
def xg (L : XL) (k j : Nat) (x : Int64) : XL := fun a => if a = k then vp_updL (L k) j x else L a
/-- a whole row put -/
def xic (I : XI) (k : Nat) (f : Nat → Int32) : XI := fun a => if a = k then f else I a
theorem xi_row (I : XI) (k j : Nat) (x : Int32) : xi I k j x k = upd (I k) j x := by simp [xi]
theorem xi_off (I : XI) (k j : Nat) (x : Int32) {a : Nat} (h : a ≠ k) : xi I k j x a = I a := by simp [xi, h]
theorem xr_row (R : XRf) (k j : Nat) (v : Option Nat) : xr R k j v k = va_up (R k) j v := by simp [xr]
theorem xr_off (R : XRf) (k j : Nat) (v : Option Nat) {a : Nat} (h : a ≠ k) : xr R k j v a = R a := by simp [xr, h]
theorem xg_row (L : XL) (k j : Nat) (x : Int64) : xg L k j x k = vp_updL (L k) j x := by simp [xg]
theorem xg_off (L : XL) (k j : Nat) (x : Int64) {a : Nat} (h : a ≠ k) : xg L k j x a = L a := by simp [xg, h]
theorem xic_row (I : XI) (k : Nat) (f : Nat → Int32) : xic I k f k = f := by simp [xic]
theorem xic_off (I : XI) (k : Nat) (f : Nat → Int32) {a : Nat} (h : a ≠ k) : xic I k f a = I a := by simp [xic, h]
theorem xi_eq (I : XI) (k j : Nat) (x : Int32) : xi I k j x k j = x := by simp [xi, upd]
theorem xi_ne (I : XI) (k j : Nat) (x : Int32) {a b : Nat} (h : ¬ (a = k ∧ b = j)) : xi I k j x a b = I a b := by
  by_cases ha : a = k
  · subst ha
    have hb : ¬ b = j := fun z => h ⟨rfl, z⟩
    simp [xi, upd, hb]
  · simp [xi, ha]
/-! the words -/
def GT : List Cond := lw_tbl.filter goodWord
theorem gt_in {w : Cond} (h : w ∈ lw_tbl) (hg : goodWord w = true) : w ∈ GT := List.mem_filter.mpr ⟨h, hg⟩
theorem gt_tb {w : Cond} (i : Nat) (h : tables_1[i]? = some w) (hg : goodWord w = true) : w ∈ GT := gt_in (List.mem_append_right _ (List.mem_of_getElem? h)) hg
theorem gt_good {w : Cond} (h : w ∈ GT) : (w.onTables && w.keeps) = true ∨ ∃ ty, w = .arrayClass ty := good_of_word (List.mem_filter.mp h).2
theorem gt_sub {ws : List Cond} (h : ∀ w ∈ ws, w ∈ GT) (x : Cond) : GoodIn (x :: GT) ws := fun w hw => ⟨List.mem_cons_of_mem _ (h w hw), gt_good (h w hw)⟩
/-- name, bytes, locals, answer's type -/
abbrev XM : Type := MethodName × ByteArray × Nat × Option FieldType
def xws (y : XM) : List Cond := Cond.code y.1 y.2.1 y.2.2.1 y.2.2.2 :: GT
def xrm (d mc ms : Nat) : Room := { frames := d, cells := mc, slots := ms, locals := 64 * d }
/-! what the old heap says: String constants, statics -/
def xwd : List String := ["rider", "floor", "size", "row", "number", "inside", "steps", "late", "moves", "or", "and", "not"]
def xwl : List Nat := [5, 5, 4, 3, 6, 6, 5, 4, 5, 2, 3, 3]
def xwb : List (List Int32) := [[114, 105, 100, 101, 114], [102, 108, 111, 111, 114], [115, 105, 122, 101], [114, 111, 119], [110, 117, 109, 98, 101, 114], [105, 110, 115, 105, 100, 101], [115, 116, 101, 112, 115], [108, 97, 116, 101], [109, 111, 118, 101, 115], [111, 114], [97, 110, 100], [110, 111, 116]]
def xab : List Int32 := [-1, 0, 0, 1, 2, 1]
def xnest : List (String × Nat × MethodName × String) := [("GetsOutFirst", 9, ⟨"GetsOutFirst$Crew", "<init>", "()V"⟩, "GetsOutFirst"), ("GetsOutFirst", 21, ⟨"GetsOutFirst$Reader", "<init>", "()V"⟩, "GetsOutFirst"), ("GetsOutFirst$Trip", 11, ⟨"GetsOutFirst$Crew", "<init>", "()V"⟩, "GetsOutFirst"), ("GetsOutFirst", 63, ⟨"GetsOutFirst$Sheet", "<init>", "()V"⟩, "GetsOutFirst")]
def XS (E : XE) (U : State) : Prop :=
  va_AO "GetsOutFirst$Text" U ∧ va_AO "GetsOutFirst$Sheet" U ∧ (∀ q ∈ xnest, va_Nw (.methodLinkNest q.1 q.2.1 q.2.2.1 q.2.2.2) U) ∧ va_Nw (.castable "[I" "java/lang/Cloneable") U
  ∧ (∀ i, i < 12 → vk_R "GetsOutFirst$Reader" (104 + 2 * i) (xwd.getD i "") (xp E (1 + i)) U) ∧ vk_S 12 xwl xwb (fun i => xp E (1 + i)) (fun i => xp E (101 + i)) (xA E) U E.2.1
  ∧ va_Z "java/lang/String" "COMPACT_STRINGS" "Z" (.int 1) (xA E) U E.2.1 ∧ va_Zq "jdk/internal/util/Preconditions" "SIOOBE_FORMATTER" "Ljava/util/function/BiFunction;" (xA E) U E.2.1
  ∧ va_Z "GetsOutFirst" "ABOVE" "[I" (.ref (xp E 0)) (xA E) U E.2.1 ∧ va_T .int (xp E 0) 6 (fun j => .int (xab.getD j 0)) (xA E) U E.2.1
theorem XS.warm {E : XE} {s U : State} (hW : s.WarmedH U.vm) (h : XS E s) : XS E U := by
  obtain ⟨h1, h2, h3, h4, h5, h6, h7, h8, h9, h10⟩ := h
  exact ⟨h1.moved hW.alike, h2.moved hW.alike, fun q hq => (h3 q hq).warmM hW, h4.warmC hW, fun i hi => (h5 i hi).warm hW, h6.moved hW.alike, h7.moved hW.alike, h8.moved hW.alike, h9.moved hW.alike, h10.moved hW.alike⟩
def XZ (sh : XSh) (I : XI) (R : XRf) (L : XL) : Prop := ∀ a, sh.length ≤ a → I a = (fun _ => 0) ∧ R a = (fun _ => none) ∧ L a = (fun _ => 0)
/-- the heap H holds the small heap; the tables are those of the state s -/
def XR (E : XE) (sh : XSh) (I : XI) (R : XRf) (L : XL) (s : State) (H : Heap) : Prop :=
  va_P (xD E) vwCl (xw E sh I R L) H ∧ va_K (xD E) vwCl (xty E) s ∧ va_D (xA E) (xw E sh I R L) ∧ H.size = xN E + sh.length ∧ (∀ q, q < xN E → H[q]? = E.2.1[q]?) ∧ XZ sh I R L ∧ XS E s
theorem XR.warm {E : XE} {sh : XSh} {I : XI} {R : XRf} {L : XL} {s U : State} {H : Heap} (hW : s.WarmedH U.vm) (h : XR E sh I R L s H) : XR E sh I R L U H := by
  obtain ⟨h1, h2, h3, h4, h5, h6, h7⟩ := h
  exact ⟨h1, h2.moved hW.alike, h3, h4, h5, h6, h7.warm hW⟩
abbrev XQ : Type := Option Value → XSh → XI → XRf → XL → Prop
def xQc (E : XE) (Q : XQ) : Array Value → State → Outcome → State → Prop := fun _ st oc t =>
  (∃ (v : Option Value) (sh : XSh) (I : XI) (R : XRf) (L : XL), oc = .returned (v.map (sv E)) ∧ Q v sh I R L ∧ XR E sh I R L t t.heap) ∧ st.heap.size ≤ t.heap.size
/-- a method's contract: room for d frames, mc cells of ms slots -/
def XC (E : XE) (y : XM) (d mc ms : Nat) (as : List Value) (sh : XSh) (I : XI) (R : XRf) (L : XL) (Q : XQ) : Prop :=
  Met E.1 y.1 (xws y) (xrm d mc ms) (va_Pc (as.map (sv E)) (fun U => XR E sh I R L U U.heap)) (xQc E Q) mc ms (xA E)
/-! locals -/
def lg : List (Option Value) → Nat → Option Value
  | [], _ => none
  | x :: _, 0 => x
  | _ :: xs, n + 1 => lg xs n
def lnl : Option Value → Option Value
  | some (.long _) => none
  | some (.double _) => none
  | x => x
/-- an entry of one slot is stored -/
def ls1 : List (Option Value) → Nat → Value → List (Option Value)
  | [], _, _ => []
  | _ :: xs, 0, v => some v :: xs
  | x :: xs, 1, v => lnl x :: ls1 xs 0 v
  | x :: xs, n + 2, v => x :: ls1 xs (n + 1) v
def ln1 : List (Option Value) → List (Option Value)
  | [] => []
  | _ :: xs => none :: xs
/-- an entry of two slots is stored -/
def ls2 : List (Option Value) → Nat → Value → List (Option Value)
  | [], _, _ => []
  | _ :: xs, 0, v => some v :: ln1 xs
  | x :: xs, 1, v => lnl x :: ls2 xs 0 v
  | x :: xs, n + 2, v => x :: ls2 xs (n + 1) v
def lmask : List Bool → List (Option Value) → List (Option Value)
  | true :: bs, x :: xs => x :: lmask bs xs
  | false :: bs, _ :: xs => none :: lmask bs xs
  | _, xs => xs
theorem lg_ls1 (v : Value) : ∀ (ls : List (Option Value)) (i j : Nat), lg (ls1 ls i v) j = if j = i then (if i < ls.length then some v else none) else if j + 1 = i then lnl (lg ls j) else lg ls j
  | [], i, j => by simp [ls1, lg, lnl]
  | x :: xs, 0, j => by cases j <;> simp [ls1, lg]
  | x :: xs, 1, j => by
    cases j with
    | zero => simp [ls1, lg]
    | succ j =>
      have h := lg_ls1 v xs 0 j
      simp only [ls1, lg, h]
      simp
  | x :: xs, n + 2, j => by
    cases j with
    | zero => simp [ls1, lg]
    | succ j =>
      have h := lg_ls1 v xs (n + 1) j
      simp only [ls1, lg, h]
      have e : (n + 2 < xs.length + 1) ↔ (n + 1 < xs.length) := by omega
      simp [e]
theorem lg_ln1 (xs : List (Option Value)) (j : Nat) : lg (ln1 xs) j = if j = 0 then none else lg xs j := by
  cases xs <;> cases j <;> simp [ln1, lg]
theorem lg_ls2 (v : Value) : ∀ (ls : List (Option Value)) (i j : Nat), lg (ls2 ls i v) j = if j = i then (if i < ls.length then some v else none) else if j = i + 1 then none else if j + 1 = i then lnl (lg ls j) else lg ls j
  | [], i, j => by simp [ls2, lg, lnl]
  | x :: xs, 0, j => by cases j <;> simp [ls2, lg, lg_ln1]
  | x :: xs, 1, j => by
    cases j with
    | zero => simp [ls2, lg]
    | succ j =>
      have h := lg_ls2 v xs 0 j
      simp only [ls2, lg, h]
      simp
  | x :: xs, n + 2, j => by
    cases j with
    | zero => simp [ls2, lg]
    | succ j =>
      have h := lg_ls2 v xs (n + 1) j
      simp only [ls2, lg, h]
      have e : (n + 2 < xs.length + 1) ↔ (n + 1 < xs.length) := by omega
      simp [e]
theorem ls1_len (v : Value) : ∀ (ls : List (Option Value)) (i : Nat), (ls1 ls i v).length = ls.length
  | [], i => by simp [ls1]
  | x :: xs, 0 => by simp [ls1]
  | x :: xs, 1 => by simp [ls1, ls1_len v xs 0]
  | x :: xs, n + 2 => by simp [ls1, ls1_len v xs (n + 1)]
theorem ln1_len (xs : List (Option Value)) : (ln1 xs).length = xs.length := by cases xs <;> simp [ln1]
theorem ls2_len (v : Value) : ∀ (ls : List (Option Value)) (i : Nat), (ls2 ls i v).length = ls.length
  | [], i => by simp [ls2]
  | x :: xs, 0 => by simp [ls2, ln1_len]
  | x :: xs, 1 => by simp [ls2, ls2_len v xs 0]
  | x :: xs, n + 2 => by simp [ls2, ls2_len v xs (n + 1)]
theorem lmask_len : ∀ (bs : List Bool) (ls : List (Option Value)), (lmask bs ls).length = ls.length
  | [], ls => by cases ls <;> simp [lmask]
  | true :: bs, [] => by simp [lmask]
  | false :: bs, [] => by simp [lmask]
  | true :: bs, x :: xs => by simp [lmask, lmask_len bs xs]
  | false :: bs, x :: xs => by simp [lmask, lmask_len bs xs]
theorem lg_lmask : ∀ (bs : List Bool) (ls : List (Option Value)) (j : Nat) (v : Value), lg (lmask bs ls) j = some v → lg ls j = some v
  | [], ls, j, v, h => by cases ls <;> exact h
  | true :: bs, [], j, v, h => h
  | false :: bs, [], j, v, h => h
  | true :: bs, x :: xs, 0, v, h => h
  | false :: bs, x :: xs, 0, v, h => by simp [lmask, lg] at h
  | true :: bs, x :: xs, j + 1, v, h => lg_lmask bs xs j v h
  | false :: bs, x :: xs, j + 1, v, h => lg_lmask bs xs j v h
theorem lg_lt : ∀ (ls : List (Option Value)) (j : Nat) (v : Value), lg ls j = some v → j < ls.length
  | [], j, v, h => by simp [lg] at h
  | x :: xs, 0, v, h => by simp
  | x :: xs, j + 1, v, h => by have := lg_lt xs j v h; simp; omega
/-- the locals of a real frame -/
def xloc (E : XE) (arr : Array Slot) (ls : List (Option Value)) : Prop := arr.size = ls.length ∧ lv_wf arr ∧ ∀ i v, lg ls i = some v → arr[i]? = some (.val (sv E v))
def xas (E : XE) (ls : List (Option Value)) : List (Nat × Value) := (List.range ls.length).filterMap (fun i => (lg ls i).map (fun v => (i, sv E v)))
theorem xas_mem {E : XE} {ls : List (Option Value)} {q : Nat × Value} : q ∈ xas E ls ↔ ∃ v, lg ls q.1 = some v ∧ q.2 = sv E v := by
  unfold xas
  rw [List.mem_filterMap]
  constructor
  · rintro ⟨i, -, h⟩
    cases hv : lg ls i with
    | none => rw [hv] at h; cases h
    | some v => rw [hv] at h; cases h; exact ⟨v, hv, rfl⟩
  · rintro ⟨v, h1, h2⟩
    refine ⟨q.1, List.mem_range.mpr (lg_lt _ _ _ h1), ?_⟩
    rw [h1]
    obtain ⟨a, b⟩ := q
    cases h2
    rfl
theorem xloc_has {E : XE} {arr : Array Slot} {ls : List (Option Value)} : xloc E arr ls ↔ lv_has arr ls.length (xas E ls) := by
  constructor
  · rintro ⟨h1, h2, h3⟩
    refine ⟨h1, h2, fun q hq => ?_⟩
    obtain ⟨v, a, b⟩ := xas_mem.mp hq
    rw [b]; exact h3 _ _ a
  · rintro ⟨h1, h2, h3⟩
    exact ⟨h1, h2, fun i v h => h3 (i, sv E v) (xas_mem.mpr ⟨v, h, rfl⟩)⟩
theorem xloc_st1 {E : XE} {arr : Array Slot} {ls : List (Option Value)} {i : Nat} {v : Value} {lv' : List (Nat × Value)} (hi : i < ls.length) (h : lv_has arr ls.length lv') (hl : (i, sv E v) :: (xas E ls).filter (fun q => !(q.1 == i) && !(q.1 + 1 == i && q.2.category == 2)) = lv') : xloc E arr (ls1 ls i v) := by
  subst hl
  obtain ⟨h1, h2, h3⟩ := h
  refine ⟨by rw [ls1_len]; exact h1, h2, fun j w hj => ?_⟩
  rw [lg_ls1] at hj
  by_cases a : j = i
  · rw [if_pos a, if_pos hi] at hj
    cases hj
    subst a
    exact h3 _ List.mem_cons_self
  · rw [if_neg a] at hj
    refine h3 (j, sv E w) (List.mem_cons_of_mem _ (List.mem_filter.mpr ⟨xas_mem.mpr ⟨w, ?_, rfl⟩, ?_⟩))
    · by_cases b : j + 1 = i
      · rw [if_pos b] at hj
        show lg ls j = some w
        cases hx : lg ls j with
        | none => rw [hx] at hj; cases hj
        | some z => rw [hx] at hj; cases z <;> first | exact hj | cases hj
      · rw [if_neg b] at hj
        exact hj
    · by_cases b : j + 1 = i
      · rw [if_pos b] at hj
        have hc : w.category = 1 := by
          cases hx : lg ls j with
          | none => rw [hx] at hj; cases hj
          | some z => rw [hx] at hj; cases z <;> first | (cases hj; rfl) | cases hj
        simp [a, sv_cat, hc]
      · simp [a, b]
theorem xloc_st2 {E : XE} {arr : Array Slot} {ls : List (Option Value)} {i : Nat} {v : Value} {lv' : List (Nat × Value)} (hi : i < ls.length) (h : lv_has arr ls.length lv') (hl : (i, sv E v) :: (xas E ls).filter (fun q => !(q.1 == i) && (!(q.1 == i + 1) && !(q.1 + 1 == i && q.2.category == 2))) = lv') : xloc E arr (ls2 ls i v) := by
  subst hl
  obtain ⟨h1, h2, h3⟩ := h
  refine ⟨by rw [ls2_len]; exact h1, h2, fun j w hj => ?_⟩
  rw [lg_ls2] at hj
  by_cases a : j = i
  · rw [if_pos a, if_pos hi] at hj
    cases hj
    subst a
    exact h3 _ List.mem_cons_self
  · rw [if_neg a] at hj
    by_cases a2 : j = i + 1
    · rw [if_pos a2] at hj; cases hj
    · rw [if_neg a2] at hj
      refine h3 (j, sv E w) (List.mem_cons_of_mem _ (List.mem_filter.mpr ⟨xas_mem.mpr ⟨w, ?_, rfl⟩, ?_⟩))
      · by_cases b : j + 1 = i
        · rw [if_pos b] at hj
          show lg ls j = some w
          cases hx : lg ls j with
          | none => rw [hx] at hj; cases hj
          | some z => rw [hx] at hj; cases z <;> first | exact hj | cases hj
        · rw [if_neg b] at hj
          exact hj
      · by_cases b : j + 1 = i
        · rw [if_pos b] at hj
          have hc : w.category = 1 := by
            cases hx : lg ls j with
            | none => rw [hx] at hj; cases hj
            | some z => rw [hx] at hj; cases z <;> first | (cases hj; rfl) | cases hj
          simp [a, a2, sv_cat, hc]
        · simp [a, a2, b]
/-- the method's body, whoever calls -/
def XB (E : XE) (y : XM) (p : Program) (s : State) (m : MethodId) (args : Array Value) (meth : Method) (c : Code) : Prop :=
  p.tables.exec = Jvm.exec ∧ c.code = y.2.1 ∧ meth.sig.returnType = y.2.2.2 ∧ c.maxLocals = y.2.2.1 ∧ s.vm.findClass y.1.cls = some m.cls ∧ (∀ w ∈ xws y, w.before args s = true) ∧ meth.locks = false ∧ meth.name = y.1.name ∧ xN E ≤ s.heap.size
def XV (E : XE) (y : XM) (d mc ms : Nat) (Q : XQ) (kc ks pc : Nat) (ls : List (Option Value)) (st : List Value) (sh : XSh) (I : XI) (R : XRf) (L : XL) : Prop :=
  ∀ (p : Program) (e : Env) (s : State) (m : MethodId) (args : Array Value) (below : List Frame) (meth : Method) (c : Code) (H : Heap) (locs : List Loc) (cells slots : Nat) (arr : Array Slot),
    XB E y p s m args meth c → XR E sh I R L s H → va_S (xA E) s.heap H locs → cells + kc ≤ mc → slots + ks ≤ ms → ls.length = y.2.2.1 → xloc E arr ls →
    W p E.1 e (xrm d mc ms) s m args below meth c H locs cells slots (MQ below (xQc E Q) args s mc ms (xA E)) (F0 m pc arr (st.map (sv E)))
end
section
section XROWS
variable {E : XE} {y : XM} {d mc ms kc ks pc q : Nat} {Q : XQ} {ls : List (Option Value)} {st : List Value} {sh : XSh} {I : XI} {R : XRf} {L : XL}
theorem xv_iadd {a b : Int32} (hq : pc + 1 = q) (hd : decode y.2.1 pc = .ok (.iadd, 1))  (k : XV E y d mc ms Q kc ks q ls (.int (a + b) :: st) sh I R L) : XV E y d mc ms Q kc ks pc ls (.int b :: .int a :: st) sh I R L := by
  subst hq
  intro p e s m args below meth c H locs cells slots arr hB hR hS hc hk hn hl
  exact lv_iadd hB.1 hB.2.1 hd (k p e s m args below meth c H locs cells slots arr hB hR hS hc hk hn hl)
theorem xv_isub {a b : Int32} (hq : pc + 1 = q) (hd : decode y.2.1 pc = .ok (.isub, 1))  (k : XV E y d mc ms Q kc ks q ls (.int (a - b) :: st) sh I R L) : XV E y d mc ms Q kc ks pc ls (.int b :: .int a :: st) sh I R L := by
  subst hq
  intro p e s m args below meth c H locs cells slots arr hB hR hS hc hk hn hl
  exact lv_isub hB.1 hB.2.1 hd (k p e s m args below meth c H locs cells slots arr hB hR hS hc hk hn hl)
theorem xv_imul {a b : Int32} (hq : pc + 1 = q) (hd : decode y.2.1 pc = .ok (.imul, 1))  (k : XV E y d mc ms Q kc ks q ls (.int (a * b) :: st) sh I R L) : XV E y d mc ms Q kc ks pc ls (.int b :: .int a :: st) sh I R L := by
  subst hq
  intro p e s m args below meth c H locs cells slots arr hB hR hS hc hk hn hl
  exact lv_imul hB.1 hB.2.1 hd (k p e s m args below meth c H locs cells slots arr hB hR hS hc hk hn hl)
theorem xv_iand {a b : Int32} (hq : pc + 1 = q) (hd : decode y.2.1 pc = .ok (.iand, 1))  (k : XV E y d mc ms Q kc ks q ls (.int (a &&& b) :: st) sh I R L) : XV E y d mc ms Q kc ks pc ls (.int b :: .int a :: st) sh I R L := by
  subst hq
  intro p e s m args below meth c H locs cells slots arr hB hR hS hc hk hn hl
  exact lv_iand hB.1 hB.2.1 hd (k p e s m args below meth c H locs cells slots arr hB hR hS hc hk hn hl)
theorem xv_ior {a b : Int32} (hq : pc + 1 = q) (hd : decode y.2.1 pc = .ok (.ior, 1))  (k : XV E y d mc ms Q kc ks q ls (.int (a ||| b) :: st) sh I R L) : XV E y d mc ms Q kc ks pc ls (.int b :: .int a :: st) sh I R L := by
  subst hq
  intro p e s m args below meth c H locs cells slots arr hB hR hS hc hk hn hl
  exact lv_ior hB.1 hB.2.1 hd (k p e s m args below meth c H locs cells slots arr hB hR hS hc hk hn hl)
theorem xv_ixor {a b : Int32} (hq : pc + 1 = q) (hd : decode y.2.1 pc = .ok (.ixor, 1))  (k : XV E y d mc ms Q kc ks q ls (.int (a ^^^ b) :: st) sh I R L) : XV E y d mc ms Q kc ks pc ls (.int b :: .int a :: st) sh I R L := by
  subst hq
  intro p e s m args below meth c H locs cells slots arr hB hR hS hc hk hn hl
  exact lv_ixor hB.1 hB.2.1 hd (k p e s m args below meth c H locs cells slots arr hB hR hS hc hk hn hl)
theorem xv_ishl {a b : Int32} (hq : pc + 1 = q) (hd : decode y.2.1 pc = .ok (.ishl, 1))  (k : XV E y d mc ms Q kc ks q ls (.int (a <<< (b &&& 31)) :: st) sh I R L) : XV E y d mc ms Q kc ks pc ls (.int b :: .int a :: st) sh I R L := by
  subst hq
  intro p e s m args below meth c H locs cells slots arr hB hR hS hc hk hn hl
  exact lv_ishl hB.1 hB.2.1 hd (k p e s m args below meth c H locs cells slots arr hB hR hS hc hk hn hl)
theorem xv_ishr {a b : Int32} (hq : pc + 1 = q) (hd : decode y.2.1 pc = .ok (.ishr, 1))  (k : XV E y d mc ms Q kc ks q ls (.int (a >>> (b &&& 31)) :: st) sh I R L) : XV E y d mc ms Q kc ks pc ls (.int b :: .int a :: st) sh I R L := by
  subst hq
  intro p e s m args below meth c H locs cells slots arr hB hR hS hc hk hn hl
  exact lv_ishr hB.1 hB.2.1 hd (k p e s m args below meth c H locs cells slots arr hB hR hS hc hk hn hl)
theorem xv_iushr {a b : Int32} (hq : pc + 1 = q) (hd : decode y.2.1 pc = .ok (.iushr, 1))  (k : XV E y d mc ms Q kc ks q ls (.int ((a.toUInt32 >>> (b.toUInt32 &&& Int32.toUInt32 31)).toInt32) :: st) sh I R L) : XV E y d mc ms Q kc ks pc ls (.int b :: .int a :: st) sh I R L := by
  subst hq
  intro p e s m args below meth c H locs cells slots arr hB hR hS hc hk hn hl
  exact lv_iushr hB.1 hB.2.1 hd rfl (k p e s m args below meth c H locs cells slots arr hB hR hS hc hk hn hl)
theorem xv_idiv {a b : Int32} (hq : pc + 1 = q) (hd : decode y.2.1 pc = .ok (.idiv, 1)) (hne : ¬ b = 0) (k : XV E y d mc ms Q kc ks q ls (.int (a / b) :: st) sh I R L) : XV E y d mc ms Q kc ks pc ls (.int b :: .int a :: st) sh I R L := by
  subst hq
  intro p e s m args below meth c H locs cells slots arr hB hR hS hc hk hn hl
  exact lv_idiv hB.1 hB.2.1 hd hne (k p e s m args below meth c H locs cells slots arr hB hR hS hc hk hn hl)
theorem xv_irem {a b : Int32} (hq : pc + 1 = q) (hd : decode y.2.1 pc = .ok (.irem, 1)) (hne : ¬ b = 0) (k : XV E y d mc ms Q kc ks q ls (.int (a - a / b * b) :: st) sh I R L) : XV E y d mc ms Q kc ks pc ls (.int b :: .int a :: st) sh I R L := by
  subst hq
  intro p e s m args below meth c H locs cells slots arr hB hR hS hc hk hn hl
  exact lv_irem hB.1 hB.2.1 hd hne (k p e s m args below meth c H locs cells slots arr hB hR hS hc hk hn hl)
theorem xv_ladd {a b : Int64} (hq : pc + 1 = q) (hd : decode y.2.1 pc = .ok (.ladd, 1))  (k : XV E y d mc ms Q kc ks q ls (.long (a + b) :: st) sh I R L) : XV E y d mc ms Q kc ks pc ls (.long b :: .long a :: st) sh I R L := by
  subst hq
  intro p e s m args below meth c H locs cells slots arr hB hR hS hc hk hn hl
  exact lv_ladd hB.1 hB.2.1 hd (k p e s m args below meth c H locs cells slots arr hB hR hS hc hk hn hl)
theorem xv_lsub {a b : Int64} (hq : pc + 1 = q) (hd : decode y.2.1 pc = .ok (.lsub, 1))  (k : XV E y d mc ms Q kc ks q ls (.long (a - b) :: st) sh I R L) : XV E y d mc ms Q kc ks pc ls (.long b :: .long a :: st) sh I R L := by
  subst hq
  intro p e s m args below meth c H locs cells slots arr hB hR hS hc hk hn hl
  exact lv_lsub hB.1 hB.2.1 hd (k p e s m args below meth c H locs cells slots arr hB hR hS hc hk hn hl)
theorem xv_lmul {a b : Int64} (hq : pc + 1 = q) (hd : decode y.2.1 pc = .ok (.lmul, 1))  (k : XV E y d mc ms Q kc ks q ls (.long (a * b) :: st) sh I R L) : XV E y d mc ms Q kc ks pc ls (.long b :: .long a :: st) sh I R L := by
  subst hq
  intro p e s m args below meth c H locs cells slots arr hB hR hS hc hk hn hl
  exact lv_lmul hB.1 hB.2.1 hd (k p e s m args below meth c H locs cells slots arr hB hR hS hc hk hn hl)
theorem xv_ldiv {a b : Int64} (hq : pc + 1 = q) (hd : decode y.2.1 pc = .ok (.ldiv, 1)) (hne : ¬ b = 0) (k : XV E y d mc ms Q kc ks q ls (.long (a / b) :: st) sh I R L) : XV E y d mc ms Q kc ks pc ls (.long b :: .long a :: st) sh I R L := by
  subst hq
  intro p e s m args below meth c H locs cells slots arr hB hR hS hc hk hn hl
  exact lv_ldiv hB.1 hB.2.1 hd hne (k p e s m args below meth c H locs cells slots arr hB hR hS hc hk hn hl)
theorem xv_lrem {a b : Int64} (hq : pc + 1 = q) (hd : decode y.2.1 pc = .ok (.lrem, 1)) (hne : ¬ b = 0) (k : XV E y d mc ms Q kc ks q ls (.long (a - a / b * b) :: st) sh I R L) : XV E y d mc ms Q kc ks pc ls (.long b :: .long a :: st) sh I R L := by
  subst hq
  intro p e s m args below meth c H locs cells slots arr hB hR hS hc hk hn hl
  exact lv_lrem hB.1 hB.2.1 hd hne (k p e s m args below meth c H locs cells slots arr hB hR hS hc hk hn hl)
theorem xv_ineg {a : Int32} (hq : pc + 1 = q) (hd : decode y.2.1 pc = .ok (.ineg, 1))  (k : XV E y d mc ms Q kc ks q ls (.int (-a) :: st) sh I R L) : XV E y d mc ms Q kc ks pc ls (.int a :: st) sh I R L := by
  subst hq
  intro p e s m args below meth c H locs cells slots arr hB hR hS hc hk hn hl
  exact lv_ineg hB.1 hB.2.1 hd (k p e s m args below meth c H locs cells slots arr hB hR hS hc hk hn hl)
theorem xv_i2l {a : Int32} (hq : pc + 1 = q) (hd : decode y.2.1 pc = .ok (.i2l, 1))  (k : XV E y d mc ms Q kc ks q ls (.long a.toInt64 :: st) sh I R L) : XV E y d mc ms Q kc ks pc ls (.int a :: st) sh I R L := by
  subst hq
  intro p e s m args below meth c H locs cells slots arr hB hR hS hc hk hn hl
  exact lv_i2l hB.1 hB.2.1 hd rfl (k p e s m args below meth c H locs cells slots arr hB hR hS hc hk hn hl)
theorem xv_l2i {a : Int64} (hq : pc + 1 = q) (hd : decode y.2.1 pc = .ok (.l2i, 1))  (k : XV E y d mc ms Q kc ks q ls (.int a.toInt32 :: st) sh I R L) : XV E y d mc ms Q kc ks pc ls (.long a :: st) sh I R L := by
  subst hq
  intro p e s m args below meth c H locs cells slots arr hB hR hS hc hk hn hl
  exact lv_l2i hB.1 hB.2.1 hd rfl (k p e s m args below meth c H locs cells slots arr hB hR hS hc hk hn hl)
theorem xv_i2b {a : Int32} (hq : pc + 1 = q) (hd : decode y.2.1 pc = .ok (.i2b, 1))  (k : XV E y d mc ms Q kc ks q ls (.int a.toInt8.toInt32 :: st) sh I R L) : XV E y d mc ms Q kc ks pc ls (.int a :: st) sh I R L := by
  subst hq
  intro p e s m args below meth c H locs cells slots arr hB hR hS hc hk hn hl
  exact lv_i2b hB.1 hB.2.1 hd rfl (k p e s m args below meth c H locs cells slots arr hB hR hS hc hk hn hl)
theorem xv_i2s {a : Int32} (hq : pc + 1 = q) (hd : decode y.2.1 pc = .ok (.i2s, 1))  (k : XV E y d mc ms Q kc ks q ls (.int a.toInt16.toInt32 :: st) sh I R L) : XV E y d mc ms Q kc ks pc ls (.int a :: st) sh I R L := by
  subst hq
  intro p e s m args below meth c H locs cells slots arr hB hR hS hc hk hn hl
  exact lv_i2s hB.1 hB.2.1 hd rfl (k p e s m args below meth c H locs cells slots arr hB hR hS hc hk hn hl)
theorem xv_i2c {a : Int32} (hq : pc + 1 = q) (hd : decode y.2.1 pc = .ok (.i2c, 1))  (k : XV E y d mc ms Q kc ks q ls (.int (a.toUInt32 % 65536).toInt32 :: st) sh I R L) : XV E y d mc ms Q kc ks pc ls (.int a :: st) sh I R L := by
  subst hq
  intro p e s m args below meth c H locs cells slots arr hB hR hS hc hk hn hl
  exact lv_i2c hB.1 hB.2.1 hd rfl (k p e s m args below meth c H locs cells slots arr hB hR hS hc hk hn hl)
theorem xv_lcmp {a b : Int64} (hq : pc + 1 = q) (hd : decode y.2.1 pc = .ok (.lcmp, 1))  (k : XV E y d mc ms Q kc ks q ls (.int (lg_cmp a b) :: st) sh I R L) : XV E y d mc ms Q kc ks pc ls (.long b :: .long a :: st) sh I R L := by
  subst hq
  intro p e s m args below meth c H locs cells slots arr hB hR hS hc hk hn hl
  exact W.lcmp hB.1 hB.2.1 hd (k p e s m args below meth c H locs cells slots arr hB hR hS hc hk hn hl)
theorem xv_iconst {n : Int} {v : Int32} (hq : pc + 1 = q) (hd : decode y.2.1 pc = .ok (.iconst n, 1)) (hv : Int32.ofInt n = v) (k : XV E y d mc ms Q kc ks q ls (.int v :: st) sh I R L) : XV E y d mc ms Q kc ks pc ls st sh I R L := by
  subst hq
  intro p e s m args below meth c H locs cells slots arr hB hR hS hc hk hn hl
  exact lv_iconst hB.1 hB.2.1 hd hv (k p e s m args below meth c H locs cells slots arr hB hR hS hc hk hn hl)
theorem xv_bipush {n : Int} {v : Int32} (hq : pc + 2 = q) (hd : decode y.2.1 pc = .ok (.bipush n, 2)) (hv : (Int8.ofInt n).toInt32 = v) (k : XV E y d mc ms Q kc ks q ls (.int v :: st) sh I R L) : XV E y d mc ms Q kc ks pc ls st sh I R L := by
  subst hq
  intro p e s m args below meth c H locs cells slots arr hB hR hS hc hk hn hl
  exact lv_bipush hB.1 hB.2.1 hd hv (k p e s m args below meth c H locs cells slots arr hB hR hS hc hk hn hl)
theorem xv_sipush {n : Int} {v : Int32} (hq : pc + 3 = q) (hd : decode y.2.1 pc = .ok (.sipush n, 3)) (hv : (Int16.ofInt n).toInt32 = v) (k : XV E y d mc ms Q kc ks q ls (.int v :: st) sh I R L) : XV E y d mc ms Q kc ks pc ls st sh I R L := by
  subst hq
  intro p e s m args below meth c H locs cells slots arr hB hR hS hc hk hn hl
  exact lv_sipush hB.1 hB.2.1 hd hv (k p e s m args below meth c H locs cells slots arr hB hR hS hc hk hn hl)
theorem xv_lconst {n : Fin 2} {v : Int64} (hq : pc + 1 = q) (hd : decode y.2.1 pc = .ok (.lconst n, 1)) (hv : Int64.ofNat (n : Nat) = v) (k : XV E y d mc ms Q kc ks q ls (.long v :: st) sh I R L) : XV E y d mc ms Q kc ks pc ls st sh I R L := by
  subst hq
  intro p e s m args below meth c H locs cells slots arr hB hR hS hc hk hn hl
  exact lv_lconst hB.1 hB.2.1 hd hv (k p e s m args below meth c H locs cells slots arr hB hR hS hc hk hn hl)
theorem xv_ldc {n : Nat} {v : Int32} (hq : pc + 2 = q) (hd : decode y.2.1 pc = .ok (.ldc n, 2)) (hv : Cond.constant y.1.cls n v ∈ GT) (k : XV E y d mc ms Q kc ks q ls (.int v :: st) sh I R L) : XV E y d mc ms Q kc ks pc ls st sh I R L := by
  subst hq
  intro p e s m args below meth c H locs cells slots arr hB hR hS hc hk hn hl
  exact lv_ldc hB.1 hB.2.1 hB.2.2.2.2.1 (hB.2.2.2.2.2.1 _ (List.mem_cons_of_mem _ hv)) hd (k p e s m args below meth c H locs cells slots arr hB hR hS hc hk hn hl)
theorem xv_ldcw {n : Nat} {v : Int32} (hq : pc + 3 = q) (hd : decode y.2.1 pc = .ok (.ldc_w n, 3)) (hv : Cond.constant y.1.cls n v ∈ GT) (k : XV E y d mc ms Q kc ks q ls (.int v :: st) sh I R L) : XV E y d mc ms Q kc ks pc ls st sh I R L := by
  subst hq
  intro p e s m args below meth c H locs cells slots arr hB hR hS hc hk hn hl
  exact lv_ldcw hB.1 hB.2.1 hB.2.2.2.2.1 (hB.2.2.2.2.2.1 _ (List.mem_cons_of_mem _ hv)) hd (k p e s m args below meth c H locs cells slots arr hB hR hS hc hk hn hl)
theorem xv_ldc2 {n : Nat} {v : Int64} (hq : pc + 3 = q) (hd : decode y.2.1 pc = .ok (.ldc2_w n, 3)) (hv : Cond.constantLong y.1.cls n v ∈ GT) (k : XV E y d mc ms Q kc ks q ls (.long v :: st) sh I R L) : XV E y d mc ms Q kc ks pc ls st sh I R L := by
  subst hq
  intro p e s m args below meth c H locs cells slots arr hB hR hS hc hk hn hl
  exact lv_ldc2 hB.1 hB.2.1 hB.2.2.2.2.1 (hB.2.2.2.2.2.1 _ (List.mem_cons_of_mem _ hv)) hd (k p e s m args below meth c H locs cells slots arr hB hR hS hc hk hn hl)
theorem xv_null  (hq : pc + 1 = q) (hd : decode y.2.1 pc = .ok (.aconst_null, 1))  (k : XV E y d mc ms Q kc ks q ls (.null :: st) sh I R L) : XV E y d mc ms Q kc ks pc ls st sh I R L := by
  subst hq
  intro p e s m args below meth c H locs cells slots arr hB hR hS hc hk hn hl
  exact lv_null hB.1 hB.2.1 hd (k p e s m args below meth c H locs cells slots arr hB hR hS hc hk hn hl)
theorem xv_iload_n {n : Fin 4} {i : Nat} {a : Int32} (hq : pc + 1 = q) (hd : decode y.2.1 pc = .ok (.iload_n n, 1)) (hi : (n : Nat) = i) (ha : lg ls i = some (.int a)) (k : XV E y d mc ms Q kc ks q ls (.int a :: st) sh I R L) : XV E y d mc ms Q kc ks pc ls st sh I R L := by
  subst hq
  intro p e s m args below meth c H locs cells slots arr hB hR hS hc hk hn hl
  exact lv_iload_n hB.1 hB.2.1 hd hi (hl.2.2 i _ ha) (k p e s m args below meth c H locs cells slots arr hB hR hS hc hk hn hl)
theorem xv_iload {i : Nat} {a : Int32} (hq : pc + 2 = q) (hd : decode y.2.1 pc = .ok (.iload i, 2)) (ha : lg ls i = some (.int a)) (k : XV E y d mc ms Q kc ks q ls (.int a :: st) sh I R L) : XV E y d mc ms Q kc ks pc ls st sh I R L := by
  subst hq
  intro p e s m args below meth c H locs cells slots arr hB hR hS hc hk hn hl
  exact lv_iload hB.1 hB.2.1 hd (hl.2.2 i _ ha) (k p e s m args below meth c H locs cells slots arr hB hR hS hc hk hn hl)
theorem xv_lload_n {n : Fin 4} {i : Nat} {a : Int64} (hq : pc + 1 = q) (hd : decode y.2.1 pc = .ok (.lload_n n, 1)) (hi : (n : Nat) = i) (ha : lg ls i = some (.long a)) (k : XV E y d mc ms Q kc ks q ls (.long a :: st) sh I R L) : XV E y d mc ms Q kc ks pc ls st sh I R L := by
  subst hq
  intro p e s m args below meth c H locs cells slots arr hB hR hS hc hk hn hl
  exact lv_lload_n hB.1 hB.2.1 hd hi (hl.2.2 i _ ha) (k p e s m args below meth c H locs cells slots arr hB hR hS hc hk hn hl)
theorem xv_lload {i : Nat} {a : Int64} (hq : pc + 2 = q) (hd : decode y.2.1 pc = .ok (.lload i, 2)) (ha : lg ls i = some (.long a)) (k : XV E y d mc ms Q kc ks q ls (.long a :: st) sh I R L) : XV E y d mc ms Q kc ks pc ls st sh I R L := by
  subst hq
  intro p e s m args below meth c H locs cells slots arr hB hR hS hc hk hn hl
  exact lv_lload hB.1 hB.2.1 hd (hl.2.2 i _ ha) (k p e s m args below meth c H locs cells slots arr hB hR hS hc hk hn hl)
theorem xv_aload_n {n : Fin 4} {i : Nat} {a : Nat} (hq : pc + 1 = q) (hd : decode y.2.1 pc = .ok (.aload_n n, 1)) (hi : (n : Nat) = i) (ha : lg ls i = some (.ref a)) (k : XV E y d mc ms Q kc ks q ls (.ref a :: st) sh I R L) : XV E y d mc ms Q kc ks pc ls st sh I R L := by
  subst hq
  intro p e s m args below meth c H locs cells slots arr hB hR hS hc hk hn hl
  exact lv_aload_n hB.1 hB.2.1 hd hi (hl.2.2 i _ ha) (k p e s m args below meth c H locs cells slots arr hB hR hS hc hk hn hl)
theorem xv_aload {i : Nat} {a : Nat} (hq : pc + 2 = q) (hd : decode y.2.1 pc = .ok (.aload i, 2)) (ha : lg ls i = some (.ref a)) (k : XV E y d mc ms Q kc ks q ls (.ref a :: st) sh I R L) : XV E y d mc ms Q kc ks pc ls st sh I R L := by
  subst hq
  intro p e s m args below meth c H locs cells slots arr hB hR hS hc hk hn hl
  exact lv_aload hB.1 hB.2.1 hd (hl.2.2 i _ ha) (k p e s m args below meth c H locs cells slots arr hB hR hS hc hk hn hl)
theorem xv_aloadF_n {n : Fin 4} {i : Nat} {a : UInt32} (hq : pc + 1 = q) (hd : decode y.2.1 pc = .ok (.aload_n n, 1)) (hi : (n : Nat) = i) (ha : lg ls i = some (.float a)) (k : XV E y d mc ms Q kc ks q ls (.float a :: st) sh I R L) : XV E y d mc ms Q kc ks pc ls st sh I R L := by
  subst hq
  intro p e s m args below meth c H locs cells slots arr hB hR hS hc hk hn hl
  exact lv_aload_n hB.1 hB.2.1 hd hi (hl.2.2 i _ ha) (k p e s m args below meth c H locs cells slots arr hB hR hS hc hk hn hl)
theorem xv_aloadF {i : Nat} {a : UInt32} (hq : pc + 2 = q) (hd : decode y.2.1 pc = .ok (.aload i, 2)) (ha : lg ls i = some (.float a)) (k : XV E y d mc ms Q kc ks q ls (.float a :: st) sh I R L) : XV E y d mc ms Q kc ks pc ls st sh I R L := by
  subst hq
  intro p e s m args below meth c H locs cells slots arr hB hR hS hc hk hn hl
  exact lv_aload hB.1 hB.2.1 hd (hl.2.2 i _ ha) (k p e s m args below meth c H locs cells slots arr hB hR hS hc hk hn hl)
theorem xv_dup {a : Value} (hq : pc + 1 = q) (hd : decode y.2.1 pc = .ok (.dup, 1)) (ha : a.category = 1) (k : XV E y d mc ms Q kc ks q ls (a :: a :: st) sh I R L) : XV E y d mc ms Q kc ks pc ls (a :: st) sh I R L := by
  subst hq
  intro p e s m args below meth c H locs cells slots arr hB hR hS hc hk hn hl
  exact lv_dup hB.1 hB.2.1 hd (by rw [sv_cat]; exact ha) (k p e s m args below meth c H locs cells slots arr hB hR hS hc hk hn hl)
theorem xv_pop {a : Value} (hq : pc + 1 = q) (hd : decode y.2.1 pc = .ok (.pop, 1)) (ha : a.category = 1) (k : XV E y d mc ms Q kc ks q ls st sh I R L) : XV E y d mc ms Q kc ks pc ls (a :: st) sh I R L := by
  subst hq
  intro p e s m args below meth c H locs cells slots arr hB hR hS hc hk hn hl
  exact lv_pop hB.1 hB.2.1 hd (by rw [sv_cat]; exact ha) (k p e s m args below meth c H locs cells slots arr hB hR hS hc hk hn hl)
theorem xv_dup2 {a b : Value} (hq : pc + 1 = q) (hd : decode y.2.1 pc = .ok (.dup2, 1)) (ha : a.category = 1) (hb : b.category = 1) (k : XV E y d mc ms Q kc ks q ls (a :: b :: a :: b :: st) sh I R L) : XV E y d mc ms Q kc ks pc ls (a :: b :: st) sh I R L := by
  subst hq
  intro p e s m args below meth c H locs cells slots arr hB hR hS hc hk hn hl
  exact lv_dup2_11 hB.1 hB.2.1 hd (by rw [sv_cat]; exact ha) (by rw [sv_cat]; exact hb) (k p e s m args below meth c H locs cells slots arr hB hR hS hc hk hn hl)
theorem xv_istore_n {n : Fin 4} {i : Nat} {a : Int32} (hq : pc + 1 = q) (hd : decode y.2.1 pc = .ok (.istore_n n, 1)) (hi : (n : Nat) = i) (hi2 : Nat.ble (i + 1) ls.length = true) (k : XV E y d mc ms Q kc ks q (ls1 ls i (.int a)) st sh I R L) : XV E y d mc ms Q kc ks pc ls (.int a :: st) sh I R L := by
  subst hq
  intro p e s m args below meth c H locs cells slots arr hB hR hS hc hk hn hl
  have hi3 : i < ls.length := Nat.le_of_ble_eq_true hi2
  exact lv_istore_n hB.1 hB.2.1 hd hi (xloc_has.mp hl) hi3 rfl (fun arr' h' => k p e s m args below meth c H locs cells slots arr' hB hR hS hc hk (by rw [ls1_len]; exact hn) (xloc_st1 (v := .int a) hi3 h' rfl))
theorem xv_istore {i : Nat} {a : Int32} (hq : pc + 2 = q) (hd : decode y.2.1 pc = .ok (.istore i, 2)) (hi2 : Nat.ble (i + 1) ls.length = true) (k : XV E y d mc ms Q kc ks q (ls1 ls i (.int a)) st sh I R L) : XV E y d mc ms Q kc ks pc ls (.int a :: st) sh I R L := by
  subst hq
  intro p e s m args below meth c H locs cells slots arr hB hR hS hc hk hn hl
  have hi3 : i < ls.length := Nat.le_of_ble_eq_true hi2
  exact lv_istore hB.1 hB.2.1 hd (xloc_has.mp hl) hi3 rfl (fun arr' h' => k p e s m args below meth c H locs cells slots arr' hB hR hS hc hk (by rw [ls1_len]; exact hn) (xloc_st1 (v := .int a) hi3 h' rfl))
theorem xv_lstore_n {n : Fin 4} {i : Nat} {a : Int64} (hq : pc + 1 = q) (hd : decode y.2.1 pc = .ok (.lstore_n n, 1)) (hi : (n : Nat) = i) (hi2 : Nat.ble (i + 2) ls.length = true) (k : XV E y d mc ms Q kc ks q (ls2 ls i (.long a)) st sh I R L) : XV E y d mc ms Q kc ks pc ls (.long a :: st) sh I R L := by
  subst hq
  intro p e s m args below meth c H locs cells slots arr hB hR hS hc hk hn hl
  have hi3 : i + 1 < ls.length := Nat.le_of_ble_eq_true hi2
  exact lv_lstore_n hB.1 hB.2.1 hd hi (xloc_has.mp hl) hi3 rfl (fun arr' h' => k p e s m args below meth c H locs cells slots arr' hB hR hS hc hk (by rw [ls2_len]; exact hn) (xloc_st2 (v := .long a) (Nat.lt_of_succ_lt hi3) h' rfl))
theorem xv_lstore {i : Nat} {a : Int64} (hq : pc + 2 = q) (hd : decode y.2.1 pc = .ok (.lstore i, 2)) (hi2 : Nat.ble (i + 2) ls.length = true) (k : XV E y d mc ms Q kc ks q (ls2 ls i (.long a)) st sh I R L) : XV E y d mc ms Q kc ks pc ls (.long a :: st) sh I R L := by
  subst hq
  intro p e s m args below meth c H locs cells slots arr hB hR hS hc hk hn hl
  have hi3 : i + 1 < ls.length := Nat.le_of_ble_eq_true hi2
  exact lv_lstore hB.1 hB.2.1 hd (xloc_has.mp hl) hi3 rfl (fun arr' h' => k p e s m args below meth c H locs cells slots arr' hB hR hS hc hk (by rw [ls2_len]; exact hn) (xloc_st2 (v := .long a) (Nat.lt_of_succ_lt hi3) h' rfl))
theorem xv_astore_n {n : Fin 4} {i : Nat} {a : Nat} (hq : pc + 1 = q) (hd : decode y.2.1 pc = .ok (.astore_n n, 1)) (hi : (n : Nat) = i) (hi2 : Nat.ble (i + 1) ls.length = true) (k : XV E y d mc ms Q kc ks q (ls1 ls i (.ref a)) st sh I R L) : XV E y d mc ms Q kc ks pc ls (.ref a :: st) sh I R L := by
  subst hq
  intro p e s m args below meth c H locs cells slots arr hB hR hS hc hk hn hl
  have hi3 : i < ls.length := Nat.le_of_ble_eq_true hi2
  exact lv_astore_n hB.1 hB.2.1 hd hi (xloc_has.mp hl) hi3 rfl (fun arr' h' => k p e s m args below meth c H locs cells slots arr' hB hR hS hc hk (by rw [ls1_len]; exact hn) (xloc_st1 (v := .ref a) hi3 h' rfl))
theorem xv_astore {i : Nat} {a : Nat} (hq : pc + 2 = q) (hd : decode y.2.1 pc = .ok (.astore i, 2)) (hi2 : Nat.ble (i + 1) ls.length = true) (k : XV E y d mc ms Q kc ks q (ls1 ls i (.ref a)) st sh I R L) : XV E y d mc ms Q kc ks pc ls (.ref a :: st) sh I R L := by
  subst hq
  intro p e s m args below meth c H locs cells slots arr hB hR hS hc hk hn hl
  have hi3 : i < ls.length := Nat.le_of_ble_eq_true hi2
  exact lv_astore hB.1 hB.2.1 hd (xloc_has.mp hl) hi3 rfl (fun arr' h' => k p e s m args below meth c H locs cells slots arr' hB hR hS hc hk (by rw [ls1_len]; exact hn) (xloc_st1 (v := .ref a) hi3 h' rfl))
theorem xv_iinc {i : Nat} {n : Int} {a v : Int32} (hq : pc + 3 = q) (hd : decode y.2.1 pc = .ok (.iinc i n, 3)) (ha : lg ls i = some (.int a)) (hv : Int32.ofInt n = v) (k : XV E y d mc ms Q kc ks q (ls1 ls i (.int (a + v))) st sh I R L) : XV E y d mc ms Q kc ks pc ls st sh I R L := by
  subst hq
  subst hv
  intro p e s m args below meth c H locs cells slots arr hB hR hS hc hk hn hl
  have hi3 : i < ls.length := lg_lt _ _ _ ha
  obtain ⟨w, hw⟩ := List.getElem?_of_mem (xas_mem (E := E) (q := (i, .int a)) |>.mpr ⟨.int a, ha, rfl⟩)
  exact lv_iinc hB.1 hB.2.1 hd (xloc_has.mp hl) hw rfl hi3 rfl (fun arr' h' => k p e s m args below meth c H locs cells slots arr' hB hR hS hc hk (by rw [ls1_len]; exact hn) (xloc_st1 (v := .int (a + Int32.ofInt n)) hi3 h' rfl))
theorem xv_if_eq {a : Int32} {off : Int} {t : Nat} (hq : pc + 3 = q) (ht : (pc : Int) + off = (t : Int)) (hd : decode y.2.1 pc = .ok (.ifCond .eq off, 3)) (k1 : a = 0 → XV E y d mc ms Q kc ks t ls st sh I R L) (k2 : ¬ a = 0 → XV E y d mc ms Q kc ks q ls st sh I R L) : XV E y d mc ms Q kc ks pc ls (.int a :: st) sh I R L := by
  subst hq
  intro p e s m args below meth c H locs cells slots arr hB hR hS hc hk hn hl
  exact lv_if_eq hB.1 hB.2.1 hd ht (fun z => k1 z p e s m args below meth c H locs cells slots arr hB hR hS hc hk hn hl) (fun z => k2 z p e s m args below meth c H locs cells slots arr hB hR hS hc hk hn hl)
theorem xv_if_ne {a : Int32} {off : Int} {t : Nat} (hq : pc + 3 = q) (ht : (pc : Int) + off = (t : Int)) (hd : decode y.2.1 pc = .ok (.ifCond .ne off, 3)) (k1 : ¬ a = 0 → XV E y d mc ms Q kc ks t ls st sh I R L) (k2 : a = 0 → XV E y d mc ms Q kc ks q ls st sh I R L) : XV E y d mc ms Q kc ks pc ls (.int a :: st) sh I R L := by
  subst hq
  intro p e s m args below meth c H locs cells slots arr hB hR hS hc hk hn hl
  exact lv_if_ne hB.1 hB.2.1 hd ht (fun z => k1 z p e s m args below meth c H locs cells slots arr hB hR hS hc hk hn hl) (fun z => k2 z p e s m args below meth c H locs cells slots arr hB hR hS hc hk hn hl)
theorem xv_if_lt {a : Int32} {off : Int} {t : Nat} (hq : pc + 3 = q) (ht : (pc : Int) + off = (t : Int)) (hd : decode y.2.1 pc = .ok (.ifCond .lt off, 3)) (k1 : a < 0 → XV E y d mc ms Q kc ks t ls st sh I R L) (k2 : ¬ a < 0 → XV E y d mc ms Q kc ks q ls st sh I R L) : XV E y d mc ms Q kc ks pc ls (.int a :: st) sh I R L := by
  subst hq
  intro p e s m args below meth c H locs cells slots arr hB hR hS hc hk hn hl
  exact lv_if_lt hB.1 hB.2.1 hd ht (fun z => k1 z p e s m args below meth c H locs cells slots arr hB hR hS hc hk hn hl) (fun z => k2 z p e s m args below meth c H locs cells slots arr hB hR hS hc hk hn hl)
theorem xv_if_ge {a : Int32} {off : Int} {t : Nat} (hq : pc + 3 = q) (ht : (pc : Int) + off = (t : Int)) (hd : decode y.2.1 pc = .ok (.ifCond .ge off, 3)) (k1 : 0 ≤ a → XV E y d mc ms Q kc ks t ls st sh I R L) (k2 : ¬ 0 ≤ a → XV E y d mc ms Q kc ks q ls st sh I R L) : XV E y d mc ms Q kc ks pc ls (.int a :: st) sh I R L := by
  subst hq
  intro p e s m args below meth c H locs cells slots arr hB hR hS hc hk hn hl
  exact lv_if_ge hB.1 hB.2.1 hd ht (fun z => k1 z p e s m args below meth c H locs cells slots arr hB hR hS hc hk hn hl) (fun z => k2 z p e s m args below meth c H locs cells slots arr hB hR hS hc hk hn hl)
theorem xv_if_gt {a : Int32} {off : Int} {t : Nat} (hq : pc + 3 = q) (ht : (pc : Int) + off = (t : Int)) (hd : decode y.2.1 pc = .ok (.ifCond .gt off, 3)) (k1 : 0 < a → XV E y d mc ms Q kc ks t ls st sh I R L) (k2 : ¬ 0 < a → XV E y d mc ms Q kc ks q ls st sh I R L) : XV E y d mc ms Q kc ks pc ls (.int a :: st) sh I R L := by
  subst hq
  intro p e s m args below meth c H locs cells slots arr hB hR hS hc hk hn hl
  exact lv_if_gt hB.1 hB.2.1 hd ht (fun z => k1 z p e s m args below meth c H locs cells slots arr hB hR hS hc hk hn hl) (fun z => k2 z p e s m args below meth c H locs cells slots arr hB hR hS hc hk hn hl)
theorem xv_if_le {a : Int32} {off : Int} {t : Nat} (hq : pc + 3 = q) (ht : (pc : Int) + off = (t : Int)) (hd : decode y.2.1 pc = .ok (.ifCond .le off, 3)) (k1 : a ≤ 0 → XV E y d mc ms Q kc ks t ls st sh I R L) (k2 : ¬ a ≤ 0 → XV E y d mc ms Q kc ks q ls st sh I R L) : XV E y d mc ms Q kc ks pc ls (.int a :: st) sh I R L := by
  subst hq
  intro p e s m args below meth c H locs cells slots arr hB hR hS hc hk hn hl
  exact lv_if_le hB.1 hB.2.1 hd ht (fun z => k1 z p e s m args below meth c H locs cells slots arr hB hR hS hc hk hn hl) (fun z => k2 z p e s m args below meth c H locs cells slots arr hB hR hS hc hk hn hl)
theorem xv_icmp_eq {a b : Int32} {off : Int} {t : Nat} (hq : pc + 3 = q) (ht : (pc : Int) + off = (t : Int)) (hd : decode y.2.1 pc = .ok (.if_icmp .eq off, 3)) (k1 : a = b → XV E y d mc ms Q kc ks t ls st sh I R L) (k2 : ¬ a = b → XV E y d mc ms Q kc ks q ls st sh I R L) : XV E y d mc ms Q kc ks pc ls (.int b :: .int a :: st) sh I R L := by
  subst hq
  intro p e s m args below meth c H locs cells slots arr hB hR hS hc hk hn hl
  exact lv_icmp_eq hB.1 hB.2.1 hd ht (fun z => k1 z p e s m args below meth c H locs cells slots arr hB hR hS hc hk hn hl) (fun z => k2 z p e s m args below meth c H locs cells slots arr hB hR hS hc hk hn hl)
theorem xv_icmp_ne {a b : Int32} {off : Int} {t : Nat} (hq : pc + 3 = q) (ht : (pc : Int) + off = (t : Int)) (hd : decode y.2.1 pc = .ok (.if_icmp .ne off, 3)) (k1 : ¬ a = b → XV E y d mc ms Q kc ks t ls st sh I R L) (k2 : a = b → XV E y d mc ms Q kc ks q ls st sh I R L) : XV E y d mc ms Q kc ks pc ls (.int b :: .int a :: st) sh I R L := by
  subst hq
  intro p e s m args below meth c H locs cells slots arr hB hR hS hc hk hn hl
  exact lv_icmp_ne hB.1 hB.2.1 hd ht (fun z => k1 z p e s m args below meth c H locs cells slots arr hB hR hS hc hk hn hl) (fun z => k2 z p e s m args below meth c H locs cells slots arr hB hR hS hc hk hn hl)
theorem xv_icmp_lt {a b : Int32} {off : Int} {t : Nat} (hq : pc + 3 = q) (ht : (pc : Int) + off = (t : Int)) (hd : decode y.2.1 pc = .ok (.if_icmp .lt off, 3)) (k1 : a < b → XV E y d mc ms Q kc ks t ls st sh I R L) (k2 : ¬ a < b → XV E y d mc ms Q kc ks q ls st sh I R L) : XV E y d mc ms Q kc ks pc ls (.int b :: .int a :: st) sh I R L := by
  subst hq
  intro p e s m args below meth c H locs cells slots arr hB hR hS hc hk hn hl
  exact lv_icmp_lt hB.1 hB.2.1 hd ht (fun z => k1 z p e s m args below meth c H locs cells slots arr hB hR hS hc hk hn hl) (fun z => k2 z p e s m args below meth c H locs cells slots arr hB hR hS hc hk hn hl)
theorem xv_icmp_ge {a b : Int32} {off : Int} {t : Nat} (hq : pc + 3 = q) (ht : (pc : Int) + off = (t : Int)) (hd : decode y.2.1 pc = .ok (.if_icmp .ge off, 3)) (k1 : b ≤ a → XV E y d mc ms Q kc ks t ls st sh I R L) (k2 : ¬ b ≤ a → XV E y d mc ms Q kc ks q ls st sh I R L) : XV E y d mc ms Q kc ks pc ls (.int b :: .int a :: st) sh I R L := by
  subst hq
  intro p e s m args below meth c H locs cells slots arr hB hR hS hc hk hn hl
  exact lv_icmp_ge hB.1 hB.2.1 hd ht (fun z => k1 z p e s m args below meth c H locs cells slots arr hB hR hS hc hk hn hl) (fun z => k2 z p e s m args below meth c H locs cells slots arr hB hR hS hc hk hn hl)
theorem xv_icmp_gt {a b : Int32} {off : Int} {t : Nat} (hq : pc + 3 = q) (ht : (pc : Int) + off = (t : Int)) (hd : decode y.2.1 pc = .ok (.if_icmp .gt off, 3)) (k1 : b < a → XV E y d mc ms Q kc ks t ls st sh I R L) (k2 : ¬ b < a → XV E y d mc ms Q kc ks q ls st sh I R L) : XV E y d mc ms Q kc ks pc ls (.int b :: .int a :: st) sh I R L := by
  subst hq
  intro p e s m args below meth c H locs cells slots arr hB hR hS hc hk hn hl
  exact lv_icmp_gt hB.1 hB.2.1 hd ht (fun z => k1 z p e s m args below meth c H locs cells slots arr hB hR hS hc hk hn hl) (fun z => k2 z p e s m args below meth c H locs cells slots arr hB hR hS hc hk hn hl)
theorem xv_icmp_le {a b : Int32} {off : Int} {t : Nat} (hq : pc + 3 = q) (ht : (pc : Int) + off = (t : Int)) (hd : decode y.2.1 pc = .ok (.if_icmp .le off, 3)) (k1 : a ≤ b → XV E y d mc ms Q kc ks t ls st sh I R L) (k2 : ¬ a ≤ b → XV E y d mc ms Q kc ks q ls st sh I R L) : XV E y d mc ms Q kc ks pc ls (.int b :: .int a :: st) sh I R L := by
  subst hq
  intro p e s m args below meth c H locs cells slots arr hB hR hS hc hk hn hl
  exact lv_icmp_le hB.1 hB.2.1 hd ht (fun z => k1 z p e s m args below meth c H locs cells slots arr hB hR hS hc hk hn hl) (fun z => k2 z p e s m args below meth c H locs cells slots arr hB hR hS hc hk hn hl)
theorem xv_goto {off : Int} {t : Nat} (ht : (pc : Int) + off = (t : Int)) (hd : decode y.2.1 pc = .ok (.goto off, 3)) (k : XV E y d mc ms Q kc ks t ls st sh I R L) : XV E y d mc ms Q kc ks pc ls st sh I R L := by
  intro p e s m args below meth c H locs cells slots arr hB hR hS hc hk hn hl
  exact lv_goto hB.1 hB.2.1 hd ht (k p e s m args below meth c H locs cells slots arr hB hR hS hc hk hn hl)
theorem xv_ifnonnull {a : Nat} {off : Int} {t : Nat} (ht : (pc : Int) + off = (t : Int)) (hd : decode y.2.1 pc = .ok (.ifnonnull off, 3)) (k : XV E y d mc ms Q kc ks t ls st sh I R L) : XV E y d mc ms Q kc ks pc ls (.ref a :: st) sh I R L := by
  intro p e s m args below meth c H locs cells slots arr hB hR hS hc hk hn hl
  exact lv_ifnonnull hB.1 hB.2.1 hd ht (k p e s m args below meth c H locs cells slots arr hB hR hS hc hk hn hl)
theorem xv_ifnonnullN {off : Int} (hq : pc + 3 = q) (hd : decode y.2.1 pc = .ok (.ifnonnull off, 3)) (k : XV E y d mc ms Q kc ks q ls st sh I R L) : XV E y d mc ms Q kc ks pc ls (.null :: st) sh I R L := by
  subst hq
  intro p e s m args below meth c H locs cells slots arr hB hR hS hc hk hn hl
  exact lv_ifnonnullN hB.1 hB.2.1 hd (k p e s m args below meth c H locs cells slots arr hB hR hS hc hk hn hl)
theorem xv_tableOut {dflt lo hi : Int} {offs : Array Int} {len : Nat} {a : Int32} {t : Nat} (hd : decode y.2.1 pc = .ok (.tableswitch dflt lo hi offs, len)) (h : a.toInt < lo ∨ hi < a.toInt) (ht : (pc : Int) + dflt = (t : Int)) (k : XV E y d mc ms Q kc ks t ls st sh I R L) : XV E y d mc ms Q kc ks pc ls (.int a :: st) sh I R L := by
  intro p e s m args below meth c H locs cells slots arr hB hR hS hc hk hn hl
  exact lv_tableOut hB.1 hB.2.1 hd h ht (k p e s m args below meth c H locs cells slots arr hB hR hS hc hk hn hl)
theorem xv_tableIn {dflt lo hi : Int} {offs : Array Int} {len : Nat} {a : Int32} {off : Int} {t : Nat} (hd : decode y.2.1 pc = .ok (.tableswitch dflt lo hi offs, len)) (h1 : ¬ a.toInt < lo) (h2 : ¬ hi < a.toInt) (ho : offs[(a.toInt - lo).toNat]? = some off) (ht : (pc : Int) + off = (t : Int)) (k : XV E y d mc ms Q kc ks t ls st sh I R L) : XV E y d mc ms Q kc ks pc ls (.int a :: st) sh I R L := by
  intro p e s m args below meth c H locs cells slots arr hB hR hS hc hk hn hl
  exact lv_tableIn hB.1 hB.2.1 hd h1 h2 ho ht (k p e s m args below meth c H locs cells slots arr hB hR hS hc hk hn hl)
theorem xv_lookup {dflt : Int} {ps : Array (Int × Int)} {len : Nat} {a : Int32} {off : Int} {t : Nat} (hd : decode y.2.1 pc = .ok (.lookupswitch dflt ps, len)) (hp : (ps.toList.zip (ps.toList.drop 1)).all (fun (a, next) => a.1 < next.1) = true) (ho : Op.lookupswitch.offset ps.toList dflt a.toInt = off) (ht : (pc : Int) + off = (t : Int)) (k : XV E y d mc ms Q kc ks t ls st sh I R L) : XV E y d mc ms Q kc ks pc ls (.int a :: st) sh I R L := by
  intro p e s m args below meth c H locs cells slots arr hB hR hS hc hk hn hl
  exact lv_lookup hB.1 hB.2.1 hd hp ho ht (k p e s m args below meth c H locs cells slots arr hB hR hS hc hk hn hl)
/-- fewer locals are known -/
theorem xv_mask (bs : List Bool) (k : XV E y d mc ms Q kc ks pc (lmask bs ls) st sh I R L) : XV E y d mc ms Q kc ks pc ls st sh I R L := by
  intro p e s m args below meth c H locs cells slots arr hB hR hS hc hk hn hl
  exact k p e s m args below meth c H locs cells slots arr hB hR hS hc hk (by rw [lmask_len]; exact hn) ⟨by rw [lmask_len]; exact hl.1, hl.2.1, fun i v h => hl.2.2 i v (lg_lmask bs ls i v h)⟩
/-- the budget may be rounded down -/
theorem xv_less {kc' ks' : Nat} (h1 : kc' ≤ kc) (h2 : ks' ≤ ks) (k : XV E y d mc ms Q kc' ks' pc ls st sh I R L) : XV E y d mc ms Q kc ks pc ls st sh I R L := by
  intro p e s m args below meth c H locs cells slots arr hB hR hS hc hk hn hl
  exact k p e s m args below meth c H locs cells slots arr hB hR hS (by omega) (by omega) hn hl
theorem xv_iret {a : Int32} (hd : decode y.2.1 pc = .ok (.ireturn, 1)) (hr : y.2.2.2 = some .int)  (hQ : Q (some (.int a)) sh I R L) : XV E y d mc ms Q kc ks pc ls [.int a] sh I R L := by
  intro p e s m args below meth c H locs cells slots arr hB hR hS hc hk hn hl
  refine W.widen (k := mc) (n := ms) (by omega) (by omega) ?_
  exact W.iret hB.1 hB.2.1 (hB.2.2.1.trans hr) (fun t ht hW => ⟨⟨(some (.int a)), sh, I, R, L, rfl, hQ, by rw [ht]; exact hR.warm hW⟩, by rw [ht]; exact hS.1⟩) hS.2.2 hd hB.2.2.2.2.2.2.1
theorem xv_zret {a : Int32} {ty : FieldType} (hd : decode y.2.1 pc = .ok (.ireturn, 1)) (hr : y.2.2.2 = some ty) (hz : narrow ty (.int a) = .int a) (hQ : Q (some (.int a)) sh I R L) : XV E y d mc ms Q kc ks pc ls [.int a] sh I R L := by
  intro p e s m args below meth c H locs cells slots arr hB hR hS hc hk hn hl
  refine W.widen (k := mc) (n := ms) (by omega) (by omega) ?_
  exact W.zret hB.1 hB.2.1 (hB.2.2.1.trans hr) hz (fun t ht hW => ⟨⟨(some (.int a)), sh, I, R, L, rfl, hQ, by rw [ht]; exact hR.warm hW⟩, by rw [ht]; exact hS.1⟩) hS.2.2 hd hB.2.2.2.2.2.2.1
theorem xv_lret {a : Int64} (hd : decode y.2.1 pc = .ok (.lreturn, 1)) (hr : y.2.2.2 = some .long)  (hQ : Q (some (.long a)) sh I R L) : XV E y d mc ms Q kc ks pc ls [.long a] sh I R L := by
  intro p e s m args below meth c H locs cells slots arr hB hR hS hc hk hn hl
  refine W.widen (k := mc) (n := ms) (by omega) (by omega) ?_
  exact W.lret hB.1 hB.2.1 (hB.2.2.1.trans hr) (fun t ht hW => ⟨⟨(some (.long a)), sh, I, R, L, rfl, hQ, by rw [ht]; exact hR.warm hW⟩, by rw [ht]; exact hS.1⟩) hS.2.2 hd hB.2.2.2.2.2.2.1
theorem xv_vret  (hd : decode y.2.1 pc = .ok (.return_, 1)) (hr : y.2.2.2 = none)  (hQ : Q none sh I R L) : XV E y d mc ms Q kc ks pc ls [] sh I R L := by
  intro p e s m args below meth c H locs cells slots arr hB hR hS hc hk hn hl
  refine W.widen (k := mc) (n := ms) (by omega) (by omega) ?_
  exact W.vret hB.1 hB.2.1 (hB.2.2.1.trans hr) (fun t ht hW => ⟨⟨none, sh, I, R, L, rfl, hQ, by rw [ht]; exact hR.warm hW⟩, by rw [ht]; exact hS.1⟩) hS.2.2 hd hB.2.2.2.2.2.2.1
theorem xv_aret {a : Nat} {ty : FieldType} (hd : decode y.2.1 pc = .ok (.areturn, 1)) (hr : y.2.2.2 = some ty) (hz : (∃ n, ty = .object n) ∨ ∃ t, ty = .array t) (hQ : Q (some (.ref a)) sh I R L) : XV E y d mc ms Q kc ks pc ls [.ref a] sh I R L := by
  intro p e s m args below meth c H locs cells slots arr hB hR hS hc hk hn hl
  refine W.widen (k := mc) (n := ms) (by omega) (by omega) ?_
  exact W.aret hB.1 hB.2.1 (hB.2.2.1.trans hr) hz (Or.inr ⟨_, rfl⟩) (fun t ht hW => ⟨⟨(some (.ref a)), sh, I, R, L, rfl, hQ, by rw [ht]; exact hR.warm hW⟩, by rw [ht]; exact hS.1⟩) hS.2.2 hd hB.2.2.2.2.2.2.1
theorem xv_aretF {a : UInt32} {ty : FieldType} (hd : decode y.2.1 pc = .ok (.areturn, 1)) (hr : y.2.2.2 = some ty) (hz : (∃ n, ty = .object n) ∨ ∃ t, ty = .array t) (hQ : Q (some (.float a)) sh I R L) : XV E y d mc ms Q kc ks pc ls [.float a] sh I R L := by
  intro p e s m args below meth c H locs cells slots arr hB hR hS hc hk hn hl
  refine W.widen (k := mc) (n := ms) (by omega) (by omega) ?_
  exact W.aret hB.1 hB.2.1 (hB.2.2.1.trans hr) hz (Or.inr ⟨_, rfl⟩) (fun t ht hW => ⟨⟨(some (.float a)), sh, I, R, L, rfl, hQ, by rw [ht]; exact hR.warm hW⟩, by rw [ht]; exact hS.1⟩) hS.2.2 hd hB.2.2.2.2.2.2.1
end XROWS
end
section
/-! rows that look at the small heap, and calls -/
def XF (own : String) (idx t N j : Nat) (fin : Bool) (ty : FieldType) : Prop :=
  ∃ (C : String) (T : u_T), vwCl[t]? = some (C, T, N) ∧ j < N ∧ Cond.fieldLink own idx (T j).1 (T j).2.1 (T j).2.2.1 ∈ GT ∧ (∀ w ∈ u_ws C T N, w ∈ GT) ∧ (∀ k, k < N → parseFieldDescriptor (T k).2.2.1 = some (xft t k))
    ∧ (∀ a, a < N → ∀ b, b < N → a ≠ b → (T a).2.1 ≠ (T b).2.1) ∧ (T j).2.2.2 = fin ∧ xft t j = ty ∧ t < 8 ∧ (T j).1 = C
theorem xce_obj {E : XE} {t N k : Nat} {I : XI} {R : XRf} {L : XL} (h : t < 8) : xce E (t, N) k I R L = .inr (t, (List.range N).map (fun j => xfv E (xft t j) I R L k j)) := by
  unfold xce; rw [if_pos (show (t, N).1 < 8 from h)]
theorem xce_int {E : XE} {N k : Nat} {I : XI} {R : XRf} {L : XL} : xce E (8, N) k I R L = .inl (xk E 0, N, .inl (I k)) := rfl
theorem xce_bool {E : XE} {N k : Nat} {I : XI} {R : XRf} {L : XL} : xce E (9, N) k I R L = .inl (xk E 1, N, .inl (I k)) := rfl
theorem xce_txt {E : XE} {N k : Nat} {I : XI} {R : XRf} {L : XL} : xce E (10, N) k I R L = .inl (xk E 2, N, .inr (.inr (.inr (.inr (fun j => xrf E (R k j)))))) := rfl
theorem xce_sht {E : XE} {N k : Nat} {I : XI} {R : XRf} {L : XL} : xce E (11, N) k I R L = .inl (xk E 3, N, .inr (.inr (.inr (.inr (fun j => xrf E (R k j)))))) := rfl
theorem xr_put {E : XE} {sh : XSh} {I I' : XI} {R R' : XRf} {L L' : XL} {s : State} {H H1 : Heap} {k : Nat} {q : Nat × Nat} {e : va_E} (h : XR E sh I R L s H) (hs : sh[k]? = some q) (he : e = xce E q k I' R' L') (hI : ∀ a, a ≠ k → I' a = I a) (hR : ∀ a, a ≠ k → R' a = R a) (hL : ∀ a, a ≠ k → L' a = L a)
    {H0 : Heap} {locs : List Loc} (hP : va_P (xD E) vwCl ((xw E sh I R L).set k (xN E + k, e)) H1) (hD : va_D (xA E) ((xw E sh I R L).set k (xN E + k, e))) (hz : H1.size = H.size) (hS0 : va_S (xA E) H0 H []) (hS : va_S (xA E) H0 H1 locs) (hN : xN E ≤ H0.size) : XR E sh I' R' L' s H1 := by
  obtain ⟨h1, h2, h3, h4, h5, h6, h7⟩ := h
  have hk : k < sh.length := (List.getElem?_eq_some_iff.mp hs).1
  rw [xw_set hs he hI hR hL] at hP hD
  refine ⟨hP, h2, hD, by rw [hz, h4], fun a ha => ?_, fun a ha => ?_, h7⟩
  · have hna : ¬ xA E a := Nat.not_le.mpr ha
    rw [hS.2.1 a (Nat.lt_of_lt_of_le ha hN) hna, ← hS0.2.1 a (Nat.lt_of_lt_of_le ha hN) hna, h5 a ha]
  · have hne : a ≠ k := by omega
    rw [hI a hne, hR a hne, hL a hne]
    exact h6 a ha
section XHEAP
variable {E : XE} {y : XM} {d mc ms kc ks pc q : Nat} {Q : XQ} {ls : List (Option Value)} {st : List Value} {sh : XSh} {I : XI} {R : XRf} {L : XL}
theorem xv_get {idx t N j k : Nat} {fin : Bool} {ty : FieldType} {v : Value} (hq : pc + 3 = q) (hd : decode y.2.1 pc = .ok (.getfield idx, 3)) (hf : XF y.1.cls idx t N j fin ty) (hs : sh[k]? = some (t, N)) (hv : xfv E ty I R L k j = sv E v) (kk : XV E y d mc ms Q kc ks q ls (v :: st) sh I R L) : XV E y d mc ms Q kc ks pc ls (.ref k :: st) sh I R L := by
  subst hq
  intro p e s m args below meth c H locs cells slots arr hB hR hS hc hk hn hl
  obtain ⟨C, T, f1, f2, f3, f4, f5, f6, f7, f8, f9, f10⟩ := hf
  have he := xw_at (E := E) (I := I) (R := R) (L := L) hs
  rw [xce_obj f9] at he
  refine va_get hB.1 hB.2.1 hB.2.2.2.2.2.1 (fun w h => List.mem_cons_of_mem _ (f4 w h)) hB.2.2.2.2.1 hR.2.1 hR.1 k he f1 j f2 (hB.2.2.2.2.2.1 _ (List.mem_cons_of_mem _ f3)) (fun _ h => h) (v := sv E v) ?_ hd (kk p e s m args below meth c H locs cells slots arr hB hR hS hc hk hn hl)
  rw [List.getElem?_map, List.getElem?_range f2, ← hv, ← f8]
  rfl
theorem xv_geti {idx t N j k : Nat} {fin : Bool} (hq : pc + 3 = q) (hd : decode y.2.1 pc = .ok (.getfield idx, 3)) (hf : XF y.1.cls idx t N j fin .int) (hs : sh[k]? = some (t, N)) (kk : XV E y d mc ms Q kc ks q ls (.int (I k j) :: st) sh I R L) : XV E y d mc ms Q kc ks pc ls (.ref k :: st) sh I R L := xv_get hq hd hf hs rfl kk
theorem xv_getz {idx t N j k : Nat} {fin : Bool} (hq : pc + 3 = q) (hd : decode y.2.1 pc = .ok (.getfield idx, 3)) (hf : XF y.1.cls idx t N j fin .boolean) (hs : sh[k]? = some (t, N)) (kk : XV E y d mc ms Q kc ks q ls (.int (I k j) :: st) sh I R L) : XV E y d mc ms Q kc ks pc ls (.ref k :: st) sh I R L := xv_get hq hd hf hs rfl kk
theorem xv_getl {idx t N j k : Nat} {fin : Bool} (hq : pc + 3 = q) (hd : decode y.2.1 pc = .ok (.getfield idx, 3)) (hf : XF y.1.cls idx t N j fin .long) (hs : sh[k]? = some (t, N)) (kk : XV E y d mc ms Q kc ks q ls (.long (L k j) :: st) sh I R L) : XV E y d mc ms Q kc ks pc ls (.ref k :: st) sh I R L := xv_get hq hd hf hs rfl kk
theorem xv_geta {idx t N j k a : Nat} {fin : Bool} {ty : FieldType} (hq : pc + 3 = q) (hd : decode y.2.1 pc = .ok (.getfield idx, 3)) (hf : XF y.1.cls idx t N j fin (.array ty)) (hs : sh[k]? = some (t, N)) (hr : R k j = some a) (kk : XV E y d mc ms Q kc ks q ls (.ref a :: st) sh I R L) : XV E y d mc ms Q kc ks pc ls (.ref k :: st) sh I R L := xv_get hq hd hf hs (by show va_rf (xrf E (R k j)) = _; rw [hr]; rfl) kk
theorem xv_geto {idx t N j k a : Nat} {fin : Bool} {C : String} (hq : pc + 3 = q) (hd : decode y.2.1 pc = .ok (.getfield idx, 3)) (hf : XF y.1.cls idx t N j fin (.object C)) (hs : sh[k]? = some (t, N)) (hr : R k j = some a) (kk : XV E y d mc ms Q kc ks q ls (.ref a :: st) sh I R L) : XV E y d mc ms Q kc ks pc ls (.ref k :: st) sh I R L := xv_get hq hd hf hs (by show va_rf (xrf E (R k j)) = _; rw [hr]; rfl) kk
theorem xv_geton {idx t N j k : Nat} {fin : Bool} {C : String} (hq : pc + 3 = q) (hd : decode y.2.1 pc = .ok (.getfield idx, 3)) (hf : XF y.1.cls idx t N j fin (.object C)) (hs : sh[k]? = some (t, N)) (hr : R k j = none) (kk : XV E y d mc ms Q kc ks q ls (.null :: st) sh I R L) : XV E y d mc ms Q kc ks pc ls (.ref k :: st) sh I R L := xv_get hq hd hf hs (by show va_rf (xrf E (R k j)) = _; rw [hr]; rfl) kk
theorem xv_put {idx t N j k : Nat} {fin : Bool} {ty : FieldType} {v : Value} {I' : XI} {R' : XRf} {L' : XL} (hq : pc + 3 = q) (hd : decode y.2.1 pc = .ok (.putfield idx, 3)) (hf : XF y.1.cls idx t N j fin ty) (hfin : fin = true → y.1.name = "<init>" ∧ (vwCl[t]?).map (fun z => z.1) = some y.1.cls) (hs : sh[k]? = some (t, N))
    (hv : xfv E ty I' R' L' k j = sv E v) (ho : ∀ b, b ≠ j → ∀ ty', xfv E ty' I' R' L' k b = xfv E ty' I R L k b) (hI : ∀ a, a ≠ k → I' a = I a) (hR' : ∀ a, a ≠ k → R' a = R a) (hL' : ∀ a, a ≠ k → L' a = L a) (hnar : narrow ty (sv E v) = sv E v) (hfit : fits ty (sv E v) = true)
    (kk : XV E y d mc ms Q kc ks q ls st sh I' R' L') : XV E y d mc ms Q kc ks pc ls (v :: .ref k :: st) sh I R L := by
  subst hq
  intro p e s m args below meth c H locs cells slots arr hB hR hS hc hk hn hl
  obtain ⟨C, T, f1, f2, f3, f4, f5, f6, f7, f8, f9, f10⟩ := hf
  have he := xw_at (E := E) (I := I) (R := R) (L := L) hs
  rw [xce_obj f9] at he
  have hcell : (Sum.inr (t, ((List.range N).map (fun j => xfv E (xft t j) I R L k j)).set j (sv E v)) : va_E) = xce E (t, N) k I' R' L' := by
    rw [xce_obj f9]
    congr 2
    apply List.ext_getElem?
    intro b
    by_cases hb : b = j
    · subst hb
      rw [List.getElem?_set_self (by simpa using f2), List.getElem?_map, List.getElem?_range f2, ← hv, ← f8]
      rfl
    · rw [List.getElem?_set_ne (Ne.symm hb), List.getElem?_map, List.getElem?_map]
      by_cases hbN : b < N
      · rw [List.getElem?_range hbN]
        exact congrArg some (ho b hb (xft t b)).symm
      · rw [List.getElem?_eq_none (by simpa using hbN)]
        rfl
  have fin' : ∀ (H1 : Heap) (locs1 : List Loc), va_P (xD E) vwCl ((xw E sh I R L).set k (xN E + k, .inr (t, ((List.range N).map (fun j => xfv E (xft t j) I R L k j)).set j (sv E v)))) H1 → va_D (xA E) ((xw E sh I R L).set k (xN E + k, .inr (t, ((List.range N).map (fun j => xfv E (xft t j) I R L k j)).set j (sv E v)))) → va_S (xA E) s.heap H1 locs1 → H1.size = H.size → W p E.1 e (xrm d mc ms) s m args below meth c H1 locs1 cells slots (MQ below (xQc E Q) args s mc ms (xA E)) (F0 m (pc + 3) arr (st.map (sv E))) := by
    intro H1 locs1 hP1 hD1 hS1 hz
    exact kk p e s m args below meth c H1 locs1 cells slots arr hB (xr_put hR hs hcell hI hR' hL' hP1 hD1 hz ⟨hS.1, hS.2.1, fun _ h => by cases h⟩ hS1 hB.2.2.2.2.2.2.2.2) hS1 hc hk hn hl
  obtain ⟨r, h1, cell, q1, q2, q3, q4⟩ := hR.1 k _ he
  have hr : r = (C, T, N) := Option.some.inj (h1.symm.trans f1)
  subst hr
  have hin : ∀ w ∈ u_ws C T N, w ∈ xws y := fun w h => List.mem_cons_of_mem _ (f4 w h)
  have hap := va_apart (own := y.1.cls) hB.2.2.2.2.2.1 hin (xft t) f5 f6 hR.2.1 f1
  obtain ⟨hSl, hfc, kC, hkC, hkind⟩ := hR.2.1.1 t _ f1
  obtain ⟨cf, kf, fi, f, hi, hsl⟩ := hSl j f2
  have hlay := hB.2.2.2.2.2.1 _ (hin _ (u_in_lay f2))
  have hst := (u_facts hfc hkC (u_lays hB.2.2.2.2.2.1 hin f2) hi).1
  have hpd : parseFieldDescriptor (T j).2.2.1 = some ty := by rw [f5 j f2, f8]
  have hlen : j < ((List.range N).map (fun j => xfv E (xft t j) I R L k j)).length := by simpa using f2
  cases hfb : fin with
  | false =>
    rw [hfb] at f7
    unfold u_lay at hlay
    rw [if_neg (by rw [f7]; decide)] at hlay
    have h6 := u_store hfc hkC hkind hlay hi hpd hnar hfit
    refine W.putK hB.1 hB.2.1 (f := f) ⟨hB.2.2.2.2.1, hB.2.2.2.2.2.1 _ (List.mem_cons_of_mem _ f3), ⟨_, _, _, hi⟩, hst⟩ (by rw [q2]; exact h6) q1 q3 (by rw [hsl]; exact k2_hasslot (q4 j f2)) rfl rfl hd fun H' e1 e2 e3 => ?_
    rw [hsl] at e1 ⊢
    exact fin' H' _ (hR.1.set hR.2.2.1 he ⟨_, f1, t_OB.to (V := updV (vp_V _) j (sv E v)) ⟨_, e1, q2, q3, t_set q4 hap f2 (sv E v)⟩ (fun b _ => vp_updV_set hlen (sv E v) b)⟩ e3) (hR.2.2.1.set he) (hS.put e2 e3 (hR.2.2.1.2 k _ he)) e2
  | true =>
    rw [hfb] at f7
    unfold u_lay at hlay
    rw [if_pos f7] at hlay
    have hCown : C = y.1.cls := by have := (hfin hfb).2; rw [f1] at this; exact Option.some.inj this
    have hcf : m.cls = cf := by
      obtain ⟨_, _, c', _, _, _, -, -, hf', -, -, -, hown2, -⟩ := Cond.laysFinal_spec hlay
      have e1 : c' = cf := by have := hi.symm.trans hf'; simp at this; exact this.1.symm
      rw [f10.trans hCown] at hown2
      rw [← e1]; exact Option.some.inj (hB.2.2.2.2.1.symm.trans hown2)
    have h6 := u_fits hfc hkC hkind (Or.inr hlay) hi hpd hnar hfit
    refine W.putFinK hB.1 hB.2.1 hB.2.2.2.2.1 (hB.2.2.2.2.2.1 _ (List.mem_cons_of_mem _ f3)) hi hst hcf (hB.2.2.2.2.2.2.2.1.trans (hfin hfb).1) (by rw [q2]; exact h6) q1 q3 (by rw [hsl]; exact k2_hasslot (q4 j f2)) rfl rfl hd fun H' e1 e2 e3 => ?_
    rw [hsl] at e1 ⊢
    exact fin' H' _ (hR.1.set hR.2.2.1 he ⟨_, f1, t_OB.to (V := updV (vp_V _) j (sv E v)) ⟨_, e1, q2, q3, t_set q4 hap f2 (sv E v)⟩ (fun b _ => vp_updV_set hlen (sv E v) b)⟩ e3) (hR.2.2.1.set he) (hS.put e2 e3 (hR.2.2.1.2 k _ he)) e2
theorem xfv_xi {ty : FieldType} {k j b : Nat} {x : Int32} (h : b ≠ j) : xfv E ty (xi I k j x) R L k b = xfv E ty I R L k b := by
  have e : xi I k j x k b = I k b := by simp [xi, upd, h]
  unfold xfv
  cases ty <;> simp [e]
theorem xfv_xr {ty : FieldType} {k j b : Nat} {x : Option Nat} (h : b ≠ j) : xfv E ty I (xr R k j x) L k b = xfv E ty I R L k b := by
  have e : xr R k j x k b = R k b := by simp [xr, va_up, h]
  unfold xfv
  cases ty <;> simp [e]
theorem xfv_xg {ty : FieldType} {k j b : Nat} {x : Int64} (h : b ≠ j) : xfv E ty I R (xg L k j x) k b = xfv E ty I R L k b := by
  have e : xg L k j x k b = L k b := by simp [xg, vp_updL, h]
  unfold xfv
  cases ty <;> simp [e]
theorem xv_puti {idx t N j k : Nat} {fin : Bool} {a : Int32} (hq : pc + 3 = q) (hd : decode y.2.1 pc = .ok (.putfield idx, 3)) (hf : XF y.1.cls idx t N j fin .int) (hfin : fin = true → y.1.name = "<init>" ∧ (vwCl[t]?).map (fun z => z.1) = some y.1.cls) (hs : sh[k]? = some (t, N)) (kk : XV E y d mc ms Q kc ks q ls st sh (xi I k j a) R L) : XV E y d mc ms Q kc ks pc ls (.int a :: .ref k :: st) sh I R L :=
  xv_put (v := .int a) hq hd hf hfin hs (by show Value.int (xi I k j a k j) = _; rw [xi_eq]; rfl) (fun b hb ty' => xfv_xi hb) (fun b hb => xi_off I k j a hb) (fun _ _ => rfl) (fun _ _ => rfl) rfl rfl kk
theorem xv_putz {idx t N j k : Nat} {fin : Bool} {a : Int32} (hq : pc + 3 = q) (hd : decode y.2.1 pc = .ok (.putfield idx, 3)) (hf : XF y.1.cls idx t N j fin .boolean) (hfin : fin = true → y.1.name = "<init>" ∧ (vwCl[t]?).map (fun z => z.1) = some y.1.cls) (hs : sh[k]? = some (t, N)) (hz : a = 0 ∨ a = 1) (kk : XV E y d mc ms Q kc ks q ls st sh (xi I k j a) R L) : XV E y d mc ms Q kc ks pc ls (.int a :: .ref k :: st) sh I R L :=
  xv_put (v := .int a) hq hd hf hfin hs (by show Value.int (xi I k j a k j) = _; rw [xi_eq]; rfl) (fun b hb ty' => xfv_xi hb) (fun b hb => xi_off I k j a hb) (fun _ _ => rfl) (fun _ _ => rfl) (by rcases hz with rfl | rfl <;> rfl) (by rcases hz with rfl | rfl <;> rfl) kk
theorem xv_putl {idx t N j k : Nat} {fin : Bool} {a : Int64} (hq : pc + 3 = q) (hd : decode y.2.1 pc = .ok (.putfield idx, 3)) (hf : XF y.1.cls idx t N j fin .long) (hfin : fin = true → y.1.name = "<init>" ∧ (vwCl[t]?).map (fun z => z.1) = some y.1.cls) (hs : sh[k]? = some (t, N)) (kk : XV E y d mc ms Q kc ks q ls st sh I R (xg L k j a)) : XV E y d mc ms Q kc ks pc ls (.long a :: .ref k :: st) sh I R L :=
  xv_put (v := .long a) hq hd hf hfin hs (by show Value.long (xg L k j a k j) = _; simp [xg, vp_updL, sv]) (fun b hb ty' => xfv_xg hb) (fun _ _ => rfl) (fun _ _ => rfl) (fun b hb => xg_off L k j a hb) rfl rfl kk
theorem xv_puta {idx t N j k a : Nat} {fin : Bool} {ty : FieldType} (hq : pc + 3 = q) (hd : decode y.2.1 pc = .ok (.putfield idx, 3)) (hf : XF y.1.cls idx t N j fin (.array ty)) (hfin : fin = true → y.1.name = "<init>" ∧ (vwCl[t]?).map (fun z => z.1) = some y.1.cls) (hs : sh[k]? = some (t, N)) (kk : XV E y d mc ms Q kc ks q ls st sh I (xr R k j (some a)) L) : XV E y d mc ms Q kc ks pc ls (.ref a :: .ref k :: st) sh I R L :=
  xv_put (v := .ref a) hq hd hf hfin hs (by show va_rf (xrf E (xr R k j (some a) k j)) = _; simp [xr, va_up, xrf, va_rf, sv]) (fun b hb ty' => xfv_xr hb) (fun _ _ => rfl) (fun b hb => xr_off R k j _ hb) (fun _ _ => rfl) rfl rfl kk
theorem xv_puto {idx t N j k a : Nat} {fin : Bool} {C : String} (hq : pc + 3 = q) (hd : decode y.2.1 pc = .ok (.putfield idx, 3)) (hf : XF y.1.cls idx t N j fin (.object C)) (hfin : fin = true → y.1.name = "<init>" ∧ (vwCl[t]?).map (fun z => z.1) = some y.1.cls) (hs : sh[k]? = some (t, N)) (kk : XV E y d mc ms Q kc ks q ls st sh I (xr R k j (some a)) L) : XV E y d mc ms Q kc ks pc ls (.ref a :: .ref k :: st) sh I R L :=
  xv_put (v := .ref a) hq hd hf hfin hs (by show va_rf (xrf E (xr R k j (some a) k j)) = _; simp [xr, va_up, xrf, va_rf, sv]) (fun b hb ty' => xfv_xr hb) (fun _ _ => rfl) (fun b hb => xr_off R k j _ hb) (fun _ _ => rfl) rfl rfl kk
theorem xv_puton {idx t N j k : Nat} {fin : Bool} {C : String} (hq : pc + 3 = q) (hd : decode y.2.1 pc = .ok (.putfield idx, 3)) (hf : XF y.1.cls idx t N j fin (.object C)) (hfin : fin = true → y.1.name = "<init>" ∧ (vwCl[t]?).map (fun z => z.1) = some y.1.cls) (hs : sh[k]? = some (t, N)) (kk : XV E y d mc ms Q kc ks q ls st sh I (xr R k j none) L) : XV E y d mc ms Q kc ks pc ls (.null :: .ref k :: st) sh I R L :=
  xv_put (v := .null) hq hd hf hfin hs (by show va_rf (xrf E (xr R k j none k j)) = _; simp [xr, va_up, xrf, va_rf, sv]) (fun b hb ty' => xfv_xr hb) (fun _ _ => rfl) (fun b hb => xr_off R k j _ hb) (fun _ _ => rfl) rfl rfl kk
end XHEAP
end
section
/-! arrays, makings, calls -/
theorem xty0 (E : XE) : (xty E)[0]? = some (xk E 0, .int) := rfl
theorem xty1 (E : XE) : (xty E)[1]? = some (xk E 1, .boolean) := rfl
theorem xty2 (E : XE) : (xty E)[2]? = some (xk E 2, .object "GetsOutFirst$Text") := rfl
theorem xty3 (E : XE) : (xty E)[3]? = some (xk E 3, .object "GetsOutFirst$Sheet") := rfl
theorem xr_new {E : XE} {sh : XSh} {I : XI} {R : XRf} {L : XL} {s : State} {H H1 : Heap} {H0 : Heap} {locs : List Loc} (q : Nat × Nat) (h : XR E sh I R L s H) (hc : va_at (xD E) vwCl (xN E + sh.length, xce E q sh.length I R L) H1) (hz : H1.size = H.size + 1) (ho : ∀ a : Nat, a < H.size → H1[a]? = H[a]?) (hS : va_S (xA E) H0 H locs) (hN : xN E ≤ H0.size) :
    XR E (sh ++ [q]) I R L s H1 ∧ va_S (xA E) H0 H1 locs := by
  obtain ⟨h1, h2, h3, h4, h5, h6, h7⟩ := h
  have hk : ∀ (k : Nat) (x : Nat × va_E), (xw E sh I R L)[k]? = some x → H1[x.1]? = H[x.1]? := fun k x hx => ho x.1 ((h1 k x hx).lt)
  refine ⟨⟨?_, h2, ?_, by rw [hz, h4, List.length_append]; rfl, fun a ha => by rw [ho a (by rw [h4]; omega)]; exact h5 a ha, fun a ha => h6 a (by rw [List.length_append] at ha; simp at ha; omega), h7⟩, Nat.le_trans hS.1 (by omega), fun x g1 g2 => (ho x (Nat.lt_of_lt_of_le g1 hS.1)).trans (hS.2.1 x g1 g2), hS.2.2⟩
  · rw [xw_push]
    refine (h1.kept hk).app (fun k x hx => ?_)
    have hz : k < 1 := (List.getElem?_eq_some_iff.mp hx).1
    rw [show k = 0 by omega] at hx
    cases hx
    exact hc
  · rw [xw_push]
    exact h3.push h1 h4.symm (show xN E ≤ _ from Nat.le_add_right _ _)
section XARR
variable {E : XE} {y : XM} {d mc ms kc ks pc q : Nat} {Q : XQ} {ls : List (Option Value)} {st : List Value} {sh : XSh} {I : XI} {R : XRf} {L : XL}
theorem xv_iald {k n j : Nat} {i : Int32} (hq : pc + 1 = q) (hd : decode y.2.1 pc = .ok (.iaload, 1)) (hs : sh[k]? = some (8, n)) (hi : i = nI j) (hj : j < n) (hn : n < 2 ^ 31) (kk : XV E y d mc ms Q kc ks q ls (.int (I k j) :: st) sh I R L) : XV E y d mc ms Q kc ks pc ls (.int i :: .ref k :: st) sh I R L := by
  subst hq; subst hi
  intro p e s m args below meth c H locs cells slots arr hB hR hS hc hk hl0 hl
  have e1 : (nI j).toNatClampNeg = j := nI_clamp (by omega)
  have he := xw_at (E := E) (I := I) (R := R) (L := L) hs
  rw [xce_int] at he
  refine va_iald hB.1 hB.2.1 hR.2.1 hR.1 k 0 he (xty0 E) (vp_in_nI hj hn) hd ?_
  rw [e1]
  exact kk p e s m args below meth c H locs cells slots arr hB hR hS hc hk hl0 hl
theorem xv_zald {k n j : Nat} {i : Int32} (hq : pc + 1 = q) (hd : decode y.2.1 pc = .ok (.baload, 1)) (hs : sh[k]? = some (9, n)) (hi : i = nI j) (hj : j < n) (hn : n < 2 ^ 31) (kk : XV E y d mc ms Q kc ks q ls (.int (I k j) :: st) sh I R L) : XV E y d mc ms Q kc ks pc ls (.int i :: .ref k :: st) sh I R L := by
  subst hq; subst hi
  intro p e s m args below meth c H locs cells slots arr hB hR hS hc hk hl0 hl
  have e1 : (nI j).toNatClampNeg = j := nI_clamp (by omega)
  have he := xw_at (E := E) (I := I) (R := R) (L := L) hs
  rw [xce_bool] at he
  refine va_zald hB.1 hB.2.1 hR.2.1 hR.1 k 1 he (xty1 E) (vp_in_nI hj hn) hd ?_
  rw [e1]
  exact kk p e s m args below meth c H locs cells slots arr hB hR hS hc hk hl0 hl
theorem xv_aald {k n j a t : Nat} {i : Int32} (hq : pc + 1 = q) (hd : decode y.2.1 pc = .ok (.aaload, 1)) (hs : sh[k]? = some (t, n)) (ht : t = 10 ∨ t = 11) (hi : i = nI j) (hj : j < n) (hn : n < 2 ^ 31) (hr : R k j = some a) (kk : XV E y d mc ms Q kc ks q ls (.ref a :: st) sh I R L) : XV E y d mc ms Q kc ks pc ls (.int i :: .ref k :: st) sh I R L := by
  subst hq; subst hi
  intro p e s m args below meth c H locs cells slots arr hB hR hS hc hk hl0 hl
  have e1 : (nI j).toNatClampNeg = j := nI_clamp (by omega)
  have he := xw_at (E := E) (I := I) (R := R) (L := L) hs
  have e2 : va_rf (xrf E (R k j)) = .ref (xN E + a) := by rw [hr]; rfl
  rcases ht with rfl | rfl
  · rw [xce_txt] at he
    refine va_aldq hB.1 hB.2.1 hR.2.1 hR.1 k 2 he (xty2 E) (vp_in_nI hj hn) hd ?_
    rw [e1, e2]
    exact kk p e s m args below meth c H locs cells slots arr hB hR hS hc hk hl0 hl
  · rw [xce_sht] at he
    refine va_aldq hB.1 hB.2.1 hR.2.1 hR.1 k 3 he (xty3 E) (vp_in_nI hj hn) hd ?_
    rw [e1, e2]
    exact kk p e s m args below meth c H locs cells slots arr hB hR hS hc hk hl0 hl
theorem xv_alen {k n t : Nat} (hq : pc + 1 = q) (hd : decode y.2.1 pc = .ok (.arraylength, 1)) (hs : sh[k]? = some (t, n)) (ht : t = 8 ∨ t = 10 ∨ t = 11) (kk : XV E y d mc ms Q kc ks q ls (.int (nI n) :: st) sh I R L) : XV E y d mc ms Q kc ks pc ls (.ref k :: st) sh I R L := by
  subst hq
  intro p e s m args below meth c H locs cells slots arr hB hR hS hc hk hl0 hl
  have he := xw_at (E := E) (I := I) (R := R) (L := L) hs
  rcases ht with rfl | rfl | rfl
  · rw [xce_int] at he
    exact va_alen hB.1 hB.2.1 hR.2.1 hR.1 k 0 he (xty0 E) rfl hd (kk p e s m args below meth c H locs cells slots arr hB hR hS hc hk hl0 hl)
  · rw [xce_txt] at he
    exact va_alen hB.1 hB.2.1 hR.2.1 hR.1 k 2 he (xty2 E) rfl hd (kk p e s m args below meth c H locs cells slots arr hB hR hS hc hk hl0 hl)
  · rw [xce_sht] at he
    exact va_alen hB.1 hB.2.1 hR.2.1 hR.1 k 3 he (xty3 E) rfl hd (kk p e s m args below meth c H locs cells slots arr hB hR hS hc hk hl0 hl)
theorem xv_iast {k n j : Nat} {i x : Int32} (hq : pc + 1 = q) (hd : decode y.2.1 pc = .ok (.iastore, 1)) (hs : sh[k]? = some (8, n)) (hi : i = nI j) (hj : j < n) (hn : n < 2 ^ 31) (kk : XV E y d mc ms Q kc ks q ls st sh (xi I k j x) R L) : XV E y d mc ms Q kc ks pc ls (.int x :: .int i :: .ref k :: st) sh I R L := by
  subst hq; subst hi
  intro p e s m args below meth c H locs cells slots arr hB hR hS hc hk hl0 hl
  have e1 : (nI j).toNatClampNeg = j := nI_clamp (by omega)
  have he := xw_at (E := E) (I := I) (R := R) (L := L) hs
  rw [xce_int] at he
  refine W.iast hB.1 hB.2.1 (hR.1 k _ he) ((hR.2.1.2 0 _ (xty0 E)).1 n (fun j => .int (I k j))) (fun q => by cases q) (by show ¬ (_ ∨ (arrV _ _ _).slots.size ≤ _); rw [arrV_size]; exact vp_in_nI hj hn) rfl rfl hd fun H1 e2 z oq => ?_
  have hP1 := hR.1.set hR.2.2.1 he (e := .inl (xk E 0, n, .inl (upd (I k) j x))) (by
    show H1[_]? = some (vp_cell _ _)
    rw [e2, e1]
    rw [vp_cell_i, vp_cell_i, arrV_store]
    congr 2
    funext b
    by_cases hb : b = j
    · subst hb
      simp [updV, upd]
    · simp [updV, upd, hb]) oq
  have hS1 := hS.put (k := (nI j).toNatClampNeg) z oq (hR.2.2.1.2 k _ he)
  exact kk p e s m args below meth c H1 _ cells slots arr hB (xr_put hR hs (by rw [xce_int, xi_row]) (fun b hb => xi_off I k j x hb) (fun _ _ => rfl) (fun _ _ => rfl) hP1 (hR.2.2.1.set he) z ⟨hS.1, hS.2.1, fun _ h => by cases h⟩ hS1 hB.2.2.2.2.2.2.2.2) hS1 hc hk hl0 hl
theorem xv_zast {k n j : Nat} {i x : Int32} (hq : pc + 1 = q) (hd : decode y.2.1 pc = .ok (.bastore, 1)) (hs : sh[k]? = some (9, n)) (hi : i = nI j) (hj : j < n) (hn : n < 2 ^ 31) (hz : x = 0 ∨ x = 1) (kk : XV E y d mc ms Q kc ks q ls st sh (xi I k j x) R L) : XV E y d mc ms Q kc ks pc ls (.int x :: .int i :: .ref k :: st) sh I R L := by
  subst hq; subst hi
  intro p e s m args below meth c H locs cells slots arr hB hR hS hc hk hl0 hl
  have e1 : (nI j).toNatClampNeg = j := nI_clamp (by omega)
  have he := xw_at (E := E) (I := I) (R := R) (L := L) hs
  rw [xce_bool] at he
  have hnar : narrow .boolean (.int x) = .int x := by rcases hz with rfl | rfl <;> rfl
  refine W.zast hB.1 hB.2.1 (hR.1 k _ he) ((hR.2.1.2 1 _ (xty1 E)).1 n (fun j => .int (I k j))) (fun q => by cases q) (by show ¬ (_ ∨ (arrV _ _ _).slots.size ≤ _); rw [arrV_size]; exact vp_in_nI hj hn) rfl rfl hd fun H1 e2 z oq => ?_
  have hP1 := hR.1.set hR.2.2.1 he (e := .inl (xk E 1, n, .inl (upd (I k) j x))) (by
    show H1[_]? = some (vp_cell _ _)
    rw [e2, e1, hnar]
    rw [vp_cell_i, vp_cell_i, arrV_store]
    congr 2
    funext b
    by_cases hb : b = j
    · subst hb
      simp [updV, upd]
    · simp [updV, upd, hb]) oq
  have hS1 := hS.put (k := (nI j).toNatClampNeg) z oq (hR.2.2.1.2 k _ he)
  exact kk p e s m args below meth c H1 _ cells slots arr hB (xr_put hR hs (by rw [xce_bool, xi_row]) (fun b hb => xi_off I k j x hb) (fun _ _ => rfl) (fun _ _ => rfl) hP1 (hR.2.2.1.set he) z ⟨hS.1, hS.2.1, fun _ h => by cases h⟩ hS1 hB.2.2.2.2.2.2.2.2) hS1 hc hk hl0 hl
theorem xv_aast {k n j v t ci N0 : Nat} {C : String} {T : u_T} {i : Int32} (hq : pc + 1 = q) (hd : decode y.2.1 pc = .ok (.aastore, 1)) (hs : sh[k]? = some (t, n)) (hi : i = nI j) (hj : j < n) (hn : n < 2 ^ 31) (ht : 10 ≤ t) (hty : (xty E)[t - 8]? = some (xk E (t - 8), .object C)) (hc8 : ci < 8) (hcl : vwCl[ci]? = some (C, T, N0)) (hv : sh[v]? = some (ci, N0)) (kk : XV E y d mc ms Q kc ks q ls st sh I (xr R k j (some v)) L) : XV E y d mc ms Q kc ks pc ls (.ref v :: .int i :: .ref k :: st) sh I R L := by
  subst hq; subst hi
  intro p e s m args below meth c H locs cells slots arr hB hR hS hc hk hl0 hl
  have e1 : (nI j).toNatClampNeg = j := nI_clamp (by omega)
  have e0 : ∀ R' : XRf, xce E (t, n) k I R' L = .inl (xk E (t - 8), n, .inr (.inr (.inr (.inr (fun j => xrf E (R' k j)))))) := by
    intro R'
    unfold xce
    rw [if_neg (by show ¬ t < 8; omega), if_neg (by show ¬ t < 10; omega)]
  have he := xw_at (E := E) (I := I) (R := R) (L := L) hs
  rw [e0] at he
  have hev := xw_at (E := E) (I := I) (R := R) (L := L) hv
  rw [xce_obj hc8] at hev
  obtain ⟨r', hr', cellV, g1, g2, g3, -⟩ := hR.1 v _ hev
  have hcls := (hR.2.1.1 ci _ hcl).2
  obtain ⟨kA, comp, k1, k2, k3, -⟩ := (hR.2.1.2 (t - 8) _ hty).2
  have hcomp : comp = (xD E).1 ci := Option.some.inj (k3.symm.trans hcls.1)
  subst hcomp
  obtain ⟨kC, hkC, -⟩ := hcls.2
  have hin := vp_in_nI hj hn
  refine W.aast hB.1 hB.2.1 (hR.1 k _ he) (fun q h => by cases h) (fun h => by cases h) k1 k2 rfl hkC ⟨fun z => hin (Or.inl z), by show _ < (arrV _ _ _).slots.size; rw [arrV_size, e1]; exact hj⟩ g1 (fun q h => by rw [g3] at h; cases h) (by rw [g2]; exact hkC) (by rw [g2]; exact va_assign hcls) rfl rfl hd fun H1 e2 z oq => ?_
  have hP1 := hR.1.set hR.2.2.1 he (e := .inl (xk E (t - 8), n, .inr (.inr (.inr (.inr (fun b => xrf E (xr R k j (some v) k b))))))) (by
    show H1[_]? = some (vp_cell _ _)
    rw [e2, e1]
    rw [vp_cell_q, vp_cell_q, arrV_store]
    congr 2
    funext b
    by_cases hb : b = j
    · subst hb
      simp [updV, xr, va_up, xrf, va_rf]
    · simp [updV, xr, va_up, hb]) oq
  have hS1 := hS.put (k := (nI j).toNatClampNeg) z oq (hR.2.2.1.2 k _ he)
  exact kk p e s m args below meth c H1 _ cells slots arr hB (xr_put hR hs (e0 _).symm (fun _ _ => rfl) (fun b hb => xr_off R k j _ hb) (fun _ _ => rfl) hP1 (hR.2.2.1.set he) z ⟨hS.1, hS.2.1, fun _ h => by cases h⟩ hS1 hB.2.2.2.2.2.2.2.2) hS1 hc hk hl0 hl
/-- a new array of ints (tag 8) or booleans (tag 9) -/
theorem xv_newi {N kc' ks' : Nat} {n : Int32} (hq : pc + 2 = q) (hd : decode y.2.1 pc = .ok (.newarray .int, 2)) (hi : n = nI N) (hN : N < 100000) (hw : Cond.arrayClass .int ∈ GT) (h1 : kc' + 1 ≤ kc) (h2 : ks' + N ≤ ks) (kk : XV E y d mc ms Q kc' ks' q ls (.ref sh.length :: st) (sh ++ [(8, N)]) I R L) : XV E y d mc ms Q kc ks pc ls (.int n :: st) sh I R L := by
  subst hq; subst hi
  intro p e s m args below meth c H locs cells slots arr hB hR hS hc hk hl0 hl
  have hA : (Cond.arrayClass .int).before args s = true := hB.2.2.2.2.2.1 _ (List.mem_cons_of_mem _ hw)
  refine va_newaK (atype := .int) (N := N) (h := xN E + sh.length) hB.1 hB.2.1 hA rfl hd rfl (nI_pos (by omega)) (nI_clamp (by omega)) (by show N * 4 ≤ _; omega) (by show _ ≤ mc; omega) (by show _ ≤ ms; omega) hR.2.2.2.1 (fun H1 cA e1 z1 o1 ha hf => ?_)
  have hcA : cA = xk E 0 := Option.some.inj (hf.symm.trans ((hR.2.1.2 0 _ (xty0 E)).2))
  subst hcA
  have hz := hR.2.2.2.2.2.1 sh.length (Nat.le_refl _)
  obtain ⟨hR1, hS1⟩ := xr_new (8, N) hR (H1 := H1) (by show H1[_]? = some (vp_cell _ (N, .inl (I sh.length))); rw [e1, vp_cell_i, hz.1]; rfl) (by rw [z1, hR.2.2.2.1]) (fun a ha => o1 a (by rw [hR.2.2.2.1] at ha; exact ha)) hS hB.2.2.2.2.2.2.2.2
  exact kk p e s m args below meth c H1 locs (cells + 1) (slots + N) arr hB hR1 hS1 (by omega) (by omega) hl0 hl
theorem xv_newz {N kc' ks' : Nat} {n : Int32} (hq : pc + 2 = q) (hd : decode y.2.1 pc = .ok (.newarray .boolean, 2)) (hi : n = nI N) (hN : N < 100000) (hw : Cond.arrayClass .boolean ∈ GT) (h1 : kc' + 1 ≤ kc) (h2 : ks' + N ≤ ks) (kk : XV E y d mc ms Q kc' ks' q ls (.ref sh.length :: st) (sh ++ [(9, N)]) I R L) : XV E y d mc ms Q kc ks pc ls (.int n :: st) sh I R L := by
  subst hq; subst hi
  intro p e s m args below meth c H locs cells slots arr hB hR hS hc hk hl0 hl
  have hA : (Cond.arrayClass .boolean).before args s = true := hB.2.2.2.2.2.1 _ (List.mem_cons_of_mem _ hw)
  refine va_newaK (atype := .boolean) (N := N) (h := xN E + sh.length) hB.1 hB.2.1 hA rfl hd rfl (nI_pos (by omega)) (nI_clamp (by omega)) (by show N * 1 ≤ _; omega) (by show _ ≤ mc; omega) (by show _ ≤ ms; omega) hR.2.2.2.1 (fun H1 cA e1 z1 o1 ha hf => ?_)
  have hcA : cA = xk E 1 := Option.some.inj (hf.symm.trans ((hR.2.1.2 1 _ (xty1 E)).2))
  subst hcA
  have hz := hR.2.2.2.2.2.1 sh.length (Nat.le_refl _)
  obtain ⟨hR1, hS1⟩ := xr_new (9, N) hR (H1 := H1) (by show H1[_]? = some (vp_cell _ (N, .inl (I sh.length))); rw [e1, vp_cell_i, hz.1]; rfl) (by rw [z1, hR.2.2.2.1]) (fun a ha => o1 a (by rw [hR.2.2.2.1] at ha; exact ha)) hS hB.2.2.2.2.2.2.2.2
  exact kk p e s m args below meth c H1 locs (cells + 1) (slots + N) arr hB hR1 hS1 (by omega) (by omega) hl0 hl
theorem xv_newq {N kc' ks' idx t : Nat} {n : Int32} {C : String} (hq : pc + 3 = q) (hd : decode y.2.1 pc = .ok (.anewarray idx, 3)) (hi : n = nI N) (hN : N < 100000) (hw : Cond.classLink y.1.cls idx C ∈ GT) (ht : 10 ≤ t) (hty : (xty E)[t - 8]? = some (xk E (t - 8), .object C)) (hx : ∀ U, XS E U → va_AO C U) (h1 : kc' + 1 ≤ kc) (h2 : ks' + N ≤ ks) (kk : XV E y d mc ms Q kc' ks' q ls (.ref sh.length :: st) (sh ++ [(t, N)]) I R L) : XV E y d mc ms Q kc ks pc ls (.int n :: st) sh I R L := by
  subst hq; subst hi
  intro p e s m args below meth c H locs cells slots arr hB hR hS hc hk hl0 hl
  have eN : (nI N).toNatClampNeg = N := nI_clamp (by omega)
  refine W.anew hB.1 hB.2.1 hB.2.2.2.2.1 (hB.2.2.2.2.2.1 _ (List.mem_cons_of_mem _ hw)) ((hx s hR.2.2.2.2.2.2).use) rfl hd rfl (nI_pos (by omega)) (by rw [eN]; omega) (by show _ ≤ mc; omega) (by rw [eN]; show _ ≤ ms; omega) (fun cA kA comp f1 f2 f3 f4 => ?_)
  rw [eN]
  obtain ⟨kB, compB, b1, b2, b3, b4⟩ := (hR.2.1.2 (t - 8) _ hty).2
  have hcA : cA = xk E (t - 8) := Option.some.inj (f1.symm.trans b4)
  subst hcA
  have hz := hR.2.2.2.2.2.1 sh.length (Nat.le_refl _)
  have e0 : xce E (t, N) sh.length I R L = .inl (xk E (t - 8), N, .inr (.inr (.inr (.inr (fun j => xrf E (R sh.length j)))))) := by
    unfold xce
    rw [if_neg (by show ¬ t < 8; omega), if_neg (by show ¬ t < 10; omega)]
  obtain ⟨hR1, hS1⟩ := xr_new (t, N) hR (H1 := H.push { cls := xk E (t - 8), slots := Array.replicate N .null, vm := .none }) (by
    rw [e0]
    show (H.push _)[xN E + sh.length]? = some (vp_cell _ _)
    rw [← hR.2.2.2.1, Array.getElem?_push_size, vp_cell_q, hz.2.1, arrV_new]
    rfl) (by rw [Array.size_push]) (fun a ha => by rw [Array.getElem?_push, if_neg (Nat.ne_of_lt ha)]) hS hB.2.2.2.2.2.2.2.2
  rw [hR.2.2.2.1]
  exact kk p e s m args below meth c _ locs (cells + 1) (slots + N) arr hB hR1 hS1 (by omega) (by omega) hl0 hl
end XARR
end
section
/-! makings of objects, calls, entries -/
theorem xfv0 {E : XE} {ty : FieldType} {I : XI} {R : XRf} {L : XL} {k j : Nat} (hI : I k = fun _ => 0) (hR : R k = fun _ => none) (hL : L k = fun _ => 0) (h1 : ty ≠ .float) (h2 : ty ≠ .double) : defaultValue ty = xfv E ty I R L k j := by
  unfold xfv
  rw [hI, hR, hL]
  cases ty <;> first | rfl | exact absurd rfl h1 | exact absurd rfl h2
def XMt (z : XM) (n : Nat) : Prop := Cond.code z.1 z.2.1 z.2.2.1 z.2.2.2 ∈ GT ∧ Cond.initialized z.1.cls ∈ GT ∧ (z.1.cls ≠ "java/lang/invoke/MethodHandle" ∧ z.1.cls ≠ "java/lang/invoke/VarHandle" ∧ (parseMethodDescriptor z.1.desc).map (fun d => d.parameters.length) = some n) ∧ z.2.2.1 ≤ 40
def XMv (z : XM) (n : Nat) : Prop := XMt z n ∧ Cond.instanceMethod z.1 ∈ GT ∧ Cond.selects z.1.cls z.1 z.1 ∈ GT
def XMs (z : XM) (n : Nat) : Prop := XMt z n ∧ Cond.static z.1 ∈ GT
def XMi (z : XM) (n : Nat) : Prop := XMt z n ∧ z.1.name = "<init>" ∧ Cond.instanceMethod z.1 ∈ GT ∧ z.2.2.2 = none
theorem gt_xws {z : XM} {n : Nat} (h : XMt z n) : ∀ w ∈ xws z, w ∈ GT := fun w hw => (List.mem_cons.mp hw).elim (fun e => e ▸ h.1) id
theorem xpc_blind {E : XE} {as : List Value} {sh : XSh} {I : XI} {R : XRf} {L : XL} : FrameBlind (va_Pc as (fun U => XR E sh I R L U U.heap)) := by
  intro a U g mk h
  exact ⟨h.1, h.2.warm (U := U.calling g mk a) (State.WarmedH.refl U)⟩
section XCALL
variable {E : XE} {y : XM} {d mc ms kc ks pc q : Nat} {Q : XQ} {ls : List (Option Value)} {st : List Value} {sh : XSh} {I : XI} {R : XRf} {L : XL}
theorem xv_new {t N idx kc' ks' : Nat} {C : String} {T : u_T} (hq : pc + 3 = q) (hd : decode y.2.1 pc = .ok (.new idx, 3)) (ht : t < 8) (hcl : vwCl[t]? = some (C, T, N)) (hws : ∀ w ∈ u_ws C T N, w ∈ GT) (hty : ∀ k, k < N → parseFieldDescriptor (T k).2.2.1 = some (xft t k)) (hnf : ∀ k, k < N → xft t k ≠ .float ∧ xft t k ≠ .double)
    (hw1 : Cond.classLink y.1.cls idx C ∈ GT) (hw2 : Cond.instantiable C N ∈ GT) (hw3 : Cond.initialized C ∈ GT) (h1 : kc' + 1 ≤ kc) (h2 : ks' + N ≤ ks) (kk : XV E y d mc ms Q kc' ks' q ls (.ref sh.length :: st) (sh ++ [(t, N)]) I R L) : XV E y d mc ms Q kc ks pc ls st sh I R L := by
  subst hq
  intro p e s m args below meth c H locs cells slots arr hB hR hS hc hk hl0 hl
  have hKn := hR.2.1.1 t _ hcl
  have hts := hB.2.2.2.2.2.1
  have hm : ∀ {w : Cond}, w ∈ GT → w.before args s = true := fun h => hts _ (List.mem_cons_of_mem _ h)
  refine W.newcK hB.1 hB.2.1 hB.2.2.2.2.1 (hm hw1) (hm hw2) (hm hw3) rfl hd (by show _ ≤ mc; omega) (by show _ ≤ ms; omega) hKn.2.1 hR.2.2.2.1 fun H1 kC hkC e1 z1 o1 => ?_
  have hz := hR.2.2.2.2.2.1 sh.length (Nat.le_refl _)
  obtain ⟨hR1, hS1⟩ := xr_new (t, N) hR (H1 := H1) (by
    rw [xce_obj ht]
    refine ⟨_, hcl, (u_born (xft t) hts (fun w h => List.mem_cons_of_mem _ (hws w h)) hKn hkC e1 hty).to (fun j hj => ?_)⟩
    show _ = vp_V ((List.range N).map _) j
    rw [vp_V, List.getD_eq_getElem?_getD, List.getElem?_map, List.getElem?_range hj]
    exact xfv0 hz.1 hz.2.1 hz.2.2 (hnf j hj).1 (hnf j hj).2) (by rw [z1, hR.2.2.2.1]) (fun a ha => o1 a (by rw [hR.2.2.2.1] at ha; exact ha)) hS hB.2.2.2.2.2.2.2.2
  exact kk p e s m args below meth c H1 locs (cells + 1) (slots + N) arr hB hR1 hS1 (by omega) (by omega) hl0 hl
theorem xv_objInit {idx k : Nat} (hq : pc + 3 = q) (hd : decode y.2.1 pc = .ok (.invokespecial idx, 3)) (hw1 : Cond.methodLink y.1.cls idx Lib.objectInit ∈ GT) (hw2 : Cond.instanceMethod Lib.objectInit ∈ GT) (hw3 : Cond.code Lib.objectInit ⟨#[0xb1]⟩ 1 none ∈ GT) (hst : (st.map fun v => v.category).sum ≤ 8) (hdd : 1 ≤ d) (kk : XV E y d mc ms Q kc ks q ls st sh I R L) : XV E y d mc ms Q kc ks pc ls (.ref k :: st) sh I R L := by
  subst hq
  intro p e s m args below meth c H locs cells slots arr hB hR hS hc hk hl0 hl
  have hm : ∀ {w : Cond}, w ∈ GT → w.before args s = true := fun h => hB.2.2.2.2.2.1 _ (List.mem_cons_of_mem _ h)
  refine W.objInit hB.1 hB.2.1 hB.2.2.2.2.1 (hm hw1) (hm hw2) (hm hw3) rfl (by rw [hB.2.2.2.1, ← hl0]; exact hl.1) rfl hd hdd (by show 2 * 0 + _ + 12 ≤ 64 * d; rw [sv_cats]; omega) ?_
  exact kk p e s m args below meth c H locs cells slots arr hB hR hS hc hk hl0 hl
theorem xv_after {p : Program} {e : Env} {s : State} {m : MethodId} {args : Array Value} {below : List Frame} {meth : Method} {c : Code} {H : Heap} {locs : List Loc} {cells slots mc' ms' : Nat} {arr : Array Slot} {stk : List Value} {a : Array Value} {Q' : XQ} {kc' ks' : Nat}
    (hr : va_Run p E.1 e (xrm d mc ms) s m args below meth c H locs cells slots mc' ms' (F0 m pc arr stk) (st.map (sv E)) (xQc E Q' a) (xA E)) (hB : XB E y p s m args meth c) (hR : XR E sh I R L s H) (hS : va_S (xA E) s.heap H locs) (hc : cells + mc' + kc' ≤ mc) (hk : slots + ms' + ks' ≤ ms) (hl0 : ls.length = y.2.2.1) (hl : xloc E arr ls)
    (kk : ∀ (v : Option Value) (sh' : XSh) (I' : XI) (R' : XRf) (L' : XL), Q' v sh' I' R' L' → XV E y d mc ms Q kc' ks' (pc + 3) ls (v.toList ++ st) sh' I' R' L') :
    W p E.1 e (xrm d mc ms) s m args below meth c H locs cells slots (MQ below (xQc E Q) args s mc ms (xA E)) (F0 m pc arr stk) := by
  intro T hT X
  obtain ⟨v, st₀, t, T', Lc, h0, X', hL, e1, e2, ⟨⟨w, sh', I', R', L', hv, hQ, hR'⟩, hz⟩, stp⟩ := hr T hT X
  have hv' : v = w.map (sv E) := by cases hv; rfl
  subst hv'
  have hRs : XR E sh' I' R' L' s T'.heap := by
    rw [e1]
    exact ⟨hR'.1, hR.2.1, hR'.2.2.1, hR'.2.2.2.1, hR'.2.2.2.2.1, hR'.2.2.2.2.2.1, hR.2.2.2.2.2.2⟩
  have hSs : va_S (xA E) s.heap T'.heap (locs ++ Lc) := by
    refine ⟨Nat.le_trans hS.1 (by rw [e1, ← h0]; exact hz), fun a g1 g2 => ?_, fun l hl => ?_⟩
    · have ha : a < xN E := Nat.not_le.mp g2
      rw [hRs.2.2.2.2.1 a ha, ← hS.2.1 a g1 g2, hR.2.2.2.2.1 a ha]
    · rcases List.mem_append.mp hl with h | h
      · exact hS.2.2 l h
      · exact hL l h
  obtain ⟨t2, a1, b1⟩ := kk w sh' I' R' L' hQ p e s m args below meth c T'.heap (locs ++ Lc) (cells + mc') (slots + ms') arr hB hRs hSs (by omega) (by omega) hl0 hl T' rfl X'
  refine ⟨t2, stp t2 ?_, b1⟩
  have es : (w.toList ++ st).map (sv E) = (w.map (sv E)).toList ++ st.map (sv E) := by cases w <;> rfl
  rw [es] at a1
  exact a1
theorem xv_callV {z : XM} {idx n k t N d' mc' ms' kc' ks' : Nat} {T : u_T} {as stk : List Value} {Q' : XQ} (hq : pc + 3 = q) (hd : decode y.2.1 pc = .ok (.invokevirtual idx, 3)) (hl1 : Cond.methodLink y.1.cls idx z.1 ∈ GT) (hz : XMv z n) (hs : sh[k]? = some (t, N)) (hcl : vwCl[t]? = some (z.1.cls, T, N)) (ht : t < 8) (hn : as.length = n)
    (hstk : stk = as.reverse ++ .ref k :: st) (hw : (st.map fun v => v.category).sum ≤ 8) (hC : XC E z d' mc' ms' (.ref k :: as) sh I R L Q') (hdd : d' + 1 ≤ d) (hm1 : mc' + kc' ≤ kc) (hm2 : ms' + ks' ≤ ks)
    (kk : ∀ (v : Option Value) (sh' : XSh) (I' : XI) (R' : XRf) (L' : XL), Q' v sh' I' R' L' → XV E y d mc ms Q kc' ks' q ls (v.toList ++ st) sh' I' R' L') : XV E y d mc ms Q kc ks pc ls stk sh I R L := by
  subst hq; subst hstk
  intro p e s m args below meth c H locs cells slots arr hB hR hS hc hk hl0 hl
  obtain ⟨hzt, hz2, hz3⟩ := hz
  have he := xw_at (E := E) (I := I) (R := R) (L := L) hs
  rw [xce_obj ht] at he
  refine xv_after (mc' := mc') (ms' := ms') (a := (Value.ref (xN E + k) :: as.map (sv E)).toArray) ?_ hB hR hS (by omega) (by omega) hl0 hl kk
  refine va_runV (As := as.map (sv E)) (own := y.1.cls) (C := z.1.cls) (Ts := xws y) (n := n) (nL := y.2.2.1) ⟨hB.1, hB.2.1, hB.2.2.2.1, hB.2.2.2.2.1, hB.2.2.2.2.2.1⟩ hC (cwV n hB.2.2.2.2.2.1 (gt_sub (fun w hw => ?_) _) rfl rfl rfl ⟨rfl, hzt.2.2.1⟩ ⟨hdd, ?_⟩) ⟨xpc_blind, va_recv hR.2.1 hR.1 hcl he, fun U hU hW => ⟨rfl, by show XR E sh I R L U U.heap; rw [hU]; exact hR.warm hW⟩⟩ rfl (by rw [List.length_map]; exact hn) (by rw [← hl0]; exact hl.1) (by simp [List.map_reverse, sv]) (lv_room (by rw [sv_cats]; exact hw)) hd ⟨by show _ ≤ mc; omega, by show _ ≤ ms; omega⟩
  · unfold wsV at hw
    rcases List.mem_append.mp hw with h | h
    · simp only [List.mem_cons, List.not_mem_nil, or_false] at h
      rcases h with rfl | rfl | rfl | rfl
      · exact hl1
      · exact hz2
      · exact hz3
      · exact hzt.2.1
    · exact gt_xws hzt w h
  · show 8 + (z.2.2.1 + 11) + 64 * d' ≤ 64 * d
    have := hzt.2.2.2
    omega
theorem xv_callS {z : XM} {idx n d' mc' ms' kc' ks' : Nat} {as stk : List Value} {Q' : XQ} (hq : pc + 3 = q) (hd : decode y.2.1 pc = .ok (.invokestatic idx, 3)) (hl1 : Cond.methodLink y.1.cls idx z.1 ∈ GT) (hz : XMs z n) (hn : as.length = n)
    (hstk : stk = as.reverse ++ st) (hw : (st.map fun v => v.category).sum ≤ 8) (hC : XC E z d' mc' ms' as sh I R L Q') (hdd : d' + 1 ≤ d) (hm1 : mc' + kc' ≤ kc) (hm2 : ms' + ks' ≤ ks)
    (kk : ∀ (v : Option Value) (sh' : XSh) (I' : XI) (R' : XRf) (L' : XL), Q' v sh' I' R' L' → XV E y d mc ms Q kc' ks' q ls (v.toList ++ st) sh' I' R' L') : XV E y d mc ms Q kc ks pc ls stk sh I R L := by
  subst hq; subst hstk
  intro p e s m args below meth c H locs cells slots arr hB hR hS hc hk hl0 hl
  obtain ⟨hzt, hz2⟩ := hz
  refine xv_after (mc' := mc') (ms' := ms') (a := (as.map (sv E)).toArray) ?_ hB hR hS (by omega) (by omega) hl0 hl kk
  refine va_runS (As := as.map (sv E)) (own := y.1.cls) (Ts := xws y) (n := n) (nL := y.2.2.1) ⟨hB.1, hB.2.1, hB.2.2.2.1, hB.2.2.2.2.1, hB.2.2.2.2.2.1⟩ hC (va_cwS n hB.2.2.2.2.2.1 (gt_sub (fun w hw => ?_) _) rfl rfl rfl hzt.2.2.1 ⟨hdd, ?_⟩) ⟨xpc_blind, fun U hU hW => ⟨rfl, by show XR E sh I R L U U.heap; rw [hU]; exact hR.warm hW⟩⟩ rfl (by rw [List.length_map]; exact hn) (by rw [← hl0]; exact hl.1) (by simp [List.map_reverse]) (lv_room (by rw [sv_cats]; exact hw)) hd ⟨by show _ ≤ mc; omega, by show _ ≤ ms; omega⟩
  · unfold va_wsS at hw
    rcases List.mem_append.mp hw with h | h
    · simp only [List.mem_cons, List.not_mem_nil, or_false] at h
      rcases h with rfl | rfl | rfl
      · exact hl1
      · exact hz2
      · exact hzt.2.1
    · exact gt_xws hzt w h
  · show 8 + (z.2.2.1 + 11) + 64 * d' ≤ 64 * d
    have := hzt.2.2.2
    omega
theorem xv_callI {z : XM} {idx n k d' mc' ms' kc' ks' : Nat} {as stk : List Value} {Q' : XQ} (hq : pc + 3 = q) (hd : decode y.2.1 pc = .ok (.invokespecial idx, 3)) (hl1 : Cond.methodLink y.1.cls idx z.1 ∈ GT) (hz : XMi z n) (hn : as.length = n)
    (hstk : stk = as.reverse ++ .ref k :: st) (hw : (st.map fun v => v.category).sum ≤ 8) (hC : XC E z d' mc' ms' (.ref k :: as) sh I R L Q') (hdd : d' + 1 ≤ d) (hm1 : mc' + kc' ≤ kc) (hm2 : ms' + ks' ≤ ks)
    (kk : ∀ (v : Option Value) (sh' : XSh) (I' : XI) (R' : XRf) (L' : XL), Q' v sh' I' R' L' → XV E y d mc ms Q kc' ks' q ls (v.toList ++ st) sh' I' R' L') : XV E y d mc ms Q kc ks pc ls stk sh I R L := by
  subst hq; subst hstk
  intro p e s m args below meth c H locs cells slots arr hB hR hS hc hk hl0 hl
  obtain ⟨hzt, hz2, hz3, hz4⟩ := hz
  have hm : ∀ {w : Cond}, w ∈ GT → w.before args s = true := fun h => hB.2.2.2.2.2.1 _ (List.mem_cons_of_mem _ h)
  refine xv_after (mc' := mc') (ms' := ms') (a := (Value.ref (xN E + k) :: as.map (sv E)).toArray) ?_ hB hR hS (by omega) (by omega) hl0 hl kk
  refine va_runI (As := as.map (sv E)) (own := y.1.cls) (Ts := xws y) (n := n) (nL := y.2.2.1) ⟨hB.1, hB.2.1, hB.2.2.2.1, hB.2.2.2.2.1, hB.2.2.2.2.2.1⟩ hC (cwI n hB.2.2.2.2.2.1 (gt_sub (gt_xws hzt) _) (show xws z = Cond.code z.1 z.2.1 z.2.2.1 none :: GT by unfold xws; rw [hz4]) rfl rfl (hm hzt.2.1) (hm hl1) (hm hz3) hz2 hzt.2.2.1 ⟨hdd, ?_⟩) ⟨xpc_blind, fun U hU hW => ⟨rfl, by show XR E sh I R L U U.heap; rw [hU]; exact hR.warm hW⟩⟩ rfl (by rw [List.length_map]; exact hn) (by rw [← hl0]; exact hl.1) (by simp [List.map_reverse, sv]) (lv_room (by rw [sv_cats]; exact hw)) hd ⟨by show _ ≤ mc; omega, by show _ ≤ ms; omega⟩
  show 8 + (z.2.2.1 + 11) + 64 * d' ≤ 64 * d
  have := hzt.2.2.2
  omega
/-- a nest mate's private constructor -/
theorem xv_callN {z : XM} {idx n k d' mc' ms' kc' ks' : Nat} {host : String} {as stk : List Value} {Q' : XQ} (hq : pc + 3 = q) (hd : decode y.2.1 pc = .ok (.invokespecial idx, 3)) (hl1 : (y.1.cls, idx, z.1, host) ∈ xnest) (hz : XMi z n) (hn : as.length = n)
    (hstk : stk = as.reverse ++ .ref k :: st) (hw : (st.map fun v => v.category).sum ≤ 8) (hC : XC E z d' mc' ms' (.ref k :: as) sh I R L Q') (hdd : d' + 1 ≤ d) (hm1 : mc' + kc' ≤ kc) (hm2 : ms' + ks' ≤ ks)
    (kk : ∀ (v : Option Value) (sh' : XSh) (I' : XI) (R' : XRf) (L' : XL), Q' v sh' I' R' L' → XV E y d mc ms Q kc' ks' q ls (v.toList ++ st) sh' I' R' L') : XV E y d mc ms Q kc ks pc ls stk sh I R L := by
  subst hq; subst hstk
  intro p e s m args below meth c H locs cells slots arr hB hR hS hc hk hl0 hl
  obtain ⟨hzt, hz2, hz3, hz4⟩ := hz
  have hm : ∀ {w : Cond}, w ∈ GT → w.before args s = true := fun h => hB.2.2.2.2.2.1 _ (List.mem_cons_of_mem _ h)
  refine xv_after (mc' := mc') (ms' := ms') (a := (Value.ref (xN E + k) :: as.map (sv E)).toArray) ?_ hB hR hS (by omega) (by omega) hl0 hl kk
  refine va_runIN (As := as.map (sv E)) (own := y.1.cls) (host := host) (Ts := xws y) (n := n) (nL := y.2.2.1) ⟨hB.1, hB.2.1, hB.2.2.2.1, hB.2.2.2.2.1, hB.2.2.2.2.2.1⟩ hC ⟨va_cnB n hB.2.2.2.2.2.1 (gt_sub (gt_xws hzt) _) (show xws z = Cond.code z.1 z.2.1 z.2.2.1 none :: GT by unfold xws; rw [hz4]) rfl rfl (hR.2.2.2.2.2.2.2.2.1 _ hl1) (hm hzt.2.1) hzt.2.2.1 ⟨hdd, ?_⟩, hz2, hm hz3⟩ ⟨xpc_blind, fun U hU hW => ⟨rfl, by show XR E sh I R L U U.heap; rw [hU]; exact hR.warm hW⟩⟩ rfl (by rw [List.length_map]; exact hn) (by rw [← hl0]; exact hl.1) (by simp [List.map_reverse, sv]) (lv_room (by rw [sv_cats]; exact hw)) hd ⟨by show _ ≤ mc; omega, by show _ ≤ ms; omega⟩
  show 8 + (z.2.2.1 + 11) + 64 * d' ≤ 64 * d
  have := hzt.2.2.2
  omega
end XCALL
/-! entries -/
def xen : List Value → List (Option Value)
  | [] => []
  | .long v :: vs => some (.long v) :: none :: xen vs
  | .double v :: vs => some (.double v) :: none :: xen vs
  | v :: vs => some v :: xen vs
theorem xen_cons (v : Value) (vs : List Value) : xen (v :: vs) = if v.category = 2 then some v :: none :: xen vs else some v :: xen vs := by cases v <;> rfl
def xent (n : Nat) (as : List Value) : List (Option Value) := xen as ++ List.replicate (n - (xen as).length) none
theorem lg_rep (n j : Nat) : lg (List.replicate n none) j = none := by
  induction n generalizing j with
  | zero => rfl
  | succ n ih => cases j <;> simp [List.replicate_succ, lg, ih]
theorem lg_app : ∀ (a b : List (Option Value)) (j : Nat), lg (a ++ b) j = if j < a.length then lg a j else lg b (j - a.length)
  | [], b, j => by simp
  | x :: xs, b, 0 => by simp [lg]
  | x :: xs, b, j + 1 => by
    have h := lg_app xs b j
    simp only [List.cons_append, lg, h, List.length_cons]
    simp
theorem xen_args (E : XE) : ∀ (as : List Value) (i j : Nat) (v : Value), lg (xen as) j = some v → (i + j, sv E v) ∈ lv_args i (as.map (sv E))
  | [], i, j, v, h => by simp [xen, lg] at h
  | a :: as, i, j, v, h => by
    rw [xen_cons] at h
    show _ ∈ (i, sv E a) :: lv_args (if (sv E a).category = 2 then i + 2 else i + 1) (as.map (sv E))
    rw [sv_cat]
    by_cases hc : a.category = 2
    · rw [if_pos hc] at h ⊢
      match j, h with
      | 0, h => cases h; exact List.mem_cons_self
      | 1, h => cases h
      | j + 2, h =>
        have := xen_args E as (i + 2) j v h
        rw [show i + (j + 2) = i + 2 + j by omega]
        exact List.mem_cons_of_mem _ this
    · rw [if_neg hc] at h ⊢
      match j, h with
      | 0, h => cases h; exact List.mem_cons_self
      | j + 1, h =>
        have := xen_args E as (i + 1) j v h
        rw [show i + (j + 1) = i + 1 + j by omega]
        exact List.mem_cons_of_mem _ this
theorem xen_len (E : XE) : ∀ as : List Value, (lg_sl (as.map (sv E))).length = (xen as).length
  | [] => rfl
  | a :: as => by
    have ih := xen_len E as
    unfold lg_sl at ih ⊢
    rw [xen_cons, List.map_cons, List.flatMap_cons, List.length_append, ih, sv_cat]
    by_cases hc : a.category = 2
    · rw [if_pos hc, if_pos hc]; simp; omega
    · rw [if_neg hc, if_neg hc]; simp; omega
theorem XC.of {E : XE} {y : XM} {d mc ms : Nat} {as : List Value} {ls : List (Option Value)} {sh : XSh} {I : XI} {R : XRf} {L : XL} {Q : XQ} (hy : plainName y.1.cls = true) (hls : xent y.2.2.1 as = ls) (hn : Nat.ble (xen as).length y.2.2.1 = true) (k : XV E y d mc ms Q mc ms 0 ls [] sh I R L) : XC E y d mc ms as sh I R L Q := by
  subst hls
  have hle : (xen as).length ≤ y.2.2.1 := Nat.le_of_ble_eq_true hn
  refine Met.ofW (cc := y.2.1) (maxL := y.2.2.1) (ret := y.2.2.2) hy rfl ?_
  intro p e s m args below meth c s₁ B hml hv
  obtain ⟨rfl, hR⟩ := hv
  have hl := lv_entry (as.map (sv E)) (n := y.2.2.1) (by rw [xen_len]; exact hle)
  rw [lg_entry_eq]
  generalize (lg_sl (as.map (sv E)) ++ List.replicate (y.2.2.1 - (lg_sl (as.map (sv E))).length) Slot.unset).toArray = arr at hl ⊢
  have hlen : (xent y.2.2.1 as).length = y.2.2.1 := by unfold xent; rw [List.length_append, List.length_replicate]; omega
  refine k p e s m _ below meth c s.heap [] 0 0 arr ⟨B.exec, B.bytes, B.returns, hml, findClass_of_methodNamed B.named, atoms_spec (ws := xws y) B.pre, B.notSynchronized, (name_of_methodNamed B.named B.method).1, by rw [hR.2.2.2.1]; omega⟩ hR va_S.rf (by omega) (by omega) hlen ⟨by rw [hlen]; exact hl.1, hl.2.1, fun i v h => ?_⟩
  unfold xent at h
  rw [lg_app] at h
  split at h
  · have := xen_args E as 0 i v h
    rw [Nat.zero_add] at this
    exact hl.2.2 _ this
  · rw [lg_rep] at h; cases h
end
section
set_option maxRecDepth 20000 in
theorem gt_t1 {w : Cond} (i : Nat) (h : tables_1_1[i]? = some w) (hg : goodWord w = true) : w ∈ GT := gt_in (List.mem_append_right _ (show w ∈ tables_1_1 ++ (tables_1_2 ++ (tables_1_3 ++ (tables_1_4 ++ tables_1_5))) from List.mem_append_left _ (List.mem_of_getElem? h))) hg
set_option maxRecDepth 20000 in
theorem gt_t2 {w : Cond} (i : Nat) (h : tables_1_2[i]? = some w) (hg : goodWord w = true) : w ∈ GT := gt_in (List.mem_append_right _ (show w ∈ tables_1_1 ++ (tables_1_2 ++ (tables_1_3 ++ (tables_1_4 ++ tables_1_5))) from List.mem_append_right _ (List.mem_append_left _ (List.mem_of_getElem? h)))) hg
set_option maxRecDepth 20000 in
theorem gt_t3 {w : Cond} (i : Nat) (h : tables_1_3[i]? = some w) (hg : goodWord w = true) : w ∈ GT := gt_in (List.mem_append_right _ (show w ∈ tables_1_1 ++ (tables_1_2 ++ (tables_1_3 ++ (tables_1_4 ++ tables_1_5))) from List.mem_append_right _ (List.mem_append_right _ (List.mem_append_left _ (List.mem_of_getElem? h))))) hg
set_option maxRecDepth 20000 in
theorem gt_t4 {w : Cond} (i : Nat) (h : tables_1_4[i]? = some w) (hg : goodWord w = true) : w ∈ GT := gt_in (List.mem_append_right _ (show w ∈ tables_1_1 ++ (tables_1_2 ++ (tables_1_3 ++ (tables_1_4 ++ tables_1_5))) from List.mem_append_right _ (List.mem_append_right _ (List.mem_append_right _ (List.mem_append_left _ (List.mem_of_getElem? h)))))) hg
set_option maxRecDepth 20000 in
theorem gt_t5 {w : Cond} (i : Nat) (h : tables_1_5[i]? = some w) (hg : goodWord w = true) : w ∈ GT := gt_in (List.mem_append_right _ (show w ∈ tables_1_1 ++ (tables_1_2 ++ (tables_1_3 ++ (tables_1_4 ++ tables_1_5))) from List.mem_append_right _ (List.mem_append_right _ (List.mem_append_right _ (List.mem_append_right _ (List.mem_of_getElem? h)))))) hg
set_option maxRecDepth 20000 in
theorem inX0 : ∀ w ∈ u_ws RX0 TX0 10, w ∈ GT := by
  intro w hw
  have h : (u_ws RX0 TX0 10) = [61, 63, 65, 67, 69, 71, 73, 75, 77, 79].filterMap (fun i => tables_1[i]?) := by decide +kernel
  have hg : (u_ws RX0 TX0 10).all goodWord = true := by decide +kernel
  have hg1 := List.all_eq_true.mp hg w hw
  rw [h] at hw
  obtain ⟨i, -, hi⟩ := List.mem_filterMap.mp hw
  exact gt_tb i hi hg1
set_option maxRecDepth 20000 in
theorem nfX0 : ∀ k, k < 10 → xft 0 k ≠ .float ∧ xft 0 k ≠ .double := by decide +kernel
set_option maxRecDepth 20000 in
theorem tyX0_x : ∀ k, k < 10 → parseFieldDescriptor (TX0 k).2.2.1 = some (xft 0 k) := tyX0_ok
set_option maxRecDepth 20000 in
theorem inX1 : ∀ w ∈ u_ws RX1 TX1 9, w ∈ GT := by
  intro w hw
  have h : (u_ws RX1 TX1 9) = [101, 103, 105, 107, 109, 111, 113, 115, 117].filterMap (fun i => tables_1[i]?) := by decide +kernel
  have hg : (u_ws RX1 TX1 9).all goodWord = true := by decide +kernel
  have hg1 := List.all_eq_true.mp hg w hw
  rw [h] at hw
  obtain ⟨i, -, hi⟩ := List.mem_filterMap.mp hw
  exact gt_tb i hi hg1
set_option maxRecDepth 20000 in
theorem nfX1 : ∀ k, k < 9 → xft 1 k ≠ .float ∧ xft 1 k ≠ .double := by decide +kernel
set_option maxRecDepth 20000 in
theorem tyX1_x : ∀ k, k < 9 → parseFieldDescriptor (TX1 k).2.2.1 = some (xft 1 k) := tyX1_ok
set_option maxRecDepth 20000 in
theorem inX2 : ∀ w ∈ u_ws RX2 TX2 5, w ∈ GT := by
  intro w hw
  have h : (u_ws RX2 TX2 5) = [185, 187, 189, 191, 193].filterMap (fun i => tables_1[i]?) := by decide +kernel
  have hg : (u_ws RX2 TX2 5).all goodWord = true := by decide +kernel
  have hg1 := List.all_eq_true.mp hg w hw
  rw [h] at hw
  obtain ⟨i, -, hi⟩ := List.mem_filterMap.mp hw
  exact gt_tb i hi hg1
set_option maxRecDepth 20000 in
theorem nfX2 : ∀ k, k < 5 → xft 2 k ≠ .float ∧ xft 2 k ≠ .double := by decide +kernel
set_option maxRecDepth 20000 in
theorem tyX2_x : ∀ k, k < 5 → parseFieldDescriptor (TX2 k).2.2.1 = some (xft 2 k) := tyX2_ok
set_option maxRecDepth 20000 in
theorem inX3 : ∀ w ∈ u_ws RX3 TX3 3, w ∈ GT := by
  intro w hw
  have h : (u_ws RX3 TX3 3) = [219, 221, 223].filterMap (fun i => tables_1[i]?) := by decide +kernel
  have hg : (u_ws RX3 TX3 3).all goodWord = true := by decide +kernel
  have hg1 := List.all_eq_true.mp hg w hw
  rw [h] at hw
  obtain ⟨i, -, hi⟩ := List.mem_filterMap.mp hw
  exact gt_tb i hi hg1
set_option maxRecDepth 20000 in
theorem nfX3 : ∀ k, k < 3 → xft 3 k ≠ .float ∧ xft 3 k ≠ .double := by decide +kernel
set_option maxRecDepth 20000 in
theorem tyX3_x : ∀ k, k < 3 → parseFieldDescriptor (TX3 k).2.2.1 = some (xft 3 k) := tyX3_ok
set_option maxRecDepth 20000 in
theorem inX4 : ∀ w ∈ u_ws RX4 TX4 2, w ∈ GT := by
  intro w hw
  have h : (u_ws RX4 TX4 2) = [203, 205].filterMap (fun i => tables_1[i]?) := by decide +kernel
  have hg : (u_ws RX4 TX4 2).all goodWord = true := by decide +kernel
  have hg1 := List.all_eq_true.mp hg w hw
  rw [h] at hw
  obtain ⟨i, -, hi⟩ := List.mem_filterMap.mp hw
  exact gt_tb i hi hg1
set_option maxRecDepth 20000 in
theorem nfX4 : ∀ k, k < 2 → xft 4 k ≠ .float ∧ xft 4 k ≠ .double := by decide +kernel
set_option maxRecDepth 20000 in
theorem tyX4_x : ∀ k, k < 2 → parseFieldDescriptor (TX4 k).2.2.1 = some (xft 4 k) := tyX4_ok
set_option maxRecDepth 20000 in
theorem inX5 : ∀ w ∈ u_ws RX5 TX5 12, w ∈ GT := by
  intro w hw
  have h : (u_ws RX5 TX5 12) = [146, 148, 150, 152, 154, 156, 158, 160, 162, 164, 166, 168].filterMap (fun i => tables_1[i]?) := by decide +kernel
  have hg : (u_ws RX5 TX5 12).all goodWord = true := by decide +kernel
  have hg1 := List.all_eq_true.mp hg w hw
  rw [h] at hw
  obtain ⟨i, -, hi⟩ := List.mem_filterMap.mp hw
  exact gt_tb i hi hg1
set_option maxRecDepth 20000 in
theorem nfX5 : ∀ k, k < 12 → xft 5 k ≠ .float ∧ xft 5 k ≠ .double := by decide +kernel
set_option maxRecDepth 20000 in
theorem tyX5_x : ∀ k, k < 12 → parseFieldDescriptor (TX5 k).2.2.1 = some (xft 5 k) := tyX5_ok
set_option maxRecDepth 20000 in
theorem inX6 : ∀ w ∈ u_ws RX6 TX6 9, w ∈ GT := by
  intro w hw
  have h : (u_ws RX6 TX6 9) = [235, 237, 239, 241, 243, 245, 247, 249, 251].filterMap (fun i => tables_1[i]?) := by decide +kernel
  have hg : (u_ws RX6 TX6 9).all goodWord = true := by decide +kernel
  have hg1 := List.all_eq_true.mp hg w hw
  rw [h] at hw
  obtain ⟨i, -, hi⟩ := List.mem_filterMap.mp hw
  exact gt_tb i hi hg1
set_option maxRecDepth 20000 in
theorem nfX6 : ∀ k, k < 9 → xft 6 k ≠ .float ∧ xft 6 k ≠ .double := by decide +kernel
set_option maxRecDepth 20000 in
theorem tyX6_x : ∀ k, k < 9 → parseFieldDescriptor (TX6 k).2.2.1 = some (xft 6 k) := tyX6_ok
set_option maxRecDepth 20000 in
theorem inX7 : ∀ w ∈ u_ws RX7 TX7 49, w ∈ GT := by
  intro w hw
  have h : (u_ws RX7 TX7 49) = [768, 770, 772, 774, 776, 778, 780, 782, 784, 786, 788, 790, 792, 794, 796, 798, 800, 802, 804, 806, 808, 810, 812, 814, 816, 818, 820, 822, 824, 826, 828, 830, 832, 834, 836, 838, 840, 842, 844, 846, 848, 850, 852, 854, 856, 858, 860, 862, 864].filterMap (fun i => tables_1[i]?) := by decide +kernel
  have hg : (u_ws RX7 TX7 49).all goodWord = true := by decide +kernel
  have hg1 := List.all_eq_true.mp hg w hw
  rw [h] at hw
  obtain ⟨i, -, hi⟩ := List.mem_filterMap.mp hw
  exact gt_tb i hi hg1
set_option maxRecDepth 20000 in
theorem nfX7 : ∀ k, k < 49 → xft 7 k ≠ .float ∧ xft 7 k ≠ .double := by decide +kernel
set_option maxRecDepth 20000 in
theorem tyX7_x : ∀ k, k < 49 → parseFieldDescriptor (TX7 k).2.2.1 = some (xft 7 k) := tyX7_ok
set_option maxRecDepth 20000 in
theorem f_X0_9 : XF RX0 9 0 10 0 true (.array .int) := ⟨RX0, TX0, rfl, by decide, gt_t1 31 rfl rfl, inX0, tyX0_x, nmX0, rfl, rfl, by decide, rfl⟩
set_option maxRecDepth 20000 in
theorem f_X6_105 : XF RX6 105 0 10 0 true (.array .int) := ⟨RX0, TX0, rfl, by decide, gt_t1 32 rfl rfl, inX0, tyX0_x, nmX0, rfl, rfl, by decide, rfl⟩
set_option maxRecDepth 20000 in
theorem f_X0_15 : XF RX0 15 0 10 1 true (.array .int) := ⟨RX0, TX0, rfl, by decide, gt_t1 33 rfl rfl, inX0, tyX0_x, nmX0, rfl, rfl, by decide, rfl⟩
set_option maxRecDepth 20000 in
theorem f_X6_108 : XF RX6 108 0 10 1 true (.array .int) := ⟨RX0, TX0, rfl, by decide, gt_t1 34 rfl rfl, inX0, tyX0_x, nmX0, rfl, rfl, by decide, rfl⟩
set_option maxRecDepth 20000 in
theorem f_X5_128 : XF RX5 128 0 10 1 true (.array .int) := ⟨RX0, TX0, rfl, by decide, gt_t1 35 rfl rfl, inX0, tyX0_x, nmX0, rfl, rfl, by decide, rfl⟩
set_option maxRecDepth 20000 in
theorem f_X0_18 : XF RX0 18 0 10 2 true (.array .int) := ⟨RX0, TX0, rfl, by decide, gt_t1 36 rfl rfl, inX0, tyX0_x, nmX0, rfl, rfl, by decide, rfl⟩
set_option maxRecDepth 20000 in
theorem f_X6_91 : XF RX6 91 0 10 2 true (.array .int) := ⟨RX0, TX0, rfl, by decide, gt_t1 37 rfl rfl, inX0, tyX0_x, nmX0, rfl, rfl, by decide, rfl⟩
set_option maxRecDepth 20000 in
theorem f_X5_91 : XF RX5 91 0 10 2 true (.array .int) := ⟨RX0, TX0, rfl, by decide, gt_t1 38 rfl rfl, inX0, tyX0_x, nmX0, rfl, rfl, by decide, rfl⟩
set_option maxRecDepth 20000 in
theorem f_X0_21 : XF RX0 21 0 10 3 true (.array .int) := ⟨RX0, TX0, rfl, by decide, gt_t1 39 rfl rfl, inX0, tyX0_x, nmX0, rfl, rfl, by decide, rfl⟩
set_option maxRecDepth 20000 in
theorem f_X5_76 : XF RX5 76 0 10 3 true (.array .int) := ⟨RX0, TX0, rfl, by decide, gt_t1 40 rfl rfl, inX0, tyX0_x, nmX0, rfl, rfl, by decide, rfl⟩
set_option maxRecDepth 20000 in
theorem f_X6_111 : XF RX6 111 0 10 3 true (.array .int) := ⟨RX0, TX0, rfl, by decide, gt_t1 41 rfl rfl, inX0, tyX0_x, nmX0, rfl, rfl, by decide, rfl⟩
set_option maxRecDepth 20000 in
theorem f_X0_24 : XF RX0 24 0 10 4 true (.array .int) := ⟨RX0, TX0, rfl, by decide, gt_t1 42 rfl rfl, inX0, tyX0_x, nmX0, rfl, rfl, by decide, rfl⟩
set_option maxRecDepth 20000 in
theorem f_X5_79 : XF RX5 79 0 10 4 true (.array .int) := ⟨RX0, TX0, rfl, by decide, gt_t1 43 rfl rfl, inX0, tyX0_x, nmX0, rfl, rfl, by decide, rfl⟩
set_option maxRecDepth 20000 in
theorem f_X6_114 : XF RX6 114 0 10 4 true (.array .int) := ⟨RX0, TX0, rfl, by decide, gt_t1 44 rfl rfl, inX0, tyX0_x, nmX0, rfl, rfl, by decide, rfl⟩
set_option maxRecDepth 20000 in
theorem f_X0_27 : XF RX0 27 0 10 5 true (.array .int) := ⟨RX0, TX0, rfl, by decide, gt_t1 45 rfl rfl, inX0, tyX0_x, nmX0, rfl, rfl, by decide, rfl⟩
set_option maxRecDepth 20000 in
theorem f_X2_56 : XF RX2 56 0 10 5 true (.array .int) := ⟨RX0, TX0, rfl, by decide, gt_t1 46 rfl rfl, inX0, tyX0_x, nmX0, rfl, rfl, by decide, rfl⟩
set_option maxRecDepth 20000 in
theorem f_X5_88 : XF RX5 88 0 10 5 true (.array .int) := ⟨RX0, TX0, rfl, by decide, gt_t1 47 rfl rfl, inX0, tyX0_x, nmX0, rfl, rfl, by decide, rfl⟩
set_option maxRecDepth 20000 in
theorem f_X6_117 : XF RX6 117 0 10 5 true (.array .int) := ⟨RX0, TX0, rfl, by decide, gt_t1 48 rfl rfl, inX0, tyX0_x, nmX0, rfl, rfl, by decide, rfl⟩
set_option maxRecDepth 20000 in
theorem f_X0_30 : XF RX0 30 0 10 6 true (.array .int) := ⟨RX0, TX0, rfl, by decide, gt_t1 49 rfl rfl, inX0, tyX0_x, nmX0, rfl, rfl, by decide, rfl⟩
set_option maxRecDepth 20000 in
theorem f_X6_120 : XF RX6 120 0 10 6 true (.array .int) := ⟨RX0, TX0, rfl, by decide, gt_t1 50 rfl rfl, inX0, tyX0_x, nmX0, rfl, rfl, by decide, rfl⟩
set_option maxRecDepth 20000 in
theorem f_X0_47 : XF RX0 47 0 10 7 false .int := ⟨RX0, TX0, rfl, by decide, gt_t1 51 rfl rfl, inX0, tyX0_x, nmX0, rfl, rfl, by decide, rfl⟩
set_option maxRecDepth 20000 in
theorem f_X5_63 : XF RX5 63 0 10 7 false .int := ⟨RX0, TX0, rfl, by decide, gt_t1 52 rfl rfl, inX0, tyX0_x, nmX0, rfl, rfl, by decide, rfl⟩
set_option maxRecDepth 20000 in
theorem f_X2_44 : XF RX2 44 0 10 7 false .int := ⟨RX0, TX0, rfl, by decide, gt_t1 53 rfl rfl, inX0, tyX0_x, nmX0, rfl, rfl, by decide, rfl⟩
set_option maxRecDepth 20000 in
theorem f_X6_102 : XF RX6 102 0 10 7 false .int := ⟨RX0, TX0, rfl, by decide, gt_t1 54 rfl rfl, inX0, tyX0_x, nmX0, rfl, rfl, by decide, rfl⟩
set_option maxRecDepth 20000 in
theorem f_X0_33 : XF RX0 33 0 10 8 false .int := ⟨RX0, TX0, rfl, by decide, gt_t1 55 rfl rfl, inX0, tyX0_x, nmX0, rfl, rfl, by decide, rfl⟩
set_option maxRecDepth 20000 in
theorem f_X5_102 : XF RX5 102 0 10 8 false .int := ⟨RX0, TX0, rfl, by decide, gt_t1 56 rfl rfl, inX0, tyX0_x, nmX0, rfl, rfl, by decide, rfl⟩
set_option maxRecDepth 20000 in
theorem f_X6_130 : XF RX6 130 0 10 8 false .int := ⟨RX0, TX0, rfl, by decide, gt_t1 57 rfl rfl, inX0, tyX0_x, nmX0, rfl, rfl, by decide, rfl⟩
set_option maxRecDepth 20000 in
theorem f_X5_56 : XF RX5 56 0 10 9 false .int := ⟨RX0, TX0, rfl, by decide, gt_t1 58 rfl rfl, inX0, tyX0_x, nmX0, rfl, rfl, by decide, rfl⟩
set_option maxRecDepth 20000 in
theorem f_X0_50 : XF RX0 50 0 10 9 false .int := ⟨RX0, TX0, rfl, by decide, gt_t1 59 rfl rfl, inX0, tyX0_x, nmX0, rfl, rfl, by decide, rfl⟩
set_option maxRecDepth 20000 in
theorem f_X6_150 : XF RX6 150 0 10 9 false .int := ⟨RX0, TX0, rfl, by decide, gt_t1 60 rfl rfl, inX0, tyX0_x, nmX0, rfl, rfl, by decide, rfl⟩
set_option maxRecDepth 20000 in
theorem f_X1_9 : XF RX1 9 1 9 0 true (.array .int) := ⟨RX1, TX1, rfl, by decide, gt_t1 89 rfl rfl, inX1, tyX1_x, nmX1, rfl, rfl, by decide, rfl⟩
set_option maxRecDepth 20000 in
theorem f_X6_136 : XF RX6 136 1 9 0 true (.array .int) := ⟨RX1, TX1, rfl, by decide, gt_t1 90 rfl rfl, inX1, tyX1_x, nmX1, rfl, rfl, by decide, rfl⟩
set_option maxRecDepth 20000 in
theorem f_X1_72 : XF RX1 72 1 9 1 false .int := ⟨RX1, TX1, rfl, by decide, gt_t1 91 rfl rfl, inX1, tyX1_x, nmX1, rfl, rfl, by decide, rfl⟩
set_option maxRecDepth 20000 in
theorem f_X6_133 : XF RX6 133 1 9 1 false .int := ⟨RX1, TX1, rfl, by decide, gt_t1 92 rfl rfl, inX1, tyX1_x, nmX1, rfl, rfl, by decide, rfl⟩
set_option maxRecDepth 20000 in
theorem f_X1_75 : XF RX1 75 1 9 2 false .int := ⟨RX1, TX1, rfl, by decide, gt_t1 93 rfl rfl, inX1, tyX1_x, nmX1, rfl, rfl, by decide, rfl⟩
set_option maxRecDepth 20000 in
theorem f_X6_143 : XF RX6 143 1 9 2 false .int := ⟨RX1, TX1, rfl, by decide, gt_t1 94 rfl rfl, inX1, tyX1_x, nmX1, rfl, rfl, by decide, rfl⟩
set_option maxRecDepth 20000 in
theorem f_X1_21 : XF RX1 21 1 9 3 false .int := ⟨RX1, TX1, rfl, by decide, gt_t1 95 rfl rfl, inX1, tyX1_x, nmX1, rfl, rfl, by decide, rfl⟩
set_option maxRecDepth 20000 in
theorem f_X1_39 : XF RX1 39 1 9 4 false .int := ⟨RX1, TX1, rfl, by decide, gt_t1 96 rfl rfl, inX1, tyX1_x, nmX1, rfl, rfl, by decide, rfl⟩
set_option maxRecDepth 20000 in
theorem f_X1_69 : XF RX1 69 1 9 5 false .int := ⟨RX1, TX1, rfl, by decide, gt_t1 97 rfl rfl, inX1, tyX1_x, nmX1, rfl, rfl, by decide, rfl⟩
set_option maxRecDepth 20000 in
theorem f_X1_15 : XF RX1 15 1 9 6 true (.array .int) := ⟨RX1, TX1, rfl, by decide, gt_t1 98 rfl rfl, inX1, tyX1_x, nmX1, rfl, rfl, by decide, rfl⟩
set_option maxRecDepth 20000 in
theorem f_X1_25 : XF RX1 25 1 9 7 false .int := ⟨RX1, TX1, rfl, by decide, gt_t1 99 rfl rfl, inX1, tyX1_x, nmX1, rfl, rfl, by decide, rfl⟩
set_option maxRecDepth 20000 in
theorem f_X1_18 : XF RX1 18 1 9 8 true (.array .int) := ⟨RX1, TX1, rfl, by decide, gt_t1 100 rfl rfl, inX1, tyX1_x, nmX1, rfl, rfl, by decide, rfl⟩
set_option maxRecDepth 20000 in
theorem f_X5_12 : XF RX5 12 5 12 0 true (.object "GetsOutFirst$Crew") := ⟨RX5, TX5, rfl, by decide, gt_t1 132 rfl rfl, inX5, tyX5_x, nmX5, rfl, rfl, by decide, rfl⟩
set_option maxRecDepth 20000 in
theorem f_X2_53 : XF RX2 53 5 12 0 true (.object "GetsOutFirst$Crew") := ⟨RX5, TX5, rfl, by decide, gt_t1 133 rfl rfl, inX5, tyX5_x, nmX5, rfl, rfl, by decide, rfl⟩
set_option maxRecDepth 20000 in
theorem f_X6_184 : XF RX6 184 5 12 0 true (.object "GetsOutFirst$Crew") := ⟨RX5, TX5, rfl, by decide, gt_t1 134 rfl rfl, inX5, tyX5_x, nmX5, rfl, rfl, by decide, rfl⟩
set_option maxRecDepth 20000 in
theorem f_X5_45 : XF RX5 45 5 12 1 true (.object "GetsOutFirst$Crew") := ⟨RX5, TX5, rfl, by decide, gt_t1 135 rfl rfl, inX5, tyX5_x, nmX5, rfl, rfl, by decide, rfl⟩
set_option maxRecDepth 20000 in
theorem f_X5_48 : XF RX5 48 5 12 2 true (.array (.object "GetsOutFirst$Text")) := ⟨RX5, TX5, rfl, by decide, gt_t1 136 rfl rfl, inX5, tyX5_x, nmX5, rfl, rfl, by decide, rfl⟩
set_option maxRecDepth 20000 in
theorem f_X5_60 : XF RX5 60 5 12 3 false (.object "GetsOutFirst$Text") := ⟨RX5, TX5, rfl, by decide, gt_t1 137 rfl rfl, inX5, tyX5_x, nmX5, rfl, rfl, by decide, rfl⟩
set_option maxRecDepth 20000 in
theorem f_X5_18 : XF RX5 18 5 12 4 true (.array .int) := ⟨RX5, TX5, rfl, by decide, gt_t1 138 rfl rfl, inX5, tyX5_x, nmX5, rfl, rfl, by decide, rfl⟩
set_option maxRecDepth 20000 in
theorem f_X5_22 : XF RX5 22 5 12 5 true (.array .int) := ⟨RX5, TX5, rfl, by decide, gt_t1 139 rfl rfl, inX5, tyX5_x, nmX5, rfl, rfl, by decide, rfl⟩
set_option maxRecDepth 20000 in
theorem f_X5_25 : XF RX5 25 5 12 6 true (.array .int) := ⟨RX5, TX5, rfl, by decide, gt_t1 140 rfl rfl, inX5, tyX5_x, nmX5, rfl, rfl, by decide, rfl⟩
set_option maxRecDepth 20000 in
theorem f_X5_28 : XF RX5 28 5 12 7 true (.array .int) := ⟨RX5, TX5, rfl, by decide, gt_t1 141 rfl rfl, inX5, tyX5_x, nmX5, rfl, rfl, by decide, rfl⟩
set_option maxRecDepth 20000 in
theorem f_X5_31 : XF RX5 31 5 12 8 true (.array .int) := ⟨RX5, TX5, rfl, by decide, gt_t1 142 rfl rfl, inX5, tyX5_x, nmX5, rfl, rfl, by decide, rfl⟩
set_option maxRecDepth 20000 in
theorem f_X5_34 : XF RX5 34 5 12 9 true (.array .int) := ⟨RX5, TX5, rfl, by decide, gt_t1 143 rfl rfl, inX5, tyX5_x, nmX5, rfl, rfl, by decide, rfl⟩
set_option maxRecDepth 20000 in
theorem f_X5_39 : XF RX5 39 5 12 10 true (.array .int) := ⟨RX5, TX5, rfl, by decide, gt_t1 144 rfl rfl, inX5, tyX5_x, nmX5, rfl, rfl, by decide, rfl⟩
set_option maxRecDepth 20000 in
theorem f_X5_42 : XF RX5 42 5 12 11 true (.array .int) := ⟨RX5, TX5, rfl, by decide, gt_t1 145 rfl rfl, inX5, tyX5_x, nmX5, rfl, rfl, by decide, rfl⟩
set_option maxRecDepth 20000 in
theorem f_X2_15 : XF RX2 15 2 5 0 true (.object "GetsOutFirst$Crew") := ⟨RX2, TX2, rfl, by decide, gt_t1 177 rfl rfl, inX2, tyX2_x, nmX2, rfl, rfl, by decide, rfl⟩
set_option maxRecDepth 20000 in
theorem f_X2_19 : XF RX2 19 2 5 1 true (.object "GetsOutFirst$Trip") := ⟨RX2, TX2, rfl, by decide, gt_t1 178 rfl rfl, inX2, tyX2_x, nmX2, rfl, rfl, by decide, rfl⟩
set_option maxRecDepth 20000 in
theorem f_X2_23 : XF RX2 23 2 5 2 false .boolean := ⟨RX2, TX2, rfl, by decide, gt_t1 179 rfl rfl, inX2, tyX2_x, nmX2, rfl, rfl, by decide, rfl⟩
set_option maxRecDepth 20000 in
theorem f_X6_126 : XF RX6 126 2 5 2 false .boolean := ⟨RX2, TX2, rfl, by decide, gt_t1 180 rfl rfl, inX2, tyX2_x, nmX2, rfl, rfl, by decide, rfl⟩
set_option maxRecDepth 20000 in
theorem f_X2_36 : XF RX2 36 2 5 3 false .int := ⟨RX2, TX2, rfl, by decide, gt_t1 181 rfl rfl, inX2, tyX2_x, nmX2, rfl, rfl, by decide, rfl⟩
set_option maxRecDepth 20000 in
theorem f_X6_178 : XF RX6 178 2 5 3 false .int := ⟨RX2, TX2, rfl, by decide, gt_t1 182 rfl rfl, inX2, tyX2_x, nmX2, rfl, rfl, by decide, rfl⟩
set_option maxRecDepth 20000 in
theorem f_X2_9 : XF RX2 9 2 5 4 true (.array .int) := ⟨RX2, TX2, rfl, by decide, gt_t1 183 rfl rfl, inX2, tyX2_x, nmX2, rfl, rfl, by decide, rfl⟩
set_option maxRecDepth 20000 in
theorem f_X6_181 : XF RX6 181 2 5 4 true (.array .int) := ⟨RX2, TX2, rfl, by decide, gt_t1 184 rfl rfl, inX2, tyX2_x, nmX2, rfl, rfl, by decide, rfl⟩
set_option maxRecDepth 20000 in
theorem f_X4_9 : XF RX4 9 4 2 0 true (.array .int) := ⟨RX4, TX4, rfl, by decide, gt_t1 201 rfl rfl, inX4, tyX4_x, nmX4, rfl, rfl, by decide, rfl⟩
set_option maxRecDepth 20000 in
theorem f_X4_15 : XF RX4 15 4 2 1 true (.array .int) := ⟨RX4, TX4, rfl, by decide, gt_t1 202 rfl rfl, inX4, tyX4_x, nmX4, rfl, rfl, by decide, rfl⟩
set_option maxRecDepth 20000 in
theorem f_X3_9 : XF RX3 9 3 3 0 true (.array .int) := ⟨RX3, TX3, rfl, by decide, gt_t1 213 rfl rfl, inX3, tyX3_x, nmX3, rfl, rfl, by decide, rfl⟩
set_option maxRecDepth 20000 in
theorem f_X6_235 : XF RX6 235 3 3 0 true (.array .int) := ⟨RX3, TX3, rfl, by decide, gt_t1 214 rfl rfl, inX3, tyX3_x, nmX3, rfl, rfl, by decide, rfl⟩
set_option maxRecDepth 20000 in
theorem f_X3_19 : XF RX3 19 3 3 1 false .int := ⟨RX3, TX3, rfl, by decide, gt_t1 215 rfl rfl, inX3, tyX3_x, nmX3, rfl, rfl, by decide, rfl⟩
set_option maxRecDepth 20000 in
theorem f_X6_250 : XF RX6 250 3 3 1 false .int := ⟨RX3, TX3, rfl, by decide, gt_t1 216 rfl rfl, inX3, tyX3_x, nmX3, rfl, rfl, by decide, rfl⟩
set_option maxRecDepth 20000 in
theorem f_X3_15 : XF RX3 15 3 3 2 false .int := ⟨RX3, TX3, rfl, by decide, gt_t1 217 rfl rfl, inX3, tyX3_x, nmX3, rfl, rfl, by decide, rfl⟩
set_option maxRecDepth 20000 in
theorem f_X6_255 : XF RX6 255 3 3 2 false .int := ⟨RX3, TX3, rfl, by decide, gt_t1 218 rfl rfl, inX3, tyX3_x, nmX3, rfl, rfl, by decide, rfl⟩
set_option maxRecDepth 20000 in
theorem f_X6_10 : XF RX6 10 6 9 0 true (.object "GetsOutFirst$Crew") := ⟨RX6, TX6, rfl, by decide, gt_t1 226 rfl rfl, inX6, tyX6_x, nmX6, rfl, rfl, by decide, rfl⟩
set_option maxRecDepth 20000 in
theorem f_X6_16 : XF RX6 16 6 9 1 true (.object "GetsOutFirst$Crew") := ⟨RX6, TX6, rfl, by decide, gt_t1 227 rfl rfl, inX6, tyX6_x, nmX6, rfl, rfl, by decide, rfl⟩
set_option maxRecDepth 20000 in
theorem f_X6_244 : XF RX6 244 6 9 2 false .boolean := ⟨RX6, TX6, rfl, by decide, gt_t1 228 rfl rfl, inX6, tyX6_x, nmX6, rfl, rfl, by decide, rfl⟩
set_option maxRecDepth 20000 in
theorem f_X6_22 : XF RX6 22 6 9 3 true (.object "GetsOutFirst$Reader") := ⟨RX6, TX6, rfl, by decide, gt_t1 229 rfl rfl, inX6, tyX6_x, nmX6, rfl, rfl, by decide, rfl⟩
set_option maxRecDepth 20000 in
theorem f_X6_28 : XF RX6 28 6 9 4 true (.array (.object "GetsOutFirst$Text")) := ⟨RX6, TX6, rfl, by decide, gt_t1 230 rfl rfl, inX6, tyX6_x, nmX6, rfl, rfl, by decide, rfl⟩
set_option maxRecDepth 20000 in
theorem f_X6_59 : XF RX6 59 6 9 5 false .int := ⟨RX6, TX6, rfl, by decide, gt_t1 231 rfl rfl, inX6, tyX6_x, nmX6, rfl, rfl, by decide, rfl⟩
set_option maxRecDepth 20000 in
theorem f_X6_34 : XF RX6 34 6 9 6 true (.array (.object "GetsOutFirst$Sheet")) := ⟨RX6, TX6, rfl, by decide, gt_t1 232 rfl rfl, inX6, tyX6_x, nmX6, rfl, rfl, by decide, rfl⟩
set_option maxRecDepth 20000 in
theorem f_X6_43 : XF RX6 43 6 9 7 true (.object "GetsOutFirst$Trip") := ⟨RX6, TX6, rfl, by decide, gt_t1 233 rfl rfl, inX6, tyX6_x, nmX6, rfl, rfl, by decide, rfl⟩
set_option maxRecDepth 20000 in
theorem f_X6_52 : XF RX6 52 6 9 8 true (.object "GetsOutFirst$Seeker") := ⟨RX6, TX6, rfl, by decide, gt_t1 234 rfl rfl, inX6, tyX6_x, nmX6, rfl, rfl, by decide, rfl⟩
set_option maxRecDepth 20000 in
theorem f_X7_13 : XF RX7 13 7 49 1 true (.array .int) := ⟨RX7, TX7, rfl, by decide, gt_t4 0 rfl rfl, inX7, tyX7_x, nmX7, rfl, rfl, by decide, rfl⟩
set_option maxRecDepth 20000 in
theorem f_X7_17 : XF RX7 17 7 49 2 true (.array .int) := ⟨RX7, TX7, rfl, by decide, gt_t4 1 rfl rfl, inX7, tyX7_x, nmX7, rfl, rfl, by decide, rfl⟩
set_option maxRecDepth 20000 in
theorem f_X7_85 : XF RX7 85 7 49 3 false .int := ⟨RX7, TX7, rfl, by decide, gt_t4 2 rfl rfl, inX7, tyX7_x, nmX7, rfl, rfl, by decide, rfl⟩
set_option maxRecDepth 20000 in
theorem f_X7_247 : XF RX7 247 7 49 4 false .int := ⟨RX7, TX7, rfl, by decide, gt_t4 3 rfl rfl, inX7, tyX7_x, nmX7, rfl, rfl, by decide, rfl⟩
set_option maxRecDepth 20000 in
theorem f_X7_20 : XF RX7 20 7 49 5 true (.array .int) := ⟨RX7, TX7, rfl, by decide, gt_t4 4 rfl rfl, inX7, tyX7_x, nmX7, rfl, rfl, by decide, rfl⟩
set_option maxRecDepth 20000 in
theorem f_X7_130 : XF RX7 130 7 49 6 false .int := ⟨RX7, TX7, rfl, by decide, gt_t4 5 rfl rfl, inX7, tyX7_x, nmX7, rfl, rfl, by decide, rfl⟩
set_option maxRecDepth 20000 in
theorem f_X7_23 : XF RX7 23 7 49 7 false .int := ⟨RX7, TX7, rfl, by decide, gt_t4 6 rfl rfl, inX7, tyX7_x, nmX7, rfl, rfl, by decide, rfl⟩
set_option maxRecDepth 20000 in
theorem f_X7_26 : XF RX7 26 7 49 8 true (.array .int) := ⟨RX7, TX7, rfl, by decide, gt_t4 7 rfl rfl, inX7, tyX7_x, nmX7, rfl, rfl, by decide, rfl⟩
set_option maxRecDepth 20000 in
theorem f_X7_29 : XF RX7 29 7 49 9 true (.array .int) := ⟨RX7, TX7, rfl, by decide, gt_t4 8 rfl rfl, inX7, tyX7_x, nmX7, rfl, rfl, by decide, rfl⟩
set_option maxRecDepth 20000 in
theorem f_X7_32 : XF RX7 32 7 49 10 true (.array .int) := ⟨RX7, TX7, rfl, by decide, gt_t4 9 rfl rfl, inX7, tyX7_x, nmX7, rfl, rfl, by decide, rfl⟩
set_option maxRecDepth 20000 in
theorem f_X7_35 : XF RX7 35 7 49 11 true (.array .int) := ⟨RX7, TX7, rfl, by decide, gt_t4 10 rfl rfl, inX7, tyX7_x, nmX7, rfl, rfl, by decide, rfl⟩
set_option maxRecDepth 20000 in
theorem f_X7_38 : XF RX7 38 7 49 12 true (.array .int) := ⟨RX7, TX7, rfl, by decide, gt_t4 11 rfl rfl, inX7, tyX7_x, nmX7, rfl, rfl, by decide, rfl⟩
set_option maxRecDepth 20000 in
theorem f_X7_41 : XF RX7 41 7 49 13 true (.array .int) := ⟨RX7, TX7, rfl, by decide, gt_t4 12 rfl rfl, inX7, tyX7_x, nmX7, rfl, rfl, by decide, rfl⟩
set_option maxRecDepth 20000 in
theorem f_X7_44 : XF RX7 44 7 49 14 true (.array .int) := ⟨RX7, TX7, rfl, by decide, gt_t4 13 rfl rfl, inX7, tyX7_x, nmX7, rfl, rfl, by decide, rfl⟩
set_option maxRecDepth 20000 in
theorem f_X7_88 : XF RX7 88 7 49 15 false .int := ⟨RX7, TX7, rfl, by decide, gt_t4 14 rfl rfl, inX7, tyX7_x, nmX7, rfl, rfl, by decide, rfl⟩
set_option maxRecDepth 20000 in
theorem f_X7_189 : XF RX7 189 7 49 16 false .int := ⟨RX7, TX7, rfl, by decide, gt_t4 15 rfl rfl, inX7, tyX7_x, nmX7, rfl, rfl, by decide, rfl⟩
set_option maxRecDepth 20000 in
theorem f_X7_192 : XF RX7 192 7 49 17 false .int := ⟨RX7, TX7, rfl, by decide, gt_t4 16 rfl rfl, inX7, tyX7_x, nmX7, rfl, rfl, by decide, rfl⟩
set_option maxRecDepth 20000 in
theorem f_X7_195 : XF RX7 195 7 49 18 false .int := ⟨RX7, TX7, rfl, by decide, gt_t4 17 rfl rfl, inX7, tyX7_x, nmX7, rfl, rfl, by decide, rfl⟩
set_option maxRecDepth 20000 in
theorem f_X7_198 : XF RX7 198 7 49 19 false .int := ⟨RX7, TX7, rfl, by decide, gt_t4 18 rfl rfl, inX7, tyX7_x, nmX7, rfl, rfl, by decide, rfl⟩
set_option maxRecDepth 20000 in
theorem f_X7_201 : XF RX7 201 7 49 20 false .int := ⟨RX7, TX7, rfl, by decide, gt_t4 19 rfl rfl, inX7, tyX7_x, nmX7, rfl, rfl, by decide, rfl⟩
set_option maxRecDepth 20000 in
theorem f_X7_204 : XF RX7 204 7 49 21 false .int := ⟨RX7, TX7, rfl, by decide, gt_t4 20 rfl rfl, inX7, tyX7_x, nmX7, rfl, rfl, by decide, rfl⟩
set_option maxRecDepth 20000 in
theorem f_X7_136 : XF RX7 136 7 49 22 false .int := ⟨RX7, TX7, rfl, by decide, gt_t4 21 rfl rfl, inX7, tyX7_x, nmX7, rfl, rfl, by decide, rfl⟩
set_option maxRecDepth 20000 in
theorem f_X7_133 : XF RX7 133 7 49 23 false .int := ⟨RX7, TX7, rfl, by decide, gt_t4 22 rfl rfl, inX7, tyX7_x, nmX7, rfl, rfl, by decide, rfl⟩
set_option maxRecDepth 20000 in
theorem f_X7_139 : XF RX7 139 7 49 24 false .int := ⟨RX7, TX7, rfl, by decide, gt_t4 23 rfl rfl, inX7, tyX7_x, nmX7, rfl, rfl, by decide, rfl⟩
set_option maxRecDepth 20000 in
theorem f_X7_149 : XF RX7 149 7 49 25 false .int := ⟨RX7, TX7, rfl, by decide, gt_t4 24 rfl rfl, inX7, tyX7_x, nmX7, rfl, rfl, by decide, rfl⟩
set_option maxRecDepth 20000 in
theorem f_X7_146 : XF RX7 146 7 49 26 false .int := ⟨RX7, TX7, rfl, by decide, gt_t4 25 rfl rfl, inX7, tyX7_x, nmX7, rfl, rfl, by decide, rfl⟩
set_option maxRecDepth 20000 in
theorem f_X7_160 : XF RX7 160 7 49 27 false .long := ⟨RX7, TX7, rfl, by decide, gt_t4 26 rfl rfl, inX7, tyX7_x, nmX7, rfl, rfl, by decide, rfl⟩
set_option maxRecDepth 20000 in
theorem f_X7_176 : XF RX7 176 7 49 28 false .int := ⟨RX7, TX7, rfl, by decide, gt_t4 27 rfl rfl, inX7, tyX7_x, nmX7, rfl, rfl, by decide, rfl⟩
set_option maxRecDepth 20000 in
theorem f_X7_166 : XF RX7 166 7 49 29 false .boolean := ⟨RX7, TX7, rfl, by decide, gt_t4 28 rfl rfl, inX7, tyX7_x, nmX7, rfl, rfl, by decide, rfl⟩
set_option maxRecDepth 20000 in
theorem f_X7_170 : XF RX7 170 7 49 30 false .int := ⟨RX7, TX7, rfl, by decide, gt_t4 29 rfl rfl, inX7, tyX7_x, nmX7, rfl, rfl, by decide, rfl⟩
set_option maxRecDepth 20000 in
theorem f_X7_47 : XF RX7 47 7 49 31 true (.array .int) := ⟨RX7, TX7, rfl, by decide, gt_t4 30 rfl rfl, inX7, tyX7_x, nmX7, rfl, rfl, by decide, rfl⟩
set_option maxRecDepth 20000 in
theorem f_X7_50 : XF RX7 50 7 49 32 true (.array .int) := ⟨RX7, TX7, rfl, by decide, gt_t4 31 rfl rfl, inX7, tyX7_x, nmX7, rfl, rfl, by decide, rfl⟩
set_option maxRecDepth 20000 in
theorem f_X7_53 : XF RX7 53 7 49 33 true (.array .int) := ⟨RX7, TX7, rfl, by decide, gt_t4 32 rfl rfl, inX7, tyX7_x, nmX7, rfl, rfl, by decide, rfl⟩
set_option maxRecDepth 20000 in
theorem f_X7_254 : XF RX7 254 7 49 34 false .int := ⟨RX7, TX7, rfl, by decide, gt_t4 33 rfl rfl, inX7, tyX7_x, nmX7, rfl, rfl, by decide, rfl⟩
set_option maxRecDepth 20000 in
theorem f_X7_279 : XF RX7 279 7 49 35 false .int := ⟨RX7, TX7, rfl, by decide, gt_t4 34 rfl rfl, inX7, tyX7_x, nmX7, rfl, rfl, by decide, rfl⟩
set_option maxRecDepth 20000 in
theorem f_X7_282 : XF RX7 282 7 49 36 false .int := ⟨RX7, TX7, rfl, by decide, gt_t4 35 rfl rfl, inX7, tyX7_x, nmX7, rfl, rfl, by decide, rfl⟩
set_option maxRecDepth 20000 in
theorem f_X7_56 : XF RX7 56 7 49 37 true (.array .int) := ⟨RX7, TX7, rfl, by decide, gt_t4 36 rfl rfl, inX7, tyX7_x, nmX7, rfl, rfl, by decide, rfl⟩
set_option maxRecDepth 20000 in
theorem f_X7_59 : XF RX7 59 7 49 38 true (.array .int) := ⟨RX7, TX7, rfl, by decide, gt_t4 37 rfl rfl, inX7, tyX7_x, nmX7, rfl, rfl, by decide, rfl⟩
set_option maxRecDepth 20000 in
theorem f_X7_307 : XF RX7 307 7 49 39 false .int := ⟨RX7, TX7, rfl, by decide, gt_t4 38 rfl rfl, inX7, tyX7_x, nmX7, rfl, rfl, by decide, rfl⟩
set_option maxRecDepth 20000 in
theorem f_X7_304 : XF RX7 304 7 49 40 false .boolean := ⟨RX7, TX7, rfl, by decide, gt_t4 39 rfl rfl, inX7, tyX7_x, nmX7, rfl, rfl, by decide, rfl⟩
set_option maxRecDepth 20000 in
theorem f_X7_62 : XF RX7 62 7 49 41 true (.array .int) := ⟨RX7, TX7, rfl, by decide, gt_t4 40 rfl rfl, inX7, tyX7_x, nmX7, rfl, rfl, by decide, rfl⟩
set_option maxRecDepth 20000 in
theorem f_X7_65 : XF RX7 65 7 49 42 false .int := ⟨RX7, TX7, rfl, by decide, gt_t4 41 rfl rfl, inX7, tyX7_x, nmX7, rfl, rfl, by decide, rfl⟩
set_option maxRecDepth 20000 in
theorem f_X7_350 : XF RX7 350 7 49 43 false .int := ⟨RX7, TX7, rfl, by decide, gt_t4 42 rfl rfl, inX7, tyX7_x, nmX7, rfl, rfl, by decide, rfl⟩
set_option maxRecDepth 20000 in
theorem f_X7_353 : XF RX7 353 7 49 44 false .int := ⟨RX7, TX7, rfl, by decide, gt_t4 43 rfl rfl, inX7, tyX7_x, nmX7, rfl, rfl, by decide, rfl⟩
set_option maxRecDepth 20000 in
theorem f_X7_68 : XF RX7 68 7 49 45 true (.array .boolean) := ⟨RX7, TX7, rfl, by decide, gt_t4 44 rfl rfl, inX7, tyX7_x, nmX7, rfl, rfl, by decide, rfl⟩
set_option maxRecDepth 20000 in
theorem f_X7_72 : XF RX7 72 7 49 46 true (.array .int) := ⟨RX7, TX7, rfl, by decide, gt_t4 45 rfl rfl, inX7, tyX7_x, nmX7, rfl, rfl, by decide, rfl⟩
set_option maxRecDepth 20000 in
theorem f_X7_75 : XF RX7 75 7 49 47 true (.array .int) := ⟨RX7, TX7, rfl, by decide, gt_t4 46 rfl rfl, inX7, tyX7_x, nmX7, rfl, rfl, by decide, rfl⟩
set_option maxRecDepth 20000 in
theorem f_X7_78 : XF RX7 78 7 49 48 true (.array .int) := ⟨RX7, TX7, rfl, by decide, gt_t4 47 rfl rfl, inX7, tyX7_x, nmX7, rfl, rfl, by decide, rfl⟩
abbrev mX6_init : XM := (yX6_init, cX6_init, 2, (Option.none : Option FieldType))
abbrev mX0_init : XM := (yX0_init, cX0_init, 1, (Option.none : Option FieldType))
abbrev mX1_init : XM := (yX1_init, cX1_init, 1, (Option.none : Option FieldType))
abbrev mX5_init : XM := (yX5_init, cX5_init, 3, (Option.none : Option FieldType))
abbrev mX2_init : XM := (yX2_init, cX2_init, 3, (Option.none : Option FieldType))
abbrev mX4_init : XM := (yX4_init, cX4_init, 3, (Option.none : Option FieldType))
abbrev mX3_init : XM := (yX3_init, cX3_init, 1, (Option.none : Option FieldType))
abbrev mX6_rider : XM := (yX6_rider, cX6_rider, 4, (Option.some FieldType.int))
abbrev mX6_comeIn : XM := (yX6_comeIn, cX6_comeIn, 5, (Option.some FieldType.int))
abbrev mX6_isWay : XM := (yX6_isWay, cX6_isWay, 1, (Option.some FieldType.boolean))
abbrev mX0_canStand : XM := (yX0_canStand, cX0_canStand, 4, (Option.some FieldType.boolean))
abbrev mX6_set : XM := (yX6_set, cX6_set, 4, (Option.some FieldType.int))
abbrev mX6_putDoors : XM := (yX6_putDoors, cX6_putDoors, 3, (Option.some FieldType.int))
abbrev mX0_has : XM := (yX0_has, cX0_has, 2, (Option.some FieldType.boolean))
abbrev mX6_leastOf : XM := (yX6_leastOf, cX6_leastOf, 3, (Option.some FieldType.int))
abbrev mX6_mostOf : XM := (yX6_mostOf, cX6_mostOf, 1, (Option.some FieldType.int))
abbrev mX0_rowOf : XM := (yX0_rowOf, cX0_rowOf, 2, (Option.some (FieldType.array FieldType.int)))
abbrev mX6_put : XM := (yX6_put, cX6_put, 5, (Option.some FieldType.int))
abbrev mX6_told : XM := (yX6_told, cX6_told, 3, (Option.some FieldType.int))
abbrev mX6_lets : XM := (yX6_lets, cX6_lets, 3, (Option.some FieldType.int))
abbrev mX0_letsBy : XM := (yX0_letsBy, cX0_letsBy, 3, (Option.some FieldType.boolean))
abbrev mX6_feed : XM := (yX6_feed, cX6_feed, 2, (Option.some FieldType.int))
abbrev mX6_text : XM := (yX6_text, cX6_text, 2, (Option.some FieldType.int))
abbrev mX1_reads : XM := (yX1_reads, cX1_reads, 2, (Option.some FieldType.boolean))
abbrev mX1_step : XM := (yX1_step, cX1_step, 2, (Option.none : Option FieldType))
abbrev mX1_stepOverWord : XM := (yX1_stepOverWord, cX1_stepOverWord, 2, (Option.none : Option FieldType))
abbrev mX1_knownWord : XM := (yX1_knownWord, cX1_knownWord, 1, (Option.some (FieldType.object "java/lang/String")))
abbrev mX1_isWord : XM := (yX1_isWord, cX1_isWord, 3, (Option.some FieldType.boolean))
abbrev mJ0_length_8abf5 : XM := (yJ0_length_8abf5, cJ0_length_8abf5, 1, (Option.some FieldType.int))
abbrev mJ0_coder_7d493 : XM := (yJ0_coder_7d493, cJ0_coder_7d493, 1, (Option.some FieldType.byte))
abbrev mJ0_charAt_5068e : XM := (yJ0_charAt_5068e, cJ0_charAt_5068e, 2, (Option.some FieldType.char))
abbrev mJ0_isLatin1_aae02 : XM := (yJ0_isLatin1_aae02, cJ0_isLatin1_aae02, 1, (Option.some FieldType.boolean))
abbrev mJ1_charAt_3b067 : XM := (yJ1_charAt_3b067, cJ1_charAt_3b067, 2, (Option.some FieldType.char))
abbrev mJ0_checkIndex_df160 : XM := (yJ0_checkIndex_df160, cJ0_checkIndex_df160, 2, (Option.none : Option FieldType))
abbrev mJ3_checkIndex_8e157 : XM := (yJ3_checkIndex_8e157, cJ3_checkIndex_8e157, 3, (Option.some FieldType.int))
abbrev mX1_stepOverDigits : XM := (yX1_stepOverDigits, cX1_stepOverDigits, 1, (Option.none : Option FieldType))
abbrev mX1_isSign : XM := (yX1_isSign, cX1_isSign, 1, (Option.some FieldType.boolean))
abbrev mX1_passes : XM := (yX1_passes, cX1_passes, 2, (Option.some FieldType.boolean))
abbrev mX1_chain : XM := (yX1_chain, cX1_chain, 6, (Option.some FieldType.boolean))
abbrev mX1_perhapsNot : XM := (yX1_perhapsNot, cX1_perhapsNot, 3, (Option.some FieldType.boolean))
abbrev mX1_put : XM := (yX1_put, cX1_put, 2, (Option.some FieldType.boolean))
abbrev mX1_codeOf : XM := (yX1_codeOf, cX1_codeOf, 1, (Option.some FieldType.int))
abbrev mX1_single : XM := (yX1_single, cX1_single, 3, (Option.some FieldType.boolean))
abbrev mX1_levelOf : XM := (yX1_levelOf, cX1_levelOf, 1, (Option.some FieldType.int))
abbrev mX1_whatWasRead : XM := (yX1_whatWasRead, cX1_whatWasRead, 1, (Option.some (FieldType.object "GetsOutFirst$Text")))
abbrev mJ7_copyOf_59c91 : XM := (yJ7_copyOf_59c91, cJ7_copyOf_59c91, 3, (Option.some (FieldType.array FieldType.int)))
abbrev mJ9_min_7cf53 : XM := (yJ9_min_7cf53, cJ9_min_7cf53, 2, (Option.some FieldType.int))
abbrev mX6_force : XM := (yX6_force, cX6_force, 3, (Option.some FieldType.int))
abbrev mX6_ride : XM := (yX6_ride, cX6_ride, 2, (Option.some FieldType.int))
abbrev mX5_start : XM := (yX5_start, cX5_start, 1, (Option.none : Option FieldType))
abbrev mX0_become : XM := (yX0_become, cX0_become, 3, (Option.none : Option FieldType))
abbrev mX5_gather : XM := (yX5_gather, cX5_gather, 5, (Option.none : Option FieldType))
abbrev mJ7_fill_53178 : XM := (yJ7_fill_53178, cJ7_fill_53178, 4, (Option.none : Option FieldType))
abbrev mX5_settle : XM := (yX5_settle, cX5_settle, 2, (Option.none : Option FieldType))
abbrev mX5_meet : XM := (yX5_meet, cX5_meet, 4, (Option.none : Option FieldType))
abbrev mX5_cost : XM := (yX5_cost, cX5_cost, 1, (Option.some FieldType.int))
abbrev mX5_costBelow : XM := (yX5_costBelow, cX5_costBelow, 4, (Option.some FieldType.int))
abbrev mX5_whoStepsOut : XM := (yX5_whoStepsOut, cX5_whoStepsOut, 5, (Option.some FieldType.int))
abbrev mX5_whoMakesWay : XM := (yX5_whoMakesWay, cX5_whoMakesWay, 5, (Option.some FieldType.int))
abbrev mJ6_bitCount_0f7a4 : XM := (yJ6_bitCount_0f7a4, cJ6_bitCount_0f7a4, 1, (Option.some FieldType.int))
abbrev mX5_costAt : XM := (yX5_costAt, cX5_costAt, 6, (Option.some FieldType.int))
abbrev mX5_price : XM := (yX5_price, cX5_price, 7, (Option.some FieldType.int))
abbrev mX4_worth : XM := (yX4_worth, cX4_worth, 9, (Option.some FieldType.int))
abbrev mJ9_max_7cf53 : XM := (yJ9_max_7cf53, cJ9_max_7cf53, 2, (Option.some FieldType.int))
abbrev mX0_costToStepOut : XM := (yX0_costToStepOut, cX0_costToStepOut, 3, (Option.some FieldType.int))
abbrev mX5_steps : XM := (yX5_steps, cX5_steps, 3, (Option.some FieldType.int))
abbrev mX5_floorsWithSteps : XM := (yX5_floorsWithSteps, cX5_floorsWithSteps, 3, (Option.some FieldType.int))
abbrev mX6_floor : XM := (yX6_floor, cX6_floor, 3, (Option.some FieldType.int))
abbrev mX5_whoGoesOn : XM := (yX5_whoGoesOn, cX5_whoGoesOn, 2, (Option.some FieldType.int))
abbrev mX6_stand : XM := (yX6_stand, cX6_stand, 2, (Option.some FieldType.int))
abbrev mX2_find : XM := (yX2_find, cX2_find, 1, (Option.none : Option FieldType))
abbrev mX2_putFrom : XM := (yX2_putFrom, cX2_putFrom, 4, (Option.none : Option FieldType))
abbrev mX5_costToMove : XM := (yX5_costToMove, cX5_costToMove, 2, (Option.some FieldType.int))
abbrev mX6_one : XM := (yX6_one, cX6_one, 7, (Option.some FieldType.int))
abbrev mX6_change : XM := (yX6_change, cX6_change, 7, (Option.some FieldType.int))
abbrev mX6_costOfChanging : XM := (yX6_costOfChanging, cX6_costOfChanging, 6, (Option.some FieldType.int))
abbrev mX0_allCanStand : XM := (yX0_allCanStand, cX0_allCanStand, 2, (Option.some FieldType.boolean))
abbrev mX6_second : XM := (yX6_second, cX6_second, 3, (Option.some FieldType.int))
abbrev mX6_whoShouldWalk : XM := (yX6_whoShouldWalk, cX6_whoShouldWalk, 6, (Option.some FieldType.int))
abbrev mX6_stands : XM := (yX6_stands, cX6_stands, 3, (Option.some FieldType.int))
abbrev mX6_mean : XM := (yX6_mean, cX6_mean, 10, (Option.some FieldType.long))
abbrev mX6_weightOf : XM := (yX6_weightOf, cX6_weightOf, 5, (Option.some FieldType.long))
abbrev mX6_inLowestTerms : XM := (yX6_inLowestTerms, cX6_inLowestTerms, 12, (Option.some FieldType.long))
abbrev mX6_landings : XM := (yX6_landings, cX6_landings, 3, (Option.some FieldType.int))
abbrev mX6_isSheet : XM := (yX6_isSheet, cX6_isSheet, 1, (Option.some FieldType.boolean))
abbrev mX6_refusalToRead : XM := (yX6_refusalToRead, cX6_refusalToRead, 1, (Option.some FieldType.int))
abbrev mX3_isMissing : XM := (yX3_isMissing, cX3_isMissing, 1, (Option.some FieldType.boolean))
abbrev mX6_firstUnlike : XM := (yX6_firstUnlike, cX6_firstUnlike, 3, (Option.some FieldType.int))
abbrev mX6_seen : XM := (yX6_seen, cX6_seen, 5, (Option.some FieldType.int))
abbrev mX6_whichFit : XM := (yX6_whichFit, cX6_whichFit, 8, (Option.some FieldType.int))
abbrev mX6_film : XM := (yX6_film, cX6_film, 4, (Option.some FieldType.int))
abbrev mX3_become : XM := (yX3_become, cX3_become, 3, (Option.none : Option FieldType))
abbrev mX6_drawn : XM := (yX6_drawn, cX6_drawn, 2, (Option.some FieldType.int))
abbrev mX6_costOfDrawn : XM := (yX6_costOfDrawn, cX6_costOfDrawn, 7, (Option.some FieldType.int))
abbrev mX6_chance : XM := (yX6_chance, cX6_chance, 7, (Option.some FieldType.long))
abbrev mX6_image : XM := (yX6_image, cX6_image, 1, (Option.some FieldType.int))
abbrev mX6_back : XM := (yX6_back, cX6_back, 1, (Option.some FieldType.int))
abbrev mX6_count : XM := (yX6_count, cX6_count, 2, (Option.some FieldType.int))
abbrev mX6_sheet : XM := (yX6_sheet, cX6_sheet, 4, (Option.some FieldType.int))
abbrev mX6_cell : XM := (yX6_cell, cX6_cell, 5, (Option.some FieldType.int))
abbrev mX3_narrowed : XM := (yX3_narrowed, cX3_narrowed, 2, (Option.some FieldType.int))
abbrev mX6_copy : XM := (yX6_copy, cX6_copy, 8, (Option.some FieldType.int))
abbrev mX3_holds : XM := (yX3_holds, cX3_holds, 3, (Option.some FieldType.boolean))
abbrev mX6_riders : XM := (yX6_riders, cX6_riders, 9, (Option.some FieldType.int))
abbrev mX6_taken : XM := (yX6_taken, cX6_taken, 3, (Option.some FieldType.int))
abbrev mX6_isUnder : XM := (yX6_isUnder, cX6_isUnder, 4, (Option.some FieldType.boolean))
abbrev mX7_init : XM := (yX7_init, cX7_init, 1, (Option.none : Option FieldType))
abbrev mX7_spell : XM := (yX7_spell, cX7_spell, 10, (Option.none : Option FieldType))
abbrev mX7_rider : XM := (yX7_rider, cX7_rider, 6, (Option.some FieldType.int))
abbrev mX7_in : XM := (yX7_in, cX7_in, 6, (Option.some FieldType.boolean))
abbrev mX7_areTwo : XM := (yX7_areTwo, cX7_areTwo, 4, (Option.some FieldType.boolean))
abbrev mX7_set : XM := (yX7_set, cX7_set, 6, (Option.some FieldType.int))
abbrev mX7_isRider : XM := (yX7_isRider, cX7_isRider, 2, (Option.some FieldType.boolean))
abbrev mX7_told : XM := (yX7_told, cX7_told, 3, (Option.some FieldType.int))
abbrev mX7_puts : XM := (yX7_puts, cX7_puts, 4, (Option.none : Option FieldType))
abbrev mX7_lets : XM := (yX7_lets, cX7_lets, 3, (Option.some FieldType.int))
abbrev mX7_doesLet : XM := (yX7_doesLet, cX7_doesLet, 5, (Option.some FieldType.boolean))
abbrev mX7_feed : XM := (yX7_feed, cX7_feed, 2, (Option.some FieldType.int))
abbrev mX7_text : XM := (yX7_text, cX7_text, 2, (Option.some FieldType.int))
abbrev mX7_read : XM := (yX7_read, cX7_read, 6, (Option.some FieldType.int))
abbrev mX7_next : XM := (yX7_next, cX7_next, 3, (Option.none : Option FieldType))
abbrev mX7_byteAt : XM := (yX7_byteAt, cX7_byteAt, 2, (Option.some FieldType.int))
abbrev mX7_isWord : XM := (yX7_isWord, cX7_isWord, 9, (Option.some FieldType.boolean))
abbrev mX7_isLetter : XM := (yX7_isLetter, cX7_isLetter, 3, (Option.some FieldType.boolean))
abbrev mX7_part : XM := (yX7_part, cX7_part, 3, (Option.some FieldType.int))
abbrev mX7_fail : XM := (yX7_fail, cX7_fail, 1, (Option.none : Option FieldType))
abbrev mX7_either : XM := (yX7_either, cX7_either, 3, (Option.some FieldType.int))
abbrev mX7_both : XM := (yX7_both, cX7_both, 3, (Option.some FieldType.int))
abbrev mX7_not : XM := (yX7_not, cX7_not, 4, (Option.some FieldType.int))
abbrev mX7_opens : XM := (yX7_opens, cX7_opens, 1, (Option.some FieldType.boolean))
abbrev mX7_added : XM := (yX7_added, cX7_added, 4, (Option.some FieldType.int))
abbrev mX7_term : XM := (yX7_term, cX7_term, 2, (Option.some FieldType.int))
abbrev mX7_atom : XM := (yX7_atom, cX7_atom, 2, (Option.some FieldType.int))
abbrev mX7_isSign : XM := (yX7_isSign, cX7_isSign, 2, (Option.some FieldType.boolean))
abbrev mX7_name : XM := (yX7_name, cX7_name, 1, (Option.some FieldType.int))
abbrev mX7_force : XM := (yX7_force, cX7_force, 3, (Option.some FieldType.int))
abbrev mX7_ride : XM := (yX7_ride, cX7_ride, 3, (Option.some FieldType.int))
abbrev mX7_allRiders : XM := (yX7_allRiders, cX7_allRiders, 1, (Option.some FieldType.int))
abbrev mX7_gathers : XM := (yX7_gathers, cX7_gathers, 7, (Option.none : Option FieldType))
abbrev mX7_insideAt : XM := (yX7_insideAt, cX7_insideAt, 4, (Option.some FieldType.int))
abbrev mX7_says : XM := (yX7_says, cX7_says, 6, (Option.some FieldType.int))
abbrev mX7_within : XM := (yX7_within, cX7_within, 3, (Option.some FieldType.int))
abbrev mX7_costsOf : XM := (yX7_costsOf, cX7_costsOf, 5, (Option.some FieldType.int))
abbrev mX7_rides : XM := (yX7_rides, cX7_rides, 4, (Option.some FieldType.int))
abbrev mX7_stepsAt : XM := (yX7_stepsAt, cX7_stepsAt, 6, (Option.some FieldType.int))
abbrev mX7_stayingAt : XM := (yX7_stayingAt, cX7_stayingAt, 4, (Option.some FieldType.int))
abbrev mX7_mustFor : XM := (yX7_mustFor, cX7_mustFor, 5, (Option.some FieldType.int))
abbrev mX7_barring : XM := (yX7_barring, cX7_barring, 7, (Option.some FieldType.int))
abbrev mX7_bitsOf : XM := (yX7_bitsOf, cX7_bitsOf, 3, (Option.some FieldType.int))
abbrev mX7_costAt : XM := (yX7_costAt, cX7_costAt, 7, (Option.some FieldType.int))
abbrev mX7_floor : XM := (yX7_floor, cX7_floor, 6, (Option.some FieldType.int))
abbrev mX7_stand : XM := (yX7_stand, cX7_stand, 2, (Option.some FieldType.int))
abbrev mX7_seeks : XM := (yX7_seeks, cX7_seeks, 1, (Option.none : Option FieldType))
abbrev mX7_keeps : XM := (yX7_keeps, cX7_keeps, 2, (Option.none : Option FieldType))
abbrev mX7_putsFrom : XM := (yX7_putsFrom, cX7_putsFrom, 4, (Option.none : Option FieldType))
abbrev mX7_costOfStanding : XM := (yX7_costOfStanding, cX7_costOfStanding, 3, (Option.some FieldType.int))
abbrev mX7_laysBack : XM := (yX7_laysBack, cX7_laysBack, 2, (Option.none : Option FieldType))
abbrev mX7_stands : XM := (yX7_stands, cX7_stands, 3, (Option.some FieldType.int))
abbrev mX7_one : XM := (yX7_one, cX7_one, 7, (Option.some FieldType.int))
abbrev mX7_change : XM := (yX7_change, cX7_change, 7, (Option.some FieldType.int))
abbrev mX7_second : XM := (yX7_second, cX7_second, 6, (Option.some FieldType.int))
abbrev mX7_mean : XM := (yX7_mean, cX7_mean, 11, (Option.some FieldType.long))
abbrev mX7_lowest : XM := (yX7_lowest, cX7_lowest, 11, (Option.some FieldType.long))
abbrev mX7_landings : XM := (yX7_landings, cX7_landings, 3, (Option.some FieldType.int))
abbrev mX7_landingsBad : XM := (yX7_landingsBad, cX7_landingsBad, 2, (Option.some FieldType.int))
abbrev mX7_isSheet : XM := (yX7_isSheet, cX7_isSheet, 1, (Option.some FieldType.boolean))
abbrev mX7_unlikeAt : XM := (yX7_unlikeAt, cX7_unlikeAt, 3, (Option.some FieldType.int))
abbrev mX7_seen : XM := (yX7_seen, cX7_seen, 8, (Option.some FieldType.int))
abbrev mX7_lays : XM := (yX7_lays, cX7_lays, 4, (Option.none : Option FieldType))
abbrev mX7_film : XM := (yX7_film, cX7_film, 4, (Option.some FieldType.int))
abbrev mX7_sheet : XM := (yX7_sheet, cX7_sheet, 5, (Option.some FieldType.int))
abbrev mX7_drawn : XM := (yX7_drawn, cX7_drawn, 2, (Option.some FieldType.int))
abbrev mX7_draws : XM := (yX7_draws, cX7_draws, 4, (Option.some FieldType.int))
abbrev mX7_chance : XM := (yX7_chance, cX7_chance, 8, (Option.some FieldType.long))
abbrev mX7_image : XM := (yX7_image, cX7_image, 2, (Option.some FieldType.int))
abbrev mX7_back : XM := (yX7_back, cX7_back, 2, (Option.some FieldType.int))
abbrev mX7_count : XM := (yX7_count, cX7_count, 2, (Option.some FieldType.int))
abbrev mX7_cell : XM := (yX7_cell, cX7_cell, 4, (Option.some FieldType.int))
abbrev mX7_copy : XM := (yX7_copy, cX7_copy, 9, (Option.some FieldType.int))
abbrev mX7_riders : XM := (yX7_riders, cX7_riders, 8, (Option.some FieldType.int))
abbrev mX7_taken : XM := (yX7_taken, cX7_taken, 4, (Option.some FieldType.int))
abbrev mX7_over : XM := (yX7_over, cX7_over, 1, (Option.some FieldType.int))
set_option maxRecDepth 20000 in
theorem gX6_init : XMi mX6_init 0 := ⟨⟨gt_t1 21 rfl rfl, gt_t1 1 rfl rfl, ⟨by decide, by decide, by decide +kernel⟩, by decide⟩, rfl, gt_t1 20 rfl rfl, rfl⟩
set_option maxRecDepth 20000 in
theorem gX0_init : XMi mX0_init 0 := ⟨⟨gt_t1 29 rfl rfl, gt_t1 2 rfl rfl, ⟨by decide, by decide, by decide +kernel⟩, by decide⟩, rfl, gt_t1 28 rfl rfl, rfl⟩
set_option maxRecDepth 20000 in
theorem gX1_init : XMi mX1_init 0 := ⟨⟨gt_t1 87 rfl rfl, gt_t1 3 rfl rfl, ⟨by decide, by decide, by decide +kernel⟩, by decide⟩, rfl, gt_t1 86 rfl rfl, rfl⟩
set_option maxRecDepth 20000 in
theorem gX5_init : XMi mX5_init 2 := ⟨⟨gt_t1 128 rfl rfl, gt_t1 4 rfl rfl, ⟨by decide, by decide, by decide +kernel⟩, by decide⟩, rfl, gt_t1 127 rfl rfl, rfl⟩
set_option maxRecDepth 20000 in
theorem gX2_init : XMi mX2_init 2 := ⟨⟨gt_t1 175 rfl rfl, gt_t1 5 rfl rfl, ⟨by decide, by decide, by decide +kernel⟩, by decide⟩, rfl, gt_t1 174 rfl rfl, rfl⟩
set_option maxRecDepth 20000 in
theorem gX4_init : XMi mX4_init 2 := ⟨⟨gt_t1 199 rfl rfl, gt_t1 6 rfl rfl, ⟨by decide, by decide, by decide +kernel⟩, by decide⟩, rfl, gt_t1 198 rfl rfl, rfl⟩
set_option maxRecDepth 20000 in
theorem gX3_init : XMi mX3_init 0 := ⟨⟨gt_t1 211 rfl rfl, gt_t1 7 rfl rfl, ⟨by decide, by decide, by decide +kernel⟩, by decide⟩, rfl, gt_t1 210 rfl rfl, rfl⟩
set_option maxRecDepth 20000 in
theorem gX6_rider : XMv mX6_rider 3 := ⟨⟨gt_t2 17 rfl rfl, gt_t1 1 rfl rfl, ⟨by decide, by decide, by decide +kernel⟩, by decide⟩, gt_t2 15 rfl rfl, gt_t2 16 rfl rfl⟩
set_option maxRecDepth 20000 in
theorem gX6_comeIn : XMv mX6_comeIn 3 := ⟨⟨gt_t2 21 rfl rfl, gt_t1 1 rfl rfl, ⟨by decide, by decide, by decide +kernel⟩, by decide⟩, gt_t2 20 rfl rfl, gt_in (List.mem_append_left _ (List.mem_of_getElem? (i := 0) rfl)) rfl⟩
set_option maxRecDepth 20000 in
theorem gX6_isWay : XMs mX6_isWay 1 := ⟨⟨gt_t2 24 rfl rfl, gt_t1 1 rfl rfl, ⟨by decide, by decide, by decide +kernel⟩, by decide⟩, gt_t2 23 rfl rfl⟩
set_option maxRecDepth 20000 in
theorem gX0_canStand : XMv mX0_canStand 2 := ⟨⟨gt_t2 28 rfl rfl, gt_t1 2 rfl rfl, ⟨by decide, by decide, by decide +kernel⟩, by decide⟩, gt_t2 26 rfl rfl, gt_t2 27 rfl rfl⟩
set_option maxRecDepth 20000 in
theorem gX6_set : XMv mX6_set 3 := ⟨⟨gt_t2 32 rfl rfl, gt_t1 1 rfl rfl, ⟨by decide, by decide, by decide +kernel⟩, by decide⟩, gt_t2 30 rfl rfl, gt_t2 31 rfl rfl⟩
set_option maxRecDepth 20000 in
theorem gX6_putDoors : XMv mX6_putDoors 1 := ⟨⟨gt_t2 36 rfl rfl, gt_t1 1 rfl rfl, ⟨by decide, by decide, by decide +kernel⟩, by decide⟩, gt_t2 35 rfl rfl, gt_in (List.mem_append_left _ (List.mem_of_getElem? (i := 1) rfl)) rfl⟩
set_option maxRecDepth 20000 in
theorem gX0_has : XMv mX0_has 1 := ⟨⟨gt_t2 40 rfl rfl, gt_t1 2 rfl rfl, ⟨by decide, by decide, by decide +kernel⟩, by decide⟩, gt_t2 38 rfl rfl, gt_t2 39 rfl rfl⟩
set_option maxRecDepth 20000 in
theorem gX6_leastOf : XMv mX6_leastOf 2 := ⟨⟨gt_t2 44 rfl rfl, gt_t1 1 rfl rfl, ⟨by decide, by decide, by decide +kernel⟩, by decide⟩, gt_t2 43 rfl rfl, gt_in (List.mem_append_left _ (List.mem_of_getElem? (i := 2) rfl)) rfl⟩
set_option maxRecDepth 20000 in
theorem gX6_mostOf : XMs mX6_mostOf 1 := ⟨⟨gt_t2 47 rfl rfl, gt_t1 1 rfl rfl, ⟨by decide, by decide, by decide +kernel⟩, by decide⟩, gt_t2 46 rfl rfl⟩
set_option maxRecDepth 20000 in
theorem gX0_rowOf : XMv mX0_rowOf 1 := ⟨⟨gt_t2 51 rfl rfl, gt_t1 2 rfl rfl, ⟨by decide, by decide, by decide +kernel⟩, by decide⟩, gt_t2 49 rfl rfl, gt_t2 50 rfl rfl⟩
set_option maxRecDepth 20000 in
theorem gX6_put : XMv mX6_put 3 := ⟨⟨gt_t2 55 rfl rfl, gt_t1 1 rfl rfl, ⟨by decide, by decide, by decide +kernel⟩, by decide⟩, gt_t2 54 rfl rfl, gt_in (List.mem_append_left _ (List.mem_of_getElem? (i := 3) rfl)) rfl⟩
set_option maxRecDepth 20000 in
theorem gX6_told : XMv mX6_told 2 := ⟨⟨gt_t2 59 rfl rfl, gt_t1 1 rfl rfl, ⟨by decide, by decide, by decide +kernel⟩, by decide⟩, gt_t2 57 rfl rfl, gt_t2 58 rfl rfl⟩
set_option maxRecDepth 20000 in
theorem gX6_lets : XMv mX6_lets 2 := ⟨⟨gt_t2 63 rfl rfl, gt_t1 1 rfl rfl, ⟨by decide, by decide, by decide +kernel⟩, by decide⟩, gt_t2 61 rfl rfl, gt_t2 62 rfl rfl⟩
set_option maxRecDepth 20000 in
theorem gX0_letsBy : XMv mX0_letsBy 2 := ⟨⟨gt_t2 67 rfl rfl, gt_t1 2 rfl rfl, ⟨by decide, by decide, by decide +kernel⟩, by decide⟩, gt_t2 65 rfl rfl, gt_t2 66 rfl rfl⟩
set_option maxRecDepth 20000 in
theorem gX6_feed : XMv mX6_feed 1 := ⟨⟨gt_t2 71 rfl rfl, gt_t1 1 rfl rfl, ⟨by decide, by decide, by decide +kernel⟩, by decide⟩, gt_t2 69 rfl rfl, gt_t2 70 rfl rfl⟩
set_option maxRecDepth 20000 in
theorem gX6_text : XMv mX6_text 0 := ⟨⟨gt_t2 75 rfl rfl, gt_t1 1 rfl rfl, ⟨by decide, by decide, by decide +kernel⟩, by decide⟩, gt_t2 73 rfl rfl, gt_t2 74 rfl rfl⟩
set_option maxRecDepth 20000 in
theorem gX1_reads : XMv mX1_reads 0 := ⟨⟨gt_t2 79 rfl rfl, gt_t1 3 rfl rfl, ⟨by decide, by decide, by decide +kernel⟩, by decide⟩, gt_t2 77 rfl rfl, gt_t2 78 rfl rfl⟩
set_option maxRecDepth 20000 in
theorem gX1_step : XMv mX1_step 0 := ⟨⟨gt_t2 83 rfl rfl, gt_t1 3 rfl rfl, ⟨by decide, by decide, by decide +kernel⟩, by decide⟩, gt_t2 82 rfl rfl, gt_in (List.mem_append_left _ (List.mem_of_getElem? (i := 4) rfl)) rfl⟩
set_option maxRecDepth 20000 in
theorem gX1_stepOverWord : XMv mX1_stepOverWord 0 := ⟨⟨gt_t2 87 rfl rfl, gt_t1 3 rfl rfl, ⟨by decide, by decide, by decide +kernel⟩, by decide⟩, gt_t2 86 rfl rfl, gt_in (List.mem_append_left _ (List.mem_of_getElem? (i := 5) rfl)) rfl⟩
set_option maxRecDepth 20000 in
theorem gX1_knownWord : XMs mX1_knownWord 1 := ⟨⟨gt_t2 90 rfl rfl, gt_t1 3 rfl rfl, ⟨by decide, by decide, by decide +kernel⟩, by decide⟩, gt_t2 89 rfl rfl⟩
set_option maxRecDepth 20000 in
theorem gX1_isWord : XMv mX1_isWord 1 := ⟨⟨gt_t2 106 rfl rfl, gt_t1 3 rfl rfl, ⟨by decide, by decide, by decide +kernel⟩, by decide⟩, gt_t2 105 rfl rfl, gt_in (List.mem_append_left _ (List.mem_of_getElem? (i := 6) rfl)) rfl⟩
set_option maxRecDepth 20000 in
theorem gJ0_length_8abf5 : XMv mJ0_length_8abf5 0 := ⟨⟨gt_t2 110 rfl rfl, gt_t1 9 rfl rfl, ⟨by decide, by decide, by decide +kernel⟩, by decide⟩, gt_t2 108 rfl rfl, gt_t2 109 rfl rfl⟩
set_option maxRecDepth 20000 in
theorem gJ0_coder_7d493 : XMv mJ0_coder_7d493 0 := ⟨⟨gt_t2 114 rfl rfl, gt_t1 9 rfl rfl, ⟨by decide, by decide, by decide +kernel⟩, by decide⟩, gt_t2 112 rfl rfl, gt_t2 113 rfl rfl⟩
set_option maxRecDepth 20000 in
theorem gJ0_charAt_5068e : XMv mJ0_charAt_5068e 1 := ⟨⟨gt_t2 120 rfl rfl, gt_t1 9 rfl rfl, ⟨by decide, by decide, by decide +kernel⟩, by decide⟩, gt_t2 118 rfl rfl, gt_t2 119 rfl rfl⟩
set_option maxRecDepth 20000 in
theorem gJ0_isLatin1_aae02 : XMv mJ0_isLatin1_aae02 0 := ⟨⟨gt_t2 124 rfl rfl, gt_t1 9 rfl rfl, ⟨by decide, by decide, by decide +kernel⟩, by decide⟩, gt_t2 122 rfl rfl, gt_t2 123 rfl rfl⟩
set_option maxRecDepth 20000 in
theorem gJ1_charAt_3b067 : XMs mJ1_charAt_3b067 2 := ⟨⟨gt_t2 127 rfl rfl, gt_t1 10 rfl rfl, ⟨by decide, by decide, by decide +kernel⟩, by decide⟩, gt_t2 126 rfl rfl⟩
set_option maxRecDepth 20000 in
theorem gJ0_checkIndex_df160 : XMs mJ0_checkIndex_df160 2 := ⟨⟨gt_t2 130 rfl rfl, gt_t1 9 rfl rfl, ⟨by decide, by decide, by decide +kernel⟩, by decide⟩, gt_t2 129 rfl rfl⟩
set_option maxRecDepth 20000 in
theorem gJ3_checkIndex_8e157 : XMs mJ3_checkIndex_8e157 3 := ⟨⟨gt_t2 135 rfl rfl, gt_t1 11 rfl rfl, ⟨by decide, by decide, by decide +kernel⟩, by decide⟩, gt_t2 134 rfl rfl⟩
set_option maxRecDepth 20000 in
theorem gX1_stepOverDigits : XMv mX1_stepOverDigits 0 := ⟨⟨gt_t2 158 rfl rfl, gt_t1 3 rfl rfl, ⟨by decide, by decide, by decide +kernel⟩, by decide⟩, gt_t2 157 rfl rfl, gt_in (List.mem_append_left _ (List.mem_of_getElem? (i := 7) rfl)) rfl⟩
set_option maxRecDepth 20000 in
theorem gX1_isSign : XMs mX1_isSign 1 := ⟨⟨gt_t2 161 rfl rfl, gt_t1 3 rfl rfl, ⟨by decide, by decide, by decide +kernel⟩, by decide⟩, gt_t2 160 rfl rfl⟩
set_option maxRecDepth 20000 in
theorem gX1_passes : XMv mX1_passes 1 := ⟨⟨gt_t2 165 rfl rfl, gt_t1 3 rfl rfl, ⟨by decide, by decide, by decide +kernel⟩, by decide⟩, gt_t2 164 rfl rfl, gt_in (List.mem_append_left _ (List.mem_of_getElem? (i := 8) rfl)) rfl⟩
set_option maxRecDepth 20000 in
theorem gX1_chain : XMv mX1_chain 2 := ⟨⟨gt_t2 169 rfl rfl, gt_t1 3 rfl rfl, ⟨by decide, by decide, by decide +kernel⟩, by decide⟩, gt_t2 168 rfl rfl, gt_in (List.mem_append_left _ (List.mem_of_getElem? (i := 9) rfl)) rfl⟩
set_option maxRecDepth 20000 in
theorem gX1_perhapsNot : XMv mX1_perhapsNot 1 := ⟨⟨gt_t2 173 rfl rfl, gt_t1 3 rfl rfl, ⟨by decide, by decide, by decide +kernel⟩, by decide⟩, gt_t2 172 rfl rfl, gt_in (List.mem_append_left _ (List.mem_of_getElem? (i := 10) rfl)) rfl⟩
set_option maxRecDepth 20000 in
theorem gX1_put : XMv mX1_put 1 := ⟨⟨gt_t2 177 rfl rfl, gt_t1 3 rfl rfl, ⟨by decide, by decide, by decide +kernel⟩, by decide⟩, gt_t2 176 rfl rfl, gt_in (List.mem_append_left _ (List.mem_of_getElem? (i := 11) rfl)) rfl⟩
set_option maxRecDepth 20000 in
theorem gX1_codeOf : XMs mX1_codeOf 1 := ⟨⟨gt_t2 180 rfl rfl, gt_t1 3 rfl rfl, ⟨by decide, by decide, by decide +kernel⟩, by decide⟩, gt_t2 179 rfl rfl⟩
set_option maxRecDepth 20000 in
theorem gX1_single : XMv mX1_single 1 := ⟨⟨gt_t2 184 rfl rfl, gt_t1 3 rfl rfl, ⟨by decide, by decide, by decide +kernel⟩, by decide⟩, gt_t2 183 rfl rfl, gt_in (List.mem_append_left _ (List.mem_of_getElem? (i := 12) rfl)) rfl⟩
set_option maxRecDepth 20000 in
theorem gX1_levelOf : XMs mX1_levelOf 1 := ⟨⟨gt_t2 187 rfl rfl, gt_t1 3 rfl rfl, ⟨by decide, by decide, by decide +kernel⟩, by decide⟩, gt_t2 186 rfl rfl⟩
set_option maxRecDepth 20000 in
theorem gX1_whatWasRead : XMv mX1_whatWasRead 0 := ⟨⟨gt_t2 191 rfl rfl, gt_t1 3 rfl rfl, ⟨by decide, by decide, by decide +kernel⟩, by decide⟩, gt_t2 189 rfl rfl, gt_t2 190 rfl rfl⟩
set_option maxRecDepth 20000 in
theorem gJ7_copyOf_59c91 : XMs mJ7_copyOf_59c91 2 := ⟨⟨gt_t2 195 rfl rfl, gt_t1 13 rfl rfl, ⟨by decide, by decide, by decide +kernel⟩, by decide⟩, gt_t2 194 rfl rfl⟩
set_option maxRecDepth 20000 in
theorem gJ9_min_7cf53 : XMs mJ9_min_7cf53 2 := ⟨⟨gt_t2 205 rfl rfl, gt_t1 14 rfl rfl, ⟨by decide, by decide, by decide +kernel⟩, by decide⟩, gt_t2 204 rfl rfl⟩
set_option maxRecDepth 20000 in
theorem gX6_force : XMv mX6_force 1 := ⟨⟨gt_t2 214 rfl rfl, gt_t1 1 rfl rfl, ⟨by decide, by decide, by decide +kernel⟩, by decide⟩, gt_t2 212 rfl rfl, gt_t2 213 rfl rfl⟩
set_option maxRecDepth 20000 in
theorem gX6_ride : XMv mX6_ride 1 := ⟨⟨gt_t2 218 rfl rfl, gt_t1 1 rfl rfl, ⟨by decide, by decide, by decide +kernel⟩, by decide⟩, gt_t2 216 rfl rfl, gt_t2 217 rfl rfl⟩
set_option maxRecDepth 20000 in
theorem gX5_start : XMv mX5_start 0 := ⟨⟨gt_t2 222 rfl rfl, gt_t1 4 rfl rfl, ⟨by decide, by decide, by decide +kernel⟩, by decide⟩, gt_t2 220 rfl rfl, gt_t2 221 rfl rfl⟩
set_option maxRecDepth 20000 in
theorem gX0_become : XMv mX0_become 1 := ⟨⟨gt_t2 226 rfl rfl, gt_t1 2 rfl rfl, ⟨by decide, by decide, by decide +kernel⟩, by decide⟩, gt_t2 224 rfl rfl, gt_t2 225 rfl rfl⟩
set_option maxRecDepth 20000 in
theorem gX5_gather : XMv mX5_gather 1 := ⟨⟨gt_t2 232 rfl rfl, gt_t1 4 rfl rfl, ⟨by decide, by decide, by decide +kernel⟩, by decide⟩, gt_t2 230 rfl rfl, gt_t2 231 rfl rfl⟩
set_option maxRecDepth 20000 in
theorem gJ7_fill_53178 : XMs mJ7_fill_53178 2 := ⟨⟨gt_t2 235 rfl rfl, gt_t1 13 rfl rfl, ⟨by decide, by decide, by decide +kernel⟩, by decide⟩, gt_t2 234 rfl rfl⟩
set_option maxRecDepth 20000 in
theorem gX5_settle : XMv mX5_settle 0 := ⟨⟨gt_t2 239 rfl rfl, gt_t1 4 rfl rfl, ⟨by decide, by decide, by decide +kernel⟩, by decide⟩, gt_t2 237 rfl rfl, gt_t2 238 rfl rfl⟩
set_option maxRecDepth 20000 in
theorem gX5_meet : XMv mX5_meet 1 := ⟨⟨gt_t3 3 rfl rfl, gt_t1 4 rfl rfl, ⟨by decide, by decide, by decide +kernel⟩, by decide⟩, gt_t3 1 rfl rfl, gt_t3 2 rfl rfl⟩
set_option maxRecDepth 20000 in
theorem gX5_cost : XMv mX5_cost 0 := ⟨⟨gt_t3 8 rfl rfl, gt_t1 4 rfl rfl, ⟨by decide, by decide, by decide +kernel⟩, by decide⟩, gt_t3 6 rfl rfl, gt_t3 7 rfl rfl⟩
set_option maxRecDepth 20000 in
theorem gX5_costBelow : XMv mX5_costBelow 1 := ⟨⟨gt_t3 13 rfl rfl, gt_t1 4 rfl rfl, ⟨by decide, by decide, by decide +kernel⟩, by decide⟩, gt_t3 11 rfl rfl, gt_t3 12 rfl rfl⟩
set_option maxRecDepth 20000 in
theorem gX5_whoStepsOut : XMv mX5_whoStepsOut 1 := ⟨⟨gt_t3 17 rfl rfl, gt_t1 4 rfl rfl, ⟨by decide, by decide, by decide +kernel⟩, by decide⟩, gt_t3 15 rfl rfl, gt_t3 16 rfl rfl⟩
set_option maxRecDepth 20000 in
theorem gX5_whoMakesWay : XMv mX5_whoMakesWay 2 := ⟨⟨gt_t3 21 rfl rfl, gt_t1 4 rfl rfl, ⟨by decide, by decide, by decide +kernel⟩, by decide⟩, gt_t3 20 rfl rfl, gt_in (List.mem_append_left _ (List.mem_of_getElem? (i := 13) rfl)) rfl⟩
set_option maxRecDepth 20000 in
theorem gJ6_bitCount_0f7a4 : XMs mJ6_bitCount_0f7a4 1 := ⟨⟨gt_t3 24 rfl rfl, gt_t1 16 rfl rfl, ⟨by decide, by decide, by decide +kernel⟩, by decide⟩, gt_t3 23 rfl rfl⟩
set_option maxRecDepth 20000 in
theorem gX5_costAt : XMv mX5_costAt 2 := ⟨⟨gt_t3 31 rfl rfl, gt_t1 4 rfl rfl, ⟨by decide, by decide, by decide +kernel⟩, by decide⟩, gt_t3 29 rfl rfl, gt_t3 30 rfl rfl⟩
set_option maxRecDepth 20000 in
theorem gX5_price : XMv mX5_price 4 := ⟨⟨gt_t3 35 rfl rfl, gt_t1 4 rfl rfl, ⟨by decide, by decide, by decide +kernel⟩, by decide⟩, gt_t3 34 rfl rfl, gt_in (List.mem_append_left _ (List.mem_of_getElem? (i := 14) rfl)) rfl⟩
set_option maxRecDepth 20000 in
theorem gX4_worth : XMv mX4_worth 3 := ⟨⟨gt_t3 39 rfl rfl, gt_t1 6 rfl rfl, ⟨by decide, by decide, by decide +kernel⟩, by decide⟩, gt_t3 37 rfl rfl, gt_t3 38 rfl rfl⟩
set_option maxRecDepth 20000 in
theorem gJ9_max_7cf53 : XMs mJ9_max_7cf53 2 := ⟨⟨gt_t3 43 rfl rfl, gt_t1 14 rfl rfl, ⟨by decide, by decide, by decide +kernel⟩, by decide⟩, gt_t3 42 rfl rfl⟩
set_option maxRecDepth 20000 in
theorem gX0_costToStepOut : XMv mX0_costToStepOut 2 := ⟨⟨gt_t3 47 rfl rfl, gt_t1 2 rfl rfl, ⟨by decide, by decide, by decide +kernel⟩, by decide⟩, gt_t3 45 rfl rfl, gt_t3 46 rfl rfl⟩
set_option maxRecDepth 20000 in
theorem gX5_steps : XMv mX5_steps 0 := ⟨⟨gt_t3 52 rfl rfl, gt_t1 4 rfl rfl, ⟨by decide, by decide, by decide +kernel⟩, by decide⟩, gt_t3 50 rfl rfl, gt_t3 51 rfl rfl⟩
set_option maxRecDepth 20000 in
theorem gX5_floorsWithSteps : XMv mX5_floorsWithSteps 0 := ⟨⟨gt_t3 56 rfl rfl, gt_t1 4 rfl rfl, ⟨by decide, by decide, by decide +kernel⟩, by decide⟩, gt_t3 54 rfl rfl, gt_t3 55 rfl rfl⟩
set_option maxRecDepth 20000 in
theorem gX6_floor : XMv mX6_floor 2 := ⟨⟨gt_t3 60 rfl rfl, gt_t1 1 rfl rfl, ⟨by decide, by decide, by decide +kernel⟩, by decide⟩, gt_t3 58 rfl rfl, gt_t3 59 rfl rfl⟩
set_option maxRecDepth 20000 in
theorem gX5_whoGoesOn : XMv mX5_whoGoesOn 1 := ⟨⟨gt_t3 66 rfl rfl, gt_t1 4 rfl rfl, ⟨by decide, by decide, by decide +kernel⟩, by decide⟩, gt_t3 64 rfl rfl, gt_t3 65 rfl rfl⟩
set_option maxRecDepth 20000 in
theorem gX6_stand : XMv mX6_stand 1 := ⟨⟨gt_t3 70 rfl rfl, gt_t1 1 rfl rfl, ⟨by decide, by decide, by decide +kernel⟩, by decide⟩, gt_t3 68 rfl rfl, gt_t3 69 rfl rfl⟩
set_option maxRecDepth 20000 in
theorem gX2_find : XMv mX2_find 0 := ⟨⟨gt_t3 74 rfl rfl, gt_t1 5 rfl rfl, ⟨by decide, by decide, by decide +kernel⟩, by decide⟩, gt_t3 72 rfl rfl, gt_t3 73 rfl rfl⟩
set_option maxRecDepth 20000 in
theorem gX2_putFrom : XMv mX2_putFrom 2 := ⟨⟨gt_t3 80 rfl rfl, gt_t1 5 rfl rfl, ⟨by decide, by decide, by decide +kernel⟩, by decide⟩, gt_t3 79 rfl rfl, gt_in (List.mem_append_left _ (List.mem_of_getElem? (i := 15) rfl)) rfl⟩
set_option maxRecDepth 20000 in
theorem gX5_costToMove : XMv mX5_costToMove 1 := ⟨⟨gt_t3 88 rfl rfl, gt_t1 4 rfl rfl, ⟨by decide, by decide, by decide +kernel⟩, by decide⟩, gt_t3 86 rfl rfl, gt_t3 87 rfl rfl⟩
set_option maxRecDepth 20000 in
theorem gX6_one : XMv mX6_one 2 := ⟨⟨gt_t3 92 rfl rfl, gt_t1 1 rfl rfl, ⟨by decide, by decide, by decide +kernel⟩, by decide⟩, gt_t3 90 rfl rfl, gt_t3 91 rfl rfl⟩
set_option maxRecDepth 20000 in
theorem gX6_change : XMv mX6_change 1 := ⟨⟨gt_t3 98 rfl rfl, gt_t1 1 rfl rfl, ⟨by decide, by decide, by decide +kernel⟩, by decide⟩, gt_t3 96 rfl rfl, gt_t3 97 rfl rfl⟩
set_option maxRecDepth 20000 in
theorem gX6_costOfChanging : XMv mX6_costOfChanging 3 := ⟨⟨gt_t3 102 rfl rfl, gt_t1 1 rfl rfl, ⟨by decide, by decide, by decide +kernel⟩, by decide⟩, gt_t3 101 rfl rfl, gt_in (List.mem_append_left _ (List.mem_of_getElem? (i := 16) rfl)) rfl⟩
set_option maxRecDepth 20000 in
theorem gX0_allCanStand : XMv mX0_allCanStand 0 := ⟨⟨gt_t3 106 rfl rfl, gt_t1 2 rfl rfl, ⟨by decide, by decide, by decide +kernel⟩, by decide⟩, gt_t3 104 rfl rfl, gt_t3 105 rfl rfl⟩
set_option maxRecDepth 20000 in
theorem gX6_second : XMv mX6_second 1 := ⟨⟨gt_t3 111 rfl rfl, gt_t1 1 rfl rfl, ⟨by decide, by decide, by decide +kernel⟩, by decide⟩, gt_t3 109 rfl rfl, gt_t3 110 rfl rfl⟩
set_option maxRecDepth 20000 in
theorem gX6_whoShouldWalk : XMv mX6_whoShouldWalk 0 := ⟨⟨gt_t3 116 rfl rfl, gt_t1 1 rfl rfl, ⟨by decide, by decide, by decide +kernel⟩, by decide⟩, gt_t3 115 rfl rfl, gt_in (List.mem_append_left _ (List.mem_of_getElem? (i := 17) rfl)) rfl⟩
set_option maxRecDepth 20000 in
theorem gX6_stands : XMv mX6_stands 0 := ⟨⟨gt_t3 121 rfl rfl, gt_t1 1 rfl rfl, ⟨by decide, by decide, by decide +kernel⟩, by decide⟩, gt_t3 119 rfl rfl, gt_t3 120 rfl rfl⟩
set_option maxRecDepth 20000 in
theorem gX6_mean : XMv mX6_mean 2 := ⟨⟨gt_t3 125 rfl rfl, gt_t1 1 rfl rfl, ⟨by decide, by decide, by decide +kernel⟩, by decide⟩, gt_t3 123 rfl rfl, gt_t3 124 rfl rfl⟩
set_option maxRecDepth 20000 in
theorem gX6_weightOf : XMv mX6_weightOf 1 := ⟨⟨gt_t3 131 rfl rfl, gt_t1 1 rfl rfl, ⟨by decide, by decide, by decide +kernel⟩, by decide⟩, gt_t3 130 rfl rfl, gt_in (List.mem_append_left _ (List.mem_of_getElem? (i := 18) rfl)) rfl⟩
set_option maxRecDepth 20000 in
theorem gX6_inLowestTerms : XMs mX6_inLowestTerms 3 := ⟨⟨gt_t3 134 rfl rfl, gt_t1 1 rfl rfl, ⟨by decide, by decide, by decide +kernel⟩, by decide⟩, gt_t3 133 rfl rfl⟩
set_option maxRecDepth 20000 in
theorem gX6_landings : XMv mX6_landings 1 := ⟨⟨gt_t3 138 rfl rfl, gt_t1 1 rfl rfl, ⟨by decide, by decide, by decide +kernel⟩, by decide⟩, gt_t3 136 rfl rfl, gt_t3 137 rfl rfl⟩
set_option maxRecDepth 20000 in
theorem gX6_isSheet : XMs mX6_isSheet 1 := ⟨⟨gt_t3 141 rfl rfl, gt_t1 1 rfl rfl, ⟨by decide, by decide, by decide +kernel⟩, by decide⟩, gt_t3 140 rfl rfl⟩
set_option maxRecDepth 20000 in
theorem gX6_refusalToRead : XMs mX6_refusalToRead 1 := ⟨⟨gt_t3 144 rfl rfl, gt_t1 1 rfl rfl, ⟨by decide, by decide, by decide +kernel⟩, by decide⟩, gt_t3 143 rfl rfl⟩
set_option maxRecDepth 20000 in
theorem gX3_isMissing : XMv mX3_isMissing 0 := ⟨⟨gt_t3 148 rfl rfl, gt_t1 7 rfl rfl, ⟨by decide, by decide, by decide +kernel⟩, by decide⟩, gt_t3 146 rfl rfl, gt_t3 147 rfl rfl⟩
set_option maxRecDepth 20000 in
theorem gX6_firstUnlike : XMv mX6_firstUnlike 1 := ⟨⟨gt_t3 152 rfl rfl, gt_t1 1 rfl rfl, ⟨by decide, by decide, by decide +kernel⟩, by decide⟩, gt_t3 151 rfl rfl, gt_in (List.mem_append_left _ (List.mem_of_getElem? (i := 19) rfl)) rfl⟩
set_option maxRecDepth 20000 in
theorem gX6_seen : XMv mX6_seen 3 := ⟨⟨gt_t3 156 rfl rfl, gt_t1 1 rfl rfl, ⟨by decide, by decide, by decide +kernel⟩, by decide⟩, gt_t3 154 rfl rfl, gt_t3 155 rfl rfl⟩
set_option maxRecDepth 20000 in
theorem gX6_whichFit : XMv mX6_whichFit 5 := ⟨⟨gt_t3 160 rfl rfl, gt_t1 1 rfl rfl, ⟨by decide, by decide, by decide +kernel⟩, by decide⟩, gt_t3 159 rfl rfl, gt_in (List.mem_append_left _ (List.mem_of_getElem? (i := 20) rfl)) rfl⟩
set_option maxRecDepth 20000 in
theorem gX6_film : XMv mX6_film 2 := ⟨⟨gt_t3 164 rfl rfl, gt_t1 1 rfl rfl, ⟨by decide, by decide, by decide +kernel⟩, by decide⟩, gt_t3 162 rfl rfl, gt_t3 163 rfl rfl⟩
set_option maxRecDepth 20000 in
theorem gX3_become : XMv mX3_become 2 := ⟨⟨gt_t3 168 rfl rfl, gt_t1 7 rfl rfl, ⟨by decide, by decide, by decide +kernel⟩, by decide⟩, gt_t3 166 rfl rfl, gt_t3 167 rfl rfl⟩
set_option maxRecDepth 20000 in
theorem gX6_drawn : XMv mX6_drawn 1 := ⟨⟨gt_t3 173 rfl rfl, gt_t1 1 rfl rfl, ⟨by decide, by decide, by decide +kernel⟩, by decide⟩, gt_t3 171 rfl rfl, gt_t3 172 rfl rfl⟩
set_option maxRecDepth 20000 in
theorem gX6_costOfDrawn : XMv mX6_costOfDrawn 1 := ⟨⟨gt_t3 177 rfl rfl, gt_t1 1 rfl rfl, ⟨by decide, by decide, by decide +kernel⟩, by decide⟩, gt_t3 176 rfl rfl, gt_in (List.mem_append_left _ (List.mem_of_getElem? (i := 21) rfl)) rfl⟩
set_option maxRecDepth 20000 in
theorem gX6_chance : XMv mX6_chance 3 := ⟨⟨gt_t3 182 rfl rfl, gt_t1 1 rfl rfl, ⟨by decide, by decide, by decide +kernel⟩, by decide⟩, gt_t3 180 rfl rfl, gt_t3 181 rfl rfl⟩
set_option maxRecDepth 20000 in
theorem gX6_image : XMv mX6_image 0 := ⟨⟨gt_t3 186 rfl rfl, gt_t1 1 rfl rfl, ⟨by decide, by decide, by decide +kernel⟩, by decide⟩, gt_t3 184 rfl rfl, gt_t3 185 rfl rfl⟩
set_option maxRecDepth 20000 in
theorem gX6_back : XMv mX6_back 0 := ⟨⟨gt_t3 191 rfl rfl, gt_t1 1 rfl rfl, ⟨by decide, by decide, by decide +kernel⟩, by decide⟩, gt_t3 189 rfl rfl, gt_t3 190 rfl rfl⟩
set_option maxRecDepth 20000 in
theorem gX6_count : XMv mX6_count 1 := ⟨⟨gt_t3 195 rfl rfl, gt_t1 1 rfl rfl, ⟨by decide, by decide, by decide +kernel⟩, by decide⟩, gt_t3 193 rfl rfl, gt_t3 194 rfl rfl⟩
set_option maxRecDepth 20000 in
theorem gX6_sheet : XMv mX6_sheet 3 := ⟨⟨gt_t3 199 rfl rfl, gt_t1 1 rfl rfl, ⟨by decide, by decide, by decide +kernel⟩, by decide⟩, gt_t3 197 rfl rfl, gt_t3 198 rfl rfl⟩
set_option maxRecDepth 20000 in
theorem gX6_cell : XMv mX6_cell 3 := ⟨⟨gt_t3 203 rfl rfl, gt_t1 1 rfl rfl, ⟨by decide, by decide, by decide +kernel⟩, by decide⟩, gt_t3 201 rfl rfl, gt_t3 202 rfl rfl⟩
set_option maxRecDepth 20000 in
theorem gX3_narrowed : XMv mX3_narrowed 1 := ⟨⟨gt_t3 207 rfl rfl, gt_t1 7 rfl rfl, ⟨by decide, by decide, by decide +kernel⟩, by decide⟩, gt_t3 205 rfl rfl, gt_t3 206 rfl rfl⟩
set_option maxRecDepth 20000 in
theorem gX6_copy : XMv mX6_copy 5 := ⟨⟨gt_t3 211 rfl rfl, gt_t1 1 rfl rfl, ⟨by decide, by decide, by decide +kernel⟩, by decide⟩, gt_t3 209 rfl rfl, gt_t3 210 rfl rfl⟩
set_option maxRecDepth 20000 in
theorem gX3_holds : XMv mX3_holds 2 := ⟨⟨gt_t3 215 rfl rfl, gt_t1 7 rfl rfl, ⟨by decide, by decide, by decide +kernel⟩, by decide⟩, gt_t3 213 rfl rfl, gt_t3 214 rfl rfl⟩
set_option maxRecDepth 20000 in
theorem gX6_riders : XMv mX6_riders 4 := ⟨⟨gt_t3 220 rfl rfl, gt_t1 1 rfl rfl, ⟨by decide, by decide, by decide +kernel⟩, by decide⟩, gt_t3 218 rfl rfl, gt_t3 219 rfl rfl⟩
set_option maxRecDepth 20000 in
theorem gX6_taken : XMv mX6_taken 2 := ⟨⟨gt_t3 224 rfl rfl, gt_t1 1 rfl rfl, ⟨by decide, by decide, by decide +kernel⟩, by decide⟩, gt_t3 222 rfl rfl, gt_t3 223 rfl rfl⟩
set_option maxRecDepth 20000 in
theorem gX6_isUnder : XMs mX6_isUnder 2 := ⟨⟨gt_t3 227 rfl rfl, gt_t1 1 rfl rfl, ⟨by decide, by decide, by decide +kernel⟩, by decide⟩, gt_t3 226 rfl rfl⟩
set_option maxRecDepth 20000 in
theorem gX7_init : XMi mX7_init 0 := ⟨⟨gt_t3 234 rfl rfl, gt_t1 8 rfl rfl, ⟨by decide, by decide, by decide +kernel⟩, by decide⟩, rfl, gt_t3 233 rfl rfl, rfl⟩
set_option maxRecDepth 20000 in
theorem gX7_spell : XMv mX7_spell 9 := ⟨⟨gt_t3 239 rfl rfl, gt_t1 8 rfl rfl, ⟨by decide, by decide, by decide +kernel⟩, by decide⟩, gt_t3 238 rfl rfl, gt_in (List.mem_append_left _ (List.mem_of_getElem? (i := 22) rfl)) rfl⟩
set_option maxRecDepth 20000 in
theorem gX7_rider : XMv mX7_rider 3 := ⟨⟨gt_t4 151 rfl rfl, gt_t1 8 rfl rfl, ⟨by decide, by decide, by decide +kernel⟩, by decide⟩, gt_t4 149 rfl rfl, gt_t4 150 rfl rfl⟩
set_option maxRecDepth 20000 in
theorem gX7_in : XMs mX7_in 3 := ⟨⟨gt_t4 155 rfl rfl, gt_t1 8 rfl rfl, ⟨by decide, by decide, by decide +kernel⟩, by decide⟩, gt_t4 154 rfl rfl⟩
set_option maxRecDepth 20000 in
theorem gX7_areTwo : XMv mX7_areTwo 1 := ⟨⟨gt_t4 161 rfl rfl, gt_t1 8 rfl rfl, ⟨by decide, by decide, by decide +kernel⟩, by decide⟩, gt_t4 160 rfl rfl, gt_in (List.mem_append_left _ (List.mem_of_getElem? (i := 23) rfl)) rfl⟩
set_option maxRecDepth 20000 in
theorem gX7_set : XMv mX7_set 3 := ⟨⟨gt_t4 165 rfl rfl, gt_t1 8 rfl rfl, ⟨by decide, by decide, by decide +kernel⟩, by decide⟩, gt_t4 163 rfl rfl, gt_t4 164 rfl rfl⟩
set_option maxRecDepth 20000 in
theorem gX7_isRider : XMv mX7_isRider 1 := ⟨⟨gt_t4 169 rfl rfl, gt_t1 8 rfl rfl, ⟨by decide, by decide, by decide +kernel⟩, by decide⟩, gt_t4 168 rfl rfl, gt_in (List.mem_append_left _ (List.mem_of_getElem? (i := 24) rfl)) rfl⟩
set_option maxRecDepth 20000 in
theorem gX7_told : XMv mX7_told 2 := ⟨⟨gt_t4 176 rfl rfl, gt_t1 8 rfl rfl, ⟨by decide, by decide, by decide +kernel⟩, by decide⟩, gt_t4 174 rfl rfl, gt_t4 175 rfl rfl⟩
set_option maxRecDepth 20000 in
theorem gX7_puts : XMv mX7_puts 3 := ⟨⟨gt_t4 181 rfl rfl, gt_t1 8 rfl rfl, ⟨by decide, by decide, by decide +kernel⟩, by decide⟩, gt_t4 180 rfl rfl, gt_in (List.mem_append_left _ (List.mem_of_getElem? (i := 25) rfl)) rfl⟩
set_option maxRecDepth 20000 in
theorem gX7_lets : XMv mX7_lets 2 := ⟨⟨gt_t4 186 rfl rfl, gt_t1 8 rfl rfl, ⟨by decide, by decide, by decide +kernel⟩, by decide⟩, gt_t4 184 rfl rfl, gt_t4 185 rfl rfl⟩
set_option maxRecDepth 20000 in
theorem gX7_doesLet : XMv mX7_doesLet 2 := ⟨⟨gt_t4 190 rfl rfl, gt_t1 8 rfl rfl, ⟨by decide, by decide, by decide +kernel⟩, by decide⟩, gt_t4 189 rfl rfl, gt_in (List.mem_append_left _ (List.mem_of_getElem? (i := 26) rfl)) rfl⟩
set_option maxRecDepth 20000 in
theorem gX7_feed : XMv mX7_feed 1 := ⟨⟨gt_t4 194 rfl rfl, gt_t1 8 rfl rfl, ⟨by decide, by decide, by decide +kernel⟩, by decide⟩, gt_t4 192 rfl rfl, gt_t4 193 rfl rfl⟩
set_option maxRecDepth 20000 in
theorem gX7_text : XMv mX7_text 0 := ⟨⟨gt_t4 199 rfl rfl, gt_t1 8 rfl rfl, ⟨by decide, by decide, by decide +kernel⟩, by decide⟩, gt_t4 197 rfl rfl, gt_t4 198 rfl rfl⟩
set_option maxRecDepth 20000 in
theorem gX7_read : XMv mX7_read 2 := ⟨⟨gt_t4 203 rfl rfl, gt_t1 8 rfl rfl, ⟨by decide, by decide, by decide +kernel⟩, by decide⟩, gt_t4 202 rfl rfl, gt_in (List.mem_append_left _ (List.mem_of_getElem? (i := 27) rfl)) rfl⟩
set_option maxRecDepth 20000 in
theorem gX7_next : XMv mX7_next 0 := ⟨⟨gt_t4 207 rfl rfl, gt_t1 8 rfl rfl, ⟨by decide, by decide, by decide +kernel⟩, by decide⟩, gt_t4 206 rfl rfl, gt_in (List.mem_append_left _ (List.mem_of_getElem? (i := 28) rfl)) rfl⟩
set_option maxRecDepth 20000 in
theorem gX7_byteAt : XMv mX7_byteAt 1 := ⟨⟨gt_t4 211 rfl rfl, gt_t1 8 rfl rfl, ⟨by decide, by decide, by decide +kernel⟩, by decide⟩, gt_t4 210 rfl rfl, gt_in (List.mem_append_left _ (List.mem_of_getElem? (i := 29) rfl)) rfl⟩
set_option maxRecDepth 20000 in
theorem gX7_isWord : XMv mX7_isWord 8 := ⟨⟨gt_t4 220 rfl rfl, gt_t1 8 rfl rfl, ⟨by decide, by decide, by decide +kernel⟩, by decide⟩, gt_t4 219 rfl rfl, gt_in (List.mem_append_left _ (List.mem_of_getElem? (i := 30) rfl)) rfl⟩
set_option maxRecDepth 20000 in
theorem gX7_isLetter : XMv mX7_isLetter 2 := ⟨⟨gt_t4 224 rfl rfl, gt_t1 8 rfl rfl, ⟨by decide, by decide, by decide +kernel⟩, by decide⟩, gt_t4 223 rfl rfl, gt_in (List.mem_append_left _ (List.mem_of_getElem? (i := 31) rfl)) rfl⟩
set_option maxRecDepth 20000 in
theorem gX7_part : XMv mX7_part 1 := ⟨⟨gt_t4 228 rfl rfl, gt_t1 8 rfl rfl, ⟨by decide, by decide, by decide +kernel⟩, by decide⟩, gt_t4 227 rfl rfl, gt_in (List.mem_append_left _ (List.mem_of_getElem? (i := 32) rfl)) rfl⟩
set_option maxRecDepth 20000 in
theorem gX7_fail : XMv mX7_fail 0 := ⟨⟨gt_t4 232 rfl rfl, gt_t1 8 rfl rfl, ⟨by decide, by decide, by decide +kernel⟩, by decide⟩, gt_t4 231 rfl rfl, gt_in (List.mem_append_left _ (List.mem_of_getElem? (i := 33) rfl)) rfl⟩
set_option maxRecDepth 20000 in
theorem gX7_either : XMv mX7_either 0 := ⟨⟨gt_t4 236 rfl rfl, gt_t1 8 rfl rfl, ⟨by decide, by decide, by decide +kernel⟩, by decide⟩, gt_t4 235 rfl rfl, gt_in (List.mem_append_left _ (List.mem_of_getElem? (i := 34) rfl)) rfl⟩
set_option maxRecDepth 20000 in
theorem gX7_both : XMv mX7_both 0 := ⟨⟨gt_t5 0 rfl rfl, gt_t1 8 rfl rfl, ⟨by decide, by decide, by decide +kernel⟩, by decide⟩, gt_t4 239 rfl rfl, gt_in (List.mem_append_left _ (List.mem_of_getElem? (i := 35) rfl)) rfl⟩
set_option maxRecDepth 20000 in
theorem gX7_not : XMv mX7_not 0 := ⟨⟨gt_t5 4 rfl rfl, gt_t1 8 rfl rfl, ⟨by decide, by decide, by decide +kernel⟩, by decide⟩, gt_t5 3 rfl rfl, gt_in (List.mem_append_left _ (List.mem_of_getElem? (i := 36) rfl)) rfl⟩
set_option maxRecDepth 20000 in
theorem gX7_opens : XMv mX7_opens 0 := ⟨⟨gt_t5 8 rfl rfl, gt_t1 8 rfl rfl, ⟨by decide, by decide, by decide +kernel⟩, by decide⟩, gt_t5 7 rfl rfl, gt_in (List.mem_append_left _ (List.mem_of_getElem? (i := 37) rfl)) rfl⟩
set_option maxRecDepth 20000 in
theorem gX7_added : XMv mX7_added 0 := ⟨⟨gt_t5 12 rfl rfl, gt_t1 8 rfl rfl, ⟨by decide, by decide, by decide +kernel⟩, by decide⟩, gt_t5 11 rfl rfl, gt_in (List.mem_append_left _ (List.mem_of_getElem? (i := 38) rfl)) rfl⟩
set_option maxRecDepth 20000 in
theorem gX7_term : XMv mX7_term 0 := ⟨⟨gt_t5 16 rfl rfl, gt_t1 8 rfl rfl, ⟨by decide, by decide, by decide +kernel⟩, by decide⟩, gt_t5 15 rfl rfl, gt_in (List.mem_append_left _ (List.mem_of_getElem? (i := 39) rfl)) rfl⟩
set_option maxRecDepth 20000 in
theorem gX7_atom : XMv mX7_atom 0 := ⟨⟨gt_t5 20 rfl rfl, gt_t1 8 rfl rfl, ⟨by decide, by decide, by decide +kernel⟩, by decide⟩, gt_t5 19 rfl rfl, gt_in (List.mem_append_left _ (List.mem_of_getElem? (i := 40) rfl)) rfl⟩
set_option maxRecDepth 20000 in
theorem gX7_isSign : XMv mX7_isSign 1 := ⟨⟨gt_t5 24 rfl rfl, gt_t1 8 rfl rfl, ⟨by decide, by decide, by decide +kernel⟩, by decide⟩, gt_t5 23 rfl rfl, gt_in (List.mem_append_left _ (List.mem_of_getElem? (i := 41) rfl)) rfl⟩
set_option maxRecDepth 20000 in
theorem gX7_name : XMv mX7_name 0 := ⟨⟨gt_t5 28 rfl rfl, gt_t1 8 rfl rfl, ⟨by decide, by decide, by decide +kernel⟩, by decide⟩, gt_t5 27 rfl rfl, gt_in (List.mem_append_left _ (List.mem_of_getElem? (i := 42) rfl)) rfl⟩
set_option maxRecDepth 20000 in
theorem gX7_force : XMv mX7_force 1 := ⟨⟨gt_t5 34 rfl rfl, gt_t1 8 rfl rfl, ⟨by decide, by decide, by decide +kernel⟩, by decide⟩, gt_t5 32 rfl rfl, gt_t5 33 rfl rfl⟩
set_option maxRecDepth 20000 in
theorem gX7_ride : XMv mX7_ride 1 := ⟨⟨gt_t5 38 rfl rfl, gt_t1 8 rfl rfl, ⟨by decide, by decide, by decide +kernel⟩, by decide⟩, gt_t5 36 rfl rfl, gt_t5 37 rfl rfl⟩
set_option maxRecDepth 20000 in
theorem gX7_allRiders : XMv mX7_allRiders 0 := ⟨⟨gt_t5 42 rfl rfl, gt_t1 8 rfl rfl, ⟨by decide, by decide, by decide +kernel⟩, by decide⟩, gt_t5 41 rfl rfl, gt_in (List.mem_append_left _ (List.mem_of_getElem? (i := 43) rfl)) rfl⟩
set_option maxRecDepth 20000 in
theorem gX7_gathers : XMv mX7_gathers 1 := ⟨⟨gt_t5 46 rfl rfl, gt_t1 8 rfl rfl, ⟨by decide, by decide, by decide +kernel⟩, by decide⟩, gt_t5 45 rfl rfl, gt_in (List.mem_append_left _ (List.mem_of_getElem? (i := 44) rfl)) rfl⟩
set_option maxRecDepth 20000 in
theorem gX7_insideAt : XMv mX7_insideAt 1 := ⟨⟨gt_t5 50 rfl rfl, gt_t1 8 rfl rfl, ⟨by decide, by decide, by decide +kernel⟩, by decide⟩, gt_t5 49 rfl rfl, gt_in (List.mem_append_left _ (List.mem_of_getElem? (i := 45) rfl)) rfl⟩
set_option maxRecDepth 20000 in
theorem gX7_says : XMv mX7_says 5 := ⟨⟨gt_t5 54 rfl rfl, gt_t1 8 rfl rfl, ⟨by decide, by decide, by decide +kernel⟩, by decide⟩, gt_t5 53 rfl rfl, gt_in (List.mem_append_left _ (List.mem_of_getElem? (i := 46) rfl)) rfl⟩
set_option maxRecDepth 20000 in
theorem gX7_within : XMs mX7_within 3 := ⟨⟨gt_t5 57 rfl rfl, gt_t1 8 rfl rfl, ⟨by decide, by decide, by decide +kernel⟩, by decide⟩, gt_t5 56 rfl rfl⟩
set_option maxRecDepth 20000 in
theorem gX7_costsOf : XMv mX7_costsOf 2 := ⟨⟨gt_t5 61 rfl rfl, gt_t1 8 rfl rfl, ⟨by decide, by decide, by decide +kernel⟩, by decide⟩, gt_t5 60 rfl rfl, gt_in (List.mem_append_left _ (List.mem_of_getElem? (i := 47) rfl)) rfl⟩
set_option maxRecDepth 20000 in
theorem gX7_rides : XMv mX7_rides 0 := ⟨⟨gt_t5 65 rfl rfl, gt_t1 8 rfl rfl, ⟨by decide, by decide, by decide +kernel⟩, by decide⟩, gt_t5 64 rfl rfl, gt_in (List.mem_append_left _ (List.mem_of_getElem? (i := 48) rfl)) rfl⟩
set_option maxRecDepth 20000 in
theorem gX7_stepsAt : XMv mX7_stepsAt 1 := ⟨⟨gt_t5 69 rfl rfl, gt_t1 8 rfl rfl, ⟨by decide, by decide, by decide +kernel⟩, by decide⟩, gt_t5 68 rfl rfl, gt_in (List.mem_append_left _ (List.mem_of_getElem? (i := 49) rfl)) rfl⟩
set_option maxRecDepth 20000 in
theorem gX7_stayingAt : XMv mX7_stayingAt 1 := ⟨⟨gt_t5 73 rfl rfl, gt_t1 8 rfl rfl, ⟨by decide, by decide, by decide +kernel⟩, by decide⟩, gt_t5 72 rfl rfl, gt_in (List.mem_append_left _ (List.mem_of_getElem? (i := 50) rfl)) rfl⟩
set_option maxRecDepth 20000 in
theorem gX7_mustFor : XMv mX7_mustFor 2 := ⟨⟨gt_t5 77 rfl rfl, gt_t1 8 rfl rfl, ⟨by decide, by decide, by decide +kernel⟩, by decide⟩, gt_t5 76 rfl rfl, gt_in (List.mem_append_left _ (List.mem_of_getElem? (i := 51) rfl)) rfl⟩
set_option maxRecDepth 20000 in
theorem gX7_barring : XMv mX7_barring 3 := ⟨⟨gt_t5 81 rfl rfl, gt_t1 8 rfl rfl, ⟨by decide, by decide, by decide +kernel⟩, by decide⟩, gt_t5 80 rfl rfl, gt_in (List.mem_append_left _ (List.mem_of_getElem? (i := 52) rfl)) rfl⟩
set_option maxRecDepth 20000 in
theorem gX7_bitsOf : XMs mX7_bitsOf 1 := ⟨⟨gt_t5 84 rfl rfl, gt_t1 8 rfl rfl, ⟨by decide, by decide, by decide +kernel⟩, by decide⟩, gt_t5 83 rfl rfl⟩
set_option maxRecDepth 20000 in
theorem gX7_costAt : XMv mX7_costAt 2 := ⟨⟨gt_t5 88 rfl rfl, gt_t1 8 rfl rfl, ⟨by decide, by decide, by decide +kernel⟩, by decide⟩, gt_t5 87 rfl rfl, gt_in (List.mem_append_left _ (List.mem_of_getElem? (i := 53) rfl)) rfl⟩
set_option maxRecDepth 20000 in
theorem gX7_floor : XMv mX7_floor 2 := ⟨⟨gt_t5 92 rfl rfl, gt_t1 8 rfl rfl, ⟨by decide, by decide, by decide +kernel⟩, by decide⟩, gt_t5 90 rfl rfl, gt_t5 91 rfl rfl⟩
set_option maxRecDepth 20000 in
theorem gX7_stand : XMv mX7_stand 1 := ⟨⟨gt_t5 96 rfl rfl, gt_t1 8 rfl rfl, ⟨by decide, by decide, by decide +kernel⟩, by decide⟩, gt_t5 94 rfl rfl, gt_t5 95 rfl rfl⟩
set_option maxRecDepth 20000 in
theorem gX7_seeks : XMv mX7_seeks 0 := ⟨⟨gt_t5 100 rfl rfl, gt_t1 8 rfl rfl, ⟨by decide, by decide, by decide +kernel⟩, by decide⟩, gt_t5 99 rfl rfl, gt_in (List.mem_append_left _ (List.mem_of_getElem? (i := 54) rfl)) rfl⟩
set_option maxRecDepth 20000 in
theorem gX7_keeps : XMv mX7_keeps 0 := ⟨⟨gt_t5 104 rfl rfl, gt_t1 8 rfl rfl, ⟨by decide, by decide, by decide +kernel⟩, by decide⟩, gt_t5 103 rfl rfl, gt_in (List.mem_append_left _ (List.mem_of_getElem? (i := 55) rfl)) rfl⟩
set_option maxRecDepth 20000 in
theorem gX7_putsFrom : XMv mX7_putsFrom 1 := ⟨⟨gt_t5 108 rfl rfl, gt_t1 8 rfl rfl, ⟨by decide, by decide, by decide +kernel⟩, by decide⟩, gt_t5 107 rfl rfl, gt_in (List.mem_append_left _ (List.mem_of_getElem? (i := 56) rfl)) rfl⟩
set_option maxRecDepth 20000 in
theorem gX7_costOfStanding : XMv mX7_costOfStanding 0 := ⟨⟨gt_t5 112 rfl rfl, gt_t1 8 rfl rfl, ⟨by decide, by decide, by decide +kernel⟩, by decide⟩, gt_t5 111 rfl rfl, gt_in (List.mem_append_left _ (List.mem_of_getElem? (i := 57) rfl)) rfl⟩
set_option maxRecDepth 20000 in
theorem gX7_laysBack : XMv mX7_laysBack 0 := ⟨⟨gt_t5 116 rfl rfl, gt_t1 8 rfl rfl, ⟨by decide, by decide, by decide +kernel⟩, by decide⟩, gt_t5 115 rfl rfl, gt_in (List.mem_append_left _ (List.mem_of_getElem? (i := 58) rfl)) rfl⟩
set_option maxRecDepth 20000 in
theorem gX7_stands : XMv mX7_stands 0 := ⟨⟨gt_t5 120 rfl rfl, gt_t1 8 rfl rfl, ⟨by decide, by decide, by decide +kernel⟩, by decide⟩, gt_t5 118 rfl rfl, gt_t5 119 rfl rfl⟩
set_option maxRecDepth 20000 in
theorem gX7_one : XMv mX7_one 2 := ⟨⟨gt_t5 124 rfl rfl, gt_t1 8 rfl rfl, ⟨by decide, by decide, by decide +kernel⟩, by decide⟩, gt_t5 122 rfl rfl, gt_t5 123 rfl rfl⟩
set_option maxRecDepth 20000 in
theorem gX7_change : XMv mX7_change 1 := ⟨⟨gt_t5 128 rfl rfl, gt_t1 8 rfl rfl, ⟨by decide, by decide, by decide +kernel⟩, by decide⟩, gt_t5 126 rfl rfl, gt_t5 127 rfl rfl⟩
set_option maxRecDepth 20000 in
theorem gX7_second : XMv mX7_second 1 := ⟨⟨gt_t5 132 rfl rfl, gt_t1 8 rfl rfl, ⟨by decide, by decide, by decide +kernel⟩, by decide⟩, gt_t5 130 rfl rfl, gt_t5 131 rfl rfl⟩
set_option maxRecDepth 20000 in
theorem gX7_mean : XMv mX7_mean 2 := ⟨⟨gt_t5 137 rfl rfl, gt_t1 8 rfl rfl, ⟨by decide, by decide, by decide +kernel⟩, by decide⟩, gt_t5 135 rfl rfl, gt_t5 136 rfl rfl⟩
set_option maxRecDepth 20000 in
theorem gX7_lowest : XMs mX7_lowest 3 := ⟨⟨gt_t5 141 rfl rfl, gt_t1 8 rfl rfl, ⟨by decide, by decide, by decide +kernel⟩, by decide⟩, gt_t5 140 rfl rfl⟩
set_option maxRecDepth 20000 in
theorem gX7_landings : XMv mX7_landings 1 := ⟨⟨gt_t5 145 rfl rfl, gt_t1 8 rfl rfl, ⟨by decide, by decide, by decide +kernel⟩, by decide⟩, gt_t5 143 rfl rfl, gt_t5 144 rfl rfl⟩
set_option maxRecDepth 20000 in
theorem gX7_landingsBad : XMv mX7_landingsBad 1 := ⟨⟨gt_t5 149 rfl rfl, gt_t1 8 rfl rfl, ⟨by decide, by decide, by decide +kernel⟩, by decide⟩, gt_t5 148 rfl rfl, gt_in (List.mem_append_left _ (List.mem_of_getElem? (i := 59) rfl)) rfl⟩
set_option maxRecDepth 20000 in
theorem gX7_isSheet : XMs mX7_isSheet 1 := ⟨⟨gt_t5 152 rfl rfl, gt_t1 8 rfl rfl, ⟨by decide, by decide, by decide +kernel⟩, by decide⟩, gt_t5 151 rfl rfl⟩
set_option maxRecDepth 20000 in
theorem gX7_unlikeAt : XMv mX7_unlikeAt 1 := ⟨⟨gt_t5 157 rfl rfl, gt_t1 8 rfl rfl, ⟨by decide, by decide, by decide +kernel⟩, by decide⟩, gt_t5 156 rfl rfl, gt_in (List.mem_append_left _ (List.mem_of_getElem? (i := 60) rfl)) rfl⟩
set_option maxRecDepth 20000 in
theorem gX7_seen : XMv mX7_seen 3 := ⟨⟨gt_t5 161 rfl rfl, gt_t1 8 rfl rfl, ⟨by decide, by decide, by decide +kernel⟩, by decide⟩, gt_t5 159 rfl rfl, gt_t5 160 rfl rfl⟩
set_option maxRecDepth 20000 in
theorem gX7_lays : XMv mX7_lays 3 := ⟨⟨gt_t5 165 rfl rfl, gt_t1 8 rfl rfl, ⟨by decide, by decide, by decide +kernel⟩, by decide⟩, gt_t5 164 rfl rfl, gt_in (List.mem_append_left _ (List.mem_of_getElem? (i := 61) rfl)) rfl⟩
set_option maxRecDepth 20000 in
theorem gX7_film : XMv mX7_film 2 := ⟨⟨gt_t5 169 rfl rfl, gt_t1 8 rfl rfl, ⟨by decide, by decide, by decide +kernel⟩, by decide⟩, gt_t5 167 rfl rfl, gt_t5 168 rfl rfl⟩
set_option maxRecDepth 20000 in
theorem gX7_sheet : XMv mX7_sheet 3 := ⟨⟨gt_t5 173 rfl rfl, gt_t1 8 rfl rfl, ⟨by decide, by decide, by decide +kernel⟩, by decide⟩, gt_t5 171 rfl rfl, gt_t5 172 rfl rfl⟩
set_option maxRecDepth 20000 in
theorem gX7_drawn : XMv mX7_drawn 1 := ⟨⟨gt_t5 178 rfl rfl, gt_t1 8 rfl rfl, ⟨by decide, by decide, by decide +kernel⟩, by decide⟩, gt_t5 176 rfl rfl, gt_t5 177 rfl rfl⟩
set_option maxRecDepth 20000 in
theorem gX7_draws : XMv mX7_draws 1 := ⟨⟨gt_t5 182 rfl rfl, gt_t1 8 rfl rfl, ⟨by decide, by decide, by decide +kernel⟩, by decide⟩, gt_t5 181 rfl rfl, gt_in (List.mem_append_left _ (List.mem_of_getElem? (i := 62) rfl)) rfl⟩
set_option maxRecDepth 20000 in
theorem gX7_chance : XMv mX7_chance 3 := ⟨⟨gt_t5 187 rfl rfl, gt_t1 8 rfl rfl, ⟨by decide, by decide, by decide +kernel⟩, by decide⟩, gt_t5 185 rfl rfl, gt_t5 186 rfl rfl⟩
set_option maxRecDepth 20000 in
theorem gX7_image : XMv mX7_image 0 := ⟨⟨gt_t5 192 rfl rfl, gt_t1 8 rfl rfl, ⟨by decide, by decide, by decide +kernel⟩, by decide⟩, gt_t5 190 rfl rfl, gt_t5 191 rfl rfl⟩
set_option maxRecDepth 20000 in
theorem gX7_back : XMv mX7_back 0 := ⟨⟨gt_t5 196 rfl rfl, gt_t1 8 rfl rfl, ⟨by decide, by decide, by decide +kernel⟩, by decide⟩, gt_t5 194 rfl rfl, gt_t5 195 rfl rfl⟩
set_option maxRecDepth 20000 in
theorem gX7_count : XMv mX7_count 1 := ⟨⟨gt_t5 200 rfl rfl, gt_t1 8 rfl rfl, ⟨by decide, by decide, by decide +kernel⟩, by decide⟩, gt_t5 198 rfl rfl, gt_t5 199 rfl rfl⟩
set_option maxRecDepth 20000 in
theorem gX7_cell : XMv mX7_cell 3 := ⟨⟨gt_t5 206 rfl rfl, gt_t1 8 rfl rfl, ⟨by decide, by decide, by decide +kernel⟩, by decide⟩, gt_t5 204 rfl rfl, gt_t5 205 rfl rfl⟩
set_option maxRecDepth 20000 in
theorem gX7_copy : XMv mX7_copy 5 := ⟨⟨gt_t5 210 rfl rfl, gt_t1 8 rfl rfl, ⟨by decide, by decide, by decide +kernel⟩, by decide⟩, gt_t5 208 rfl rfl, gt_t5 209 rfl rfl⟩
set_option maxRecDepth 20000 in
theorem gX7_riders : XMv mX7_riders 4 := ⟨⟨gt_t5 214 rfl rfl, gt_t1 8 rfl rfl, ⟨by decide, by decide, by decide +kernel⟩, by decide⟩, gt_t5 212 rfl rfl, gt_t5 213 rfl rfl⟩
set_option maxRecDepth 20000 in
theorem gX7_taken : XMv mX7_taken 2 := ⟨⟨gt_t5 219 rfl rfl, gt_t1 8 rfl rfl, ⟨by decide, by decide, by decide +kernel⟩, by decide⟩, gt_t5 217 rfl rfl, gt_t5 218 rfl rfl⟩
set_option maxRecDepth 20000 in
theorem gX7_over : XMs mX7_over 1 := ⟨⟨gt_t5 222 rfl rfl, gt_t1 8 rfl rfl, ⟨by decide, by decide, by decide +kernel⟩, by decide⟩, gt_t5 221 rfl rfl⟩
set_option maxRecDepth 20000 in
theorem iz_L : Cond.initialized RL ∈ GT := gt_t1 0 rfl rfl
set_option maxRecDepth 20000 in
theorem iz_X6 : Cond.initialized RX6 ∈ GT := gt_t1 1 rfl rfl
set_option maxRecDepth 20000 in
theorem iz_X0 : Cond.initialized RX0 ∈ GT := gt_t1 2 rfl rfl
set_option maxRecDepth 20000 in
theorem iz_X1 : Cond.initialized RX1 ∈ GT := gt_t1 3 rfl rfl
set_option maxRecDepth 20000 in
theorem iz_X5 : Cond.initialized RX5 ∈ GT := gt_t1 4 rfl rfl
set_option maxRecDepth 20000 in
theorem iz_X2 : Cond.initialized RX2 ∈ GT := gt_t1 5 rfl rfl
set_option maxRecDepth 20000 in
theorem iz_X4 : Cond.initialized RX4 ∈ GT := gt_t1 6 rfl rfl
set_option maxRecDepth 20000 in
theorem iz_X3 : Cond.initialized RX3 ∈ GT := gt_t1 7 rfl rfl
set_option maxRecDepth 20000 in
theorem iz_X7 : Cond.initialized RX7 ∈ GT := gt_t1 8 rfl rfl
set_option maxRecDepth 20000 in
theorem iz_J0 : Cond.initialized RJ0 ∈ GT := gt_t1 9 rfl rfl
set_option maxRecDepth 20000 in
theorem iz_J1 : Cond.initialized RJ1 ∈ GT := gt_t1 10 rfl rfl
set_option maxRecDepth 20000 in
theorem iz_J3 : Cond.initialized RJ3 ∈ GT := gt_t1 11 rfl rfl
set_option maxRecDepth 20000 in
theorem iz_J7 : Cond.initialized RJ7 ∈ GT := gt_t1 13 rfl rfl
set_option maxRecDepth 20000 in
theorem iz_J9 : Cond.initialized RJ9 ∈ GT := gt_t1 14 rfl rfl
set_option maxRecDepth 20000 in
theorem iz_J10 : Cond.initialized "java/lang/System" ∈ GT := gt_t1 15 rfl rfl
set_option maxRecDepth 20000 in
theorem iz_J6 : Cond.initialized RJ6 ∈ GT := gt_t1 16 rfl rfl
set_option maxRecDepth 20000 in
theorem n_L_7 : Cond.classLink RL 7 RX6 ∈ GT := gt_t1 17 rfl rfl
set_option maxRecDepth 20000 in
theorem ia_X6 : Cond.instantiable RX6 9 ∈ GT := gt_t1 18 rfl rfl
set_option maxRecDepth 20000 in
theorem l_L_9 : Cond.methodLink RL 9 yX6_init ∈ GT := gt_t1 19 rfl rfl
set_option maxRecDepth 20000 in
theorem l_X6_1 : Cond.methodLink RX6 1 Lib.objectInit ∈ GT := gt_t1 22 rfl rfl
set_option maxRecDepth 20000 in
theorem oi_inst : Cond.instanceMethod Lib.objectInit ∈ GT := gt_t1 23 rfl rfl
set_option maxRecDepth 20000 in
theorem oi_code : Cond.code Lib.objectInit ⟨#[0xb1]⟩ 1 none ∈ GT := gt_t1 24 rfl rfl
set_option maxRecDepth 20000 in
theorem n_X6_7 : Cond.classLink RX6 7 RX0 ∈ GT := gt_t1 25 rfl rfl
set_option maxRecDepth 20000 in
theorem ia_X0 : Cond.instantiable RX0 10 ∈ GT := gt_t1 26 rfl rfl
set_option maxRecDepth 20000 in
theorem l_X0_3 : Cond.methodLink RX0 3 Lib.objectInit ∈ GT := gt_t1 30 rfl rfl
set_option maxRecDepth 20000 in
theorem ac_int : Cond.arrayClass .int ∈ GT := gt_t1 82 rfl rfl
set_option maxRecDepth 20000 in
theorem n_X6_19 : Cond.classLink RX6 19 RX1 ∈ GT := gt_t1 83 rfl rfl
set_option maxRecDepth 20000 in
theorem ia_X1 : Cond.instantiable RX1 9 ∈ GT := gt_t1 84 rfl rfl
set_option maxRecDepth 20000 in
theorem l_X1_3 : Cond.methodLink RX1 3 Lib.objectInit ∈ GT := gt_t1 88 rfl rfl
set_option maxRecDepth 20000 in
theorem n_X6_26 : Cond.classLink RX6 26 RX4 ∈ GT := gt_t1 120 rfl rfl
set_option maxRecDepth 20000 in
theorem n_X6_32 : Cond.classLink RX6 32 RX3 ∈ GT := gt_t1 122 rfl rfl
set_option maxRecDepth 20000 in
theorem n_X6_38 : Cond.classLink RX6 38 RX5 ∈ GT := gt_t1 124 rfl rfl
set_option maxRecDepth 20000 in
theorem ia_X5 : Cond.instantiable RX5 12 ∈ GT := gt_t1 125 rfl rfl
set_option maxRecDepth 20000 in
theorem l_X6_40 : Cond.methodLink RX6 40 yX5_init ∈ GT := gt_t1 126 rfl rfl
set_option maxRecDepth 20000 in
theorem l_X5_3 : Cond.methodLink RX5 3 Lib.objectInit ∈ GT := gt_t1 129 rfl rfl
set_option maxRecDepth 20000 in
theorem n_X5_9 : Cond.classLink RX5 9 RX0 ∈ GT := gt_t1 130 rfl rfl
set_option maxRecDepth 20000 in
theorem n_X6_47 : Cond.classLink RX6 47 RX2 ∈ GT := gt_t1 171 rfl rfl
set_option maxRecDepth 20000 in
theorem ia_X2 : Cond.instantiable RX2 5 ∈ GT := gt_t1 172 rfl rfl
set_option maxRecDepth 20000 in
theorem l_X6_49 : Cond.methodLink RX6 49 yX2_init ∈ GT := gt_t1 173 rfl rfl
set_option maxRecDepth 20000 in
theorem l_X2_3 : Cond.methodLink RX2 3 Lib.objectInit ∈ GT := gt_t1 176 rfl rfl
set_option maxRecDepth 20000 in
theorem ia_X4 : Cond.instantiable RX4 2 ∈ GT := gt_t1 196 rfl rfl
set_option maxRecDepth 20000 in
theorem l_X6_56 : Cond.methodLink RX6 56 yX4_init ∈ GT := gt_t1 197 rfl rfl
set_option maxRecDepth 20000 in
theorem l_X4_3 : Cond.methodLink RX4 3 Lib.objectInit ∈ GT := gt_t1 200 rfl rfl
set_option maxRecDepth 20000 in
theorem ia_X3 : Cond.instantiable RX3 3 ∈ GT := gt_t1 208 rfl rfl
set_option maxRecDepth 20000 in
theorem l_X3_3 : Cond.methodLink RX3 3 Lib.objectInit ∈ GT := gt_t1 212 rfl rfl
set_option maxRecDepth 20000 in
theorem l_L_13 : Cond.methodLink RL 13 yX6_rider ∈ GT := gt_t2 14 rfl rfl
set_option maxRecDepth 20000 in
theorem l_X6_64 : Cond.methodLink RX6 64 yX6_comeIn ∈ GT := gt_t2 18 rfl rfl
set_option maxRecDepth 20000 in
theorem l_X6_99 : Cond.methodLink RX6 99 yX6_isWay ∈ GT := gt_t2 22 rfl rfl
set_option maxRecDepth 20000 in
theorem l_X6_123 : Cond.methodLink RX6 123 yX0_canStand ∈ GT := gt_t2 25 rfl rfl
set_option maxRecDepth 20000 in
theorem l_L_18 : Cond.methodLink RL 18 yX6_set ∈ GT := gt_t2 29 rfl rfl
set_option maxRecDepth 20000 in
theorem l_X6_68 : Cond.methodLink RX6 68 yX6_putDoors ∈ GT := gt_t2 33 rfl rfl
set_option maxRecDepth 20000 in
theorem l_X6_72 : Cond.methodLink RX6 72 yX0_has ∈ GT := gt_t2 37 rfl rfl
set_option maxRecDepth 20000 in
theorem l_X6_76 : Cond.methodLink RX6 76 yX6_leastOf ∈ GT := gt_t2 41 rfl rfl
set_option maxRecDepth 20000 in
theorem l_X6_80 : Cond.methodLink RX6 80 yX6_mostOf ∈ GT := gt_t2 45 rfl rfl
set_option maxRecDepth 20000 in
theorem l_X6_83 : Cond.methodLink RX6 83 yX0_rowOf ∈ GT := gt_t2 48 rfl rfl
set_option maxRecDepth 20000 in
theorem l_X6_87 : Cond.methodLink RX6 87 yX6_put ∈ GT := gt_t2 52 rfl rfl
set_option maxRecDepth 20000 in
theorem l_L_22 : Cond.methodLink RL 22 yX6_told ∈ GT := gt_t2 56 rfl rfl
set_option maxRecDepth 20000 in
theorem l_L_27 : Cond.methodLink RL 27 yX6_lets ∈ GT := gt_t2 60 rfl rfl
set_option maxRecDepth 20000 in
theorem l_X6_95 : Cond.methodLink RX6 95 yX0_letsBy ∈ GT := gt_t2 64 rfl rfl
set_option maxRecDepth 20000 in
theorem l_L_31 : Cond.methodLink RL 31 yX6_feed ∈ GT := gt_t2 68 rfl rfl
set_option maxRecDepth 20000 in
theorem l_L_36 : Cond.methodLink RL 36 yX6_text ∈ GT := gt_t2 72 rfl rfl
set_option maxRecDepth 20000 in
theorem l_X6_139 : Cond.methodLink RX6 139 yX1_reads ∈ GT := gt_t2 76 rfl rfl
set_option maxRecDepth 20000 in
theorem l_X1_28 : Cond.methodLink RX1 28 yX1_step ∈ GT := gt_t2 80 rfl rfl
set_option maxRecDepth 20000 in
theorem l_X1_78 : Cond.methodLink RX1 78 yX1_stepOverWord ∈ GT := gt_t2 84 rfl rfl
set_option maxRecDepth 20000 in
theorem l_X1_87 : Cond.methodLink RX1 87 yX1_knownWord ∈ GT := gt_t2 88 rfl rfl
set_option maxRecDepth 20000 in
theorem l_X1_91 : Cond.methodLink RX1 91 yX1_isWord ∈ GT := gt_t2 103 rfl rfl
set_option maxRecDepth 20000 in
theorem l_X1_95 : Cond.methodLink RX1 95 yJ0_length_8abf5 ∈ GT := gt_t2 107 rfl rfl
set_option maxRecDepth 20000 in
theorem l_J0_335 : Cond.methodLink RJ0 335 yJ0_coder_7d493 ∈ GT := gt_t2 111 rfl rfl
set_option maxRecDepth 20000 in
theorem l_X1_100 : Cond.methodLink RX1 100 yJ0_charAt_5068e ∈ GT := gt_t2 117 rfl rfl
set_option maxRecDepth 20000 in
theorem l_J0_492 : Cond.methodLink RJ0 492 yJ0_isLatin1_aae02 ∈ GT := gt_t2 121 rfl rfl
set_option maxRecDepth 20000 in
theorem l_J0_495 : Cond.methodLink RJ0 495 yJ1_charAt_3b067 ∈ GT := gt_t2 125 rfl rfl
set_option maxRecDepth 20000 in
theorem l_J1_9 : Cond.methodLink RJ1 9 yJ0_checkIndex_df160 ∈ GT := gt_t2 128 rfl rfl
set_option maxRecDepth 20000 in
theorem l_J0_1059 : Cond.methodLink RJ0 1059 yJ3_checkIndex_8e157 ∈ GT := gt_t2 133 rfl rfl
set_option maxRecDepth 20000 in
theorem l_X1_81 : Cond.methodLink RX1 81 yX1_stepOverDigits ∈ GT := gt_t2 155 rfl rfl
set_option maxRecDepth 20000 in
theorem l_X1_84 : Cond.methodLink RX1 84 yX1_isSign ∈ GT := gt_t2 159 rfl rfl
set_option maxRecDepth 20000 in
theorem l_X1_31 : Cond.methodLink RX1 31 yX1_passes ∈ GT := gt_t2 162 rfl rfl
set_option maxRecDepth 20000 in
theorem l_X1_35 : Cond.methodLink RX1 35 yX1_chain ∈ GT := gt_t2 166 rfl rfl
set_option maxRecDepth 20000 in
theorem l_X1_53 : Cond.methodLink RX1 53 yX1_perhapsNot ∈ GT := gt_t2 170 rfl rfl
set_option maxRecDepth 20000 in
theorem l_X1_59 : Cond.methodLink RX1 59 yX1_put ∈ GT := gt_t2 174 rfl rfl
set_option maxRecDepth 20000 in
theorem l_X1_66 : Cond.methodLink RX1 66 yX1_codeOf ∈ GT := gt_t2 178 rfl rfl
set_option maxRecDepth 20000 in
theorem l_X1_56 : Cond.methodLink RX1 56 yX1_single ∈ GT := gt_t2 181 rfl rfl
set_option maxRecDepth 20000 in
theorem l_X1_62 : Cond.methodLink RX1 62 yX1_levelOf ∈ GT := gt_t2 185 rfl rfl
set_option maxRecDepth 20000 in
theorem l_X6_146 : Cond.methodLink RX6 146 yX1_whatWasRead ∈ GT := gt_t2 188 rfl rfl
set_option maxRecDepth 20000 in
theorem n_X1_42 : Cond.classLink RX1 42 RX4 ∈ GT := gt_t2 192 rfl rfl
set_option maxRecDepth 20000 in
theorem l_X1_44 : Cond.methodLink RX1 44 yJ7_copyOf_59c91 ∈ GT := gt_t2 193 rfl rfl
set_option maxRecDepth 20000 in
theorem l_J7_316 : Cond.methodLink RJ7 316 ⟨"[I", "clone", "()Ljava/lang/Object;"⟩ ∈ GT := gt_t2 196 rfl rfl
set_option maxRecDepth 20000 in
theorem n_J7_317 : Cond.classLink RJ7 317 "[I" ∈ GT := gt_t2 202 rfl rfl
set_option maxRecDepth 20000 in
theorem l_J7_304 : Cond.methodLink RJ7 304 yJ9_min_7cf53 ∈ GT := gt_t2 203 rfl rfl
set_option maxRecDepth 20000 in
theorem l_J7_150 : Cond.methodLink RJ7 150 arraycopyName ∈ GT := gt_t2 206 rfl rfl
set_option maxRecDepth 20000 in
theorem ay_static : Cond.static arraycopyName ∈ GT := gt_t2 207 rfl rfl
set_option maxRecDepth 20000 in
theorem ay_native : Cond.native arraycopyName ∈ GT := gt_t2 208 rfl rfl
set_option maxRecDepth 20000 in
theorem l_X1_50 : Cond.methodLink RX1 50 yX4_init ∈ GT := gt_t2 209 rfl rfl
set_option maxRecDepth 20000 in
theorem ac_byte : Cond.arrayClass .byte ∈ GT := gt_t2 210 rfl rfl
set_option maxRecDepth 20000 in
theorem l_L_41 : Cond.methodLink RL 41 yX6_force ∈ GT := gt_t2 211 rfl rfl
set_option maxRecDepth 20000 in
theorem l_L_45 : Cond.methodLink RL 45 yX6_ride ∈ GT := gt_t2 215 rfl rfl
set_option maxRecDepth 20000 in
theorem l_X6_153 : Cond.methodLink RX6 153 yX5_start ∈ GT := gt_t2 219 rfl rfl
set_option maxRecDepth 20000 in
theorem l_X5_52 : Cond.methodLink RX5 52 yX0_become ∈ GT := gt_t2 223 rfl rfl
set_option maxRecDepth 20000 in
theorem l_X0_37 : Cond.methodLink RX0 37 yX0_rowOf ∈ GT := gt_t2 227 rfl rfl
set_option maxRecDepth 20000 in
theorem l_X0_41 : Cond.methodLink RX0 41 arraycopyName ∈ GT := gt_t2 228 rfl rfl
set_option maxRecDepth 20000 in
theorem l_X5_66 : Cond.methodLink RX5 66 yX5_gather ∈ GT := gt_t2 229 rfl rfl
set_option maxRecDepth 20000 in
theorem l_X5_70 : Cond.methodLink RX5 70 yJ7_fill_53178 ∈ GT := gt_t2 233 rfl rfl
set_option maxRecDepth 20000 in
theorem l_X5_82 : Cond.methodLink RX5 82 yX5_settle ∈ GT := gt_t2 236 rfl rfl
set_option maxRecDepth 20000 in
theorem l_X5_85 : Cond.methodLink RX5 85 yX5_meet ∈ GT := gt_t3 0 rfl rfl
set_option maxRecDepth 20000 in
theorem l_X5_94 : Cond.methodLink RX5 94 yX0_letsBy ∈ GT := gt_t3 4 rfl rfl
set_option maxRecDepth 20000 in
theorem l_X6_156 : Cond.methodLink RX6 156 yX5_cost ∈ GT := gt_t3 5 rfl rfl
set_option maxRecDepth 20000 in
theorem k_X5_118 : Cond.constant RX5 118 (2147483647 : Int32) ∈ GT := gt_t3 9 rfl rfl
set_option maxRecDepth 20000 in
theorem l_X5_119 : Cond.methodLink RX5 119 yX5_costBelow ∈ GT := gt_t3 10 rfl rfl
set_option maxRecDepth 20000 in
theorem l_X5_122 : Cond.methodLink RX5 122 yX5_whoStepsOut ∈ GT := gt_t3 14 rfl rfl
set_option maxRecDepth 20000 in
theorem l_X5_98 : Cond.methodLink RX5 98 yX5_whoMakesWay ∈ GT := gt_t3 18 rfl rfl
set_option maxRecDepth 20000 in
theorem l_X5_105 : Cond.methodLink RX5 105 yJ6_bitCount_0f7a4 ∈ GT := gt_t3 22 rfl rfl
set_option maxRecDepth 20000 in
theorem k_J6_265 : Cond.constant RJ6 265 (1431655765 : Int32) ∈ GT := gt_t3 25 rfl rfl
set_option maxRecDepth 20000 in
theorem k_J6_266 : Cond.constant RJ6 266 (858993459 : Int32) ∈ GT := gt_t3 26 rfl rfl
set_option maxRecDepth 20000 in
theorem k_J6_267 : Cond.constant RJ6 267 (252645135 : Int32) ∈ GT := gt_t3 27 rfl rfl
set_option maxRecDepth 20000 in
theorem l_X5_125 : Cond.methodLink RX5 125 yX5_costAt ∈ GT := gt_t3 28 rfl rfl
set_option maxRecDepth 20000 in
theorem l_X5_111 : Cond.methodLink RX5 111 yX5_price ∈ GT := gt_t3 32 rfl rfl
set_option maxRecDepth 20000 in
theorem l_X5_131 : Cond.methodLink RX5 131 yX4_worth ∈ GT := gt_t3 36 rfl rfl
set_option maxRecDepth 20000 in
theorem l_X5_135 : Cond.methodLink RX5 135 yJ9_min_7cf53 ∈ GT := gt_t3 40 rfl rfl
set_option maxRecDepth 20000 in
theorem l_X5_140 : Cond.methodLink RX5 140 yJ9_max_7cf53 ∈ GT := gt_t3 41 rfl rfl
set_option maxRecDepth 20000 in
theorem l_X5_115 : Cond.methodLink RX5 115 yX0_costToStepOut ∈ GT := gt_t3 44 rfl rfl
set_option maxRecDepth 20000 in
theorem l_X0_57 : Cond.methodLink RX0 57 yJ9_max_7cf53 ∈ GT := gt_t3 48 rfl rfl
set_option maxRecDepth 20000 in
theorem l_X6_160 : Cond.methodLink RX6 160 yX5_steps ∈ GT := gt_t3 49 rfl rfl
set_option maxRecDepth 20000 in
theorem l_X6_163 : Cond.methodLink RX6 163 yX5_floorsWithSteps ∈ GT := gt_t3 53 rfl rfl
set_option maxRecDepth 20000 in
theorem l_L_49 : Cond.methodLink RL 49 yX6_floor ∈ GT := gt_t3 57 rfl rfl
set_option maxRecDepth 20000 in
theorem l_X6_166 : Cond.methodLink RX6 166 yX5_whoStepsOut ∈ GT := gt_t3 61 rfl rfl
set_option maxRecDepth 20000 in
theorem l_X6_169 : Cond.methodLink RX6 169 yX5_costAt ∈ GT := gt_t3 62 rfl rfl
set_option maxRecDepth 20000 in
theorem l_X6_172 : Cond.methodLink RX6 172 yX5_whoGoesOn ∈ GT := gt_t3 63 rfl rfl
set_option maxRecDepth 20000 in
theorem l_L_53 : Cond.methodLink RL 53 yX6_stand ∈ GT := gt_t3 67 rfl rfl
set_option maxRecDepth 20000 in
theorem l_X6_175 : Cond.methodLink RX6 175 yX2_find ∈ GT := gt_t3 71 rfl rfl
set_option maxRecDepth 20000 in
theorem l_X2_27 : Cond.methodLink RX2 27 yX5_start ∈ GT := gt_t3 75 rfl rfl
set_option maxRecDepth 20000 in
theorem l_X2_32 : Cond.methodLink RX2 32 yX5_cost ∈ GT := gt_t3 76 rfl rfl
set_option maxRecDepth 20000 in
theorem l_X2_40 : Cond.methodLink RX2 40 yX2_putFrom ∈ GT := gt_t3 77 rfl rfl
set_option maxRecDepth 20000 in
theorem l_X2_49 : Cond.methodLink RX2 49 yX5_costBelow ∈ GT := gt_t3 81 rfl rfl
set_option maxRecDepth 20000 in
theorem l_X2_59 : Cond.methodLink RX2 59 arraycopyName ∈ GT := gt_t3 82 rfl rfl
set_option maxRecDepth 20000 in
theorem l_X2_65 : Cond.methodLink RX2 65 yX0_canStand ∈ GT := gt_t3 83 rfl rfl
set_option maxRecDepth 20000 in
theorem l_X2_69 : Cond.methodLink RX2 69 yX5_meet ∈ GT := gt_t3 84 rfl rfl
set_option maxRecDepth 20000 in
theorem l_X2_73 : Cond.methodLink RX2 73 yX5_costToMove ∈ GT := gt_t3 85 rfl rfl
set_option maxRecDepth 20000 in
theorem l_L_57 : Cond.methodLink RL 57 yX6_one ∈ GT := gt_t3 89 rfl rfl
set_option maxRecDepth 20000 in
theorem l_X6_185 : Cond.methodLink RX6 185 yX5_settle ∈ GT := gt_t3 93 rfl rfl
set_option maxRecDepth 20000 in
theorem l_X6_188 : Cond.methodLink RX6 188 yX5_costToMove ∈ GT := gt_t3 94 rfl rfl
set_option maxRecDepth 20000 in
theorem l_L_61 : Cond.methodLink RL 61 yX6_change ∈ GT := gt_t3 95 rfl rfl
set_option maxRecDepth 20000 in
theorem l_X6_191 : Cond.methodLink RX6 191 yX6_costOfChanging ∈ GT := gt_t3 99 rfl rfl
set_option maxRecDepth 20000 in
theorem l_X6_214 : Cond.methodLink RX6 214 yX0_allCanStand ∈ GT := gt_t3 103 rfl rfl
set_option maxRecDepth 20000 in
theorem l_X0_53 : Cond.methodLink RX0 53 yX0_canStand ∈ GT := gt_t3 107 rfl rfl
set_option maxRecDepth 20000 in
theorem l_L_65 : Cond.methodLink RL 65 yX6_second ∈ GT := gt_t3 108 rfl rfl
set_option maxRecDepth 20000 in
theorem k_X6_194 : Cond.constant RX6 194 (-100000 : Int32) ∈ GT := gt_t3 112 rfl rfl
set_option maxRecDepth 20000 in
theorem l_X6_195 : Cond.methodLink RX6 195 yX6_whoShouldWalk ∈ GT := gt_t3 113 rfl rfl
set_option maxRecDepth 20000 in
theorem l_X6_206 : Cond.methodLink RX6 206 yX5_gather ∈ GT := gt_t3 117 rfl rfl
set_option maxRecDepth 20000 in
theorem l_L_69 : Cond.methodLink RL 69 yX6_stands ∈ GT := gt_t3 118 rfl rfl
set_option maxRecDepth 20000 in
theorem l_L_73 : Cond.methodLink RL 73 yX6_mean ∈ GT := gt_t3 122 rfl rfl
set_option maxRecDepth 20000 in
theorem k_X6_198 : Cond.constantLong RX6 198 (-4611686018427387904 : Int64) ∈ GT := gt_t3 126 rfl rfl
set_option maxRecDepth 20000 in
theorem k_X6_200 : Cond.constantLong RX6 200 (100 : Int64) ∈ GT := gt_t3 127 rfl rfl
set_option maxRecDepth 20000 in
theorem l_X6_202 : Cond.methodLink RX6 202 yX6_weightOf ∈ GT := gt_t3 128 rfl rfl
set_option maxRecDepth 20000 in
theorem l_X6_210 : Cond.methodLink RX6 210 yX6_inLowestTerms ∈ GT := gt_t3 132 rfl rfl
set_option maxRecDepth 20000 in
theorem l_L_78 : Cond.methodLink RL 78 yX6_landings ∈ GT := gt_t3 135 rfl rfl
set_option maxRecDepth 20000 in
theorem l_X6_217 : Cond.methodLink RX6 217 yX6_isSheet ∈ GT := gt_t3 139 rfl rfl
set_option maxRecDepth 20000 in
theorem l_X6_220 : Cond.methodLink RX6 220 yX6_refusalToRead ∈ GT := gt_t3 142 rfl rfl
set_option maxRecDepth 20000 in
theorem l_X6_247 : Cond.methodLink RX6 247 yX3_isMissing ∈ GT := gt_t3 145 rfl rfl
set_option maxRecDepth 20000 in
theorem l_X6_224 : Cond.methodLink RX6 224 yX6_firstUnlike ∈ GT := gt_t3 149 rfl rfl
set_option maxRecDepth 20000 in
theorem l_L_82 : Cond.methodLink RL 82 yX6_seen ∈ GT := gt_t3 153 rfl rfl
set_option maxRecDepth 20000 in
theorem l_X6_227 : Cond.methodLink RX6 227 yX6_whichFit ∈ GT := gt_t3 157 rfl rfl
set_option maxRecDepth 20000 in
theorem l_L_86 : Cond.methodLink RL 86 yX6_film ∈ GT := gt_t3 161 rfl rfl
set_option maxRecDepth 20000 in
theorem l_X6_231 : Cond.methodLink RX6 231 yX3_become ∈ GT := gt_t3 165 rfl rfl
set_option maxRecDepth 20000 in
theorem l_X3_22 : Cond.methodLink RX3 22 yJ7_fill_53178 ∈ GT := gt_t3 169 rfl rfl
set_option maxRecDepth 20000 in
theorem l_L_90 : Cond.methodLink RL 90 yX6_drawn ∈ GT := gt_t3 170 rfl rfl
set_option maxRecDepth 20000 in
theorem l_X6_238 : Cond.methodLink RX6 238 yX6_costOfDrawn ∈ GT := gt_t3 174 rfl rfl
set_option maxRecDepth 20000 in
theorem k_X6_251 : Cond.constant RX6 251 (1103515245 : Int32) ∈ GT := gt_t3 178 rfl rfl
set_option maxRecDepth 20000 in
theorem l_L_94 : Cond.methodLink RL 94 yX6_chance ∈ GT := gt_t3 179 rfl rfl
set_option maxRecDepth 20000 in
theorem l_L_99 : Cond.methodLink RL 99 yX6_image ∈ GT := gt_t3 183 rfl rfl
set_option maxRecDepth 20000 in
theorem l_X6_241 : Cond.methodLink RX6 241 yX0_become ∈ GT := gt_t3 187 rfl rfl
set_option maxRecDepth 20000 in
theorem l_L_103 : Cond.methodLink RL 103 yX6_back ∈ GT := gt_t3 188 rfl rfl
set_option maxRecDepth 20000 in
theorem l_L_107 : Cond.methodLink RL 107 yX6_count ∈ GT := gt_t3 192 rfl rfl
set_option maxRecDepth 20000 in
theorem l_L_111 : Cond.methodLink RL 111 yX6_sheet ∈ GT := gt_t3 196 rfl rfl
set_option maxRecDepth 20000 in
theorem l_L_115 : Cond.methodLink RL 115 yX6_cell ∈ GT := gt_t3 200 rfl rfl
set_option maxRecDepth 20000 in
theorem l_X6_252 : Cond.methodLink RX6 252 yX3_narrowed ∈ GT := gt_t3 204 rfl rfl
set_option maxRecDepth 20000 in
theorem l_L_119 : Cond.methodLink RL 119 yX6_copy ∈ GT := gt_t3 208 rfl rfl
set_option maxRecDepth 20000 in
theorem l_X6_258 : Cond.methodLink RX6 258 yX3_holds ∈ GT := gt_t3 212 rfl rfl
set_option maxRecDepth 20000 in
theorem l_X6_261 : Cond.methodLink RX6 261 arraycopyName ∈ GT := gt_t3 216 rfl rfl
set_option maxRecDepth 20000 in
theorem l_L_124 : Cond.methodLink RL 124 yX6_riders ∈ GT := gt_t3 217 rfl rfl
set_option maxRecDepth 20000 in
theorem l_L_129 : Cond.methodLink RL 129 yX6_taken ∈ GT := gt_t3 221 rfl rfl
set_option maxRecDepth 20000 in
theorem l_X6_267 : Cond.methodLink RX6 267 yX6_isUnder ∈ GT := gt_t3 225 rfl rfl
set_option maxRecDepth 20000 in
theorem n_L_10 : Cond.classLink RL 10 RX7 ∈ GT := gt_t3 230 rfl rfl
set_option maxRecDepth 20000 in
theorem ia_X7 : Cond.instantiable RX7 49 ∈ GT := gt_t3 231 rfl rfl
set_option maxRecDepth 20000 in
theorem l_L_12 : Cond.methodLink RL 12 yX7_init ∈ GT := gt_t3 232 rfl rfl
set_option maxRecDepth 20000 in
theorem l_X7_7 : Cond.methodLink RX7 7 Lib.objectInit ∈ GT := gt_t3 235 rfl rfl
set_option maxRecDepth 20000 in
theorem l_X7_81 : Cond.methodLink RX7 81 yX7_spell ∈ GT := gt_t3 236 rfl rfl
set_option maxRecDepth 20000 in
theorem ac_boolean : Cond.arrayClass .boolean ∈ GT := gt_t4 147 rfl rfl
set_option maxRecDepth 20000 in
theorem l_L_17 : Cond.methodLink RL 17 yX7_rider ∈ GT := gt_t4 148 rfl rfl
set_option maxRecDepth 20000 in
theorem k_X7_95 : Cond.constantLong RX7 95 (5 : Int64) ∈ GT := gt_t4 152 rfl rfl
set_option maxRecDepth 20000 in
theorem l_X7_91 : Cond.methodLink RX7 91 yX7_in ∈ GT := gt_t4 153 rfl rfl
set_option maxRecDepth 20000 in
theorem k_X7_97 : Cond.constantLong RX7 97 (99 : Int64) ∈ GT := gt_t4 156 rfl rfl
set_option maxRecDepth 20000 in
theorem k_X7_99 : Cond.constantLong RX7 99 (899 : Int64) ∈ GT := gt_t4 157 rfl rfl
set_option maxRecDepth 20000 in
theorem l_X7_101 : Cond.methodLink RX7 101 yX7_areTwo ∈ GT := gt_t4 158 rfl rfl
set_option maxRecDepth 20000 in
theorem l_L_21 : Cond.methodLink RL 21 yX7_set ∈ GT := gt_t4 162 rfl rfl
set_option maxRecDepth 20000 in
theorem l_X7_105 : Cond.methodLink RX7 105 yX7_isRider ∈ GT := gt_t4 166 rfl rfl
set_option maxRecDepth 20000 in
theorem k_X7_108 : Cond.constantLong RX7 108 (2 : Int64) ∈ GT := gt_t4 170 rfl rfl
set_option maxRecDepth 20000 in
theorem k_X7_110 : Cond.constantLong RX7 110 (100 : Int64) ∈ GT := gt_t4 171 rfl rfl
set_option maxRecDepth 20000 in
theorem k_X7_112 : Cond.constantLong RX7 112 (9 : Int64) ∈ GT := gt_t4 172 rfl rfl
set_option maxRecDepth 20000 in
theorem l_X7_114 : Cond.methodLink RX7 114 yX7_told ∈ GT := gt_t4 173 rfl rfl
set_option maxRecDepth 20000 in
theorem k_X7_122 : Cond.constantLong RX7 122 (6 : Int64) ∈ GT := gt_t4 177 rfl rfl
set_option maxRecDepth 20000 in
theorem l_X7_118 : Cond.methodLink RX7 118 yX7_puts ∈ GT := gt_t4 178 rfl rfl
set_option maxRecDepth 20000 in
theorem l_L_26 : Cond.methodLink RL 26 yX7_told ∈ GT := gt_t4 182 rfl rfl
set_option maxRecDepth 20000 in
theorem l_L_30 : Cond.methodLink RL 30 yX7_lets ∈ GT := gt_t4 183 rfl rfl
set_option maxRecDepth 20000 in
theorem l_X7_124 : Cond.methodLink RX7 124 yX7_doesLet ∈ GT := gt_t4 187 rfl rfl
set_option maxRecDepth 20000 in
theorem l_L_35 : Cond.methodLink RL 35 yX7_feed ∈ GT := gt_t4 191 rfl rfl
set_option maxRecDepth 20000 in
theorem k_X7_128 : Cond.constantLong RX7 128 (255 : Int64) ∈ GT := gt_t4 195 rfl rfl
set_option maxRecDepth 20000 in
theorem l_L_40 : Cond.methodLink RL 40 yX7_text ∈ GT := gt_t4 196 rfl rfl
set_option maxRecDepth 20000 in
theorem l_X7_244 : Cond.methodLink RX7 244 yX7_read ∈ GT := gt_t4 200 rfl rfl
set_option maxRecDepth 20000 in
theorem l_X7_182 : Cond.methodLink RX7 182 yX7_next ∈ GT := gt_t4 204 rfl rfl
set_option maxRecDepth 20000 in
theorem l_X7_142 : Cond.methodLink RX7 142 yX7_byteAt ∈ GT := gt_t4 208 rfl rfl
set_option maxRecDepth 20000 in
theorem k_X7_152 : Cond.constantLong RX7 152 (97 : Int64) ∈ GT := gt_t4 212 rfl rfl
set_option maxRecDepth 20000 in
theorem k_X7_154 : Cond.constantLong RX7 154 (122 : Int64) ∈ GT := gt_t4 213 rfl rfl
set_option maxRecDepth 20000 in
theorem k_X7_156 : Cond.constantLong RX7 156 (48 : Int64) ∈ GT := gt_t4 214 rfl rfl
set_option maxRecDepth 20000 in
theorem k_X7_158 : Cond.constantLong RX7 158 (57 : Int64) ∈ GT := gt_t4 215 rfl rfl
set_option maxRecDepth 20000 in
theorem k_X7_164 : Cond.constantLong RX7 164 (10 : Int64) ∈ GT := gt_t4 216 rfl rfl
set_option maxRecDepth 20000 in
theorem l_X7_185 : Cond.methodLink RX7 185 yX7_isWord ∈ GT := gt_t4 217 rfl rfl
set_option maxRecDepth 20000 in
theorem l_X7_173 : Cond.methodLink RX7 173 yX7_isLetter ∈ GT := gt_t4 221 rfl rfl
set_option maxRecDepth 20000 in
theorem l_X7_240 : Cond.methodLink RX7 240 yX7_part ∈ GT := gt_t4 225 rfl rfl
set_option maxRecDepth 20000 in
theorem l_X7_179 : Cond.methodLink RX7 179 yX7_fail ∈ GT := gt_t4 229 rfl rfl
set_option maxRecDepth 20000 in
theorem l_X7_218 : Cond.methodLink RX7 218 yX7_either ∈ GT := gt_t4 233 rfl rfl
set_option maxRecDepth 20000 in
theorem l_X7_237 : Cond.methodLink RX7 237 yX7_both ∈ GT := gt_t4 237 rfl rfl
set_option maxRecDepth 20000 in
theorem l_X7_229 : Cond.methodLink RX7 229 yX7_not ∈ GT := gt_t5 1 rfl rfl
set_option maxRecDepth 20000 in
theorem l_X7_210 : Cond.methodLink RX7 210 yX7_opens ∈ GT := gt_t5 5 rfl rfl
set_option maxRecDepth 20000 in
theorem l_X7_232 : Cond.methodLink RX7 232 yX7_added ∈ GT := gt_t5 9 rfl rfl
set_option maxRecDepth 20000 in
theorem l_X7_224 : Cond.methodLink RX7 224 yX7_term ∈ GT := gt_t5 13 rfl rfl
set_option maxRecDepth 20000 in
theorem l_X7_214 : Cond.methodLink RX7 214 yX7_atom ∈ GT := gt_t5 17 rfl rfl
set_option maxRecDepth 20000 in
theorem l_X7_207 : Cond.methodLink RX7 207 yX7_isSign ∈ GT := gt_t5 21 rfl rfl
set_option maxRecDepth 20000 in
theorem l_X7_221 : Cond.methodLink RX7 221 yX7_name ∈ GT := gt_t5 25 rfl rfl
set_option maxRecDepth 20000 in
theorem k_X7_227 : Cond.constantLong RX7 227 (43 : Int64) ∈ GT := gt_t5 29 rfl rfl
set_option maxRecDepth 20000 in
theorem k_X7_235 : Cond.constantLong RX7 235 (60 : Int64) ∈ GT := gt_t5 30 rfl rfl
set_option maxRecDepth 20000 in
theorem l_L_44 : Cond.methodLink RL 44 yX7_force ∈ GT := gt_t5 31 rfl rfl
set_option maxRecDepth 20000 in
theorem l_L_48 : Cond.methodLink RL 48 yX7_ride ∈ GT := gt_t5 35 rfl rfl
set_option maxRecDepth 20000 in
theorem l_X7_291 : Cond.methodLink RX7 291 yX7_allRiders ∈ GT := gt_t5 39 rfl rfl
set_option maxRecDepth 20000 in
theorem l_X7_294 : Cond.methodLink RX7 294 yX7_gathers ∈ GT := gt_t5 43 rfl rfl
set_option maxRecDepth 20000 in
theorem l_X7_257 : Cond.methodLink RX7 257 yX7_insideAt ∈ GT := gt_t5 47 rfl rfl
set_option maxRecDepth 20000 in
theorem l_X7_260 : Cond.methodLink RX7 260 yX7_says ∈ GT := gt_t5 51 rfl rfl
set_option maxRecDepth 20000 in
theorem l_X7_250 : Cond.methodLink RX7 250 yX7_within ∈ GT := gt_t5 55 rfl rfl
set_option maxRecDepth 20000 in
theorem l_X7_264 : Cond.methodLink RX7 264 yX7_costsOf ∈ GT := gt_t5 58 rfl rfl
set_option maxRecDepth 20000 in
theorem l_X7_298 : Cond.methodLink RX7 298 yX7_rides ∈ GT := gt_t5 62 rfl rfl
set_option maxRecDepth 20000 in
theorem l_X7_285 : Cond.methodLink RX7 285 yX7_stepsAt ∈ GT := gt_t5 66 rfl rfl
set_option maxRecDepth 20000 in
theorem l_X7_273 : Cond.methodLink RX7 273 yX7_stayingAt ∈ GT := gt_t5 70 rfl rfl
set_option maxRecDepth 20000 in
theorem l_X7_276 : Cond.methodLink RX7 276 yX7_mustFor ∈ GT := gt_t5 74 rfl rfl
set_option maxRecDepth 20000 in
theorem l_X7_267 : Cond.methodLink RX7 267 yX7_barring ∈ GT := gt_t5 78 rfl rfl
set_option maxRecDepth 20000 in
theorem l_X7_270 : Cond.methodLink RX7 270 yX7_bitsOf ∈ GT := gt_t5 82 rfl rfl
set_option maxRecDepth 20000 in
theorem l_X7_288 : Cond.methodLink RX7 288 yX7_costAt ∈ GT := gt_t5 85 rfl rfl
set_option maxRecDepth 20000 in
theorem l_L_52 : Cond.methodLink RL 52 yX7_floor ∈ GT := gt_t5 89 rfl rfl
set_option maxRecDepth 20000 in
theorem l_L_56 : Cond.methodLink RL 56 yX7_stand ∈ GT := gt_t5 93 rfl rfl
set_option maxRecDepth 20000 in
theorem l_X7_319 : Cond.methodLink RX7 319 yX7_seeks ∈ GT := gt_t5 97 rfl rfl
set_option maxRecDepth 20000 in
theorem l_X7_313 : Cond.methodLink RX7 313 yX7_keeps ∈ GT := gt_t5 101 rfl rfl
set_option maxRecDepth 20000 in
theorem l_X7_310 : Cond.methodLink RX7 310 yX7_putsFrom ∈ GT := gt_t5 105 rfl rfl
set_option maxRecDepth 20000 in
theorem l_X7_301 : Cond.methodLink RX7 301 yX7_costOfStanding ∈ GT := gt_t5 109 rfl rfl
set_option maxRecDepth 20000 in
theorem l_X7_316 : Cond.methodLink RX7 316 yX7_laysBack ∈ GT := gt_t5 113 rfl rfl
set_option maxRecDepth 20000 in
theorem l_L_72 : Cond.methodLink RL 72 yX7_stands ∈ GT := gt_t5 117 rfl rfl
set_option maxRecDepth 20000 in
theorem l_L_60 : Cond.methodLink RL 60 yX7_one ∈ GT := gt_t5 121 rfl rfl
set_option maxRecDepth 20000 in
theorem l_L_64 : Cond.methodLink RL 64 yX7_change ∈ GT := gt_t5 125 rfl rfl
set_option maxRecDepth 20000 in
theorem l_L_68 : Cond.methodLink RL 68 yX7_second ∈ GT := gt_t5 129 rfl rfl
set_option maxRecDepth 20000 in
theorem k_X7_322 : Cond.constant RX7 322 (-100000 : Int32) ∈ GT := gt_t5 133 rfl rfl
set_option maxRecDepth 20000 in
theorem l_L_77 : Cond.methodLink RL 77 yX7_mean ∈ GT := gt_t5 134 rfl rfl
set_option maxRecDepth 20000 in
theorem k_X7_323 : Cond.constantLong RX7 323 (-4611686018427387904 : Int64) ∈ GT := gt_t5 138 rfl rfl
set_option maxRecDepth 20000 in
theorem l_X7_325 : Cond.methodLink RX7 325 yX7_lowest ∈ GT := gt_t5 139 rfl rfl
set_option maxRecDepth 20000 in
theorem l_L_81 : Cond.methodLink RL 81 yX7_landings ∈ GT := gt_t5 142 rfl rfl
set_option maxRecDepth 20000 in
theorem l_X7_332 : Cond.methodLink RX7 332 yX7_landingsBad ∈ GT := gt_t5 146 rfl rfl
set_option maxRecDepth 20000 in
theorem l_X7_329 : Cond.methodLink RX7 329 yX7_isSheet ∈ GT := gt_t5 150 rfl rfl
set_option maxRecDepth 20000 in
theorem k_X7_358 : Cond.constantLong RX7 358 (3 : Int64) ∈ GT := gt_t5 153 rfl rfl
set_option maxRecDepth 20000 in
theorem l_X7_335 : Cond.methodLink RX7 335 yX7_unlikeAt ∈ GT := gt_t5 154 rfl rfl
set_option maxRecDepth 20000 in
theorem l_L_85 : Cond.methodLink RL 85 yX7_seen ∈ GT := gt_t5 158 rfl rfl
set_option maxRecDepth 20000 in
theorem l_X7_338 : Cond.methodLink RX7 338 yX7_lays ∈ GT := gt_t5 162 rfl rfl
set_option maxRecDepth 20000 in
theorem l_L_89 : Cond.methodLink RL 89 yX7_film ∈ GT := gt_t5 166 rfl rfl
set_option maxRecDepth 20000 in
theorem l_X7_341 : Cond.methodLink RX7 341 yX7_sheet ∈ GT := gt_t5 170 rfl rfl
set_option maxRecDepth 20000 in
theorem k_X7_360 : Cond.constantLong RX7 360 (-1 : Int64) ∈ GT := gt_t5 174 rfl rfl
set_option maxRecDepth 20000 in
theorem l_L_93 : Cond.methodLink RL 93 yX7_drawn ∈ GT := gt_t5 175 rfl rfl
set_option maxRecDepth 20000 in
theorem l_X7_345 : Cond.methodLink RX7 345 yX7_draws ∈ GT := gt_t5 179 rfl rfl
set_option maxRecDepth 20000 in
theorem k_X7_344 : Cond.constant RX7 344 (1103515245 : Int32) ∈ GT := gt_t5 183 rfl rfl
set_option maxRecDepth 20000 in
theorem l_L_98 : Cond.methodLink RL 98 yX7_chance ∈ GT := gt_t5 184 rfl rfl
set_option maxRecDepth 20000 in
theorem k_X7_348 : Cond.constantLong RX7 348 (20 : Int64) ∈ GT := gt_t5 188 rfl rfl
set_option maxRecDepth 20000 in
theorem l_L_102 : Cond.methodLink RL 102 yX7_image ∈ GT := gt_t5 189 rfl rfl
set_option maxRecDepth 20000 in
theorem l_L_106 : Cond.methodLink RL 106 yX7_back ∈ GT := gt_t5 193 rfl rfl
set_option maxRecDepth 20000 in
theorem l_L_110 : Cond.methodLink RL 110 yX7_count ∈ GT := gt_t5 197 rfl rfl
set_option maxRecDepth 20000 in
theorem k_X7_356 : Cond.constantLong RX7 356 (4 : Int64) ∈ GT := gt_t5 201 rfl rfl
set_option maxRecDepth 20000 in
theorem l_L_114 : Cond.methodLink RL 114 yX7_sheet ∈ GT := gt_t5 202 rfl rfl
set_option maxRecDepth 20000 in
theorem l_L_118 : Cond.methodLink RL 118 yX7_cell ∈ GT := gt_t5 203 rfl rfl
set_option maxRecDepth 20000 in
theorem l_L_123 : Cond.methodLink RL 123 yX7_copy ∈ GT := gt_t5 207 rfl rfl
set_option maxRecDepth 20000 in
theorem l_L_128 : Cond.methodLink RL 128 yX7_riders ∈ GT := gt_t5 211 rfl rfl
set_option maxRecDepth 20000 in
theorem l_X7_362 : Cond.methodLink RX7 362 yX7_rider ∈ GT := gt_t5 215 rfl rfl
set_option maxRecDepth 20000 in
theorem l_L_132 : Cond.methodLink RL 132 yX7_taken ∈ GT := gt_t5 216 rfl rfl
set_option maxRecDepth 20000 in
theorem l_X7_365 : Cond.methodLink RX7 365 yX7_over ∈ GT := gt_t5 220 rfl rfl
end
