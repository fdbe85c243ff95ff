-- ===== PART A: goes FIRST, ahead of the names: the tables' words, and 'selects' of the private methods out of them =====
/-- a private method of a class that the tables say can be made, by its rows of tables_1 -/
def lw_okq (q : MethodName × Nat) : Prop := (q.1.cls ≠ "java/lang/invoke/MethodHandle" ∧ q.1.cls ≠ "java/lang/invoke/VarHandle") ∧ Cond.instantiable q.1.cls q.2 ∈ tables_1 ∧ Cond.privateMethod q.1 ∈ tables_1 ∧ Cond.instanceMethod q.1 ∈ tables_1
theorem lw_p0 : lw_okq (⟨"GetsOutFirst", "comeIn", "(III)I"⟩, 9) := ⟨⟨by decide +kernel, by decide +kernel⟩, List.mem_of_getElem? (i := 18) (by decide +kernel), List.mem_of_getElem? (i := 250) (by decide +kernel), List.mem_of_getElem? (i := 251) (by decide +kernel)⟩
theorem lw_p1 : lw_okq (⟨"GetsOutFirst", "putDoors", "(I)I"⟩, 9) := ⟨⟨by decide +kernel, by decide +kernel⟩, List.mem_of_getElem? (i := 18) (by decide +kernel), List.mem_of_getElem? (i := 265) (by decide +kernel), List.mem_of_getElem? (i := 266) (by decide +kernel)⟩
theorem lw_p2 : lw_okq (⟨"GetsOutFirst", "leastOf", "(II)I"⟩, 9) := ⟨⟨by decide +kernel, by decide +kernel⟩, List.mem_of_getElem? (i := 18) (by decide +kernel), List.mem_of_getElem? (i := 273) (by decide +kernel), List.mem_of_getElem? (i := 274) (by decide +kernel)⟩
theorem lw_p3 : lw_okq (⟨"GetsOutFirst", "put", "([III)I"⟩, 9) := ⟨⟨by decide +kernel, by decide +kernel⟩, List.mem_of_getElem? (i := 18) (by decide +kernel), List.mem_of_getElem? (i := 284) (by decide +kernel), List.mem_of_getElem? (i := 285) (by decide +kernel)⟩
theorem lw_p4 : lw_okq (⟨"GetsOutFirst$Reader", "step", "()V"⟩, 9) := ⟨⟨by decide +kernel, by decide +kernel⟩, List.mem_of_getElem? (i := 83) (by decide +kernel), List.mem_of_getElem? (i := 312) (by decide +kernel), List.mem_of_getElem? (i := 313) (by decide +kernel)⟩
theorem lw_p5 : lw_okq (⟨"GetsOutFirst$Reader", "stepOverWord", "()V"⟩, 9) := ⟨⟨by decide +kernel, by decide +kernel⟩, List.mem_of_getElem? (i := 83) (by decide +kernel), List.mem_of_getElem? (i := 316) (by decide +kernel), List.mem_of_getElem? (i := 317) (by decide +kernel)⟩
theorem lw_p6 : lw_okq (⟨"GetsOutFirst$Reader", "isWord", "(Ljava/lang/String;)Z"⟩, 9) := ⟨⟨by decide +kernel, by decide +kernel⟩, List.mem_of_getElem? (i := 83) (by decide +kernel), List.mem_of_getElem? (i := 335) (by decide +kernel), List.mem_of_getElem? (i := 336) (by decide +kernel)⟩
theorem lw_p7 : lw_okq (⟨"GetsOutFirst$Reader", "stepOverDigits", "()V"⟩, 9) := ⟨⟨by decide +kernel, by decide +kernel⟩, List.mem_of_getElem? (i := 83) (by decide +kernel), List.mem_of_getElem? (i := 387) (by decide +kernel), List.mem_of_getElem? (i := 388) (by decide +kernel)⟩
theorem lw_p8 : lw_okq (⟨"GetsOutFirst$Reader", "passes", "(I)Z"⟩, 9) := ⟨⟨by decide +kernel, by decide +kernel⟩, List.mem_of_getElem? (i := 83) (by decide +kernel), List.mem_of_getElem? (i := 394) (by decide +kernel), List.mem_of_getElem? (i := 395) (by decide +kernel)⟩
theorem lw_p9 : lw_okq (⟨"GetsOutFirst$Reader", "chain", "(II)Z"⟩, 9) := ⟨⟨by decide +kernel, by decide +kernel⟩, List.mem_of_getElem? (i := 83) (by decide +kernel), List.mem_of_getElem? (i := 398) (by decide +kernel), List.mem_of_getElem? (i := 399) (by decide +kernel)⟩
theorem lw_p10 : lw_okq (⟨"GetsOutFirst$Reader", "perhapsNot", "(I)Z"⟩, 9) := ⟨⟨by decide +kernel, by decide +kernel⟩, List.mem_of_getElem? (i := 83) (by decide +kernel), List.mem_of_getElem? (i := 402) (by decide +kernel), List.mem_of_getElem? (i := 403) (by decide +kernel)⟩
theorem lw_p11 : lw_okq (⟨"GetsOutFirst$Reader", "put", "(I)Z"⟩, 9) := ⟨⟨by decide +kernel, by decide +kernel⟩, List.mem_of_getElem? (i := 83) (by decide +kernel), List.mem_of_getElem? (i := 406) (by decide +kernel), List.mem_of_getElem? (i := 407) (by decide +kernel)⟩
theorem lw_p12 : lw_okq (⟨"GetsOutFirst$Reader", "single", "(I)Z"⟩, 9) := ⟨⟨by decide +kernel, by decide +kernel⟩, List.mem_of_getElem? (i := 83) (by decide +kernel), List.mem_of_getElem? (i := 413) (by decide +kernel), List.mem_of_getElem? (i := 414) (by decide +kernel)⟩
theorem lw_p13 : lw_okq (⟨"GetsOutFirst", "setOut", "()V"⟩, 9) := ⟨⟨by decide +kernel, by decide +kernel⟩, List.mem_of_getElem? (i := 18) (by decide +kernel), List.mem_of_getElem? (i := 451) (by decide +kernel), List.mem_of_getElem? (i := 452) (by decide +kernel)⟩
theorem lw_p14 : lw_okq (⟨"GetsOutFirst$Trip", "whoMakesWay", "(II)I"⟩, 10) := ⟨⟨by decide +kernel, by decide +kernel⟩, List.mem_of_getElem? (i := 124) (by decide +kernel), List.mem_of_getElem? (i := 494) (by decide +kernel), List.mem_of_getElem? (i := 495) (by decide +kernel)⟩
theorem lw_p15 : lw_okq (⟨"GetsOutFirst$Trip", "price", "(IIII)I"⟩, 10) := ⟨⟨by decide +kernel, by decide +kernel⟩, List.mem_of_getElem? (i := 124) (by decide +kernel), List.mem_of_getElem? (i := 508) (by decide +kernel), List.mem_of_getElem? (i := 509) (by decide +kernel)⟩
def lw_privs_1 : List (MethodName × Nat) := [(⟨"GetsOutFirst", "comeIn", "(III)I"⟩, 9), (⟨"GetsOutFirst", "putDoors", "(I)I"⟩, 9), (⟨"GetsOutFirst", "leastOf", "(II)I"⟩, 9), (⟨"GetsOutFirst", "put", "([III)I"⟩, 9), (⟨"GetsOutFirst$Reader", "step", "()V"⟩, 9), (⟨"GetsOutFirst$Reader", "stepOverWord", "()V"⟩, 9), (⟨"GetsOutFirst$Reader", "isWord", "(Ljava/lang/String;)Z"⟩, 9), (⟨"GetsOutFirst$Reader", "stepOverDigits", "()V"⟩, 9), (⟨"GetsOutFirst$Reader", "passes", "(I)Z"⟩, 9), (⟨"GetsOutFirst$Reader", "chain", "(II)Z"⟩, 9), (⟨"GetsOutFirst$Reader", "perhapsNot", "(I)Z"⟩, 9), (⟨"GetsOutFirst$Reader", "put", "(I)Z"⟩, 9), (⟨"GetsOutFirst$Reader", "single", "(I)Z"⟩, 9), (⟨"GetsOutFirst", "setOut", "()V"⟩, 9), (⟨"GetsOutFirst$Trip", "whoMakesWay", "(II)I"⟩, 10), (⟨"GetsOutFirst$Trip", "price", "(IIII)I"⟩, 10)]
theorem lw_r1 : ∀ q ∈ lw_privs_1, lw_okq q := List.forall_mem_cons.mpr ⟨lw_p0, List.forall_mem_cons.mpr ⟨lw_p1, List.forall_mem_cons.mpr ⟨lw_p2, List.forall_mem_cons.mpr ⟨lw_p3, List.forall_mem_cons.mpr ⟨lw_p4, List.forall_mem_cons.mpr ⟨lw_p5, List.forall_mem_cons.mpr ⟨lw_p6, List.forall_mem_cons.mpr ⟨lw_p7, List.forall_mem_cons.mpr ⟨lw_p8, List.forall_mem_cons.mpr ⟨lw_p9, List.forall_mem_cons.mpr ⟨lw_p10, List.forall_mem_cons.mpr ⟨lw_p11, List.forall_mem_cons.mpr ⟨lw_p12, List.forall_mem_cons.mpr ⟨lw_p13, List.forall_mem_cons.mpr ⟨lw_p14, List.forall_mem_cons.mpr ⟨lw_p15, fun _ h => absurd h List.not_mem_nil⟩⟩⟩⟩⟩⟩⟩⟩⟩⟩⟩⟩⟩⟩⟩⟩
theorem lw_p16 : lw_okq (⟨"GetsOutFirst$Seeker", "putFrom", "(LGetsOutFirst$Trip;II)V"⟩, 4) := ⟨⟨by decide +kernel, by decide +kernel⟩, List.mem_of_getElem? (i := 165) (by decide +kernel), List.mem_of_getElem? (i := 557) (by decide +kernel), List.mem_of_getElem? (i := 558) (by decide +kernel)⟩
theorem lw_p17 : lw_okq (⟨"GetsOutFirst", "costOfChanging", "(III)I"⟩, 9) := ⟨⟨by decide +kernel, by decide +kernel⟩, List.mem_of_getElem? (i := 18) (by decide +kernel), List.mem_of_getElem? (i := 579) (by decide +kernel), List.mem_of_getElem? (i := 580) (by decide +kernel)⟩
theorem lw_p18 : lw_okq (⟨"GetsOutFirst", "whoShouldWalk", "()I"⟩, 9) := ⟨⟨by decide +kernel, by decide +kernel⟩, List.mem_of_getElem? (i := 18) (by decide +kernel), List.mem_of_getElem? (i := 593) (by decide +kernel), List.mem_of_getElem? (i := 594) (by decide +kernel)⟩
theorem lw_p19 : lw_okq (⟨"GetsOutFirst", "weightOf", "(I)J"⟩, 9) := ⟨⟨by decide +kernel, by decide +kernel⟩, List.mem_of_getElem? (i := 18) (by decide +kernel), List.mem_of_getElem? (i := 608) (by decide +kernel), List.mem_of_getElem? (i := 609) (by decide +kernel)⟩
theorem lw_p20 : lw_okq (⟨"GetsOutFirst", "firstUnlike", "(LGetsOutFirst$Sheet;)I"⟩, 9) := ⟨⟨by decide +kernel, by decide +kernel⟩, List.mem_of_getElem? (i := 18) (by decide +kernel), List.mem_of_getElem? (i := 629) (by decide +kernel), List.mem_of_getElem? (i := 630) (by decide +kernel)⟩
theorem lw_p21 : lw_okq (⟨"GetsOutFirst", "whichFit", "(LGetsOutFirst$Sheet;[IIII)I"⟩, 9) := ⟨⟨by decide +kernel, by decide +kernel⟩, List.mem_of_getElem? (i := 18) (by decide +kernel), List.mem_of_getElem? (i := 637) (by decide +kernel), List.mem_of_getElem? (i := 638) (by decide +kernel)⟩
theorem lw_p22 : lw_okq (⟨"GetsOutFirst", "costOfDrawn", "(I)I"⟩, 9) := ⟨⟨by decide +kernel, by decide +kernel⟩, List.mem_of_getElem? (i := 18) (by decide +kernel), List.mem_of_getElem? (i := 654) (by decide +kernel), List.mem_of_getElem? (i := 655) (by decide +kernel)⟩
theorem lw_p23 : lw_okq (⟨"GetsOutFirstModel", "spell", "(IIIIIIIII)V"⟩, 49) := ⟨⟨by decide +kernel, by decide +kernel⟩, List.mem_of_getElem? (i := 710) (by decide +kernel), List.mem_of_getElem? (i := 716) (by decide +kernel), List.mem_of_getElem? (i := 717) (by decide +kernel)⟩
theorem lw_p24 : lw_okq (⟨"GetsOutFirstModel", "areTwo", "(I)Z"⟩, 49) := ⟨⟨by decide +kernel, by decide +kernel⟩, List.mem_of_getElem? (i := 710) (by decide +kernel), List.mem_of_getElem? (i := 878) (by decide +kernel), List.mem_of_getElem? (i := 879) (by decide +kernel)⟩
theorem lw_p25 : lw_okq (⟨"GetsOutFirstModel", "isRider", "(I)Z"⟩, 49) := ⟨⟨by decide +kernel, by decide +kernel⟩, List.mem_of_getElem? (i := 710) (by decide +kernel), List.mem_of_getElem? (i := 886) (by decide +kernel), List.mem_of_getElem? (i := 887) (by decide +kernel)⟩
theorem lw_p26 : lw_okq (⟨"GetsOutFirstModel", "puts", "(III)V"⟩, 49) := ⟨⟨by decide +kernel, by decide +kernel⟩, List.mem_of_getElem? (i := 710) (by decide +kernel), List.mem_of_getElem? (i := 898) (by decide +kernel), List.mem_of_getElem? (i := 899) (by decide +kernel)⟩
theorem lw_p27 : lw_okq (⟨"GetsOutFirstModel", "doesLet", "(II)Z"⟩, 49) := ⟨⟨by decide +kernel, by decide +kernel⟩, List.mem_of_getElem? (i := 710) (by decide +kernel), List.mem_of_getElem? (i := 907) (by decide +kernel), List.mem_of_getElem? (i := 908) (by decide +kernel)⟩
theorem lw_p28 : lw_okq (⟨"GetsOutFirstModel", "read", "(II)I"⟩, 49) := ⟨⟨by decide +kernel, by decide +kernel⟩, List.mem_of_getElem? (i := 710) (by decide +kernel), List.mem_of_getElem? (i := 920) (by decide +kernel), List.mem_of_getElem? (i := 921) (by decide +kernel)⟩
theorem lw_p29 : lw_okq (⟨"GetsOutFirstModel", "next", "()V"⟩, 49) := ⟨⟨by decide +kernel, by decide +kernel⟩, List.mem_of_getElem? (i := 710) (by decide +kernel), List.mem_of_getElem? (i := 924) (by decide +kernel), List.mem_of_getElem? (i := 925) (by decide +kernel)⟩
theorem lw_p30 : lw_okq (⟨"GetsOutFirstModel", "byteAt", "(I)I"⟩, 49) := ⟨⟨by decide +kernel, by decide +kernel⟩, List.mem_of_getElem? (i := 710) (by decide +kernel), List.mem_of_getElem? (i := 928) (by decide +kernel), List.mem_of_getElem? (i := 929) (by decide +kernel)⟩
theorem lw_p31 : lw_okq (⟨"GetsOutFirstModel", "isWord", "(IIIIIIII)Z"⟩, 49) := ⟨⟨by decide +kernel, by decide +kernel⟩, List.mem_of_getElem? (i := 710) (by decide +kernel), List.mem_of_getElem? (i := 937) (by decide +kernel), List.mem_of_getElem? (i := 938) (by decide +kernel)⟩
def lw_privs_2 : List (MethodName × Nat) := [(⟨"GetsOutFirst$Seeker", "putFrom", "(LGetsOutFirst$Trip;II)V"⟩, 4), (⟨"GetsOutFirst", "costOfChanging", "(III)I"⟩, 9), (⟨"GetsOutFirst", "whoShouldWalk", "()I"⟩, 9), (⟨"GetsOutFirst", "weightOf", "(I)J"⟩, 9), (⟨"GetsOutFirst", "firstUnlike", "(LGetsOutFirst$Sheet;)I"⟩, 9), (⟨"GetsOutFirst", "whichFit", "(LGetsOutFirst$Sheet;[IIII)I"⟩, 9), (⟨"GetsOutFirst", "costOfDrawn", "(I)I"⟩, 9), (⟨"GetsOutFirstModel", "spell", "(IIIIIIIII)V"⟩, 49), (⟨"GetsOutFirstModel", "areTwo", "(I)Z"⟩, 49), (⟨"GetsOutFirstModel", "isRider", "(I)Z"⟩, 49), (⟨"GetsOutFirstModel", "puts", "(III)V"⟩, 49), (⟨"GetsOutFirstModel", "doesLet", "(II)Z"⟩, 49), (⟨"GetsOutFirstModel", "read", "(II)I"⟩, 49), (⟨"GetsOutFirstModel", "next", "()V"⟩, 49), (⟨"GetsOutFirstModel", "byteAt", "(I)I"⟩, 49), (⟨"GetsOutFirstModel", "isWord", "(IIIIIIII)Z"⟩, 49)]
theorem lw_r2 : ∀ q ∈ lw_privs_2, lw_okq q := List.forall_mem_cons.mpr ⟨lw_p16, List.forall_mem_cons.mpr ⟨lw_p17, List.forall_mem_cons.mpr ⟨lw_p18, List.forall_mem_cons.mpr ⟨lw_p19, List.forall_mem_cons.mpr ⟨lw_p20, List.forall_mem_cons.mpr ⟨lw_p21, List.forall_mem_cons.mpr ⟨lw_p22, List.forall_mem_cons.mpr ⟨lw_p23, List.forall_mem_cons.mpr ⟨lw_p24, List.forall_mem_cons.mpr ⟨lw_p25, List.forall_mem_cons.mpr ⟨lw_p26, List.forall_mem_cons.mpr ⟨lw_p27, List.forall_mem_cons.mpr ⟨lw_p28, List.forall_mem_cons.mpr ⟨lw_p29, List.forall_mem_cons.mpr ⟨lw_p30, List.forall_mem_cons.mpr ⟨lw_p31, fun _ h => absurd h List.not_mem_nil⟩⟩⟩⟩⟩⟩⟩⟩⟩⟩⟩⟩⟩⟩⟩⟩
theorem lw_p32 : lw_okq (⟨"GetsOutFirstModel", "isLetter", "(II)Z"⟩, 49) := ⟨⟨by decide +kernel, by decide +kernel⟩, List.mem_of_getElem? (i := 710) (by decide +kernel), List.mem_of_getElem? (i := 941) (by decide +kernel), List.mem_of_getElem? (i := 942) (by decide +kernel)⟩
theorem lw_p33 : lw_okq (⟨"GetsOutFirstModel", "part", "(Z)I"⟩, 49) := ⟨⟨by decide +kernel, by decide +kernel⟩, List.mem_of_getElem? (i := 710) (by decide +kernel), List.mem_of_getElem? (i := 945) (by decide +kernel), List.mem_of_getElem? (i := 946) (by decide +kernel)⟩
theorem lw_p34 : lw_okq (⟨"GetsOutFirstModel", "fail", "()V"⟩, 49) := ⟨⟨by decide +kernel, by decide +kernel⟩, List.mem_of_getElem? (i := 710) (by decide +kernel), List.mem_of_getElem? (i := 949) (by decide +kernel), List.mem_of_getElem? (i := 950) (by decide +kernel)⟩
theorem lw_p35 : lw_okq (⟨"GetsOutFirstModel", "either", "()I"⟩, 49) := ⟨⟨by decide +kernel, by decide +kernel⟩, List.mem_of_getElem? (i := 710) (by decide +kernel), List.mem_of_getElem? (i := 953) (by decide +kernel), List.mem_of_getElem? (i := 954) (by decide +kernel)⟩
theorem lw_p36 : lw_okq (⟨"GetsOutFirstModel", "both", "()I"⟩, 49) := ⟨⟨by decide +kernel, by decide +kernel⟩, List.mem_of_getElem? (i := 710) (by decide +kernel), List.mem_of_getElem? (i := 957) (by decide +kernel), List.mem_of_getElem? (i := 958) (by decide +kernel)⟩
theorem lw_p37 : lw_okq (⟨"GetsOutFirstModel", "not", "()I"⟩, 49) := ⟨⟨by decide +kernel, by decide +kernel⟩, List.mem_of_getElem? (i := 710) (by decide +kernel), List.mem_of_getElem? (i := 961) (by decide +kernel), List.mem_of_getElem? (i := 962) (by decide +kernel)⟩
theorem lw_p38 : lw_okq (⟨"GetsOutFirstModel", "opens", "()Z"⟩, 49) := ⟨⟨by decide +kernel, by decide +kernel⟩, List.mem_of_getElem? (i := 710) (by decide +kernel), List.mem_of_getElem? (i := 965) (by decide +kernel), List.mem_of_getElem? (i := 966) (by decide +kernel)⟩
theorem lw_p39 : lw_okq (⟨"GetsOutFirstModel", "added", "()I"⟩, 49) := ⟨⟨by decide +kernel, by decide +kernel⟩, List.mem_of_getElem? (i := 710) (by decide +kernel), List.mem_of_getElem? (i := 969) (by decide +kernel), List.mem_of_getElem? (i := 970) (by decide +kernel)⟩
theorem lw_p40 : lw_okq (⟨"GetsOutFirstModel", "term", "()I"⟩, 49) := ⟨⟨by decide +kernel, by decide +kernel⟩, List.mem_of_getElem? (i := 710) (by decide +kernel), List.mem_of_getElem? (i := 973) (by decide +kernel), List.mem_of_getElem? (i := 974) (by decide +kernel)⟩
theorem lw_p41 : lw_okq (⟨"GetsOutFirstModel", "atom", "()I"⟩, 49) := ⟨⟨by decide +kernel, by decide +kernel⟩, List.mem_of_getElem? (i := 710) (by decide +kernel), List.mem_of_getElem? (i := 977) (by decide +kernel), List.mem_of_getElem? (i := 978) (by decide +kernel)⟩
theorem lw_p42 : lw_okq (⟨"GetsOutFirstModel", "isSign", "(I)Z"⟩, 49) := ⟨⟨by decide +kernel, by decide +kernel⟩, List.mem_of_getElem? (i := 710) (by decide +kernel), List.mem_of_getElem? (i := 981) (by decide +kernel), List.mem_of_getElem? (i := 982) (by decide +kernel)⟩
theorem lw_p43 : lw_okq (⟨"GetsOutFirstModel", "name", "()I"⟩, 49) := ⟨⟨by decide +kernel, by decide +kernel⟩, List.mem_of_getElem? (i := 710) (by decide +kernel), List.mem_of_getElem? (i := 985) (by decide +kernel), List.mem_of_getElem? (i := 986) (by decide +kernel)⟩
theorem lw_p44 : lw_okq (⟨"GetsOutFirstModel", "allRiders", "()I"⟩, 49) := ⟨⟨by decide +kernel, by decide +kernel⟩, List.mem_of_getElem? (i := 710) (by decide +kernel), List.mem_of_getElem? (i := 999) (by decide +kernel), List.mem_of_getElem? (i := 1000) (by decide +kernel)⟩
theorem lw_p45 : lw_okq (⟨"GetsOutFirstModel", "gathers", "(I)V"⟩, 49) := ⟨⟨by decide +kernel, by decide +kernel⟩, List.mem_of_getElem? (i := 710) (by decide +kernel), List.mem_of_getElem? (i := 1003) (by decide +kernel), List.mem_of_getElem? (i := 1004) (by decide +kernel)⟩
theorem lw_p46 : lw_okq (⟨"GetsOutFirstModel", "insideAt", "(I)I"⟩, 49) := ⟨⟨by decide +kernel, by decide +kernel⟩, List.mem_of_getElem? (i := 710) (by decide +kernel), List.mem_of_getElem? (i := 1007) (by decide +kernel), List.mem_of_getElem? (i := 1008) (by decide +kernel)⟩
theorem lw_p47 : lw_okq (⟨"GetsOutFirstModel", "says", "(IIIII)I"⟩, 49) := ⟨⟨by decide +kernel, by decide +kernel⟩, List.mem_of_getElem? (i := 710) (by decide +kernel), List.mem_of_getElem? (i := 1011) (by decide +kernel), List.mem_of_getElem? (i := 1012) (by decide +kernel)⟩
def lw_privs_3 : List (MethodName × Nat) := [(⟨"GetsOutFirstModel", "isLetter", "(II)Z"⟩, 49), (⟨"GetsOutFirstModel", "part", "(Z)I"⟩, 49), (⟨"GetsOutFirstModel", "fail", "()V"⟩, 49), (⟨"GetsOutFirstModel", "either", "()I"⟩, 49), (⟨"GetsOutFirstModel", "both", "()I"⟩, 49), (⟨"GetsOutFirstModel", "not", "()I"⟩, 49), (⟨"GetsOutFirstModel", "opens", "()Z"⟩, 49), (⟨"GetsOutFirstModel", "added", "()I"⟩, 49), (⟨"GetsOutFirstModel", "term", "()I"⟩, 49), (⟨"GetsOutFirstModel", "atom", "()I"⟩, 49), (⟨"GetsOutFirstModel", "isSign", "(I)Z"⟩, 49), (⟨"GetsOutFirstModel", "name", "()I"⟩, 49), (⟨"GetsOutFirstModel", "allRiders", "()I"⟩, 49), (⟨"GetsOutFirstModel", "gathers", "(I)V"⟩, 49), (⟨"GetsOutFirstModel", "insideAt", "(I)I"⟩, 49), (⟨"GetsOutFirstModel", "says", "(IIIII)I"⟩, 49)]
theorem lw_r3 : ∀ q ∈ lw_privs_3, lw_okq q := List.forall_mem_cons.mpr ⟨lw_p32, List.forall_mem_cons.mpr ⟨lw_p33, List.forall_mem_cons.mpr ⟨lw_p34, List.forall_mem_cons.mpr ⟨lw_p35, List.forall_mem_cons.mpr ⟨lw_p36, List.forall_mem_cons.mpr ⟨lw_p37, List.forall_mem_cons.mpr ⟨lw_p38, List.forall_mem_cons.mpr ⟨lw_p39, List.forall_mem_cons.mpr ⟨lw_p40, List.forall_mem_cons.mpr ⟨lw_p41, List.forall_mem_cons.mpr ⟨lw_p42, List.forall_mem_cons.mpr ⟨lw_p43, List.forall_mem_cons.mpr ⟨lw_p44, List.forall_mem_cons.mpr ⟨lw_p45, List.forall_mem_cons.mpr ⟨lw_p46, List.forall_mem_cons.mpr ⟨lw_p47, fun _ h => absurd h List.not_mem_nil⟩⟩⟩⟩⟩⟩⟩⟩⟩⟩⟩⟩⟩⟩⟩⟩
theorem lw_p48 : lw_okq (⟨"GetsOutFirstModel", "costsOf", "(II)I"⟩, 49) := ⟨⟨by decide +kernel, by decide +kernel⟩, List.mem_of_getElem? (i := 710) (by decide +kernel), List.mem_of_getElem? (i := 1018) (by decide +kernel), List.mem_of_getElem? (i := 1019) (by decide +kernel)⟩
theorem lw_p49 : lw_okq (⟨"GetsOutFirstModel", "rides", "()I"⟩, 49) := ⟨⟨by decide +kernel, by decide +kernel⟩, List.mem_of_getElem? (i := 710) (by decide +kernel), List.mem_of_getElem? (i := 1022) (by decide +kernel), List.mem_of_getElem? (i := 1023) (by decide +kernel)⟩
theorem lw_p50 : lw_okq (⟨"GetsOutFirstModel", "stepsAt", "(I)I"⟩, 49) := ⟨⟨by decide +kernel, by decide +kernel⟩, List.mem_of_getElem? (i := 710) (by decide +kernel), List.mem_of_getElem? (i := 1026) (by decide +kernel), List.mem_of_getElem? (i := 1027) (by decide +kernel)⟩
theorem lw_p51 : lw_okq (⟨"GetsOutFirstModel", "stayingAt", "(I)I"⟩, 49) := ⟨⟨by decide +kernel, by decide +kernel⟩, List.mem_of_getElem? (i := 710) (by decide +kernel), List.mem_of_getElem? (i := 1030) (by decide +kernel), List.mem_of_getElem? (i := 1031) (by decide +kernel)⟩
theorem lw_p52 : lw_okq (⟨"GetsOutFirstModel", "mustFor", "(II)I"⟩, 49) := ⟨⟨by decide +kernel, by decide +kernel⟩, List.mem_of_getElem? (i := 710) (by decide +kernel), List.mem_of_getElem? (i := 1034) (by decide +kernel), List.mem_of_getElem? (i := 1035) (by decide +kernel)⟩
theorem lw_p53 : lw_okq (⟨"GetsOutFirstModel", "barring", "(III)I"⟩, 49) := ⟨⟨by decide +kernel, by decide +kernel⟩, List.mem_of_getElem? (i := 710) (by decide +kernel), List.mem_of_getElem? (i := 1038) (by decide +kernel), List.mem_of_getElem? (i := 1039) (by decide +kernel)⟩
theorem lw_p54 : lw_okq (⟨"GetsOutFirstModel", "costAt", "(II)I"⟩, 49) := ⟨⟨by decide +kernel, by decide +kernel⟩, List.mem_of_getElem? (i := 710) (by decide +kernel), List.mem_of_getElem? (i := 1045) (by decide +kernel), List.mem_of_getElem? (i := 1046) (by decide +kernel)⟩
theorem lw_p55 : lw_okq (⟨"GetsOutFirstModel", "seeks", "()V"⟩, 49) := ⟨⟨by decide +kernel, by decide +kernel⟩, List.mem_of_getElem? (i := 710) (by decide +kernel), List.mem_of_getElem? (i := 1057) (by decide +kernel), List.mem_of_getElem? (i := 1058) (by decide +kernel)⟩
theorem lw_p56 : lw_okq (⟨"GetsOutFirstModel", "keeps", "()V"⟩, 49) := ⟨⟨by decide +kernel, by decide +kernel⟩, List.mem_of_getElem? (i := 710) (by decide +kernel), List.mem_of_getElem? (i := 1061) (by decide +kernel), List.mem_of_getElem? (i := 1062) (by decide +kernel)⟩
theorem lw_p57 : lw_okq (⟨"GetsOutFirstModel", "putsFrom", "(I)V"⟩, 49) := ⟨⟨by decide +kernel, by decide +kernel⟩, List.mem_of_getElem? (i := 710) (by decide +kernel), List.mem_of_getElem? (i := 1065) (by decide +kernel), List.mem_of_getElem? (i := 1066) (by decide +kernel)⟩
theorem lw_p58 : lw_okq (⟨"GetsOutFirstModel", "costOfStanding", "()I"⟩, 49) := ⟨⟨by decide +kernel, by decide +kernel⟩, List.mem_of_getElem? (i := 710) (by decide +kernel), List.mem_of_getElem? (i := 1069) (by decide +kernel), List.mem_of_getElem? (i := 1070) (by decide +kernel)⟩
theorem lw_p59 : lw_okq (⟨"GetsOutFirstModel", "laysBack", "()V"⟩, 49) := ⟨⟨by decide +kernel, by decide +kernel⟩, List.mem_of_getElem? (i := 710) (by decide +kernel), List.mem_of_getElem? (i := 1073) (by decide +kernel), List.mem_of_getElem? (i := 1074) (by decide +kernel)⟩
theorem lw_p60 : lw_okq (⟨"GetsOutFirstModel", "landingsBad", "(I)I"⟩, 49) := ⟨⟨by decide +kernel, by decide +kernel⟩, List.mem_of_getElem? (i := 710) (by decide +kernel), List.mem_of_getElem? (i := 1106) (by decide +kernel), List.mem_of_getElem? (i := 1107) (by decide +kernel)⟩
theorem lw_p61 : lw_okq (⟨"GetsOutFirstModel", "unlikeAt", "(I)I"⟩, 49) := ⟨⟨by decide +kernel, by decide +kernel⟩, List.mem_of_getElem? (i := 710) (by decide +kernel), List.mem_of_getElem? (i := 1114) (by decide +kernel), List.mem_of_getElem? (i := 1115) (by decide +kernel)⟩
theorem lw_p62 : lw_okq (⟨"GetsOutFirstModel", "lays", "(III)V"⟩, 49) := ⟨⟨by decide +kernel, by decide +kernel⟩, List.mem_of_getElem? (i := 710) (by decide +kernel), List.mem_of_getElem? (i := 1122) (by decide +kernel), List.mem_of_getElem? (i := 1123) (by decide +kernel)⟩
theorem lw_p63 : lw_okq (⟨"GetsOutFirstModel", "draws", "(I)I"⟩, 49) := ⟨⟨by decide +kernel, by decide +kernel⟩, List.mem_of_getElem? (i := 710) (by decide +kernel), List.mem_of_getElem? (i := 1139) (by decide +kernel), List.mem_of_getElem? (i := 1140) (by decide +kernel)⟩
def lw_privs_4 : List (MethodName × Nat) := [(⟨"GetsOutFirstModel", "costsOf", "(II)I"⟩, 49), (⟨"GetsOutFirstModel", "rides", "()I"⟩, 49), (⟨"GetsOutFirstModel", "stepsAt", "(I)I"⟩, 49), (⟨"GetsOutFirstModel", "stayingAt", "(I)I"⟩, 49), (⟨"GetsOutFirstModel", "mustFor", "(II)I"⟩, 49), (⟨"GetsOutFirstModel", "barring", "(III)I"⟩, 49), (⟨"GetsOutFirstModel", "costAt", "(II)I"⟩, 49), (⟨"GetsOutFirstModel", "seeks", "()V"⟩, 49), (⟨"GetsOutFirstModel", "keeps", "()V"⟩, 49), (⟨"GetsOutFirstModel", "putsFrom", "(I)V"⟩, 49), (⟨"GetsOutFirstModel", "costOfStanding", "()I"⟩, 49), (⟨"GetsOutFirstModel", "laysBack", "()V"⟩, 49), (⟨"GetsOutFirstModel", "landingsBad", "(I)I"⟩, 49), (⟨"GetsOutFirstModel", "unlikeAt", "(I)I"⟩, 49), (⟨"GetsOutFirstModel", "lays", "(III)V"⟩, 49), (⟨"GetsOutFirstModel", "draws", "(I)I"⟩, 49)]
theorem lw_r4 : ∀ q ∈ lw_privs_4, lw_okq q := List.forall_mem_cons.mpr ⟨lw_p48, List.forall_mem_cons.mpr ⟨lw_p49, List.forall_mem_cons.mpr ⟨lw_p50, List.forall_mem_cons.mpr ⟨lw_p51, List.forall_mem_cons.mpr ⟨lw_p52, List.forall_mem_cons.mpr ⟨lw_p53, List.forall_mem_cons.mpr ⟨lw_p54, List.forall_mem_cons.mpr ⟨lw_p55, List.forall_mem_cons.mpr ⟨lw_p56, List.forall_mem_cons.mpr ⟨lw_p57, List.forall_mem_cons.mpr ⟨lw_p58, List.forall_mem_cons.mpr ⟨lw_p59, List.forall_mem_cons.mpr ⟨lw_p60, List.forall_mem_cons.mpr ⟨lw_p61, List.forall_mem_cons.mpr ⟨lw_p62, List.forall_mem_cons.mpr ⟨lw_p63, fun _ h => absurd h List.not_mem_nil⟩⟩⟩⟩⟩⟩⟩⟩⟩⟩⟩⟩⟩⟩⟩⟩
def lw_privs : List (MethodName × Nat) := lw_privs_1 ++ (lw_privs_2 ++ (lw_privs_3 ++ (lw_privs_4)))
def lw_tbl : List Cond := k2_sels lw_privs ++ tables_1
theorem lw_privs_ok : ∀ q ∈ lw_privs, lw_okq q := by
  show ∀ q ∈ lw_privs_1 ++ (lw_privs_2 ++ (lw_privs_3 ++ (lw_privs_4))), lw_okq q
  exact List.forall_mem_append.mpr ⟨lw_r1, List.forall_mem_append.mpr ⟨lw_r2, List.forall_mem_append.mpr ⟨lw_r3, lw_r4⟩⟩⟩
-- names, as printed
def RX0 : String := "GetsOutFirst$Crew"
def TX0 : u_T := fun k => match k with
  | 0 => ("GetsOutFirst$Crew", "kind", "[I", true)
  | 1 => ("GetsOutFirst$Crew", "number", "[I", true)
  | 2 => ("GetsOutFirst$Crew", "size", "[I", true)
  | 3 => ("GetsOutFirst$Crew", "from", "[I", true)
  | 4 => ("GetsOutFirst$Crew", "to", "[I", true)
  | 5 => ("GetsOutFirst$Crew", "place", "[I", true)
  | 6 => ("GetsOutFirst$Crew", "chance", "[I", true)
  | 7 => ("GetsOutFirst$Crew", "count", "I", false)
  | 8 => ("GetsOutFirst$Crew", "doors", "I", false)
  | _ => ("GetsOutFirst$Crew", "rule", "I", false)
def tyX0 : Nat → FieldType := fun k => match k with
  | 0 => .array .int
  | 1 => .array .int
  | 2 => .array .int
  | 3 => .array .int
  | 4 => .array .int
  | 5 => .array .int
  | 6 => .array .int
  | 7 => .int
  | 8 => .int
  | _ => .int
abbrev wsX00 : List Cond := u_ws RX0 TX0 10
theorem nmX0 : ∀ a, a < 10 → ∀ b, b < 10 → a ≠ b → (TX0 a).2.1 ≠ (TX0 b).2.1 := by decide +kernel
theorem tyX0_ok : ∀ k, k < 10 → parseFieldDescriptor (TX0 k).2.2.1 = some (tyX0 k) := by decide +kernel
abbrev cX0_init : ByteArray := prog_2_method_1_code
def yX0_init : MethodName := ⟨RX0, "<init>", "()V"⟩
abbrev cX0_become : ByteArray := prog_2_method_2_code
def yX0_become : MethodName := ⟨RX0, "become", "(LGetsOutFirst$Crew;)V"⟩
abbrev cX0_isLike : ByteArray := prog_2_method_3_code
def yX0_isLike : MethodName := ⟨RX0, "isLike", "(LGetsOutFirst$Crew;)Z"⟩
abbrev cX0_rowOf : ByteArray := prog_2_method_4_code
def yX0_rowOf : MethodName := ⟨RX0, "rowOf", "(I)[I"⟩
abbrev cX0_has : ByteArray := prog_2_method_5_code
def yX0_has : MethodName := ⟨RX0, "has", "(I)Z"⟩
abbrev cX0_canStand : ByteArray := prog_2_method_6_code
def yX0_canStand : MethodName := ⟨RX0, "canStand", "(II)Z"⟩
abbrev cX0_allCanStand : ByteArray := prog_2_method_7_code
def yX0_allCanStand : MethodName := ⟨RX0, "allCanStand", "()Z"⟩
abbrev cX0_letsBy : ByteArray := prog_2_method_8_code
def yX0_letsBy : MethodName := ⟨RX0, "letsBy", "(II)Z"⟩
abbrev cX0_costToStepOut : ByteArray := prog_2_method_9_code
def yX0_costToStepOut : MethodName := ⟨RX0, "costToStepOut", "(II)I"⟩
def RX1 : String := "GetsOutFirst$Reader"
def TX1 : u_T := fun k => match k with
  | 0 => ("GetsOutFirst$Reader", "tape", "[I", true)
  | 1 => ("GetsOutFirst$Reader", "length", "I", false)
  | 2 => ("GetsOutFirst$Reader", "tokenAt", "I", false)
  | 3 => ("GetsOutFirst$Reader", "next", "I", false)
  | 4 => ("GetsOutFirst$Reader", "token", "I", false)
  | 5 => ("GetsOutFirst$Reader", "value", "I", false)
  | 6 => ("GetsOutFirst$Reader", "code", "[I", true)
  | 7 => ("GetsOutFirst$Reader", "codeLength", "I", false)
  | _ => ("GetsOutFirst$Reader", "ends", "[I", true)
def tyX1 : Nat → FieldType := fun k => match k with
  | 0 => .array .int
  | 1 => .int
  | 2 => .int
  | 3 => .int
  | 4 => .int
  | 5 => .int
  | 6 => .array .int
  | 7 => .int
  | _ => .array .int
abbrev wsX10 : List Cond := u_ws RX1 TX1 9
theorem nmX1 : ∀ a, a < 9 → ∀ b, b < 9 → a ≠ b → (TX1 a).2.1 ≠ (TX1 b).2.1 := by decide +kernel
theorem tyX1_ok : ∀ k, k < 9 → parseFieldDescriptor (TX1 k).2.2.1 = some (tyX1 k) := by decide +kernel
abbrev cX1_init : ByteArray := prog_3_method_1_code
def yX1_init : MethodName := ⟨RX1, "<init>", "()V"⟩
abbrev cX1_reads : ByteArray := prog_3_method_2_code
def yX1_reads : MethodName := ⟨RX1, "reads", "()Z"⟩
abbrev cX1_whatWasRead : ByteArray := prog_3_method_3_code
def yX1_whatWasRead : MethodName := ⟨RX1, "whatWasRead", "()LGetsOutFirst$Text;"⟩
abbrev cX1_chain : ByteArray := prog_3_method_4_code
def yX1_chain : MethodName := ⟨RX1, "chain", "(II)Z"⟩
abbrev cX1_perhapsNot : ByteArray := prog_3_method_5_code
def yX1_perhapsNot : MethodName := ⟨RX1, "perhapsNot", "(I)Z"⟩
abbrev cX1_single : ByteArray := prog_3_method_6_code
def yX1_single : MethodName := ⟨RX1, "single", "(I)Z"⟩
abbrev cX1_passes : ByteArray := prog_3_method_7_code
def yX1_passes : MethodName := ⟨RX1, "passes", "(I)Z"⟩
abbrev cX1_put : ByteArray := prog_3_method_8_code
def yX1_put : MethodName := ⟨RX1, "put", "(I)Z"⟩
abbrev cX1_levelOf : ByteArray := prog_3_method_9_code
def yX1_levelOf : MethodName := ⟨RX1, "levelOf", "(I)I"⟩
abbrev cX1_codeOf : ByteArray := prog_3_method_10_code
def yX1_codeOf : MethodName := ⟨RX1, "codeOf", "(I)I"⟩
abbrev cX1_step : ByteArray := prog_3_method_11_code
def yX1_step : MethodName := ⟨RX1, "step", "()V"⟩
abbrev cX1_stepOverDigits : ByteArray := prog_3_method_12_code
def yX1_stepOverDigits : MethodName := ⟨RX1, "stepOverDigits", "()V"⟩
abbrev cX1_stepOverWord : ByteArray := prog_3_method_13_code
def yX1_stepOverWord : MethodName := ⟨RX1, "stepOverWord", "()V"⟩
abbrev cX1_isWord : ByteArray := prog_3_method_14_code
def yX1_isWord : MethodName := ⟨RX1, "isWord", "(Ljava/lang/String;)Z"⟩
abbrev cX1_knownWord : ByteArray := prog_3_method_15_code
def yX1_knownWord : MethodName := ⟨RX1, "knownWord", "(I)Ljava/lang/String;"⟩
abbrev cX1_isSign : ByteArray := prog_3_method_16_code
def yX1_isSign : MethodName := ⟨RX1, "isSign", "(I)Z"⟩
def RX2 : String := "GetsOutFirst$Seeker"
def TX2 : u_T := fun k => match k with
  | 0 => ("GetsOutFirst$Seeker", "asked", "LGetsOutFirst$Crew;", true)
  | 1 => ("GetsOutFirst$Seeker", "hasFound", "Z", false)
  | 2 => ("GetsOutFirst$Seeker", "least", "I", false)
  | _ => ("GetsOutFirst$Seeker", "best", "[I", true)
def tyX2 : Nat → FieldType := fun k => match k with
  | 0 => .object "GetsOutFirst$Crew"
  | 1 => .boolean
  | 2 => .int
  | _ => .array .int
abbrev wsX20 : List Cond := u_ws RX2 TX2 4
theorem nmX2 : ∀ a, a < 4 → ∀ b, b < 4 → a ≠ b → (TX2 a).2.1 ≠ (TX2 b).2.1 := by decide +kernel
theorem tyX2_ok : ∀ k, k < 4 → parseFieldDescriptor (TX2 k).2.2.1 = some (tyX2 k) := by decide +kernel
abbrev cX2_init : ByteArray := prog_4_method_1_code
def yX2_init : MethodName := ⟨RX2, "<init>", "()V"⟩
abbrev cX2_find : ByteArray := prog_4_method_2_code
def yX2_find : MethodName := ⟨RX2, "find", "(LGetsOutFirst$Trip;)V"⟩
abbrev cX2_putFrom : ByteArray := prog_4_method_3_code
def yX2_putFrom : MethodName := ⟨RX2, "putFrom", "(LGetsOutFirst$Trip;II)V"⟩
def RX3 : String := "GetsOutFirst$Sheet"
def TX3 : u_T := fun k => match k with
  | 0 => ("GetsOutFirst$Sheet", "items", "[I", true)
  | 1 => ("GetsOutFirst$Sheet", "length", "I", false)
  | _ => ("GetsOutFirst$Sheet", "sort", "I", false)
def tyX3 : Nat → FieldType := fun k => match k with
  | 0 => .array .int
  | 1 => .int
  | _ => .int
abbrev wsX30 : List Cond := u_ws RX3 TX3 3
theorem nmX3 : ∀ a, a < 3 → ∀ b, b < 3 → a ≠ b → (TX3 a).2.1 ≠ (TX3 b).2.1 := by decide +kernel
theorem tyX3_ok : ∀ k, k < 3 → parseFieldDescriptor (TX3 k).2.2.1 = some (tyX3 k) := by decide +kernel
abbrev cX3_init : ByteArray := prog_5_method_1_code
def yX3_init : MethodName := ⟨RX3, "<init>", "()V"⟩
abbrev cX3_isMissing : ByteArray := prog_5_method_2_code
def yX3_isMissing : MethodName := ⟨RX3, "isMissing", "()Z"⟩
abbrev cX3_become : ByteArray := prog_5_method_3_code
def yX3_become : MethodName := ⟨RX3, "become", "(II)V"⟩
abbrev cX3_narrowed : ByteArray := prog_5_method_4_code
def yX3_narrowed : MethodName := ⟨RX3, "narrowed", "(I)I"⟩
abbrev cX3_holds : ByteArray := prog_5_method_5_code
def yX3_holds : MethodName := ⟨RX3, "holds", "(II)Z"⟩
def RX4 : String := "GetsOutFirst$Text"
def TX4 : u_T := fun k => match k with
  | 0 => ("GetsOutFirst$Text", "code", "[I", true)
  | _ => ("GetsOutFirst$Text", "ends", "[I", true)
def tyX4 : Nat → FieldType := fun k => match k with
  | 0 => .array .int
  | _ => .array .int
abbrev wsX40 : List Cond := u_ws RX4 TX4 2
theorem nmX4 : ∀ a, a < 2 → ∀ b, b < 2 → a ≠ b → (TX4 a).2.1 ≠ (TX4 b).2.1 := by decide +kernel
theorem tyX4_ok : ∀ k, k < 2 → parseFieldDescriptor (TX4 k).2.2.1 = some (tyX4 k) := by decide +kernel
abbrev cX4_init : ByteArray := prog_6_method_1_code
def yX4_init : MethodName := ⟨RX4, "<init>", "([I[I)V"⟩
abbrev cX4_worth : ByteArray := prog_6_method_2_code
def yX4_worth : MethodName := ⟨RX4, "worth", "(I[I[I)I"⟩
def RX5 : String := "GetsOutFirst$Trip"
def TX5 : u_T := fun k => match k with
  | 0 => ("GetsOutFirst$Trip", "crew", "LGetsOutFirst$Crew;", true)
  | 1 => ("GetsOutFirst$Trip", "rule", "LGetsOutFirst$Text;", false)
  | 2 => ("GetsOutFirst$Trip", "staying", "[I", true)
  | 3 => ("GetsOutFirst$Trip", "gettingOut", "[I", true)
  | 4 => ("GetsOutFirst$Trip", "gettingIn", "[I", true)
  | 5 => ("GetsOutFirst$Trip", "ahead", "[I", true)
  | 6 => ("GetsOutFirst$Trip", "behind", "[I", true)
  | 7 => ("GetsOutFirst$Trip", "prices", "[I", true)
  | 8 => ("GetsOutFirst$Trip", "names", "[I", true)
  | _ => ("GetsOutFirst$Trip", "stack", "[I", true)
def tyX5 : Nat → FieldType := fun k => match k with
  | 0 => .object "GetsOutFirst$Crew"
  | 1 => .object "GetsOutFirst$Text"
  | 2 => .array .int
  | 3 => .array .int
  | 4 => .array .int
  | 5 => .array .int
  | 6 => .array .int
  | 7 => .array .int
  | 8 => .array .int
  | _ => .array .int
abbrev wsX50 : List Cond := u_ws RX5 TX5 10
theorem nmX5 : ∀ a, a < 10 → ∀ b, b < 10 → a ≠ b → (TX5 a).2.1 ≠ (TX5 b).2.1 := by decide +kernel
theorem tyX5_ok : ∀ k, k < 10 → parseFieldDescriptor (TX5 k).2.2.1 = some (tyX5 k) := by decide +kernel
abbrev cX5_init : ByteArray := prog_7_method_1_code
def yX5_init : MethodName := ⟨RX5, "<init>", "()V"⟩
abbrev cX5_start : ByteArray := prog_7_method_2_code
def yX5_start : MethodName := ⟨RX5, "start", "(LGetsOutFirst$Crew;LGetsOutFirst$Text;)V"⟩
abbrev cX5_gather : ByteArray := prog_7_method_3_code
def yX5_gather : MethodName := ⟨RX5, "gather", "(I)V"⟩
abbrev cX5_settle : ByteArray := prog_7_method_4_code
def yX5_settle : MethodName := ⟨RX5, "settle", "()V"⟩
abbrev cX5_meet : ByteArray := prog_7_method_5_code
def yX5_meet : MethodName := ⟨RX5, "meet", "(I)V"⟩
abbrev cX5_whoStepsOut : ByteArray := prog_7_method_6_code
def yX5_whoStepsOut : MethodName := ⟨RX5, "whoStepsOut", "(I)I"⟩
abbrev cX5_whoMakesWay : ByteArray := prog_7_method_7_code
def yX5_whoMakesWay : MethodName := ⟨RX5, "whoMakesWay", "(II)I"⟩
abbrev cX5_whoGoesOn : ByteArray := prog_7_method_8_code
def yX5_whoGoesOn : MethodName := ⟨RX5, "whoGoesOn", "(I)I"⟩
abbrev cX5_costAt : ByteArray := prog_7_method_9_code
def yX5_costAt : MethodName := ⟨RX5, "costAt", "(II)I"⟩
abbrev cX5_cost : ByteArray := prog_7_method_10_code
def yX5_cost : MethodName := ⟨RX5, "cost", "()I"⟩
abbrev cX5_costBelow : ByteArray := prog_7_method_11_code
def yX5_costBelow : MethodName := ⟨RX5, "costBelow", "(I)I"⟩
abbrev cX5_steps : ByteArray := prog_7_method_12_code
def yX5_steps : MethodName := ⟨RX5, "steps", "()I"⟩
abbrev cX5_floorsWithSteps : ByteArray := prog_7_method_13_code
def yX5_floorsWithSteps : MethodName := ⟨RX5, "floorsWithSteps", "()I"⟩
abbrev cX5_costToMove : ByteArray := prog_7_method_14_code
def yX5_costToMove : MethodName := ⟨RX5, "costToMove", "(I)I"⟩
abbrev cX5_price : ByteArray := prog_7_method_15_code
def yX5_price : MethodName := ⟨RX5, "price", "(IIII)I"⟩
def RX6 : String := "GetsOutFirst"
def TX6 : u_T := fun k => match k with
  | 0 => ("GetsOutFirst", "crew", "LGetsOutFirst$Crew;", true)
  | 1 => ("GetsOutFirst", "kept", "LGetsOutFirst$Crew;", true)
  | 2 => ("GetsOutFirst", "hasImage", "Z", false)
  | 3 => ("GetsOutFirst", "reader", "LGetsOutFirst$Reader;", true)
  | 4 => ("GetsOutFirst", "texts", "[LGetsOutFirst$Text;", true)
  | 5 => ("GetsOutFirst", "textCount", "I", false)
  | 6 => ("GetsOutFirst", "sheets", "[LGetsOutFirst$Sheet;", true)
  | 7 => ("GetsOutFirst", "trip", "LGetsOutFirst$Trip;", true)
  | _ => ("GetsOutFirst", "seeker", "LGetsOutFirst$Seeker;", true)
def tyX6 : Nat → FieldType := fun k => match k with
  | 0 => .object "GetsOutFirst$Crew"
  | 1 => .object "GetsOutFirst$Crew"
  | 2 => .boolean
  | 3 => .object "GetsOutFirst$Reader"
  | 4 => .array (.object "GetsOutFirst$Text")
  | 5 => .int
  | 6 => .array (.object "GetsOutFirst$Sheet")
  | 7 => .object "GetsOutFirst$Trip"
  | _ => .object "GetsOutFirst$Seeker"
abbrev wsX60 : List Cond := u_ws RX6 TX6 9
theorem nmX6 : ∀ a, a < 9 → ∀ b, b < 9 → a ≠ b → (TX6 a).2.1 ≠ (TX6 b).2.1 := by decide +kernel
theorem tyX6_ok : ∀ k, k < 9 → parseFieldDescriptor (TX6 k).2.2.1 = some (tyX6 k) := by decide +kernel
abbrev cX6_init : ByteArray := prog_1_method_1_code
def yX6_init : MethodName := ⟨RX6, "<init>", "()V"⟩
abbrev cX6_rider : ByteArray := prog_1_method_2_code
def yX6_rider : MethodName := ⟨RX6, "rider", "(III)I"⟩
abbrev cX6_set : ByteArray := prog_1_method_3_code
def yX6_set : MethodName := ⟨RX6, "set", "(III)I"⟩
abbrev cX6_told : ByteArray := prog_1_method_4_code
def yX6_told : MethodName := ⟨RX6, "told", "(II)I"⟩
abbrev cX6_lets : ByteArray := prog_1_method_5_code
def yX6_lets : MethodName := ⟨RX6, "lets", "(II)I"⟩
abbrev cX6_comeIn : ByteArray := prog_1_method_6_code
def yX6_comeIn : MethodName := ⟨RX6, "comeIn", "(III)I"⟩
abbrev cX6_isWay : ByteArray := prog_1_method_7_code
def yX6_isWay : MethodName := ⟨RX6, "isWay", "(I)Z"⟩
abbrev cX6_putDoors : ByteArray := prog_1_method_8_code
def yX6_putDoors : MethodName := ⟨RX6, "putDoors", "(I)I"⟩
abbrev cX6_put : ByteArray := prog_1_method_9_code
def yX6_put : MethodName := ⟨RX6, "put", "([III)I"⟩
abbrev cX6_leastOf : ByteArray := prog_1_method_10_code
def yX6_leastOf : MethodName := ⟨RX6, "leastOf", "(II)I"⟩
abbrev cX6_mostOf : ByteArray := prog_1_method_11_code
def yX6_mostOf : MethodName := ⟨RX6, "mostOf", "(I)I"⟩
abbrev cX6_feed : ByteArray := prog_1_method_12_code
def yX6_feed : MethodName := ⟨RX6, "feed", "(I)I"⟩
abbrev cX6_text : ByteArray := prog_1_method_13_code
def yX6_text : MethodName := ⟨RX6, "text", "()I"⟩
abbrev cX6_force : ByteArray := prog_1_method_14_code
def yX6_force : MethodName := ⟨RX6, "force", "(I)I"⟩
abbrev cX6_ride : ByteArray := prog_1_method_15_code
def yX6_ride : MethodName := ⟨RX6, "ride", "(I)I"⟩
abbrev cX6_floor : ByteArray := prog_1_method_16_code
def yX6_floor : MethodName := ⟨RX6, "floor", "(II)I"⟩
abbrev cX6_setOut : ByteArray := prog_1_method_17_code
def yX6_setOut : MethodName := ⟨RX6, "setOut", "()V"⟩
abbrev cX6_stand : ByteArray := prog_1_method_18_code
def yX6_stand : MethodName := ⟨RX6, "stand", "(I)I"⟩
abbrev cX6_one : ByteArray := prog_1_method_19_code
def yX6_one : MethodName := ⟨RX6, "one", "(II)I"⟩
abbrev cX6_change : ByteArray := prog_1_method_20_code
def yX6_change : MethodName := ⟨RX6, "change", "(I)I"⟩
abbrev cX6_second : ByteArray := prog_1_method_21_code
def yX6_second : MethodName := ⟨RX6, "second", "(I)I"⟩
abbrev cX6_stands : ByteArray := prog_1_method_22_code
def yX6_stands : MethodName := ⟨RX6, "stands", "()I"⟩
abbrev cX6_mean : ByteArray := prog_1_method_23_code
def yX6_mean : MethodName := ⟨RX6, "mean", "(II)J"⟩
abbrev cX6_costOfChanging : ByteArray := prog_1_method_24_code
def yX6_costOfChanging : MethodName := ⟨RX6, "costOfChanging", "(III)I"⟩
abbrev cX6_whoShouldWalk : ByteArray := prog_1_method_25_code
def yX6_whoShouldWalk : MethodName := ⟨RX6, "whoShouldWalk", "()I"⟩
abbrev cX6_weightOf : ByteArray := prog_1_method_26_code
def yX6_weightOf : MethodName := ⟨RX6, "weightOf", "(I)J"⟩
abbrev cX6_inLowestTerms : ByteArray := prog_1_method_27_code
def yX6_inLowestTerms : MethodName := ⟨RX6, "inLowestTerms", "(JJI)J"⟩
abbrev cX6_landings : ByteArray := prog_1_method_28_code
def yX6_landings : MethodName := ⟨RX6, "landings", "(I)I"⟩
abbrev cX6_seen : ByteArray := prog_1_method_29_code
def yX6_seen : MethodName := ⟨RX6, "seen", "(III)I"⟩
abbrev cX6_film : ByteArray := prog_1_method_30_code
def yX6_film : MethodName := ⟨RX6, "film", "(II)I"⟩
abbrev cX6_drawn : ByteArray := prog_1_method_31_code
def yX6_drawn : MethodName := ⟨RX6, "drawn", "(I)I"⟩
abbrev cX6_chance : ByteArray := prog_1_method_32_code
def yX6_chance : MethodName := ⟨RX6, "chance", "(III)J"⟩
abbrev cX6_image : ByteArray := prog_1_method_33_code
def yX6_image : MethodName := ⟨RX6, "image", "()I"⟩
abbrev cX6_back : ByteArray := prog_1_method_34_code
def yX6_back : MethodName := ⟨RX6, "back", "()I"⟩
abbrev cX6_count : ByteArray := prog_1_method_35_code
def yX6_count : MethodName := ⟨RX6, "count", "(I)I"⟩
abbrev cX6_refusalToRead : ByteArray := prog_1_method_36_code
def yX6_refusalToRead : MethodName := ⟨RX6, "refusalToRead", "(LGetsOutFirst$Sheet;)I"⟩
abbrev cX6_firstUnlike : ByteArray := prog_1_method_37_code
def yX6_firstUnlike : MethodName := ⟨RX6, "firstUnlike", "(LGetsOutFirst$Sheet;)I"⟩
abbrev cX6_whichFit : ByteArray := prog_1_method_38_code
def yX6_whichFit : MethodName := ⟨RX6, "whichFit", "(LGetsOutFirst$Sheet;[IIII)I"⟩
abbrev cX6_costOfDrawn : ByteArray := prog_1_method_39_code
def yX6_costOfDrawn : MethodName := ⟨RX6, "costOfDrawn", "(I)I"⟩
abbrev cX6_sheet : ByteArray := prog_1_method_40_code
def yX6_sheet : MethodName := ⟨RX6, "sheet", "(III)I"⟩
abbrev cX6_cell : ByteArray := prog_1_method_41_code
def yX6_cell : MethodName := ⟨RX6, "cell", "(III)I"⟩
abbrev cX6_copy : ByteArray := prog_1_method_42_code
def yX6_copy : MethodName := ⟨RX6, "copy", "(IIIII)I"⟩
abbrev cX6_riders : ByteArray := prog_1_method_43_code
def yX6_riders : MethodName := ⟨RX6, "riders", "(IIII)I"⟩
abbrev cX6_taken : ByteArray := prog_1_method_44_code
def yX6_taken : MethodName := ⟨RX6, "taken", "(II)I"⟩
abbrev cX6_isSheet : ByteArray := prog_1_method_45_code
def yX6_isSheet : MethodName := ⟨RX6, "isSheet", "(I)Z"⟩
abbrev cX6_isUnder : ByteArray := prog_1_method_46_code
def yX6_isUnder : MethodName := ⟨RX6, "isUnder", "(II)Z"⟩
def RX7 : String := "GetsOutFirstModel"
def TX7 : u_T := fun k => match k with
  | 0 => ("GetsOutFirstModel", "thrown", "I", false)
  | 1 => ("GetsOutFirstModel", "texts", "[I", true)
  | 2 => ("GetsOutFirstModel", "textSize", "[I", true)
  | 3 => ("GetsOutFirstModel", "textCount", "I", false)
  | 4 => ("GetsOutFirstModel", "rule", "I", false)
  | 5 => ("GetsOutFirstModel", "tape", "[I", true)
  | 6 => ("GetsOutFirstModel", "taped", "I", false)
  | 7 => ("GetsOutFirstModel", "doors", "I", false)
  | 8 => ("GetsOutFirstModel", "kinds", "[I", true)
  | 9 => ("GetsOutFirstModel", "numbers", "[I", true)
  | 10 => ("GetsOutFirstModel", "sizes", "[I", true)
  | 11 => ("GetsOutFirstModel", "froms", "[I", true)
  | 12 => ("GetsOutFirstModel", "tos", "[I", true)
  | 13 => ("GetsOutFirstModel", "places", "[I", true)
  | 14 => ("GetsOutFirstModel", "chances", "[I", true)
  | 15 => ("GetsOutFirstModel", "riderMany", "I", false)
  | 16 => ("GetsOutFirstModel", "ofRider", "I", false)
  | 17 => ("GetsOutFirstModel", "ofFloor", "I", false)
  | 18 => ("GetsOutFirstModel", "ofSize", "I", false)
  | 19 => ("GetsOutFirstModel", "ofRow", "I", false)
  | 20 => ("GetsOutFirstModel", "ofNumber", "I", false)
  | 21 => ("GetsOutFirstModel", "ofInside", "I", false)
  | 22 => ("GetsOutFirstModel", "from", "I", false)
  | 23 => ("GetsOutFirstModel", "size", "I", false)
  | 24 => ("GetsOutFirstModel", "here", "I", false)
  | 25 => ("GetsOutFirstModel", "token", "I", false)
  | 26 => ("GetsOutFirstModel", "tokenAt", "I", false)
  | 27 => ("GetsOutFirstModel", "tokenWorth", "J", false)
  | 28 => ("GetsOutFirstModel", "open", "I", false)
  | 29 => ("GetsOutFirstModel", "bad", "Z", false)
  | 30 => ("GetsOutFirstModel", "fault", "I", false)
  | 31 => ("GetsOutFirstModel", "stepping", "[I", true)
  | 32 => ("GetsOutFirstModel", "being", "[I", true)
  | 33 => ("GetsOutFirstModel", "moving", "[I", true)
  | 34 => ("GetsOutFirstModel", "there", "I", false)
  | 35 => ("GetsOutFirstModel", "steps", "I", false)
  | 36 => ("GetsOutFirstModel", "floors", "I", false)
  | 37 => ("GetsOutFirstModel", "placesWas", "[I", true)
  | 38 => ("GetsOutFirstModel", "bestPlaces", "[I", true)
  | 39 => ("GetsOutFirstModel", "bestCost", "I", false)
  | 40 => ("GetsOutFirstModel", "isFound", "Z", false)
  | 41 => ("GetsOutFirstModel", "kept", "[I", true)
  | 42 => ("GetsOutFirstModel", "manyKept", "I", false)
  | 43 => ("GetsOutFirstModel", "doorsKept", "I", false)
  | 44 => ("GetsOutFirstModel", "ruleKept", "I", false)
  | 45 => ("GetsOutFirstModel", "isThere", "[Z", true)
  | 46 => ("GetsOutFirstModel", "sorts", "[I", true)
  | 47 => ("GetsOutFirstModel", "sheetSize", "[I", true)
  | _ => ("GetsOutFirstModel", "items", "[I", true)
def tyX7 : Nat → FieldType := fun k => match k with
  | 0 => .int
  | 1 => .array .int
  | 2 => .array .int
  | 3 => .int
  | 4 => .int
  | 5 => .array .int
  | 6 => .int
  | 7 => .int
  | 8 => .array .int
  | 9 => .array .int
  | 10 => .array .int
  | 11 => .array .int
  | 12 => .array .int
  | 13 => .array .int
  | 14 => .array .int
  | 15 => .int
  | 16 => .int
  | 17 => .int
  | 18 => .int
  | 19 => .int
  | 20 => .int
  | 21 => .int
  | 22 => .int
  | 23 => .int
  | 24 => .int
  | 25 => .int
  | 26 => .int
  | 27 => .long
  | 28 => .int
  | 29 => .boolean
  | 30 => .int
  | 31 => .array .int
  | 32 => .array .int
  | 33 => .array .int
  | 34 => .int
  | 35 => .int
  | 36 => .int
  | 37 => .array .int
  | 38 => .array .int
  | 39 => .int
  | 40 => .boolean
  | 41 => .array .int
  | 42 => .int
  | 43 => .int
  | 44 => .int
  | 45 => .array .boolean
  | 46 => .array .int
  | 47 => .array .int
  | _ => .array .int
abbrev wsX70 : List Cond := u_ws RX7 TX7 49
theorem nmX7 : ∀ a, a < 49 → ∀ b, b < 49 → a ≠ b → (TX7 a).2.1 ≠ (TX7 b).2.1 := by decide +kernel
theorem tyX7_ok : ∀ k, k < 49 → parseFieldDescriptor (TX7 k).2.2.1 = some (tyX7 k) := by decide +kernel
abbrev cX7_in : ByteArray := prog_9_method_2_code
def yX7_in : MethodName := ⟨RX7, "in", "(JJJ)Z"⟩
abbrev cX7_within : ByteArray := prog_9_method_3_code
def yX7_within : MethodName := ⟨RX7, "within", "(III)I"⟩
abbrev cX7_bitsOf : ByteArray := prog_9_method_4_code
def yX7_bitsOf : MethodName := ⟨RX7, "bitsOf", "(I)I"⟩
abbrev cX7_init : ByteArray := prog_9_method_5_code
def yX7_init : MethodName := ⟨RX7, "<init>", "()V"⟩
abbrev cX7_spell : ByteArray := prog_9_method_6_code
def yX7_spell : MethodName := ⟨RX7, "spell", "(IIIIIIIII)V"⟩
abbrev cX7_isRider : ByteArray := prog_9_method_7_code
def yX7_isRider : MethodName := ⟨RX7, "isRider", "(I)Z"⟩
abbrev cX7_allRiders : ByteArray := prog_9_method_8_code
def yX7_allRiders : MethodName := ⟨RX7, "allRiders", "()I"⟩
abbrev cX7_areTwo : ByteArray := prog_9_method_9_code
def yX7_areTwo : MethodName := ⟨RX7, "areTwo", "(I)Z"⟩
abbrev cX7_rider : ByteArray := prog_9_method_10_code
def yX7_rider : MethodName := ⟨RX7, "rider", "(III)I"⟩
abbrev cX7_set : ByteArray := prog_9_method_11_code
def yX7_set : MethodName := ⟨RX7, "set", "(III)I"⟩
abbrev cX7_puts : ByteArray := prog_9_method_12_code
def yX7_puts : MethodName := ⟨RX7, "puts", "(III)V"⟩
abbrev cX7_told : ByteArray := prog_9_method_13_code
def yX7_told : MethodName := ⟨RX7, "told", "(II)I"⟩
abbrev cX7_doesLet : ByteArray := prog_9_method_14_code
def yX7_doesLet : MethodName := ⟨RX7, "doesLet", "(II)Z"⟩
abbrev cX7_lets : ByteArray := prog_9_method_15_code
def yX7_lets : MethodName := ⟨RX7, "lets", "(II)I"⟩
abbrev cX7_costsOf : ByteArray := prog_9_method_16_code
def yX7_costsOf : MethodName := ⟨RX7, "costsOf", "(II)I"⟩
abbrev cX7_feed : ByteArray := prog_9_method_17_code
def yX7_feed : MethodName := ⟨RX7, "feed", "(I)I"⟩
abbrev cX7_byteAt : ByteArray := prog_9_method_18_code
def yX7_byteAt : MethodName := ⟨RX7, "byteAt", "(I)I"⟩
abbrev cX7_next : ByteArray := prog_9_method_19_code
def yX7_next : MethodName := ⟨RX7, "next", "()V"⟩
abbrev cX7_fail : ByteArray := prog_9_method_20_code
def yX7_fail : MethodName := ⟨RX7, "fail", "()V"⟩
abbrev cX7_isLetter : ByteArray := prog_9_method_21_code
def yX7_isLetter : MethodName := ⟨RX7, "isLetter", "(II)Z"⟩
abbrev cX7_isWord : ByteArray := prog_9_method_22_code
def yX7_isWord : MethodName := ⟨RX7, "isWord", "(IIIIIIII)Z"⟩
abbrev cX7_isSign : ByteArray := prog_9_method_23_code
def yX7_isSign : MethodName := ⟨RX7, "isSign", "(I)Z"⟩
abbrev cX7_opens : ByteArray := prog_9_method_24_code
def yX7_opens : MethodName := ⟨RX7, "opens", "()Z"⟩
abbrev cX7_name : ByteArray := prog_9_method_25_code
def yX7_name : MethodName := ⟨RX7, "name", "()I"⟩
abbrev cX7_atom : ByteArray := prog_9_method_26_code
def yX7_atom : MethodName := ⟨RX7, "atom", "()I"⟩
abbrev cX7_term : ByteArray := prog_9_method_27_code
def yX7_term : MethodName := ⟨RX7, "term", "()I"⟩
abbrev cX7_added : ByteArray := prog_9_method_28_code
def yX7_added : MethodName := ⟨RX7, "added", "()I"⟩
abbrev cX7_not : ByteArray := prog_9_method_29_code
def yX7_not : MethodName := ⟨RX7, "not", "()I"⟩
abbrev cX7_both : ByteArray := prog_9_method_30_code
def yX7_both : MethodName := ⟨RX7, "both", "()I"⟩
abbrev cX7_either : ByteArray := prog_9_method_31_code
def yX7_either : MethodName := ⟨RX7, "either", "()I"⟩
abbrev cX7_part : ByteArray := prog_9_method_32_code
def yX7_part : MethodName := ⟨RX7, "part", "(Z)I"⟩
abbrev cX7_read : ByteArray := prog_9_method_33_code
def yX7_read : MethodName := ⟨RX7, "read", "(II)I"⟩
abbrev cX7_text : ByteArray := prog_9_method_34_code
def yX7_text : MethodName := ⟨RX7, "text", "()I"⟩
abbrev cX7_force : ByteArray := prog_9_method_35_code
def yX7_force : MethodName := ⟨RX7, "force", "(I)I"⟩
abbrev cX7_says : ByteArray := prog_9_method_36_code
def yX7_says : MethodName := ⟨RX7, "says", "(IIIII)I"⟩
abbrev cX7_insideAt : ByteArray := prog_9_method_37_code
def yX7_insideAt : MethodName := ⟨RX7, "insideAt", "(I)I"⟩
abbrev cX7_gathers : ByteArray := prog_9_method_38_code
def yX7_gathers : MethodName := ⟨RX7, "gathers", "(I)V"⟩
abbrev cX7_stayingAt : ByteArray := prog_9_method_39_code
def yX7_stayingAt : MethodName := ⟨RX7, "stayingAt", "(I)I"⟩
abbrev cX7_barring : ByteArray := prog_9_method_40_code
def yX7_barring : MethodName := ⟨RX7, "barring", "(III)I"⟩
abbrev cX7_mustFor : ByteArray := prog_9_method_41_code
def yX7_mustFor : MethodName := ⟨RX7, "mustFor", "(II)I"⟩
abbrev cX7_stepsAt : ByteArray := prog_9_method_42_code
def yX7_stepsAt : MethodName := ⟨RX7, "stepsAt", "(I)I"⟩
abbrev cX7_costAt : ByteArray := prog_9_method_43_code
def yX7_costAt : MethodName := ⟨RX7, "costAt", "(II)I"⟩
abbrev cX7_rides : ByteArray := prog_9_method_44_code
def yX7_rides : MethodName := ⟨RX7, "rides", "()I"⟩
abbrev cX7_ride : ByteArray := prog_9_method_45_code
def yX7_ride : MethodName := ⟨RX7, "ride", "(I)I"⟩
abbrev cX7_floor : ByteArray := prog_9_method_46_code
def yX7_floor : MethodName := ⟨RX7, "floor", "(II)I"⟩
abbrev cX7_keeps : ByteArray := prog_9_method_47_code
def yX7_keeps : MethodName := ⟨RX7, "keeps", "()V"⟩
abbrev cX7_laysBack : ByteArray := prog_9_method_48_code
def yX7_laysBack : MethodName := ⟨RX7, "laysBack", "()V"⟩
abbrev cX7_costOfStanding : ByteArray := prog_9_method_49_code
def yX7_costOfStanding : MethodName := ⟨RX7, "costOfStanding", "()I"⟩
abbrev cX7_putsFrom : ByteArray := prog_9_method_50_code
def yX7_putsFrom : MethodName := ⟨RX7, "putsFrom", "(I)V"⟩
abbrev cX7_seeks : ByteArray := prog_9_method_51_code
def yX7_seeks : MethodName := ⟨RX7, "seeks", "()V"⟩
abbrev cX7_stand : ByteArray := prog_9_method_52_code
def yX7_stand : MethodName := ⟨RX7, "stand", "(I)I"⟩
abbrev cX7_stands : ByteArray := prog_9_method_53_code
def yX7_stands : MethodName := ⟨RX7, "stands", "()I"⟩
abbrev cX7_one : ByteArray := prog_9_method_54_code
def yX7_one : MethodName := ⟨RX7, "one", "(II)I"⟩
abbrev cX7_change : ByteArray := prog_9_method_55_code
def yX7_change : MethodName := ⟨RX7, "change", "(I)I"⟩
abbrev cX7_second : ByteArray := prog_9_method_56_code
def yX7_second : MethodName := ⟨RX7, "second", "(I)I"⟩
abbrev cX7_lowest : ByteArray := prog_9_method_57_code
def yX7_lowest : MethodName := ⟨RX7, "lowest", "(JJI)J"⟩
abbrev cX7_mean : ByteArray := prog_9_method_58_code
def yX7_mean : MethodName := ⟨RX7, "mean", "(II)J"⟩
abbrev cX7_unlikeAt : ByteArray := prog_9_method_59_code
def yX7_unlikeAt : MethodName := ⟨RX7, "unlikeAt", "(I)I"⟩
abbrev cX7_landingsBad : ByteArray := prog_9_method_60_code
def yX7_landingsBad : MethodName := ⟨RX7, "landingsBad", "(I)I"⟩
abbrev cX7_landings : ByteArray := prog_9_method_61_code
def yX7_landings : MethodName := ⟨RX7, "landings", "(I)I"⟩
abbrev cX7_seen : ByteArray := prog_9_method_62_code
def yX7_seen : MethodName := ⟨RX7, "seen", "(III)I"⟩
abbrev cX7_lays : ByteArray := prog_9_method_63_code
def yX7_lays : MethodName := ⟨RX7, "lays", "(III)V"⟩
abbrev cX7_film : ByteArray := prog_9_method_64_code
def yX7_film : MethodName := ⟨RX7, "film", "(II)I"⟩
abbrev cX7_draws : ByteArray := prog_9_method_65_code
def yX7_draws : MethodName := ⟨RX7, "draws", "(I)I"⟩
abbrev cX7_drawn : ByteArray := prog_9_method_66_code
def yX7_drawn : MethodName := ⟨RX7, "drawn", "(I)I"⟩
abbrev cX7_chance : ByteArray := prog_9_method_67_code
def yX7_chance : MethodName := ⟨RX7, "chance", "(III)J"⟩
abbrev cX7_image : ByteArray := prog_9_method_68_code
def yX7_image : MethodName := ⟨RX7, "image", "()I"⟩
abbrev cX7_back : ByteArray := prog_9_method_69_code
def yX7_back : MethodName := ⟨RX7, "back", "()I"⟩
abbrev cX7_count : ByteArray := prog_9_method_70_code
def yX7_count : MethodName := ⟨RX7, "count", "(I)I"⟩
abbrev cX7_isSheet : ByteArray := prog_9_method_71_code
def yX7_isSheet : MethodName := ⟨RX7, "isSheet", "(I)Z"⟩
abbrev cX7_sheet : ByteArray := prog_9_method_72_code
def yX7_sheet : MethodName := ⟨RX7, "sheet", "(III)I"⟩
abbrev cX7_cell : ByteArray := prog_9_method_73_code
def yX7_cell : MethodName := ⟨RX7, "cell", "(III)I"⟩
abbrev cX7_copy : ByteArray := prog_9_method_74_code
def yX7_copy : MethodName := ⟨RX7, "copy", "(IIIII)I"⟩
abbrev cX7_riders : ByteArray := prog_9_method_75_code
def yX7_riders : MethodName := ⟨RX7, "riders", "(IIII)I"⟩
abbrev cX7_over : ByteArray := prog_9_method_76_code
def yX7_over : MethodName := ⟨RX7, "over", "(I)I"⟩
abbrev cX7_taken : ByteArray := prog_9_method_77_code
def yX7_taken : MethodName := ⟨RX7, "taken", "(II)I"⟩
def RJ6 : String := "java/lang/Integer"
abbrev cJ6_bitCount_0f7a4 : ByteArray := prog_11_method_49_code
def yJ6_bitCount_0f7a4 : MethodName := ⟨RJ6, "bitCount", "(I)I"⟩
def RJ9 : String := "java/lang/Math"
abbrev cJ9_max_7cf53 : ByteArray := prog_12_method_65_code
def yJ9_max_7cf53 : MethodName := ⟨RJ9, "max", "(II)I"⟩
abbrev cJ9_min_7cf53 : ByteArray := prog_12_method_69_code
def yJ9_min_7cf53 : MethodName := ⟨RJ9, "min", "(II)I"⟩
def RJ0 : String := "java/lang/String"
abbrev cJ0_length_8abf5 : ByteArray := prog_13_method_54_code
def yJ0_length_8abf5 : MethodName := ⟨RJ0, "length", "()I"⟩
abbrev cJ0_charAt_5068e : ByteArray := prog_13_method_56_code
def yJ0_charAt_5068e : MethodName := ⟨RJ0, "charAt", "(I)C"⟩
abbrev cJ0_coder_7d493 : ByteArray := prog_13_method_152_code
def yJ0_coder_7d493 : MethodName := ⟨RJ0, "coder", "()B"⟩
abbrev cJ0_isLatin1_aae02 : ByteArray := prog_13_method_154_code
def yJ0_isLatin1_aae02 : MethodName := ⟨RJ0, "isLatin1", "()Z"⟩
abbrev cJ0_checkIndex_df160 : ByteArray := prog_13_method_155_code
def yJ0_checkIndex_df160 : MethodName := ⟨RJ0, "checkIndex", "(II)V"⟩
def RJ1 : String := "java/lang/StringLatin1"
abbrev cJ1_charAt_3b067 : ByteArray := prog_14_method_2_code
def yJ1_charAt_3b067 : MethodName := ⟨RJ1, "charAt", "([BI)C"⟩
def RJ7 : String := "java/util/Arrays"
abbrev cJ7_fill_53178 : ByteArray := prog_17_method_103_code
def yJ7_fill_53178 : MethodName := ⟨RJ7, "fill", "([II)V"⟩
abbrev cJ7_copyOf_59c91 : ByteArray := prog_17_method_123_code
def yJ7_copyOf_59c91 : MethodName := ⟨RJ7, "copyOf", "([II)[I"⟩
def RJ3 : String := "jdk/internal/util/Preconditions"
abbrev cJ3_checkIndex_8e157 : ByteArray := prog_18_method_11_code
def yJ3_checkIndex_8e157 : MethodName := ⟨RJ3, "checkIndex", "(IILjava/util/function/BiFunction;)I"⟩
def RL : String := "GetsOutFirstLaw"
abbrev cL_law : ByteArray := code
def yL_law : MethodName := ⟨RL, "law", "([I)Z"⟩
abbrev vwCl : List vw_C := [(RX0, TX0, 10), (RX1, TX1, 9), (RX2, TX2, 4), (RX3, TX3, 3), (RX4, TX4, 2), (RX5, TX5, 10), (RX6, TX6, 9), (RX7, TX7, 49)]
