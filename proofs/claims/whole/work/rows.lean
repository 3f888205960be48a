section
-- ===== PART A: goes FIRST, ahead of the names: the tables' words, and 'selects' of the private methods out of them =====
/-- a private method of a class that the tables say can be made, by its rows of tables_1 -/
def lw_okq (q : MethodName × Nat) : Prop := (q.1.cls ≠ "java/lang/invoke/MethodHandle" ∧ q.1.cls ≠ "java/lang/invoke/VarHandle") ∧ Cond.instantiable q.1.cls q.2 ∈ tables_1 ∧ Cond.privateMethod q.1 ∈ tables_1 ∧ Cond.instanceMethod q.1 ∈ tables_1
theorem lw_p0 : lw_okq (⟨"Pathwarden", "readVouchers", "()V"⟩, 8) := ⟨⟨by decide +kernel, by decide +kernel⟩, List.mem_of_getElem? (i := 20) (by decide +kernel), List.mem_of_getElem? (i := 299) (by decide +kernel), List.mem_of_getElem? (i := 300) (by decide +kernel)⟩
theorem lw_p1 : lw_okq (⟨"Pathwarden$Judge", "judgeGrantsTo", "(I)V"⟩, 4) := ⟨⟨by decide +kernel, by decide +kernel⟩, List.mem_of_getElem? (i := 123) (by decide +kernel), List.mem_of_getElem? (i := 307) (by decide +kernel), List.mem_of_getElem? (i := 308) (by decide +kernel)⟩
theorem lw_p2 : lw_okq (⟨"Pathwarden$Judge", "isGrantTo", "(II)Z"⟩, 4) := ⟨⟨by decide +kernel, by decide +kernel⟩, List.mem_of_getElem? (i := 123) (by decide +kernel), List.mem_of_getElem? (i := 311) (by decide +kernel), List.mem_of_getElem? (i := 312) (by decide +kernel)⟩
theorem lw_p3 : lw_okq (⟨"Pathwarden$Judge", "judgeOne", "(I)I"⟩, 4) := ⟨⟨by decide +kernel, by decide +kernel⟩, List.mem_of_getElem? (i := 123) (by decide +kernel), List.mem_of_getElem? (i := 315) (by decide +kernel), List.mem_of_getElem? (i := 316) (by decide +kernel)⟩
theorem lw_p4 : lw_okq (⟨"Pathwarden$Judge", "faultOfItsOwn", "(I)I"⟩, 4) := ⟨⟨by decide +kernel, by decide +kernel⟩, List.mem_of_getElem? (i := 123) (by decide +kernel), List.mem_of_getElem? (i := 319) (by decide +kernel), List.mem_of_getElem? (i := 320) (by decide +kernel)⟩
theorem lw_p5 : lw_okq (⟨"Pathwarden$SignedObjects", "digest", "(I)I"⟩, 11) := ⟨⟨by decide +kernel, by decide +kernel⟩, List.mem_of_getElem? (i := 65) (by decide +kernel), List.mem_of_getElem? (i := 327) (by decide +kernel), List.mem_of_getElem? (i := 328) (by decide +kernel)⟩
theorem lw_p6 : lw_okq (⟨"Pathwarden$Judge", "isOutside", "(I)Z"⟩, 4) := ⟨⟨by decide +kernel, by decide +kernel⟩, List.mem_of_getElem? (i := 123) (by decide +kernel), List.mem_of_getElem? (i := 335) (by decide +kernel), List.mem_of_getElem? (i := 336) (by decide +kernel)⟩
theorem lw_p7 : lw_okq (⟨"Pathwarden$Judge", "holdsAnything", "(I)Z"⟩, 4) := ⟨⟨by decide +kernel, by decide +kernel⟩, List.mem_of_getElem? (i := 123) (by decide +kernel), List.mem_of_getElem? (i := 339) (by decide +kernel), List.mem_of_getElem? (i := 340) (by decide +kernel)⟩
theorem lw_p8 : lw_okq (⟨"Pathwarden$Judge", "isGoodGrantTo", "(II)Z"⟩, 4) := ⟨⟨by decide +kernel, by decide +kernel⟩, List.mem_of_getElem? (i := 123) (by decide +kernel), List.mem_of_getElem? (i := 343) (by decide +kernel), List.mem_of_getElem? (i := 344) (by decide +kernel)⟩
theorem lw_p9 : lw_okq (⟨"Pathwarden$AllowedPaths", "countOnwards", "(III)I"⟩, 3) := ⟨⟨by decide +kernel, by decide +kernel⟩, List.mem_of_getElem? (i := 218) (by decide +kernel), List.mem_of_getElem? (i := 373) (by decide +kernel), List.mem_of_getElem? (i := 374) (by decide +kernel)⟩
theorem lw_p10 : lw_okq (⟨"Pathwarden$AllowedPaths", "mayGoOn", "(II)Z"⟩, 3) := ⟨⟨by decide +kernel, by decide +kernel⟩, List.mem_of_getElem? (i := 218) (by decide +kernel), List.mem_of_getElem? (i := 380) (by decide +kernel), List.mem_of_getElem? (i := 381) (by decide +kernel)⟩
theorem lw_p11 : lw_okq (⟨"Pathwarden$PathJudge", "netsUp", "([IIZ)I"⟩, 3) := ⟨⟨by decide +kernel, by decide +kernel⟩, List.mem_of_getElem? (i := 202) (by decide +kernel), List.mem_of_getElem? (i := 408) (by decide +kernel), List.mem_of_getElem? (i := 409) (by decide +kernel)⟩
theorem lw_p12 : lw_okq (⟨"Pathwarden$PathJudge", "goesOn", "(IIZ)Z"⟩, 3) := ⟨⟨by decide +kernel, by decide +kernel⟩, List.mem_of_getElem? (i := 202) (by decide +kernel), List.mem_of_getElem? (i := 412) (by decide +kernel), List.mem_of_getElem? (i := 413) (by decide +kernel)⟩
theorem lw_p13 : lw_okq (⟨"Pathwarden$PathJudge", "netsBack", "([IIZ)I"⟩, 3) := ⟨⟨by decide +kernel, by decide +kernel⟩, List.mem_of_getElem? (i := 202) (by decide +kernel), List.mem_of_getElem? (i := 417) (by decide +kernel), List.mem_of_getElem? (i := 418) (by decide +kernel)⟩
theorem lw_p14 : lw_okq (⟨"Pathwarden$Relations", "findNeighbours", "()V"⟩, 5) := ⟨⟨by decide +kernel, by decide +kernel⟩, List.mem_of_getElem? (i := 234) (by decide +kernel), List.mem_of_getElem? (i := 433) (by decide +kernel), List.mem_of_getElem? (i := 434) (by decide +kernel)⟩
theorem lw_p15 : lw_okq (⟨"Pathwarden$Relations", "joinNeighbours", "([II)V"⟩, 5) := ⟨⟨by decide +kernel, by decide +kernel⟩, List.mem_of_getElem? (i := 234) (by decide +kernel), List.mem_of_getElem? (i := 442) (by decide +kernel), List.mem_of_getElem? (i := 443) (by decide +kernel)⟩
def lw_privs_1 : List (MethodName × Nat) := [(⟨"Pathwarden", "readVouchers", "()V"⟩, 8), (⟨"Pathwarden$Judge", "judgeGrantsTo", "(I)V"⟩, 4), (⟨"Pathwarden$Judge", "isGrantTo", "(II)Z"⟩, 4), (⟨"Pathwarden$Judge", "judgeOne", "(I)I"⟩, 4), (⟨"Pathwarden$Judge", "faultOfItsOwn", "(I)I"⟩, 4), (⟨"Pathwarden$SignedObjects", "digest", "(I)I"⟩, 11), (⟨"Pathwarden$Judge", "isOutside", "(I)Z"⟩, 4), (⟨"Pathwarden$Judge", "holdsAnything", "(I)Z"⟩, 4), (⟨"Pathwarden$Judge", "isGoodGrantTo", "(II)Z"⟩, 4), (⟨"Pathwarden$AllowedPaths", "countOnwards", "(III)I"⟩, 3), (⟨"Pathwarden$AllowedPaths", "mayGoOn", "(II)Z"⟩, 3), (⟨"Pathwarden$PathJudge", "netsUp", "([IIZ)I"⟩, 3), (⟨"Pathwarden$PathJudge", "goesOn", "(IIZ)Z"⟩, 3), (⟨"Pathwarden$PathJudge", "netsBack", "([IIZ)I"⟩, 3), (⟨"Pathwarden$Relations", "findNeighbours", "()V"⟩, 5), (⟨"Pathwarden$Relations", "joinNeighbours", "([II)V"⟩, 5)]
theorem lw_r1 : ∀ q ∈ lw_privs_1, lw_okq q := List.forall_mem_cons.mpr ⟨lw_p0, List.forall_mem_cons.mpr ⟨lw_p1, List.forall_mem_cons.mpr ⟨lw_p2, List.forall_mem_cons.mpr ⟨lw_p3, List.forall_mem_cons.mpr ⟨lw_p4, List.forall_mem_cons.mpr ⟨lw_p5, List.forall_mem_cons.mpr ⟨lw_p6, List.forall_mem_cons.mpr ⟨lw_p7, List.forall_mem_cons.mpr ⟨lw_p8, List.forall_mem_cons.mpr ⟨lw_p9, List.forall_mem_cons.mpr ⟨lw_p10, List.forall_mem_cons.mpr ⟨lw_p11, List.forall_mem_cons.mpr ⟨lw_p12, List.forall_mem_cons.mpr ⟨lw_p13, List.forall_mem_cons.mpr ⟨lw_p14, List.forall_mem_cons.mpr ⟨lw_p15, fun _ h => absurd h List.not_mem_nil⟩⟩⟩⟩⟩⟩⟩⟩⟩⟩⟩⟩⟩⟩⟩⟩
theorem lw_p16 : lw_okq (⟨"Pathwarden$Relations", "findCore", "()V"⟩, 5) := ⟨⟨by decide +kernel, by decide +kernel⟩, List.mem_of_getElem? (i := 234) (by decide +kernel), List.mem_of_getElem? (i := 446) (by decide +kernel), List.mem_of_getElem? (i := 447) (by decide +kernel)⟩
theorem lw_p17 : lw_okq (⟨"Pathwarden$Relations", "vote", "(I)V"⟩, 5) := ⟨⟨by decide +kernel, by decide +kernel⟩, List.mem_of_getElem? (i := 234) (by decide +kernel), List.mem_of_getElem? (i := 456) (by decide +kernel), List.mem_of_getElem? (i := 457) (by decide +kernel)⟩
theorem lw_p18 : lw_okq (⟨"Pathwarden$Relations", "voteAlong", "([III)V"⟩, 5) := ⟨⟨by decide +kernel, by decide +kernel⟩, List.mem_of_getElem? (i := 234) (by decide +kernel), List.mem_of_getElem? (i := 460) (by decide +kernel), List.mem_of_getElem? (i := 461) (by decide +kernel)⟩
theorem lw_p19 : lw_okq (⟨"Pathwarden$Relations", "topOf", "([III)I"⟩, 5) := ⟨⟨by decide +kernel, by decide +kernel⟩, List.mem_of_getElem? (i := 234) (by decide +kernel), List.mem_of_getElem? (i := 464) (by decide +kernel), List.mem_of_getElem? (i := 465) (by decide +kernel)⟩
theorem lw_p20 : lw_okq (⟨"Pathwarden$Relations", "rankOf", "(II)I"⟩, 5) := ⟨⟨by decide +kernel, by decide +kernel⟩, List.mem_of_getElem? (i := 234) (by decide +kernel), List.mem_of_getElem? (i := 469) (by decide +kernel), List.mem_of_getElem? (i := 470) (by decide +kernel)⟩
theorem lw_p21 : lw_okq (⟨"Pathwarden$Relations", "findCustomers", "(I)V"⟩, 5) := ⟨⟨by decide +kernel, by decide +kernel⟩, List.mem_of_getElem? (i := 234) (by decide +kernel), List.mem_of_getElem? (i := 473) (by decide +kernel), List.mem_of_getElem? (i := 474) (by decide +kernel)⟩
theorem lw_p22 : lw_okq (⟨"Pathwarden", "needHolder", "(I)V"⟩, 8) := ⟨⟨by decide +kernel, by decide +kernel⟩, List.mem_of_getElem? (i := 20) (by decide +kernel), List.mem_of_getElem? (i := 486) (by decide +kernel), List.mem_of_getElem? (i := 487) (by decide +kernel)⟩
theorem lw_p23 : lw_okq (⟨"java/lang/Throwable", "fillInStackTrace", "(I)Ljava/lang/Throwable;"⟩, 6) := ⟨⟨by decide +kernel, by decide +kernel⟩, List.mem_of_getElem? (i := 528) (by decide +kernel), List.mem_of_getElem? (i := 526) (by decide +kernel), List.mem_of_getElem? (i := 527) (by decide +kernel)⟩
theorem lw_p24 : lw_okq (⟨"Pathwarden", "needRoomForObject", "()V"⟩, 8) := ⟨⟨by decide +kernel, by decide +kernel⟩, List.mem_of_getElem? (i := 20) (by decide +kernel), List.mem_of_getElem? (i := 648) (by decide +kernel), List.mem_of_getElem? (i := 649) (by decide +kernel)⟩
theorem lw_p25 : lw_okq (⟨"Pathwarden", "keep", "(I)I"⟩, 8) := ⟨⟨by decide +kernel, by decide +kernel⟩, List.mem_of_getElem? (i := 20) (by decide +kernel), List.mem_of_getElem? (i := 657) (by decide +kernel), List.mem_of_getElem? (i := 658) (by decide +kernel)⟩
theorem lw_p26 : lw_okq (⟨"Pathwarden", "putSignature", "(I)I"⟩, 8) := ⟨⟨by decide +kernel, by decide +kernel⟩, List.mem_of_getElem? (i := 20) (by decide +kernel), List.mem_of_getElem? (i := 661) (by decide +kernel), List.mem_of_getElem? (i := 662) (by decide +kernel)⟩
theorem lw_p27 : lw_okq (⟨"Pathwarden", "needObject", "(I)V"⟩, 8) := ⟨⟨by decide +kernel, by decide +kernel⟩, List.mem_of_getElem? (i := 20) (by decide +kernel), List.mem_of_getElem? (i := 687) (by decide +kernel), List.mem_of_getElem? (i := 688) (by decide +kernel)⟩
theorem lw_p28 : lw_okq (⟨"Pathwarden$Judge", "chainReaches", "(IIII)Z"⟩, 4) := ⟨⟨by decide +kernel, by decide +kernel⟩, List.mem_of_getElem? (i := 123) (by decide +kernel), List.mem_of_getElem? (i := 778) (by decide +kernel), List.mem_of_getElem? (i := 779) (by decide +kernel)⟩
theorem lw_p29 : lw_okq (⟨"Pathwarden$Judge", "isLinkTo", "(II)Z"⟩, 4) := ⟨⟨by decide +kernel, by decide +kernel⟩, List.mem_of_getElem? (i := 123) (by decide +kernel), List.mem_of_getElem? (i := 782) (by decide +kernel), List.mem_of_getElem? (i := 783) (by decide +kernel)⟩
theorem lw_p30 : lw_okq (⟨"Pathwarden$Judge", "isGoodOriginOver", "(III)Z"⟩, 4) := ⟨⟨by decide +kernel, by decide +kernel⟩, List.mem_of_getElem? (i := 123) (by decide +kernel), List.mem_of_getElem? (i := 797) (by decide +kernel), List.mem_of_getElem? (i := 798) (by decide +kernel)⟩
theorem lw_p31 : lw_okq (⟨"Pathwarden", "needRouteThere", "(I)V"⟩, 8) := ⟨⟨by decide +kernel, by decide +kernel⟩, List.mem_of_getElem? (i := 20) (by decide +kernel), List.mem_of_getElem? (i := 808) (by decide +kernel), List.mem_of_getElem? (i := 809) (by decide +kernel)⟩
def lw_privs_2 : List (MethodName × Nat) := [(⟨"Pathwarden$Relations", "findCore", "()V"⟩, 5), (⟨"Pathwarden$Relations", "vote", "(I)V"⟩, 5), (⟨"Pathwarden$Relations", "voteAlong", "([III)V"⟩, 5), (⟨"Pathwarden$Relations", "topOf", "([III)I"⟩, 5), (⟨"Pathwarden$Relations", "rankOf", "(II)I"⟩, 5), (⟨"Pathwarden$Relations", "findCustomers", "(I)V"⟩, 5), (⟨"Pathwarden", "needHolder", "(I)V"⟩, 8), (⟨"java/lang/Throwable", "fillInStackTrace", "(I)Ljava/lang/Throwable;"⟩, 6), (⟨"Pathwarden", "needRoomForObject", "()V"⟩, 8), (⟨"Pathwarden", "keep", "(I)I"⟩, 8), (⟨"Pathwarden", "putSignature", "(I)I"⟩, 8), (⟨"Pathwarden", "needObject", "(I)V"⟩, 8), (⟨"Pathwarden$Judge", "chainReaches", "(IIII)Z"⟩, 4), (⟨"Pathwarden$Judge", "isLinkTo", "(II)Z"⟩, 4), (⟨"Pathwarden$Judge", "isGoodOriginOver", "(III)Z"⟩, 4), (⟨"Pathwarden", "needRouteThere", "(I)V"⟩, 8)]
theorem lw_r2 : ∀ q ∈ lw_privs_2, lw_okq q := List.forall_mem_cons.mpr ⟨lw_p16, List.forall_mem_cons.mpr ⟨lw_p17, List.forall_mem_cons.mpr ⟨lw_p18, List.forall_mem_cons.mpr ⟨lw_p19, List.forall_mem_cons.mpr ⟨lw_p20, List.forall_mem_cons.mpr ⟨lw_p21, List.forall_mem_cons.mpr ⟨lw_p22, List.forall_mem_cons.mpr ⟨lw_p23, List.forall_mem_cons.mpr ⟨lw_p24, List.forall_mem_cons.mpr ⟨lw_p25, List.forall_mem_cons.mpr ⟨lw_p26, List.forall_mem_cons.mpr ⟨lw_p27, List.forall_mem_cons.mpr ⟨lw_p28, List.forall_mem_cons.mpr ⟨lw_p29, List.forall_mem_cons.mpr ⟨lw_p30, List.forall_mem_cons.mpr ⟨lw_p31, fun _ h => absurd h List.not_mem_nil⟩⟩⟩⟩⟩⟩⟩⟩⟩⟩⟩⟩⟩⟩⟩⟩
theorem lw_p32 : lw_okq (⟨"Pathwarden$Relations", "customersAhead", "([III)I"⟩, 5) := ⟨⟨by decide +kernel, by decide +kernel⟩, List.mem_of_getElem? (i := 234) (by decide +kernel), List.mem_of_getElem? (i := 882) (by decide +kernel), List.mem_of_getElem? (i := 883) (by decide +kernel)⟩
theorem lw_p33 : lw_okq (⟨"Pathwarden$RouteBook", "reaches", "(II)Z"⟩, 9) := ⟨⟨by decide +kernel, by decide +kernel⟩, List.mem_of_getElem? (i := 143) (by decide +kernel), List.mem_of_getElem? (i := 897) (by decide +kernel), List.mem_of_getElem? (i := 898) (by decide +kernel)⟩
theorem lw_p34 : lw_okq (⟨"PathwardenModel", "isHolder", "(I)Z"⟩, 37) := ⟨⟨by decide +kernel, by decide +kernel⟩, List.mem_of_getElem? (i := 902) (by decide +kernel), List.mem_of_getElem? (i := 1028) (by decide +kernel), List.mem_of_getElem? (i := 1029) (by decide +kernel)⟩
theorem lw_p35 : lw_okq (⟨"PathwardenModel", "isFine", "(I)Z"⟩, 37) := ⟨⟨by decide +kernel, by decide +kernel⟩, List.mem_of_getElem? (i := 902) (by decide +kernel), List.mem_of_getElem? (i := 1035) (by decide +kernel), List.mem_of_getElem? (i := 1036) (by decide +kernel)⟩
theorem lw_p36 : lw_okq (⟨"PathwardenModel", "makes", "(IIIIIII)I"⟩, 37) := ⟨⟨by decide +kernel, by decide +kernel⟩, List.mem_of_getElem? (i := 902) (by decide +kernel), List.mem_of_getElem? (i := 1068) (by decide +kernel), List.mem_of_getElem? (i := 1069) (by decide +kernel)⟩
theorem lw_p37 : lw_okq (⟨"PathwardenModel", "signs", "(I)I"⟩, 37) := ⟨⟨by decide +kernel, by decide +kernel⟩, List.mem_of_getElem? (i := 902) (by decide +kernel), List.mem_of_getElem? (i := 1072) (by decide +kernel), List.mem_of_getElem? (i := 1073) (by decide +kernel)⟩
theorem lw_p38 : lw_okq (⟨"PathwardenModel", "isObject", "(I)Z"⟩, 37) := ⟨⟨by decide +kernel, by decide +kernel⟩, List.mem_of_getElem? (i := 902) (by decide +kernel), List.mem_of_getElem? (i := 1092) (by decide +kernel), List.mem_of_getElem? (i := 1093) (by decide +kernel)⟩
theorem lw_p39 : lw_okq (⟨"PathwardenModel", "judges", "()V"⟩, 37) := ⟨⟨by decide +kernel, by decide +kernel⟩, List.mem_of_getElem? (i := 902) (by decide +kernel), List.mem_of_getElem? (i := 1135) (by decide +kernel), List.mem_of_getElem? (i := 1136) (by decide +kernel)⟩
theorem lw_p40 : lw_okq (⟨"PathwardenModel", "simply", "(I)I"⟩, 37) := ⟨⟨by decide +kernel, by decide +kernel⟩, List.mem_of_getElem? (i := 902) (by decide +kernel), List.mem_of_getElem? (i := 1139) (by decide +kernel), List.mem_of_getElem? (i := 1140) (by decide +kernel)⟩
theorem lw_p41 : lw_okq (⟨"PathwardenModel", "isOutside", "(I)Z"⟩, 37) := ⟨⟨by decide +kernel, by decide +kernel⟩, List.mem_of_getElem? (i := 902) (by decide +kernel), List.mem_of_getElem? (i := 1143) (by decide +kernel), List.mem_of_getElem? (i := 1144) (by decide +kernel)⟩
theorem lw_p42 : lw_okq (⟨"PathwardenModel", "hasAny", "(I)Z"⟩, 37) := ⟨⟨by decide +kernel, by decide +kernel⟩, List.mem_of_getElem? (i := 902) (by decide +kernel), List.mem_of_getElem? (i := 1147) (by decide +kernel), List.mem_of_getElem? (i := 1148) (by decide +kernel)⟩
theorem lw_p43 : lw_okq (⟨"PathwardenModel", "has0", "(III)Z"⟩, 37) := ⟨⟨by decide +kernel, by decide +kernel⟩, List.mem_of_getElem? (i := 902) (by decide +kernel), List.mem_of_getElem? (i := 1151) (by decide +kernel), List.mem_of_getElem? (i := 1152) (by decide +kernel)⟩
theorem lw_p44 : lw_okq (⟨"PathwardenModel", "hasNow", "(III)Z"⟩, 37) := ⟨⟨by decide +kernel, by decide +kernel⟩, List.mem_of_getElem? (i := 902) (by decide +kernel), List.mem_of_getElem? (i := 1162) (by decide +kernel), List.mem_of_getElem? (i := 1163) (by decide +kernel)⟩
theorem lw_p45 : lw_okq (⟨"PathwardenModel", "stands", "(III)I"⟩, 37) := ⟨⟨by decide +kernel, by decide +kernel⟩, List.mem_of_getElem? (i := 902) (by decide +kernel), List.mem_of_getElem? (i := 1174) (by decide +kernel), List.mem_of_getElem? (i := 1175) (by decide +kernel)⟩
theorem lw_p46 : lw_okq (⟨"PathwardenModel", "isRoute", "(I)Z"⟩, 37) := ⟨⟨by decide +kernel, by decide +kernel⟩, List.mem_of_getElem? (i := 902) (by decide +kernel), List.mem_of_getElem? (i := 1186) (by decide +kernel), List.mem_of_getElem? (i := 1187) (by decide +kernel)⟩
theorem lw_p47 : lw_okq (⟨"PathwardenModel", "vouches", "()V"⟩, 37) := ⟨⟨by decide +kernel, by decide +kernel⟩, List.mem_of_getElem? (i := 902) (by decide +kernel), List.mem_of_getElem? (i := 1190) (by decide +kernel), List.mem_of_getElem? (i := 1191) (by decide +kernel)⟩
def lw_privs_3 : List (MethodName × Nat) := [(⟨"Pathwarden$Relations", "customersAhead", "([III)I"⟩, 5), (⟨"Pathwarden$RouteBook", "reaches", "(II)Z"⟩, 9), (⟨"PathwardenModel", "isHolder", "(I)Z"⟩, 37), (⟨"PathwardenModel", "isFine", "(I)Z"⟩, 37), (⟨"PathwardenModel", "makes", "(IIIIIII)I"⟩, 37), (⟨"PathwardenModel", "signs", "(I)I"⟩, 37), (⟨"PathwardenModel", "isObject", "(I)Z"⟩, 37), (⟨"PathwardenModel", "judges", "()V"⟩, 37), (⟨"PathwardenModel", "simply", "(I)I"⟩, 37), (⟨"PathwardenModel", "isOutside", "(I)Z"⟩, 37), (⟨"PathwardenModel", "hasAny", "(I)Z"⟩, 37), (⟨"PathwardenModel", "has0", "(III)Z"⟩, 37), (⟨"PathwardenModel", "hasNow", "(III)Z"⟩, 37), (⟨"PathwardenModel", "stands", "(III)I"⟩, 37), (⟨"PathwardenModel", "isRoute", "(I)Z"⟩, 37), (⟨"PathwardenModel", "vouches", "()V"⟩, 37)]
theorem lw_r3 : ∀ q ∈ lw_privs_3, lw_okq q := List.forall_mem_cons.mpr ⟨lw_p32, List.forall_mem_cons.mpr ⟨lw_p33, List.forall_mem_cons.mpr ⟨lw_p34, List.forall_mem_cons.mpr ⟨lw_p35, List.forall_mem_cons.mpr ⟨lw_p36, List.forall_mem_cons.mpr ⟨lw_p37, List.forall_mem_cons.mpr ⟨lw_p38, List.forall_mem_cons.mpr ⟨lw_p39, List.forall_mem_cons.mpr ⟨lw_p40, List.forall_mem_cons.mpr ⟨lw_p41, List.forall_mem_cons.mpr ⟨lw_p42, List.forall_mem_cons.mpr ⟨lw_p43, List.forall_mem_cons.mpr ⟨lw_p44, List.forall_mem_cons.mpr ⟨lw_p45, List.forall_mem_cons.mpr ⟨lw_p46, List.forall_mem_cons.mpr ⟨lw_p47, fun _ h => absurd h List.not_mem_nil⟩⟩⟩⟩⟩⟩⟩⟩⟩⟩⟩⟩⟩⟩⟩⟩
theorem lw_p48 : lw_okq (⟨"PathwardenModel", "judge", "([IIIZ)I"⟩, 37) := ⟨⟨by decide +kernel, by decide +kernel⟩, List.mem_of_getElem? (i := 902) (by decide +kernel), List.mem_of_getElem? (i := 1194) (by decide +kernel), List.mem_of_getElem? (i := 1195) (by decide +kernel)⟩
theorem lw_p49 : lw_okq (⟨"PathwardenModel", "counts", "([IIIZZ)I"⟩, 37) := ⟨⟨by decide +kernel, by decide +kernel⟩, List.mem_of_getElem? (i := 902) (by decide +kernel), List.mem_of_getElem? (i := 1201) (by decide +kernel), List.mem_of_getElem? (i := 1202) (by decide +kernel)⟩
theorem lw_p50 : lw_okq (⟨"PathwardenModel", "isFor", "(II)Z"⟩, 37) := ⟨⟨by decide +kernel, by decide +kernel⟩, List.mem_of_getElem? (i := 902) (by decide +kernel), List.mem_of_getElem? (i := 1205) (by decide +kernel), List.mem_of_getElem? (i := 1206) (by decide +kernel)⟩
theorem lw_p51 : lw_okq (⟨"PathwardenModel", "denies", "(II)Z"⟩, 37) := ⟨⟨by decide +kernel, by decide +kernel⟩, List.mem_of_getElem? (i := 902) (by decide +kernel), List.mem_of_getElem? (i := 1209) (by decide +kernel), List.mem_of_getElem? (i := 1210) (by decide +kernel)⟩
theorem lw_p52 : lw_okq (⟨"PathwardenModel", "refuses", "([IIII)Z"⟩, 37) := ⟨⟨by decide +kernel, by decide +kernel⟩, List.mem_of_getElem? (i := 902) (by decide +kernel), List.mem_of_getElem? (i := 1221) (by decide +kernel), List.mem_of_getElem? (i := 1222) (by decide +kernel)⟩
theorem lw_p53 : lw_okq (⟨"PathwardenModel", "isAllowed", "(II)Z"⟩, 37) := ⟨⟨by decide +kernel, by decide +kernel⟩, List.mem_of_getElem? (i := 902) (by decide +kernel), List.mem_of_getElem? (i := 1232) (by decide +kernel), List.mem_of_getElem? (i := 1233) (by decide +kernel)⟩
theorem lw_p54 : lw_okq (⟨"PathwardenModel", "nears", "()V"⟩, 37) := ⟨⟨by decide +kernel, by decide +kernel⟩, List.mem_of_getElem? (i := 902) (by decide +kernel), List.mem_of_getElem? (i := 1244) (by decide +kernel), List.mem_of_getElem? (i := 1245) (by decide +kernel)⟩
theorem lw_p55 : lw_okq (⟨"PathwardenModel", "isUsed", "(I)Z"⟩, 37) := ⟨⟨by decide +kernel, by decide +kernel⟩, List.mem_of_getElem? (i := 902) (by decide +kernel), List.mem_of_getElem? (i := 1248) (by decide +kernel), List.mem_of_getElem? (i := 1249) (by decide +kernel)⟩
theorem lw_p56 : lw_okq (⟨"PathwardenModel", "infers", "(I)V"⟩, 37) := ⟨⟨by decide +kernel, by decide +kernel⟩, List.mem_of_getElem? (i := 902) (by decide +kernel), List.mem_of_getElem? (i := 1259) (by decide +kernel), List.mem_of_getElem? (i := 1260) (by decide +kernel)⟩
theorem lw_p57 : lw_okq (⟨"PathwardenModel", "votes", "()V"⟩, 37) := ⟨⟨by decide +kernel, by decide +kernel⟩, List.mem_of_getElem? (i := 902) (by decide +kernel), List.mem_of_getElem? (i := 1263) (by decide +kernel), List.mem_of_getElem? (i := 1264) (by decide +kernel)⟩
theorem lw_p58 : lw_okq (⟨"PathwardenModel", "topOf", "(I)I"⟩, 37) := ⟨⟨by decide +kernel, by decide +kernel⟩, List.mem_of_getElem? (i := 902) (by decide +kernel), List.mem_of_getElem? (i := 1267) (by decide +kernel), List.mem_of_getElem? (i := 1268) (by decide +kernel)⟩
theorem lw_p59 : lw_okq (⟨"PathwardenModel", "relates", "()V"⟩, 37) := ⟨⟨by decide +kernel, by decide +kernel⟩, List.mem_of_getElem? (i := 902) (by decide +kernel), List.mem_of_getElem? (i := 1271) (by decide +kernel), List.mem_of_getElem? (i := 1272) (by decide +kernel)⟩
theorem lw_p60 : lw_okq (⟨"PathwardenModel", "isInClique", "(I)Z"⟩, 37) := ⟨⟨by decide +kernel, by decide +kernel⟩, List.mem_of_getElem? (i := 902) (by decide +kernel), List.mem_of_getElem? (i := 1275) (by decide +kernel), List.mem_of_getElem? (i := 1276) (by decide +kernel)⟩
theorem lw_p61 : lw_okq (⟨"PathwardenModel", "conesOf", "(I)I"⟩, 37) := ⟨⟨by decide +kernel, by decide +kernel⟩, List.mem_of_getElem? (i := 902) (by decide +kernel), List.mem_of_getElem? (i := 1283) (by decide +kernel), List.mem_of_getElem? (i := 1284) (by decide +kernel)⟩
def lw_privs_4 : List (MethodName × Nat) := [(⟨"PathwardenModel", "judge", "([IIIZ)I"⟩, 37), (⟨"PathwardenModel", "counts", "([IIIZZ)I"⟩, 37), (⟨"PathwardenModel", "isFor", "(II)Z"⟩, 37), (⟨"PathwardenModel", "denies", "(II)Z"⟩, 37), (⟨"PathwardenModel", "refuses", "([IIII)Z"⟩, 37), (⟨"PathwardenModel", "isAllowed", "(II)Z"⟩, 37), (⟨"PathwardenModel", "nears", "()V"⟩, 37), (⟨"PathwardenModel", "isUsed", "(I)Z"⟩, 37), (⟨"PathwardenModel", "infers", "(I)V"⟩, 37), (⟨"PathwardenModel", "votes", "()V"⟩, 37), (⟨"PathwardenModel", "topOf", "(I)I"⟩, 37), (⟨"PathwardenModel", "relates", "()V"⟩, 37), (⟨"PathwardenModel", "isInClique", "(I)Z"⟩, 37), (⟨"PathwardenModel", "conesOf", "(I)I"⟩, 37)]
theorem lw_r4 : ∀ q ∈ lw_privs_4, lw_okq q := List.forall_mem_cons.mpr ⟨lw_p48, List.forall_mem_cons.mpr ⟨lw_p49, List.forall_mem_cons.mpr ⟨lw_p50, List.forall_mem_cons.mpr ⟨lw_p51, List.forall_mem_cons.mpr ⟨lw_p52, List.forall_mem_cons.mpr ⟨lw_p53, List.forall_mem_cons.mpr ⟨lw_p54, List.forall_mem_cons.mpr ⟨lw_p55, List.forall_mem_cons.mpr ⟨lw_p56, List.forall_mem_cons.mpr ⟨lw_p57, List.forall_mem_cons.mpr ⟨lw_p58, List.forall_mem_cons.mpr ⟨lw_p59, List.forall_mem_cons.mpr ⟨lw_p60, List.forall_mem_cons.mpr ⟨lw_p61, fun _ h => absurd h List.not_mem_nil⟩⟩⟩⟩⟩⟩⟩⟩⟩⟩⟩⟩⟩⟩
def lw_privs : List (MethodName × Nat) := lw_privs_1 ++ (lw_privs_2 ++ (lw_privs_3 ++ (lw_privs_4)))
def lw_tbl : List Cond := k2_sels lw_privs ++ tables_1
theorem lw_privs_ok : ∀ q ∈ lw_privs, lw_okq q := by
  show ∀ q ∈ lw_privs_1 ++ (lw_privs_2 ++ (lw_privs_3 ++ (lw_privs_4))), lw_okq q
  exact List.forall_mem_append.mpr ⟨lw_r1, List.forall_mem_append.mpr ⟨lw_r2, List.forall_mem_append.mpr ⟨lw_r3, lw_r4⟩⟩⟩
-- ===== end of PART A; then your names; then what follows =====
end
section
/-! ===== BEGIN words of one list among another's, by their places ===== -/
theorem goodIn_r {big : List Cond} (ws : List Cond) (ps : List Nat) (hp : ws = ps.filterMap (fun i => big[i]?)) (h : ws.all goodWord = true) : GoodIn big ws := by
  intro w hw
  have h1 := List.all_eq_true.mp h w hw
  rw [hp] at hw
  obtain ⟨i, -, hi⟩ := List.mem_filterMap.mp hw
  have hm : w ∈ big := by first | exact List.mem_of_getElem? hi | exact List.getElem?_mem hi
  exact ⟨hm, good_of_word h1⟩
theorem goodIn_app {big a b : List Cond} (ha : GoodIn big a) (hb : GoodIn big b) : GoodIn big (a ++ b) := fun w h => (List.mem_append.mp h).elim (ha w) (hb w)
theorem goodIn_ca {big a b : List Cond} {c : Cond} (ha : GoodIn big (c :: a)) (hb : GoodIn big b) : GoodIn big (c :: (a ++ b)) := fun w h => (List.mem_cons.mp h).elim (fun e => ha w (List.mem_cons.mpr (Or.inl e))) (fun h => (List.mem_append.mp h).elim (fun h => ha w (List.mem_cons.mpr (Or.inr h))) (hb w))
theorem goodIn_sub {big ws : List Cond} (hm : ∀ w ∈ ws, w ∈ big) (h : ws.all goodWord = true) : GoodIn big ws := fun w hw => ⟨hm w hw, good_of_word (List.all_eq_true.mp h w hw)⟩
/-! ===== END ===== -/

/-- the array class over arrays of this type has been made (named by the printed rows, defined nowhere in this kit: written here) -/
def va_AOA (ty : FieldType) (U : State) : Prop := (Cond.arrayOver (.array ty)).before #[] U = true
theorem va_AOA.of {ty : FieldType} {A : Array Value} {U : State} (h : (Cond.arrayOver (.array ty)).before A U = true) : va_AOA ty U := h
theorem va_AOA.use {ty : FieldType} {A : Array Value} {U : State} (h : va_AOA ty U) : (Cond.arrayOver (.array ty)).before A U = true := h
/-! ===== BEGIN new T[n][m]: the outer array a place, the inner ones among the pooled ===== -/
/-- f, but v at every address of l -/
def vr_up {α : Type} (f : Nat → α) (l : List Nat) (v : α) : Nat → α := fun a => if a ∈ l then v else f a
theorem vr_up_in {α : Type} {f : Nat → α} {l : List Nat} {v : α} {a : Nat} (h : a ∈ l) : vr_up f l v a = v := if_pos h
theorem vr_up_ne {α : Type} {f : Nat → α} {l : List Nat} {v : α} {a : Nat} (h : a ∉ l) : vr_up f l v a = f a := if_neg h
theorem vr_rows {L l : List Nat} {f : Nat → va_E} {e : va_E} (h : ∀ a, a ∈ l → a ∉ L) : va_pl L f ++ l.map (fun a => (a, e)) = va_pl (L ++ l) (vr_up f l e) := by
  unfold va_pl
  rw [List.map_append]
  congr 1
  · apply List.map_congr_left
    intro a ha
    rw [vr_up_ne (fun q => h a q ha)]
  · apply List.map_congr_left
    intro a ha
    rw [vr_up_in ha]
theorem vr_lay {X rows : va_W} {x : Nat × va_E} {pl : va_W} {D : va_G} {cl : List vw_C} {H : Heap} (hP : va_P D cl (((X ++ pl) ++ [x]) ++ rows) H) : va_P D cl ((X ++ [x]) ++ (pl ++ rows)) H := by
  rw [List.append_assoc (X ++ pl)] at hP
  have h := va_P.swap hP
  rw [← List.append_assoc X] at h
  have h2 := va_P.swap h
  rw [List.append_assoc (X ++ [x])] at h2
  exact h2
theorem vr_layD {X rows : va_W} {x : Nat × va_E} {pl : va_W} {A : Nat → Prop} (hD : va_D A (((X ++ pl) ++ [x]) ++ rows)) : va_D A ((X ++ [x]) ++ (pl ++ rows)) := by
  rw [List.append_assoc (X ++ pl)] at hD
  have h := va_D.swap hD
  rw [← List.append_assoc X] at h
  have h2 := va_D.swap h
  rw [List.append_assoc (X ++ [x])] at h2
  exact h2
theorem vr_outer (c : ClassId) (N h0 : Nat) : ∀ i : Nat, Jvm.Free.Multi.outerC c N h0 i = arrV c N (fun j => va_rf (if j < i then some (h0 + 1 + j) else none))
  | 0 => by
    show ({ cls := c, slots := Array.replicate N .null, vm := .none } : Cell) = _
    rw [arrV_new]
    refine congrArg (arrV c N) (funext fun j => ?_)
    simp [va_rf]
  | i + 1 => by
    show (Jvm.Free.Multi.outerC c N h0 i).setSlot i (.ref (h0 + 1 + i)) = _
    rw [vr_outer c N h0 i, arrV_store]
    refine congrArg (arrV c N) (funext fun j => ?_)
    by_cases e : j = i
    · subst e
      simp [updV, va_rf]
    · by_cases h : j < i
      · simp [updV, e, h, Nat.lt_succ_of_lt h]
      · simp [updV, e, h, show ¬ j < i + 1 by omega]
section VGM
variable {p : Program} {l : Launch} {e : Env} {R : Room} {s : State} {m : MethodId} {args : Array Value} {below : List Frame} {meth : Method} {c : Code} {H : Heap} {locs : List Loc} {cells slots : Nat} {Q : State → Prop}
variable {cc : ByteArray} {pc : Nat} {ls : Array Slot} {rest : List Value} {D : va_G} {cl : List vw_C} {A : Nat → Prop} {a : Nat} {tys : List (ClassId × FieldType)} {ws : va_W} {H0 : Heap}
theorem va_mna {X : va_W} {L : List Nat} {f : Nat → va_E} {cc : ByteArray} (hexec : p.tables.exec = Jvm.exec) (hb : c.code = cc) {own : String} {index : Nat} {ty : FieldType} {cy : ClassId} (hown : s.vm.findClass own = some m.cls) (hclink : (Cond.classLink own index ("[" ++ (FieldType.array ty).toString)).before args s = true) (hover : va_AOA ty s) (harr : (Cond.arrayClass ty).before args s = true) (hcy : s.vm.findClass (FieldType.array ty).toString = some cy)
    (hK : va_K D cl tys s) (hP : va_P D cl (X ++ va_pl L f) H) (hD : va_D A (X ++ va_pl L f)) (hS : va_S A H0 H locs) (hA : ∀ q, H0.size ≤ q → A q) {n k : Int32} {N' K' : Nat} {z : vp_A} (hn : ¬ n < 0) (hk : ¬ k < 0) (hN : n.toNatClampNeg = N') (hM : k.toNatClampNeg = K')
    (hb1 : N' * 4 ≤ 536870912) (hb2 : K' * componentBytes ty ≤ 536870912) (hb3 : K' ≤ 536870912) (hdf : fits ty (defaultValue ty) = true) (hdd : (defaultValue ty).isDefault = true) (hcells : cells + (1 + N') ≤ R.cells) (hslots : slots + (N' + N' * K') ≤ R.slots) (hz : ∀ c : ClassId, Jvm.Free.Multi.innerC c K' (defaultValue ty) = vp_cell c z) (hdg : decode cc pc = .ok (.multianewarray index 2, 4))
    (kk : ∀ (q : Nat) (r : Nat → Nat) (cA : ClassId) (H1 : Heap), (∀ i j : Nat, i < N' → j < N' → r i = r j → i = j) → (∀ i : Nat, i < N' → r i ∉ L) → va_K D cl (tys ++ [(cA, .array ty)]) s →
      va_P D cl ((X ++ [(q, .inl (cA, N', .inr (.inr (.inr (.inr (fun i => if i < N' then some (r i) else none))))))]) ++ va_pl (L ++ (List.range N').map r) (vr_up f ((List.range N').map r) (.inl (cy, z)))) H1 → va_D A ((X ++ [(q, .inl (cA, N', .inr (.inr (.inr (.inr (fun i => if i < N' then some (r i) else none))))))]) ++ va_pl (L ++ (List.range N').map r) (vr_up f ((List.range N').map r) (.inl (cy, z)))) → va_S A H0 H1 locs →
      W p l e R s m args below meth c H1 locs (cells + 1 + N') (slots + N' + N' * K') Q (F0 m (pc + 4) ls (.ref q :: rest))) : W p l e R s m args below meth c H locs cells slots Q (F0 m pc ls (.int k :: .int n :: rest)) := by
  subst hN
  subst hM
  intro T hT Xs
  obtain ⟨vm₁, cA, comp, -, fA, fC, hO, -, X', step⟩ := Xs.multianewarray2F hexec hown hclink (va_AOA.use hover) harr (g := F0 m pc ls (.int k :: .int n :: rest)) rfl (by rw [hb]; exact hdg) rfl hn hk hb1 hb2 hb3 hdf hdd hcells hslots
  have ec : some cy = some comp := hcy.symm.trans fC
  cases ec
  generalize hF : Jvm.Free.Multi.fill (T.setVm vm₁) cA cy n.toNatClampNeg k.toNatClampNeg (defaultValue ty) n.toNatClampNeg = F at X' step
  have hTh : (T.setVm vm₁).heap = H := hT
  obtain ⟨f1, f2, -, -⟩ := Jvm.Free.Multi.fill_facts (T.setVm vm₁) cA cy n.toNatClampNeg k.toNatClampNeg (defaultValue ty) n.toNatClampNeg
  rw [hF, hTh] at f1 f2
  have hold : ∀ x : Nat, x < H.size → F.heap[x]? = H[x]? := fun x hx => by
    have := Jvm.Free.Multi.fill_old (T.setVm vm₁) cA cy n.toNatClampNeg k.toNatClampNeg (defaultValue ty) (a := x) (by rw [hTh]; exact hx) n.toNatClampNeg
    rw [hF, hTh] at this
    exact this
  have hrow : ∀ j : Nat, j < n.toNatClampNeg → F.heap[H.size + 1 + j]? = some (vp_cell cy z) := fun j hj => by
    have := Jvm.Free.Multi.fill_inner (T.setVm vm₁) cA cy n.toNatClampNeg k.toNatClampNeg (defaultValue ty) n.toNatClampNeg j hj
    rw [hF, hTh, hz] at this
    exact this
  have hout : Jvm.Free.Multi.outerC cA n.toNatClampNeg H.size n.toNatClampNeg = vp_cell cA (n.toNatClampNeg, .inr (.inr (.inr (.inr (fun i => if i < n.toNatClampNeg then some (H.size + 1 + i) else none))))) := by
    rw [vp_cell_q]
    exact vr_outer cA n.toNatClampNeg H.size n.toNatClampNeg
  rw [hout] at f2
  have hlt : ∀ a, a ∈ L → a < H.size := fun a ha => by
    obtain ⟨k9, hk9⟩ := va_pl_get (X := X) (f := f) ha
    exact (hP k9 _ hk9).lt
  have hnl : ∀ i : Nat, i < n.toNatClampNeg → H.size + 1 + i ∉ L := fun i _ h => by
    have := hlt _ h
    omega
  have hnm : ∀ a, a ∈ (List.range n.toNatClampNeg).map (fun i => H.size + 1 + i) → a ∉ L := fun a ha h => by
    obtain ⟨i, -, rfl⟩ := List.mem_map.mp ha
    have := hlt _ h
    omega
  have hP0 : va_P D cl (X ++ va_pl L f) F.heap := hP.kept (fun k9 x hx => hold x.1 ((hP k9 x hx).lt))
  have hP1 : va_P D cl ((X ++ va_pl L f) ++ [(H.size, .inl (cA, n.toNatClampNeg, .inr (.inr (.inr (.inr (fun i => if i < n.toNatClampNeg then some (H.size + 1 + i) else none))))))]) F.heap := hP0.app (fun k9 x hx => by
    have h0 : k9 < 1 := (List.getElem?_eq_some_iff.mp hx).1
    rw [show k9 = 0 by omega] at hx
    cases hx
    exact f2)
  have hP2 : va_P D cl (((X ++ va_pl L f) ++ [(H.size, .inl (cA, n.toNatClampNeg, .inr (.inr (.inr (.inr (fun i => if i < n.toNatClampNeg then some (H.size + 1 + i) else none))))))]) ++ ((List.range n.toNatClampNeg).map (fun i => H.size + 1 + i)).map (fun a => (a, .inl (cy, z)))) F.heap := hP1.app (fun k9 x hx => by
    obtain ⟨a, ha, rfl⟩ := List.mem_map.mp (List.mem_of_getElem? hx)
    obtain ⟨i, hi, rfl⟩ := List.mem_map.mp ha
    exact hrow i (List.mem_range.mp hi))
  have hD2 : va_D A (((X ++ va_pl L f) ++ [(H.size, .inl (cA, n.toNatClampNeg, .inr (.inr (.inr (.inr (fun i => if i < n.toNatClampNeg then some (H.size + 1 + i) else none))))))]) ++ ((List.range n.toNatClampNeg).map (fun i => H.size + 1 + i)).map (fun a => (a, .inl (cy, z)))) := by
    have hD1 := hD.push (e := .inl (cA, n.toNatClampNeg, .inr (.inr (.inr (.inr (fun i => if i < n.toNatClampNeg then some (H.size + 1 + i) else none)))))) hP rfl (hA _ hS.1)
    generalize hW1 : (X ++ va_pl L f) ++ [(H.size, .inl (cA, n.toNatClampNeg, .inr (.inr (.inr (.inr (fun i => if i < n.toNatClampNeg then some (H.size + 1 + i) else none))))))] = W1 at hD1 hP1 ⊢
    have hle : ∀ (k9 : Nat) (x : Nat × va_E), W1[k9]? = some x → x.1 ≤ H.size := fun k9 x hx => by
      rw [← hW1] at hx
      by_cases hl : k9 < (X ++ va_pl L f).length
      · rw [List.getElem?_append_left hl] at hx
        exact Nat.le_of_lt ((hP k9 x hx).lt)
      · rw [List.getElem?_append_right (by omega)] at hx
        have h0 : k9 - (X ++ va_pl L f).length < 1 := (List.getElem?_eq_some_iff.mp hx).1
        rw [show k9 - (X ++ va_pl L f).length = 0 by omega] at hx
        cases hx
        exact Nat.le_refl _
    have hr : ∀ (k9 : Nat) (x : Nat × va_E), (((List.range n.toNatClampNeg).map (fun i => H.size + 1 + i)).map (fun a => ((a, .inl (cy, z)) : Nat × va_E)))[k9]? = some x → x.1 = H.size + 1 + k9 := fun k9 x hx => by
      rw [List.getElem?_map, List.getElem?_map] at hx
      by_cases h9 : k9 < n.toNatClampNeg
      · rw [List.getElem?_range h9] at hx
        cases hx
        rfl
      · have hn0 : (List.range n.toNatClampNeg)[k9]? = none := List.getElem?_eq_none (by rw [List.length_range]; omega)
        rw [hn0] at hx
        cases hx
    refine ⟨fun i j x y hi hj hxy => ?_, fun k9 x hx => ?_⟩
    · by_cases h1 : i < W1.length <;> by_cases h2 : j < W1.length
      · rw [List.getElem?_append_left h1] at hi
        rw [List.getElem?_append_left h2] at hj
        exact hD1.1 i j x y hi hj hxy
      · rw [List.getElem?_append_left h1] at hi
        rw [List.getElem?_append_right (by omega)] at hj
        have := hle _ _ hi
        have := hr _ _ hj
        omega
      · rw [List.getElem?_append_right (by omega)] at hi
        rw [List.getElem?_append_left h2] at hj
        have := hle _ _ hj
        have := hr _ _ hi
        omega
      · rw [List.getElem?_append_right (by omega)] at hi hj
        have := hr _ _ hi
        have := hr _ _ hj
        omega
    · by_cases h1 : k9 < W1.length
      · rw [List.getElem?_append_left h1] at hx
        exact hD1.2 k9 x hx
      · rw [List.getElem?_append_right (by omega)] at hx
        have := hr _ _ hx
        exact hA _ (by have := hS.1; omega)
  have hAr : ArrOfT s cA (.array ty) := fun N9 z9 => by
    obtain ⟨-, k9, hk9, cm9, hkk9⟩ := (hO 0 0 0).1
    exact ⟨(fun q hq => by cases hq), k9, hk9, cm9, hkk9⟩
  have hK2 : va_K D cl (tys ++ [(cA, .array ty)]) s := ⟨hK.1, fun k9 x hx => by
    by_cases hl : k9 < tys.length
    · rw [List.getElem?_append_left hl] at hx
      exact hK.2 k9 x hx
    · rw [List.getElem?_append_right (by omega)] at hx
      have h0 : k9 - tys.length < 1 := (List.getElem?_eq_some_iff.mp hx).1
      rw [show k9 - tys.length = 0 by omega] at hx
      cases hx
      exact ⟨hAr, fA⟩⟩
  obtain ⟨t, a1, b1⟩ := kk H.size (fun i => H.size + 1 + i) cA F.heap (fun i j _ _ h => by have h9 : H.size + 1 + i = H.size + 1 + j := h; omega) hnl hK2 (by rw [← vr_rows hnm]; exact vr_lay hP2) (by rw [← vr_rows hnm]; exact vr_layD hD2) ⟨by rw [f1]; have := hS.1; omega, fun x h1 h2 => (hold x (Nat.lt_of_lt_of_le h1 hS.1)).trans (hS.2.1 x h1 h2), hS.2.2⟩ F rfl X'
  refine ⟨t, step t ?_, b1⟩
  have e : T.heap.size = H.size := by rw [hT]
  rw [e]
  exact a1
end VGM
/-! ===== END ===== -/

/-! ===== BEGIN exceptions that leave a method, and their catching by the caller (launches without stack traces) ===== -/
section VXA
/-! The laws vx_back, vx_callV, vx_callS, vx_callSW, vx_throw0, vx_throwS follow proofs of the library, with one case more: JvmDerived/Free/Laws.lean (Back.of_free), Shelf42/LK1.lean (callV, callS), Shelf/KitTraced.lean (throwNew0V, throwNewS). -/
/-- where a method has thrown q: the class by its name, the cell, what was written, the world -/
def vx_T (XC : String → State → State → Prop) (st : State) (q : Addr) (t : State) (mc ms : Nat) (free : Addr → Prop) : Prop :=
  ∃ (E : String) (ce : Cell) (L : List Loc), XC E st t ∧ t.heap[q]? = some ce ∧ ce.vm = .none ∧ st.vm.findClass E = some ce.cls ∧ st.WarmedH t.vm ∧ st.sameButNew ({ t with vm := st.vm } : State) L mc ms ∧ ∀ z ∈ L, free z.base
def vx_Q (Qc : Array Value → State → Outcome → State → Prop) (XC : String → State → State → Prop) (mc ms : Nat) (free : Addr → Prop) : Array Value → State → Outcome → State → Prop := fun a st o t =>
  (Qc a st o t ∧ ∃ L, FrameEnd st o t L mc ms ∧ ∀ q ∈ L, free q.base) ∨ ∃ q, o = .threw q ∧ vx_T XC st q t mc ms free
/-- a callee that returns or throws -/
def vx_Met (l : Launch) (y : MethodName) (ws : List Cond) (rm : Room) (Pc : Array Value → State → Prop) (Qc : Array Value → State → Outcome → State → Prop) (XC : String → State → State → Prop) (mc ms : Nat) (free : Addr → Prop) : Prop :=
  MetFree l y (headSpec ws rm) Pc (fun _ _ _ _ _ => True) (vx_Q Qc XC mc ms free)
def vx_Post (XC : String → State → State → Prop) (mc ms : Nat) (free : Addr → Prop) : Pt → Array Value → Addr → Pt → Prop := fun A a q B =>
  ∃ (g : JFrame) (mk : MethodId) (t : State) (L : List Loc) (E : String) (ce : Cell), B.U.heap = t.heap ∧ B.U.vm = t.vm ∧ XC E (A.U.calling g mk a) t ∧ t.heap[q]? = some ce ∧ ce.vm = .none ∧ A.U.vm.findClass E = some ce.cls ∧ B.locs = A.locs ++ L ∧ (∀ z ∈ L, free z.base) ∧ B.cells = A.cells + mc ∧ B.slots = A.slots + ms
def vx_Back (l : Launch) (R : Room) (p : Program) (e : Env) (below : List Frame) (s : State) (sargs : Array Value) (y : MethodName) (len W9 : Nat)
    (Pre : Pt → Array Value → Prop) (Post : Pt → Array Value → Option Value → Pt → Prop) (PostX : Pt → Array Value → Addr → Pt → Prop) : Prop :=
  ∀ (m : MethodId) (meth : Method) (c : Code) (A : Pt) (g : JFrame) (ig : Instr) (mk : MethodId) (a : Array Value),
    Stand p l e R s m sargs below meth c A.U A.locs A.cells A.slots → g.method = m → g.locals.size = c.maxLocals → decode c.code g.pc = .ok (ig, len) →
    2 * g.monitorRoom + (g.stack.map fun v => v.category).sum ≤ W9 → A.U.methodNamed? y = some mk → Pre A a →
    (∃ (v : Option Value) (B : Pt), Stand p l e R s m sargs below meth c B.U B.locs B.cells B.slots ∧ Post A a v B ∧
      Steps p.tables e below (doInvoke e (A.U.setTop g) [] mk a).1 (B.U.setTop { g with pc := g.pc + len, stack := v.toList ++ g.stack })) ∨
    (∃ (q : Addr) (B : Pt), Stand p l e R s m sargs below meth c B.U B.locs B.cells B.slots ∧ PostX A a q B ∧
      Steps p.tables e below (doInvoke e (A.U.setTop g) [] mk a).1 ((B.U.setTop g).pushFrame (.throwing q)))
section Payer
variable {l : Launch} {R : Room} {p : Program} {e : Env} {below : List Frame} {s : State} {sargs : Array Value} {y : MethodName} {len W9 : Nat}
theorem vx_back {ws : List Cond} {rm : Room} {Pc : Array Value → State → Prop} {Qc : Array Value → State → Outcome → State → Prop} {XC : String → State → State → Prop} {mc ms : Nat} {free : Addr → Prop} {bytes : ByteArray} {maxL : Nat} {ret : Option FieldType}
    (hM : vx_Met l y ws rm Pc Qc XC mc ms free) (hblind : FrameBlind Pc) (hrc : rm.cells = mc) (hrs : rm.slots = ms)
    (hframes : rm.frames + 1 ≤ R.frames) (hlocals : W9 + (maxL + 11) + rm.locals ≤ R.locals)
    (hws : ∀ w ∈ ws, ∀ a' U, s.WarmedH U.vm → w.before a' U = true) (hcode : Cond.code y bytes maxL ret ∈ ws) (hinit : ∀ a' U, s.WarmedH U.vm → (Cond.initialized y.cls).before a' U = true) :
    vx_Back l R p e below s sargs y len W9 (PreOf R mc ms Pc) (PostOf Qc mc ms free) (vx_Post XC mc ms free) := by
  intro m meth c A g ig mk a X hg hsize hdg hW hn hp
  have h1 : (headSpec ws rm).pre.before a A.U = true := atoms_intro fun w hw => hws w hw _ _ X.warmed
  have h2 : (Cond.code y bytes maxL ret).before a A.U = true := hws _ hcode _ _ X.warmed
  have h3 : (Cond.initialized y.cls).before a A.U = true := hinit _ _ X.warmed
  have h4 : A.cells + (headSpec ws rm).room.cells ≤ R.cells := by rw [show (headSpec ws rm).room.cells = mc from hrc]; exact hp.1
  have h5 : A.slots + (headSpec ws rm).room.slots ≤ R.slots := by rw [show (headSpec ws rm).room.slots = ms from hrs]; exact hp.2.1
  have hPc : Pc a (A.U.calling g mk a) := hblind _ _ _ _ hp.2.2
  obtain ⟨U, Ls, c0, s0⟩ := A
  dsimp only [Pt.U, Pt.locs, Pt.cells, Pt.slots] at h1 h2 h3 h4 h5 X hn hPc ⊢
  obtain ⟨methY, cY, hmY, hcY, -, hlY, -, -, -, -⟩ := Cond.code_spec hn h2
  obtain ⟨kY, hkY, -⟩ := className_of_methodNamed hn
  have hinitY : kY.init = .initialized := Cond.initialized_spec (findClass_of_methodNamed hn) hkY h3
  have h : At U g.method c below := by rw [hg]; exact X.here
  have hlocals9 : W9 + (maxL + 11) + (headSpec ws rm).room.locals ≤ R.locals := hlocals
  have happ : (headSpec ws rm).appliesLoose y e.platform (U.calling g mk a) = true :=
    Spec.appliesLoose_calling (g := g) h hdg hn hkY hinitY
      (X.room_calling (g := g) (R' := (headSpec ws rm).room) hsize hmY hcY hframes (by rw [hlY]; omega) h4 h5) h1
  obtain ⟨mid, hmid⟩ := h.above
  have hfr : (U.setTop g).frames = (.java g :: mid) ++ below := by rw [State.frames_setTop' g h.top, hmid]; rfl
  obtain ⟨o, s₂, hsteps, -, hend, hq⟩ := Steps.callFree hM p X.admits X.cas X.clock (acts := []) hfr happ hPc trivial
  have hq' : vx_Q Qc XC mc ms free a (U.calling g mk a) o s₂ := hq
  rw [State.frames_setTop' g h.top] at hend
  obtain ⟨g₀, hg0⟩ := Option.isSome_iff_exists.mp h.top
  obtain ⟨r, hr⟩ := State.topJava?_eq_some.mp hg0
  have hr' : (({ U with heap := s₂.heap, slotsUsed := s₂.slotsUsed } : State).setVm s₂.vm).frames = .java g₀ :: r := hr
  rcases hq' with ⟨hqc, L, hfe, hL⟩ | ⟨q, rfl, E, ce, L, hx, hce, hcv, hcl, hW₂, hsm, hL⟩
  · obtain ⟨⟨v, rfl⟩, hW₂, e2, q2, q3, q4, q5, q6⟩ := id hfe
    have e3 : s₂ = ({ (U.calling g mk a).setFrames s₂.frames with heap := s₂.heap, slotsUsed := s₂.slotsUsed } : State).setVm s₂.vm := by
      have : s₂ = ({ s₂ with vm := (U.calling g mk a).vm } : State).setVm s₂.vm := rfl
      rw [e2] at this
      exact this
    obtain ⟨c₂, i₂, len₂, hc₂, hd₂, hf₂⟩ := hend
    have hW' : U.WarmedH s₂.vm := hW₂
    have hcc : c₂ = c := by
      have h1 : s₂.code? g.method = U.code? g.method := by
        rw [State.code?_eq, State.code?_eq, hW'.alike.method?]
      exact Option.some.inj (hc₂.symm.trans (h1.trans h.code))
    subst hcc
    have hlen : len₂ = len := by rw [hdg] at hd₂; cases hd₂; rfl
    subst hlen
    have hs₂ : s₂ = (({ U with heap := s₂.heap, slotsUsed := s₂.slotsUsed } : State).setVm s₂.vm).setTop { g with pc := g.pc + len₂, stack := v.toList ++ g.stack } := by
      refine e3.trans ?_
      rw [hf₂, State.calling_eq h.top, State.setFrames_setFrames, State.setTop_of_frames _ hr', hr]
      rfl
    have hsame : U.sameButNew ({ U with heap := s₂.heap, slotsUsed := s₂.slotsUsed } : State) L mc ms := by
      refine ⟨?_, q2, q3, q4, q5, q6⟩
      obtain ⟨t, ht, -⟩ := State.frames_cons hr
      show ({ U with heap := s₂.heap, slotsUsed := s₂.slotsUsed } : State) = { U.setFrames U.frames with heap := s₂.heap, slotsUsed := s₂.slotsUsed }
      rw [State.setFrames_self ht]
    subst hg
    refine Or.inl ⟨v, ⟨(({ U with heap := s₂.heap, slotsUsed := s₂.slotsUsed } : State).setVm s₂.vm), Ls ++ L, c0 + mc, s0 + ms⟩,
      ⟨X.admits, X.cas, X.clock, X.frames, X.room, X.hears, X.method, X.code, (X.here.setHeapUsed s₂.heap s₂.slotsUsed).setVm hW'.alike, X.tail, State.WarmedH.trans X.warmed hW', X.limits, X.bytes, X.same.trans (hsame.setVm s.vm)⟩,
      ⟨g, mk, s₂, L, rfl, rfl, hqc, rfl, hL, rfl, rfl⟩, ?_⟩
    show Steps p.tables e below _ ((({ U with heap := s₂.heap, slotsUsed := s₂.slotsUsed } : State).setVm s₂.vm).setTop { g with pc := g.pc + len₂, stack := v.toList ++ g.stack })
    rw [← hs₂]
    exact hsteps
  · obtain ⟨e2, q2, q3, q4, q5, q6⟩ := id hsm
    have e3 : s₂ = ({ (U.calling g mk a).setFrames s₂.frames with heap := s₂.heap, slotsUsed := s₂.slotsUsed } : State).setVm s₂.vm := by
      have : s₂ = ({ s₂ with vm := (U.calling g mk a).vm } : State).setVm s₂.vm := rfl
      rw [e2] at this
      exact this
    have hf₂ : s₂.frames = .throwing q :: .java g :: U.frames.tail := hend
    have hW' : U.WarmedH s₂.vm := hW₂
    have hs₂ : s₂ = ((({ U with heap := s₂.heap, slotsUsed := s₂.slotsUsed } : State).setVm s₂.vm).setTop g).pushFrame (.throwing q) := by
      refine e3.trans ?_
      rw [hf₂, State.calling_eq h.top, State.setFrames_setFrames, State.pushFrame, State.frames_setTop _ hr', State.setTop_of_frames _ hr', State.setFrames_setFrames, hr]
      rfl
    have hsame : U.sameButNew ({ U with heap := s₂.heap, slotsUsed := s₂.slotsUsed } : State) L mc ms := by
      refine ⟨?_, q2, q3, q4, q5, q6⟩
      obtain ⟨t, ht, -⟩ := State.frames_cons hr
      show ({ U with heap := s₂.heap, slotsUsed := s₂.slotsUsed } : State) = { U.setFrames U.frames with heap := s₂.heap, slotsUsed := s₂.slotsUsed }
      rw [State.setFrames_self ht]
    subst hg
    refine Or.inr ⟨q, ⟨(({ U with heap := s₂.heap, slotsUsed := s₂.slotsUsed } : State).setVm s₂.vm), Ls ++ L, c0 + mc, s0 + ms⟩,
      ⟨X.admits, X.cas, X.clock, X.frames, X.room, X.hears, X.method, X.code, (X.here.setHeapUsed s₂.heap s₂.slotsUsed).setVm hW'.alike, X.tail, State.WarmedH.trans X.warmed hW', X.limits, X.bytes, X.same.trans (hsame.setVm s.vm)⟩,
      ⟨g, mk, s₂, L, E, ce, rfl, rfl, hx, hce, hcv, hcl, rfl, hL, rfl, rfl⟩, ?_⟩
    show Steps p.tables e below _ (((({ U with heap := s₂.heap, slotsUsed := s₂.slotsUsed } : State).setVm s₂.vm).setTop g).pushFrame (.throwing q))
    rw [← hs₂]
    exact hsteps
end Payer
section Calls
variable {p : Program} {l : Launch} {e : Env} {R : Room} {s : State} {m : MethodId} {args : Array Value} {below : List Frame} {meth : Method} {c : Code} {T : State} {locs : List Loc} {cells slots : Nat}
theorem vx_callV (X : Stand p l e R s m args below meth c T locs cells slots) (hexec : p.tables.exec = Jvm.exec) {own C : String} {index : Nat} {y : MethodName} {bytes : ByteArray} {maxL : Nat} {ret : Option FieldType}
    (hown : s.vm.findClass own = some m.cls) (hlink : (Cond.methodLink own index y).before args s = true) (hinst : (Cond.instanceMethod y).before args s = true) (hsel : (Cond.selects C y y).before args s = true)
    (hcode : (Cond.code y bytes maxL ret).before args s = true) (hy : y.cls ≠ "java/lang/invoke/MethodHandle" ∧ y.cls ≠ "java/lang/invoke/VarHandle")
    {W9 : Nat} {Pre : Pt → Array Value → Prop} {Post : Pt → Array Value → Option Value → Pt → Prop} {PostX : Pt → Array Value → Addr → Pt → Prop} (hK : vx_Back l R p e below s args y 3 W9 Pre Post PostX)
    {b : Addr} {cellB : Cell} (hcell : T.heap[b]? = some cellB) (hobj : cellB.vm.isStatics = false) (hcls : s.vm.findClass C = some cellB.cls)
    {g : JFrame} (hg : g.method = m) (hsize : g.locals.size = c.maxLocals) {argsL rest : List Value} (hlen : ∀ sig, parseMethodDescriptor y.desc = some sig → argsL.length = sig.parameters.length)
    (hstack : g.stack = argsL.reverse ++ .ref b :: rest) (hW : 2 * g.monitorRoom + (rest.map fun v => v.category).sum ≤ W9) (hdg : decode c.code g.pc = .ok (.invokevirtual index, 3))
    (hpre : ∀ vm₁, s.WarmedH vm₁ → Pre ⟨T.setVm vm₁, locs, cells, slots⟩ (Value.ref b :: argsL).toArray) :
    (∃ (v : Option Value) (vm₁ : Vm) (B : Pt), s.WarmedH vm₁ ∧ Stand p l e R s m args below meth c B.U B.locs B.cells B.slots ∧ Post ⟨T.setVm vm₁, locs, cells, slots⟩ (Value.ref b :: argsL).toArray v B ∧
      ∀ target, Steps p.tables e below (B.U.setTop { g with pc := g.pc + 3, stack := v.toList ++ rest }) target → Steps p.tables e below (T.setTop g) target) ∨
    (∃ (q : Addr) (vm₁ : Vm) (B : Pt), s.WarmedH vm₁ ∧ Stand p l e R s m args below meth c B.U B.locs B.cells B.slots ∧ PostX ⟨T.setVm vm₁, locs, cells, slots⟩ (Value.ref b :: argsL).toArray q B ∧
      Steps p.tables e below (T.setTop g) ((B.U.setTop { g with stack := rest }).pushFrame (.throwing q))) := by
  obtain ⟨mk, methM, hnamed, hmethM, hstM, habM⟩ := Cond.instanceMethod_spec hinst
  obtain ⟨methM', cM, hmethM', -, -, -, -, -, -, hsigM⟩ := Cond.code_spec hnamed hcode
  cases hmethM.symm.trans hmethM'
  obtain ⟨c2, r2, m2, q1, q2, q3, q4, kP, hkP, hkPi⟩ := Cond.selects_spec hsel
  cases hcls.symm.trans q1
  cases (State.methodFound?_of_named hnamed hy).symm.trans q2
  cases hnamed.symm.trans q3
  have hselP : selectMethod e.platform s.vm cellB.cls mk = .method mk := by rw [Launch.admits_selectMethod X.admits]; exact q4
  obtain ⟨vm₁, X₁, hstep₁⟩ := X.invokevirtual hexec hown hlink hnamed hmethM hstM hkP hkPi hy (a := b) (cell := cellB) hcell
    (fun z h => by rw [h] at hobj; cases hobj) hselP hmethM habM hkP hkPi (g := g) hg (argsL := argsL) (rest := rest) (hlen _ hsigM) hstack hdg
  rcases hK m meth c ⟨T.setVm vm₁, locs, cells, slots⟩ { g with stack := rest } (.invokevirtual index) mk (Value.ref b :: argsL).toArray X₁ hg hsize hdg hW (X₁.named hnamed) (hpre vm₁ X₁.warmed) with ⟨v, B, X', hpost, hsteps⟩ | ⟨q, B, X', hpost, hsteps⟩
  · exact Or.inl ⟨v, vm₁, B, X₁.warmed, X', hpost, fun target h => hstep₁ _ fun acts => by rw [doInvoke_state]; exact hsteps.trans h⟩
  · exact Or.inr ⟨q, vm₁, B, X₁.warmed, X', hpost, hstep₁ _ fun acts => by rw [doInvoke_state]; exact hsteps⟩
theorem vx_callS (X : Stand p l e R s m args below meth c T locs cells slots) (hexec : p.tables.exec = Jvm.exec) {own : String} {index : Nat} {y : MethodName} {bytes : ByteArray} {maxL : Nat} {ret : Option FieldType}
    (hown : s.vm.findClass own = some m.cls) (hlink : (Cond.methodLink own index y).before args s = true) (hstat : (Cond.static y).before args s = true) (hinit : (Cond.initialized y.cls).before args s = true)
    (hcode : (Cond.code y bytes maxL ret).before args s = true) (hy : y.cls ≠ "java/lang/invoke/MethodHandle" ∧ y.cls ≠ "java/lang/invoke/VarHandle")
    {W9 : Nat} {Pre : Pt → Array Value → Prop} {Post : Pt → Array Value → Option Value → Pt → Prop} {PostX : Pt → Array Value → Addr → Pt → Prop} (hK : vx_Back l R p e below s args y 3 W9 Pre Post PostX)
    {g : JFrame} (hg : g.method = m) (hsize : g.locals.size = c.maxLocals) {argsL rest : List Value} (hlen : ∀ sig, parseMethodDescriptor y.desc = some sig → argsL.length = sig.parameters.length)
    (hstack : g.stack = argsL.reverse ++ rest) (hW : 2 * g.monitorRoom + (rest.map fun v => v.category).sum ≤ W9) (hdg : decode c.code g.pc = .ok (.invokestatic index, 3))
    (hpre : ∀ vm₁, s.WarmedH vm₁ → Pre ⟨T.setVm vm₁, locs, cells, slots⟩ argsL.toArray) :
    (∃ (v : Option Value) (vm₁ : Vm) (B : Pt), s.WarmedH vm₁ ∧ Stand p l e R s m args below meth c B.U B.locs B.cells B.slots ∧ Post ⟨T.setVm vm₁, locs, cells, slots⟩ argsL.toArray v B ∧
      ∀ target, Steps p.tables e below (B.U.setTop { g with pc := g.pc + 3, stack := v.toList ++ rest }) target → Steps p.tables e below (T.setTop g) target) ∨
    (∃ (q : Addr) (vm₁ : Vm) (B : Pt), s.WarmedH vm₁ ∧ Stand p l e R s m args below meth c B.U B.locs B.cells B.slots ∧ PostX ⟨T.setVm vm₁, locs, cells, slots⟩ argsL.toArray q B ∧
      Steps p.tables e below (T.setTop g) ((B.U.setTop { g with stack := rest }).pushFrame (.throwing q))) := by
  obtain ⟨mk, hnamed⟩ := Cond.code_named hcode
  obtain ⟨methM, cM, hmethM, -, -, -, -, -, -, hsigM⟩ := Cond.code_spec hnamed hcode
  have hstatic : methM.isStatic = true := Cond.static_spec hnamed hmethM hstat
  obtain ⟨kP, hkP, -⟩ := className_of_methodNamed hnamed
  have hinitP : kP.init = .initialized := Cond.initialized_spec (findClass_of_methodNamed hnamed) hkP hinit
  obtain ⟨vm₁, X₁, hstep₁⟩ := X.invokestatic hexec hown hlink hnamed hmethM hstatic hkP hinitP hy (g := g) hg (argsL := argsL) (rest := rest) (hlen _ hsigM) hstack hdg
  rcases hK m meth c ⟨T.setVm vm₁, locs, cells, slots⟩ { g with stack := rest } (.invokestatic index) mk argsL.toArray X₁ hg hsize hdg hW (X₁.named hnamed) (hpre vm₁ X₁.warmed) with ⟨v, B, X', hpost, hsteps⟩ | ⟨q, B, X', hpost, hsteps⟩
  · exact Or.inl ⟨v, vm₁, B, X₁.warmed, X', hpost, fun target h => hstep₁ _ fun acts => by rw [doInvoke_state]; exact hsteps.trans h⟩
  · exact Or.inr ⟨q, vm₁, B, X₁.warmed, X', hpost, hstep₁ _ fun acts => by rw [doInvoke_state]; exact hsteps⟩
end Calls
theorem vx_cls {s : State} {T : State} {vm₁ : Vm} {E : String} {k : ClassId} (hW : s.WarmedH vm₁) (h : (T.setVm vm₁).vm.findClass E = some k) : s.vm.findClass E = some k := by
  have h1 : vm₁.findClass E = some k := h
  rw [hW.alike.findClass] at h1
  exact h1
/-- the method's frame g, with q thrown over it -/
def vx_W (p : Program) (l : Launch) (e : Env) (R : Room) (s : State) (m : MethodId) (args : Array Value) (below : List Frame) (meth : Method) (c : Code) (H : Heap) (locs : List Loc) (cells slots : Nat) (Q : State → Prop) (g : JFrame) (q : Addr) : Prop :=
  ∀ T : State, T.heap = H → Stand p l e R s m args below meth c T locs cells slots → ∃ t, Steps p.tables e below ((T.setTop g).pushFrame (.throwing q)) t ∧ Q t
def vx_Run (p : Program) (l : Launch) (e : Env) (R : Room) (s : State) (m : MethodId) (args : Array Value) (below : List Frame) (meth : Method) (c : Code) (H : Heap) (locs : List Loc) (cells slots mc ms : Nat) (g : JFrame) (rest : List Value) (Qa : State → Outcome → State → Prop) (XC : String → State → State → Prop) (free : Addr → Prop) : Prop :=
  ∀ T : State, T.heap = H → Stand p l e R s m args below meth c T locs cells slots →
    (∃ (v : Option Value) (st₀ t T' : State) (L : List Loc), st₀.heap = H ∧ Stand p l e R s m args below meth c T' (locs ++ L) (cells + mc) (slots + ms) ∧ (∀ q ∈ L, free q.base) ∧ T'.heap = t.heap ∧ T'.vm = t.vm ∧ Qa st₀ (.returned v) t ∧
      Goes p e below T g T' { g with pc := g.pc + 3, stack := v.toList ++ rest }) ∨
    (∃ (q : Addr) (st₀ t T' : State) (L : List Loc) (E : String) (ce : Cell), st₀.heap = H ∧ Stand p l e R s m args below meth c T' (locs ++ L) (cells + mc) (slots + ms) ∧ (∀ z ∈ L, free z.base) ∧ T'.heap = t.heap ∧ T'.vm = t.vm ∧ XC E st₀ t ∧ t.heap[q]? = some ce ∧ ce.vm = .none ∧ s.vm.findClass E = some ce.cls ∧
      Steps p.tables e below (T.setTop g) ((T'.setTop { g with stack := rest }).pushFrame (.throwing q)))
def vx_X {S : Type} (px : S → Prop) (B : String → S → State → Prop) (A : Nat → Prop) : String → State → State → Prop := fun E st t => ∃ u : S, px u ∧ B E u t ∧ va_F A st t
section Runs
variable {p : Program} {l : Launch} {e : Env} {R : Room} {s : State} {m : MethodId} {args : Array Value} {below : List Frame} {meth : Method} {c : Code} {H : Heap} {locs : List Loc} {cells slots : Nat}
variable {y : MethodName} {bytes cc : ByteArray} {maxL nL mc ms n index : Nat} {ret : Option FieldType} {ws : List Cond} {rm : Room} {Pc : Array Value → State → Prop} {Qc : Array Value → State → Outcome → State → Prop} {XC : String → State → State → Prop} {free : Addr → Prop} {Ts : List Cond} {own C : String} {b : Addr} {As rest : List Value} {g : JFrame}
theorem vx_callBack (cb : CallB R s args own index y bytes maxL ret ws rm mc ms n) (hM : vx_Met l y ws rm Pc Qc XC mc ms free) (hbl : FrameBlind Pc) : vx_Back l R p e below s args y 3 8 (PreOf R mc ms Pc) (PostOf Qc mc ms free) (vx_Post XC mc ms free) := by
  obtain ⟨hrc, hrs, hfr, hlo, hws, hcw, -, hini, -⟩ := cb
  exact vx_back (bytes := bytes) (maxL := maxL) (ret := ret) hM hbl hrc hrs hfr hlo hws hcw (fun a' U hW => word_at hW (Or.inl (by first | rfl | simp [Cond.onTables, Cond.keeps, Cond.steady])) hini)
theorem vx_runV (S : CallFix p m c cc nL s args Ts own) (hM : vx_Met l y ws rm Pc Qc XC mc ms free) (cw : CallW R s args own C index y bytes maxL ret ws rm mc ms n) (hp : PreV s H C b Pc As)
    (hg : g.method = m) (hn : As.length = n) (hsize : g.locals.size = nL) (hstack : g.stack = As.reverse ++ .ref b :: rest) (hW : 2 * g.monitorRoom + (rest.map fun v => v.category).sum ≤ 8) (hdg : decode cc g.pc = .ok (.invokevirtual index, 3)) (hf : cells + mc ≤ R.cells ∧ slots + ms ≤ R.slots) :
    vx_Run p l e R s m args below meth c H locs cells slots mc ms g rest (Qc (Value.ref b :: As).toArray) XC free := by
  have hK : vx_Back l R p e below s args y 3 8 (PreOf R mc ms Pc) (PostOf Qc mc ms free) (vx_Post XC mc ms free) := vx_callBack cw.1 hM hp.1
  obtain ⟨⟨-, -, -, -, -, -, hcode, -, hy, hlen, hl⟩, hin, hse⟩ := cw
  obtain ⟨hx, hb, hml, ho, -⟩ := S
  obtain ⟨-, ⟨cellB, hcB, hoB, hclB⟩, hPc⟩ := hp
  intro T hT X
  rcases vx_callV X hx (C := C) (bytes := bytes) (maxL := maxL) (ret := ret) ho hl hin hse hcode hy hK (by rw [hT]; exact hcB) hoB hclB hg (hsize.trans hml.symm) (argsL := As) (rest := rest) (fun sig h => hn.trans (hlen sig h)) hstack hW (by rw [hb]; exact hdg)
    (fun vm₁ hW₁ => ⟨hf.1, hf.2, hPc (T.setVm vm₁) hT hW₁⟩) with ⟨v, vm₁, ⟨U', l2, c2, s2⟩, hW₁, X', ⟨g', mk, t, L, e1, e2, hq, h1, hL, h2, h3⟩, st⟩ | ⟨q, vm₁, ⟨U', l2, c2, s2⟩, hW₁, X', ⟨g', mk, t, L, E, ce, e1, e2, hq, hce, hcv, hcl, h1, hL, h2, h3⟩, st⟩
  · dsimp only [Pt.U, Pt.locs, Pt.cells, Pt.slots] at X' e1 e2 h1 h2 h3 st
    subst h1; subst h2; subst h3
    exact Or.inl ⟨v, (T.setVm vm₁).calling g' mk (Value.ref b :: As).toArray, t, U', L, hT, X', hL, e1, e2, hq, st⟩
  · dsimp only [Pt.U, Pt.locs, Pt.cells, Pt.slots] at X' e1 e2 h1 h2 h3 st hcl
    subst h1; subst h2; subst h3
    exact Or.inr ⟨q, (T.setVm vm₁).calling g' mk (Value.ref b :: As).toArray, t, U', L, E, ce, hT, X', hL, e1, e2, hq, hce, hcv, vx_cls hW₁ hcl, st⟩
theorem vx_runS (S : CallFix p m c cc nL s args Ts own) (hM : vx_Met l y ws rm Pc Qc XC mc ms free) (cw : CallB R s args own index y bytes maxL ret ws rm mc ms n ∧ (Cond.static y).before args s = true) (hp : PreS s H Pc As)
    (hg : g.method = m) (hn : As.length = n) (hsize : g.locals.size = nL) (hstack : g.stack = As.reverse ++ rest) (hW : 2 * g.monitorRoom + (rest.map fun v => v.category).sum ≤ 8) (hdg : decode cc g.pc = .ok (.invokestatic index, 3)) (hf : cells + mc ≤ R.cells ∧ slots + ms ≤ R.slots) :
    vx_Run p l e R s m args below meth c H locs cells slots mc ms g rest (Qc As.toArray) XC free := by
  have hK : vx_Back l R p e below s args y 3 8 (PreOf R mc ms Pc) (PostOf Qc mc ms free) (vx_Post XC mc ms free) := vx_callBack cw.1 hM hp.1
  obtain ⟨⟨-, -, -, -, -, -, hcode, hini, hy, hlen, hl⟩, hstt⟩ := cw
  obtain ⟨hx, hb, hml, ho, -⟩ := S
  intro T hT X
  rcases vx_callS X hx (bytes := bytes) (maxL := maxL) (ret := ret) ho hl hstt hini hcode hy hK hg (hsize.trans hml.symm) (argsL := As) (rest := rest) (fun sig h => hn.trans (hlen sig h)) hstack hW (by rw [hb]; exact hdg)
    (fun vm₁ hW₁ => ⟨hf.1, hf.2, hp.2 (T.setVm vm₁) hT hW₁⟩) with ⟨v, vm₁, ⟨U', l2, c2, s2⟩, hW₁, X', ⟨g', mk, t, L, e1, e2, hq, h1, hL, h2, h3⟩, st⟩ | ⟨q, vm₁, ⟨U', l2, c2, s2⟩, hW₁, X', ⟨g', mk, t, L, E, ce, e1, e2, hq, hce, hcv, hcl, h1, hL, h2, h3⟩, st⟩
  · dsimp only [Pt.U, Pt.locs, Pt.cells, Pt.slots] at X' e1 e2 h1 h2 h3 st
    subst h1; subst h2; subst h3
    exact Or.inl ⟨v, (T.setVm vm₁).calling g' mk As.toArray, t, U', L, hT, X', hL, e1, e2, hq, st⟩
  · dsimp only [Pt.U, Pt.locs, Pt.cells, Pt.slots] at X' e1 e2 h1 h2 h3 st hcl
    subst h1; subst h2; subst h3
    exact Or.inr ⟨q, (T.setVm vm₁).calling g' mk As.toArray, t, U', L, E, ce, hT, X', hL, e1, e2, hq, hce, hcv, vx_cls hW₁ hcl, st⟩
end Runs
section Rows
variable {p : Program} {l : Launch} {e : Env} {R : Room} {s : State} {m : MethodId} {args : Array Value} {below : List Frame} {meth : Method} {c : Code} {H : Heap} {locs : List Loc} {cells slots : Nat} {Q : State → Prop}
variable {mc ms : Nat} {free : Addr → Prop} {A0 A1 : Nat → Prop} {H0 : Heap} {a : Array Value} {pc : Nat} {ls : Array Slot} {st0 rest : List Value}
theorem vx_keep {st₀ t T' : State} {L : List Loc} (h0 : st₀.heap = H) (e1 : T'.heap = t.heap) (hS : va_S A0 H0 H locs) (hA : ∀ q, q < H.size → A1 q → A0 q) (hf : ∀ q, free q → A0 q) (hL : ∀ q ∈ L, free q.base) (hF : va_F A1 st₀ t) :
    H.size ≤ T'.heap.size ∧ (∀ q : Nat, q < H.size → ¬ A1 q → T'.heap[q]? = H[q]?) ∧ va_S A0 H0 T'.heap (locs ++ L) := by
  obtain ⟨hz, hk⟩ := hF
  rw [h0] at hz hk
  exact ⟨by rw [e1]; exact hz, fun q h1 h2 => by rw [e1]; exact hk q h1 h2,
    ⟨Nat.le_trans hS.1 (by rw [e1]; exact hz), fun q h1 h2 => by rw [e1, hk q (Nat.lt_of_lt_of_le h1 hS.1) (fun z => h2 (hA q (Nat.lt_of_lt_of_le h1 hS.1) z))]; exact hS.2.1 q h1 h2, fun q hq => by
      rcases List.mem_append.mp hq with h | h
      · exact hS.2.2 q h
      · exact hf _ (hL q h)⟩⟩
theorem vx_calli {S SX : Type} {post : Int32 → S → Prop} {px : SX → Prop} {B : S → State → Prop} {BX : String → SX → State → Prop} {AX : Nat → Prop} (hr : vx_Run p l e R s m args below meth c H locs cells slots mc ms (F0 m pc ls st0) rest (va_Qi post B A1 a) (vx_X px BX AX) free) (hS : va_S A0 H0 H locs) (hA : ∀ q, q < H.size → A1 q → A0 q) (hf : ∀ q, free q → A0 q) (hAX : ∀ q, q < H.size → AX q → A0 q)
    (kx : ∀ (E : String) (ce : Cell) (q9 : Addr) (u : SX) (t : State) (H1 : Heap) (locs1 : List Loc), t.heap = H1 → s.vm.Alike t.vm → px u → BX E u t → H.size ≤ H1.size → (∀ q : Nat, q < H.size → ¬ AX q → H1[q]? = H[q]?) → va_S A0 H0 H1 locs1 → H1[q9]? = some ce → ce.vm = .none → s.vm.findClass E = some ce.cls → vx_W p l e R s m args below meth c H1 locs1 (cells + mc) (slots + ms) Q (F0 m pc ls rest) q9)
    (kk : ∀ (r : Int32) (u : S) (t : State) (H1 : Heap) (locs1 : List Loc), t.heap = H1 → s.vm.Alike t.vm → post r u → B u t → H.size ≤ H1.size → (∀ q : Nat, q < H.size → ¬ A1 q → H1[q]? = H[q]?) → va_S A0 H0 H1 locs1 → W p l e R s m args below meth c H1 locs1 (cells + mc) (slots + ms) Q (F0 m (pc + 3) ls (.int r :: rest))) : W p l e R s m args below meth c H locs cells slots Q (F0 m pc ls st0) := by
  intro T hT X
  rcases hr T hT X with ⟨v, st₀, t, T', L, h0, X', hL, e1, e2, ⟨⟨r, u, hv, hp, hb⟩, hF⟩, st⟩ | ⟨q, st₀, t, T', L, E, ce, h0, X', hL, e1, e2, ⟨u, hp, hb, hF⟩, hce, hcv, hcl, st⟩
  · cases hv
    obtain ⟨k1, k2, k3⟩ := vx_keep h0 e1 hS hA hf hL hF
    obtain ⟨t2, a1, b1⟩ := kk r u t T'.heap (locs ++ L) e1.symm (by rw [← e2]; exact X'.warmed.alike) hp hb k1 k2 k3 T' rfl X'
    exact ⟨t2, st t2 a1, b1⟩
  · obtain ⟨k1, k2, k3⟩ := vx_keep h0 e1 hS hAX hf hL hF
    obtain ⟨t2, a1, b1⟩ := kx E ce q u t T'.heap (locs ++ L) e1.symm (by rw [← e2]; exact X'.warmed.alike) hp hb k1 k2 k3 (by rw [e1]; exact hce) hcv hcl T' rfl X'
    exact ⟨t2, st.trans a1, b1⟩
theorem vx_calll {S SX : Type} {post : Int64 → S → Prop} {px : SX → Prop} {B : S → State → Prop} {BX : String → SX → State → Prop} {AX : Nat → Prop} (hr : vx_Run p l e R s m args below meth c H locs cells slots mc ms (F0 m pc ls st0) rest (va_Ql post B A1 a) (vx_X px BX AX) free) (hS : va_S A0 H0 H locs) (hA : ∀ q, q < H.size → A1 q → A0 q) (hf : ∀ q, free q → A0 q) (hAX : ∀ q, q < H.size → AX q → A0 q)
    (kx : ∀ (E : String) (ce : Cell) (q9 : Addr) (u : SX) (t : State) (H1 : Heap) (locs1 : List Loc), t.heap = H1 → s.vm.Alike t.vm → px u → BX E u t → H.size ≤ H1.size → (∀ q : Nat, q < H.size → ¬ AX q → H1[q]? = H[q]?) → va_S A0 H0 H1 locs1 → H1[q9]? = some ce → ce.vm = .none → s.vm.findClass E = some ce.cls → vx_W p l e R s m args below meth c H1 locs1 (cells + mc) (slots + ms) Q (F0 m pc ls rest) q9)
    (kk : ∀ (r : Int64) (u : S) (t : State) (H1 : Heap) (locs1 : List Loc), t.heap = H1 → s.vm.Alike t.vm → post r u → B u t → H.size ≤ H1.size → (∀ q : Nat, q < H.size → ¬ A1 q → H1[q]? = H[q]?) → va_S A0 H0 H1 locs1 → W p l e R s m args below meth c H1 locs1 (cells + mc) (slots + ms) Q (F0 m (pc + 3) ls (.long r :: rest))) : W p l e R s m args below meth c H locs cells slots Q (F0 m pc ls st0) := by
  intro T hT X
  rcases hr T hT X with ⟨v, st₀, t, T', L, h0, X', hL, e1, e2, ⟨⟨r, u, hv, hp, hb⟩, hF⟩, st⟩ | ⟨q, st₀, t, T', L, E, ce, h0, X', hL, e1, e2, ⟨u, hp, hb, hF⟩, hce, hcv, hcl, st⟩
  · cases hv
    obtain ⟨k1, k2, k3⟩ := vx_keep h0 e1 hS hA hf hL hF
    obtain ⟨t2, a1, b1⟩ := kk r u t T'.heap (locs ++ L) e1.symm (by rw [← e2]; exact X'.warmed.alike) hp hb k1 k2 k3 T' rfl X'
    exact ⟨t2, st t2 a1, b1⟩
  · obtain ⟨k1, k2, k3⟩ := vx_keep h0 e1 hS hAX hf hL hF
    obtain ⟨t2, a1, b1⟩ := kx E ce q u t T'.heap (locs ++ L) e1.symm (by rw [← e2]; exact X'.warmed.alike) hp hb k1 k2 k3 (by rw [e1]; exact hce) hcv hcl T' rfl X'
    exact ⟨t2, st.trans a1, b1⟩
theorem vx_callf {S SX : Type} {post : UInt32 → S → Prop} {px : SX → Prop} {B : S → State → Prop} {BX : String → SX → State → Prop} {AX : Nat → Prop} (hr : vx_Run p l e R s m args below meth c H locs cells slots mc ms (F0 m pc ls st0) rest (va_Qf post B A1 a) (vx_X px BX AX) free) (hS : va_S A0 H0 H locs) (hA : ∀ q, q < H.size → A1 q → A0 q) (hf : ∀ q, free q → A0 q) (hAX : ∀ q, q < H.size → AX q → A0 q)
    (kx : ∀ (E : String) (ce : Cell) (q9 : Addr) (u : SX) (t : State) (H1 : Heap) (locs1 : List Loc), t.heap = H1 → s.vm.Alike t.vm → px u → BX E u t → H.size ≤ H1.size → (∀ q : Nat, q < H.size → ¬ AX q → H1[q]? = H[q]?) → va_S A0 H0 H1 locs1 → H1[q9]? = some ce → ce.vm = .none → s.vm.findClass E = some ce.cls → vx_W p l e R s m args below meth c H1 locs1 (cells + mc) (slots + ms) Q (F0 m pc ls rest) q9)
    (kk : ∀ (r : UInt32) (u : S) (t : State) (H1 : Heap) (locs1 : List Loc), t.heap = H1 → s.vm.Alike t.vm → post r u → B u t → H.size ≤ H1.size → (∀ q : Nat, q < H.size → ¬ A1 q → H1[q]? = H[q]?) → va_S A0 H0 H1 locs1 → W p l e R s m args below meth c H1 locs1 (cells + mc) (slots + ms) Q (F0 m (pc + 3) ls (.float r :: rest))) : W p l e R s m args below meth c H locs cells slots Q (F0 m pc ls st0) := by
  intro T hT X
  rcases hr T hT X with ⟨v, st₀, t, T', L, h0, X', hL, e1, e2, ⟨⟨r, u, hv, hp, hb⟩, hF⟩, st⟩ | ⟨q, st₀, t, T', L, E, ce, h0, X', hL, e1, e2, ⟨u, hp, hb, hF⟩, hce, hcv, hcl, st⟩
  · cases hv
    obtain ⟨k1, k2, k3⟩ := vx_keep h0 e1 hS hA hf hL hF
    obtain ⟨t2, a1, b1⟩ := kk r u t T'.heap (locs ++ L) e1.symm (by rw [← e2]; exact X'.warmed.alike) hp hb k1 k2 k3 T' rfl X'
    exact ⟨t2, st t2 a1, b1⟩
  · obtain ⟨k1, k2, k3⟩ := vx_keep h0 e1 hS hAX hf hL hF
    obtain ⟨t2, a1, b1⟩ := kx E ce q u t T'.heap (locs ++ L) e1.symm (by rw [← e2]; exact X'.warmed.alike) hp hb k1 k2 k3 (by rw [e1]; exact hce) hcv hcl T' rfl X'
    exact ⟨t2, st.trans a1, b1⟩
theorem vx_calld {S SX : Type} {post : UInt64 → S → Prop} {px : SX → Prop} {B : S → State → Prop} {BX : String → SX → State → Prop} {AX : Nat → Prop} (hr : vx_Run p l e R s m args below meth c H locs cells slots mc ms (F0 m pc ls st0) rest (va_Qd post B A1 a) (vx_X px BX AX) free) (hS : va_S A0 H0 H locs) (hA : ∀ q, q < H.size → A1 q → A0 q) (hf : ∀ q, free q → A0 q) (hAX : ∀ q, q < H.size → AX q → A0 q)
    (kx : ∀ (E : String) (ce : Cell) (q9 : Addr) (u : SX) (t : State) (H1 : Heap) (locs1 : List Loc), t.heap = H1 → s.vm.Alike t.vm → px u → BX E u t → H.size ≤ H1.size → (∀ q : Nat, q < H.size → ¬ AX q → H1[q]? = H[q]?) → va_S A0 H0 H1 locs1 → H1[q9]? = some ce → ce.vm = .none → s.vm.findClass E = some ce.cls → vx_W p l e R s m args below meth c H1 locs1 (cells + mc) (slots + ms) Q (F0 m pc ls rest) q9)
    (kk : ∀ (r : UInt64) (u : S) (t : State) (H1 : Heap) (locs1 : List Loc), t.heap = H1 → s.vm.Alike t.vm → post r u → B u t → H.size ≤ H1.size → (∀ q : Nat, q < H.size → ¬ A1 q → H1[q]? = H[q]?) → va_S A0 H0 H1 locs1 → W p l e R s m args below meth c H1 locs1 (cells + mc) (slots + ms) Q (F0 m (pc + 3) ls (.double r :: rest))) : W p l e R s m args below meth c H locs cells slots Q (F0 m pc ls st0) := by
  intro T hT X
  rcases hr T hT X with ⟨v, st₀, t, T', L, h0, X', hL, e1, e2, ⟨⟨r, u, hv, hp, hb⟩, hF⟩, st⟩ | ⟨q, st₀, t, T', L, E, ce, h0, X', hL, e1, e2, ⟨u, hp, hb, hF⟩, hce, hcv, hcl, st⟩
  · cases hv
    obtain ⟨k1, k2, k3⟩ := vx_keep h0 e1 hS hA hf hL hF
    obtain ⟨t2, a1, b1⟩ := kk r u t T'.heap (locs ++ L) e1.symm (by rw [← e2]; exact X'.warmed.alike) hp hb k1 k2 k3 T' rfl X'
    exact ⟨t2, st t2 a1, b1⟩
  · obtain ⟨k1, k2, k3⟩ := vx_keep h0 e1 hS hAX hf hL hF
    obtain ⟨t2, a1, b1⟩ := kx E ce q u t T'.heap (locs ++ L) e1.symm (by rw [← e2]; exact X'.warmed.alike) hp hb k1 k2 k3 (by rw [e1]; exact hce) hcv hcl T' rfl X'
    exact ⟨t2, st.trans a1, b1⟩
theorem vx_callv {S SX : Type} {post : S → Prop} {px : SX → Prop} {B : S → State → Prop} {BX : String → SX → State → Prop} {AX : Nat → Prop} (hr : vx_Run p l e R s m args below meth c H locs cells slots mc ms (F0 m pc ls st0) rest (va_Qv post B A1 a) (vx_X px BX AX) free) (hS : va_S A0 H0 H locs) (hA : ∀ q, q < H.size → A1 q → A0 q) (hf : ∀ q, free q → A0 q) (hAX : ∀ q, q < H.size → AX q → A0 q)
    (kx : ∀ (E : String) (ce : Cell) (q9 : Addr) (u : SX) (t : State) (H1 : Heap) (locs1 : List Loc), t.heap = H1 → s.vm.Alike t.vm → px u → BX E u t → H.size ≤ H1.size → (∀ q : Nat, q < H.size → ¬ AX q → H1[q]? = H[q]?) → va_S A0 H0 H1 locs1 → H1[q9]? = some ce → ce.vm = .none → s.vm.findClass E = some ce.cls → vx_W p l e R s m args below meth c H1 locs1 (cells + mc) (slots + ms) Q (F0 m pc ls rest) q9)
    (kk : ∀ (u : S) (t : State) (H1 : Heap) (locs1 : List Loc), t.heap = H1 → s.vm.Alike t.vm → post u → B u t → H.size ≤ H1.size → (∀ q : Nat, q < H.size → ¬ A1 q → H1[q]? = H[q]?) → va_S A0 H0 H1 locs1 → W p l e R s m args below meth c H1 locs1 (cells + mc) (slots + ms) Q (F0 m (pc + 3) ls (rest))) : W p l e R s m args below meth c H locs cells slots Q (F0 m pc ls st0) := by
  intro T hT X
  rcases hr T hT X with ⟨v, st₀, t, T', L, h0, X', hL, e1, e2, ⟨⟨u, hv, hp, hb⟩, hF⟩, st⟩ | ⟨q, st₀, t, T', L, E, ce, h0, X', hL, e1, e2, ⟨u, hp, hb, hF⟩, hce, hcv, hcl, st⟩
  · cases hv
    obtain ⟨k1, k2, k3⟩ := vx_keep h0 e1 hS hA hf hL hF
    obtain ⟨t2, a1, b1⟩ := kk u t T'.heap (locs ++ L) e1.symm (by rw [← e2]; exact X'.warmed.alike) hp hb k1 k2 k3 T' rfl X'
    exact ⟨t2, st t2 a1, b1⟩
  · obtain ⟨k1, k2, k3⟩ := vx_keep h0 e1 hS hAX hf hL hF
    obtain ⟨t2, a1, b1⟩ := kx E ce q u t T'.heap (locs ++ L) e1.symm (by rw [← e2]; exact X'.warmed.alike) hp hb k1 k2 k3 (by rw [e1]; exact hce) hcv hcl T' rfl X'
    exact ⟨t2, st.trans a1, b1⟩
/-- caught by the row x of this method's table; the rows ahead don't take it -/
theorem vx_catch {own name : String} {E : String} {ce : Cell} {q : Addr} (hown : s.vm.findClass own = some m.cls) (pre : List ExceptionTableEntry) (x : ExceptionTableEntry) (suf : List ExceptionTableEntry) (hsplit : c.exceptionTable.toList = pre ++ x :: suf)
    (hpass : ∀ z ∈ pre, covers z pc = false ∨ (z.catchType ≠ 0 ∧ ∃ nm : String, (Cond.classLink own z.catchType nm).before args s = true ∧ va_Nc E nm s)) (hx : covers x pc = true) (h0 : x.catchType ≠ 0)
    (hlink : (Cond.classLink own x.catchType name).before args s = true) (hcast : (Cond.castable E name).before args s = true) (hcell : H[q]? = some ce) (hv : ce.vm = .none) (hcl : s.vm.findClass E = some ce.cls)
    (kk : W p l e R s m args below meth c H locs cells slots Q (F0 m x.handlerPc ls [.ref q])) : vx_W p l e R s m args below meth c H locs cells slots Q (F0 m pc ls rest) q := by
  intro T hT X
  have hpl : e.platform.magicAccessors = ({} : Platform).magicAccessors := by rw [X.admits.platform]
  obtain ⟨c3, c4, hc3, hc4, hasg⟩ := Cond.castable_spec hcast
  cases Option.some.inj (hc3.symm.trans hcl)
  obtain ⟨c5, hc5, hcl5⟩ := Cond.classLink_spec hown hlink e.platform hpl
  cases Option.some.inj (hc4.symm.trans hc5)
  obtain ⟨vm', X', st⟩ := X.thenCaughtThrough q (g := F0 m pc ls rest) rfl (Steps.refl _) (by rw [hT]; exact hcell) (by rw [hv]; rfl) (by obtain ⟨k9, h9, -⟩ := Vm.findClass_spec hcl; exact ⟨k9, h9⟩) pre x suf hsplit
    (fun z hz => by
      rcases hpass z hz with h | ⟨hz0, nm, hl1, hn1⟩
      · exact Or.inl h
      · obtain ⟨c6, hc6, hcl6⟩ := Cond.classLink_spec hown hl1 e.platform hpl
        obtain ⟨a8, b8, h1, h2, h3⟩ := hn1
        cases Option.some.inj (h1.symm.trans hcl)
        cases Option.some.inj (h2.symm.trans hc6)
        exact Or.inr ⟨hz0, _, hcl6, h3⟩) hx (Or.inr ⟨h0, c4, hcl5, hasg⟩)
  obtain ⟨t, a1, b1⟩ := kk (T.setVm vm') hT X'
  exact ⟨t, st.trans a1, b1⟩
end Rows
section Ends
variable {p : Program} {l : Launch} {e : Env} {R : Room} {s : State} {m : MethodId} {args : Array Value} {below : List Frame} {meth : Method} {c : Code} {H : Heap} {locs : List Loc} {cells slots : Nat} {Q : State → Prop}
variable {mc ms : Nat} {free : Addr → Prop} {A0 A1 : Nat → Prop} {H0 : Heap} {a : Array Value} {ls : Array Slot} {st0 rest : List Value}
variable {Qc : Array Value → State → Outcome → State → Prop} {XC : String → State → State → Prop}
/-- what a body that may throw owes at its end -/
def vx_MQ (below : List Frame) (Qc : Array Value → State → Outcome → State → Prop) (XC : String → State → State → Prop) (a : Array Value) (s : State) (mc ms : Nat) (free : Addr → Prop) : State → Prop := fun t =>
  ∃ o, t.status = .running ∧ Ended t below o ∧ vx_Q Qc XC mc ms free a s o t
theorem vx_ret {g : JFrame} {mc ms : Nat} (k : W p l e R s m args below meth c H locs cells slots (MQ below Qc args s mc ms free) g) : W p l e R s m args below meth c H locs cells slots (vx_MQ below Qc XC args s mc ms free) g := by
  intro T hT X
  obtain ⟨t, a1, o, b1, b2, b3, b4⟩ := k T hT X
  exact ⟨t, a1, o, b1, b2, Or.inl ⟨b3, b4⟩⟩
/-- not caught here: it goes on to the caller -/
theorem vx_widen {g : JFrame} {q : Addr} {k n : Nat} (h1 : cells ≤ k) (h2 : slots ≤ n) (kk : vx_W p l e R s m args below meth c H locs k n Q g q) : vx_W p l e R s m args below meth c H locs cells slots Q g q := fun T hT X => kk T hT (stand_widen X h1 h2)
theorem vx_out {pc : Nat} {E : String} {ce : Cell} {q : Addr} {mc ms : Nat} (hout : ∀ x ∈ c.exceptionTable.toList, covers x pc = false) (hlocks : meth.locks = false) (hcell : H[q]? = some ce) (hv : ce.vm = .none) (hcl : s.vm.findClass E = some ce.cls)
    (hx : ∀ t : State, t.heap = H → s.vm.Alike t.vm → XC E s t) (hf : ∀ z ∈ locs, free z.base) (hc : cells ≤ mc) (hs : slots ≤ ms) :
    vx_W p l e R s m args below meth c H locs cells slots (vx_MQ below Qc XC args s mc ms free) (F0 m pc ls rest) q := by
  intro T hT X
  obtain ⟨st1, hrun, hend, hW, hsm⟩ := X.leaveThrown q (g := F0 m pc ls rest) rfl rfl rfl hout hlocks
  have hcell9 : (T.setFrames (.throwing q :: below)).heap[q]? = some ce := by
    show T.heap[q]? = some ce
    rw [hT]; exact hcell
  exact ⟨_, st1, .threw q, hrun, hend, Or.inr ⟨q, rfl, E, ce, locs, hx _ hT hW.alike, hcell9, hv, hcl, hW, hsm.mono hc hs, hf⟩⟩
theorem vx_frame {U : State} {k n : Nat} (h : s.sameButNew ({ U with vm := s.vm } : State) locs k n) : s.heap.size ≤ U.heap.size ∧ ∀ q : Nat, q < s.heap.size → (∀ z ∈ locs, z.base ≠ q) → U.heap[q]? = s.heap[q]? := by
  obtain ⟨-, h2, -, -, -, h6⟩ := h
  refine ⟨h2, fun q hq hz => ?_⟩
  obtain ⟨c9, e1, e2, e3, e4⟩ := h6 q _ (Array.getElem?_eq_getElem hq)
  have hs : c9.slots = (s.heap[q]).slots := Array.ext_getElem? fun i => e4 i fun hm => hz _ hm rfl
  have h9 : c9 = s.heap[q] := by
    rw [hs] at e2
    exact e2
  have e5 : U.heap[q]? = some c9 := e1
  rw [e5, h9, Array.getElem?_eq_getElem hq]
/-- the words of a throw but the four that speak of the heap -/
def vx_no (w : Cond) : Bool := decide (w ≠ .isRef (.static Bundle.tN "UNASSIGNED_STACK" Bundle.steD)) && decide (w ≠ .isRef (.static Bundle.tN "SUPPRESSED_SENTINEL" Bundle.listD)) && decide (w ≠ .laysStatic Bundle.tN "UNASSIGNED_STACK" Bundle.steD) && decide (w ≠ .laysStatic Bundle.tN "SUPPRESSED_SENTINEL" Bundle.listD)
def vx_at0 (own : String) (ic : Nat) (X : String) (names : List String) : List Cond := (Bundle.ownAtoms0 own ic X names).filter vx_no
def vx_atS (own : String) (ic : Nat) (X : String) (names : List String) : List Cond := (Bundle.ownAtoms own ic X names).filter vx_no
/-- a word that the tables alone decide, or a good one -/
def vx_ot (w : Cond) : Bool := w.onTables || goodWord w
theorem vx_ot_at {args a' : Array Value} {s U : State} {w : Cond} (hW : s.WarmedH U.vm) (hvm : s.vm = U.vm) (hg : vx_ot w = true) (h : w.before args s = true) : w.before a' U = true := by
  simp only [vx_ot, Bool.or_eq_true] at hg
  rcases hg with hg | hg
  · exact va_tabs hg hvm h
  · exact word_at hW (good_of_word hg) h
/-- a list's words: the good ones out of the method's own list, the others by premises of their own -/
theorem vx_hat {args : Array Value} {s : State} {L B : List Cond} (h1 : ∀ w ∈ L.filter goodWord, w.before args s = true) (h2 : ∀ w ∈ L.filter (fun w => !goodWord w), w ∈ B) (h3 : ∀ w ∈ B, w.before args s = true) : ∀ w ∈ L, w.before args s = true := by
  intro w hw
  by_cases g : goodWord w = true
  · exact h1 w (List.mem_filter.mpr ⟨hw, g⟩)
  · refine h3 w (h2 w (List.mem_filter.mpr ⟨hw, ?_⟩))
    show (!goodWord w) = true
    cases hgw : goodWord w
    · rfl
    · exact absurd hgw g
theorem vx_c {args : Array Value} {s : State} {w : Cond} {B : List Cond} (h : w.before args s = true) (t : ∀ w ∈ B, w.before args s = true) : ∀ w' ∈ w :: B, w'.before args s = true := fun w' h' => (List.mem_cons.mp h').elim (fun e => by rw [e]; exact h) (t w')
theorem vx_n {args : Array Value} {s : State} : ∀ w ∈ ([] : List Cond), w.before args s = true := fun _ h => nomatch h
theorem vx_own {args : Array Value} {s : State} {L : List Cond} (h1 : ∀ w ∈ L.filter vx_no, w.before args s = true)
    (hU : (Cond.isRef (.static Bundle.tN "UNASSIGNED_STACK" Bundle.steD)).before args s = true) (hN : (Cond.isRef (.static Bundle.tN "SUPPRESSED_SENTINEL" Bundle.listD)).before args s = true)
    (lU : (Cond.laysStatic Bundle.tN "UNASSIGNED_STACK" Bundle.steD).before args s = true) (lN : (Cond.laysStatic Bundle.tN "SUPPRESSED_SENTINEL" Bundle.listD).before args s = true) : ∀ w ∈ L, w.before args s = true := by
  intro w hw
  by_cases e1 : w = .isRef (.static Bundle.tN "UNASSIGNED_STACK" Bundle.steD)
  · rw [e1]; exact hU
  · by_cases e2 : w = .isRef (.static Bundle.tN "SUPPRESSED_SENTINEL" Bundle.listD)
    · rw [e2]; exact hN
    · by_cases e3 : w = .laysStatic Bundle.tN "UNASSIGNED_STACK" Bundle.steD
      · rw [e3]; exact lU
      · by_cases e4 : w = .laysStatic Bundle.tN "SUPPRESSED_SENTINEL" Bundle.listD
        · rw [e4]; exact lN
        · exact h1 w (List.mem_filter.mpr ⟨hw, by unfold vx_no; rw [decide_eq_true e1, decide_eq_true e2, decide_eq_true e3, decide_eq_true e4]; rfl⟩)
/-- where a static field lies, its class's statics cell in H -/
def vx_L (C n d : String) (A : Nat → Prop) (U : State) (H : Heap) : Prop := ∃ (c : ClassId) (k : Class) (i : Nat) (f : Field) (a : Nat) (cell : Cell), U.vm.findClass C = some c ∧ U.fieldFound? C n d = some (c, k, i, f) ∧ f.isStatic = true ∧ k.statics = some a ∧ H[a]? = some cell ∧ cell.vm.isStatics = true ∧ cell.cls = c ∧ f.slot < cell.slots.size ∧ k.staticTypes[f.slot]? = some f.type ∧ ¬ A a
theorem vx_L.moved {C n d : String} {A : Nat → Prop} {u U : State} {H : Heap} (hvm : u.vm.Alike U.vm) (h : vx_L C n d A u H) : vx_L C n d A U H := by
  obtain ⟨c, k, i, f, a, cell, h1, h2, h3, h4, h5, h6, h7, h8, h9, h10⟩ := h
  obtain ⟨k', hi', he⟩ := State.fieldFound?_setVm hvm h2
  exact ⟨c, k', i, f, a, cell, by rw [hvm.findClass]; exact h1, hi', h3, by rw [he]; exact h4, h5, h6, h7, h8, by rw [he]; exact h9, h10⟩
theorem vx_L.kept {C n d : String} {A : Nat → Prop} {U : State} {H H1 : Heap} (h : vx_L C n d A U H) (hq : ∀ a : Nat, a < H.size → ¬ A a → H1[a]? = H[a]?) : vx_L C n d A U H1 := by
  obtain ⟨c, k, i, f, a, cell, h1, h2, h3, h4, h5, h6, h7, h8, h9, h10⟩ := h
  exact ⟨c, k, i, f, a, cell, h1, h2, h3, h4, by rw [hq a (Array.getElem?_eq_some_iff.mp h5).1 h10]; exact h5, h6, h7, h8, h9, h10⟩
theorem vx_L.narrow {C n d : String} {A B : Nat → Prop} {U : State} {H : Heap} (h : vx_L C n d A U H) (hAB : ∀ q, B q → A q) : vx_L C n d B U H := by
  obtain ⟨c, k, i, f, a, cell, h1, h2, h3, h4, h5, h6, h7, h8, h9, h10⟩ := h
  exact ⟨c, k, i, f, a, cell, h1, h2, h3, h4, h5, h6, h7, h8, h9, fun z => h10 (hAB _ z)⟩
theorem vx_L.word {C n d : String} {A : Nat → Prop} {s : State} {args : Array Value} (h : vx_L C n d A s s.heap) : (Cond.laysStatic C n d).before args s = true := by
  obtain ⟨c, k, i, f, a, cell, h1, h2, h3, h4, h5, h6, h7, h8, h9, -⟩ := h
  show (Cond.laysStatic C n d).holds args s none s [] = true
  exact Cond.laysStatic_of h1 h2 h3 h4 h5 h6 h7 h8 h9
/-- .. and what it holds: null or some reference -/
def vx_Zq (C n d : String) (A : Nat → Prop) (U : State) (H : Heap) : Prop := va_Zq C n d A U H ∧ vx_L C n d A U H
theorem vx_Zq.moved {C n d : String} {A : Nat → Prop} {u U : State} {H : Heap} (hvm : u.vm.Alike U.vm) (h : vx_Zq C n d A u H) : vx_Zq C n d A U H := ⟨va_Zq.moved hvm h.1, vx_L.moved hvm h.2⟩
theorem vx_Zq.kept {C n d : String} {A : Nat → Prop} {U : State} {H H1 : Heap} (h : vx_Zq C n d A U H) (hq : ∀ a : Nat, a < H.size → ¬ A a → H1[a]? = H[a]?) : vx_Zq C n d A U H1 := ⟨va_Zq.kept h.1 hq, vx_L.kept h.2 hq⟩
theorem vx_Zq.narrow {C n d : String} {A B : Nat → Prop} {U : State} {H : Heap} (h : vx_Zq C n d A U H) (hAB : ∀ q, B q → A q) : vx_Zq C n d B U H := ⟨va_Zq.narrow h.1 hAB, vx_L.narrow h.2 hAB⟩
theorem vx_Zqof {args : Array Value} {s : State} {C n d : String} {A : Nat → Prop} (hl : (Cond.laysStatic C n d).before args s = true) (hini : (Cond.initialized C).before args s = true) (h : (Cond.isRef (.static C n d)).before args s = true) (hA : ∀ a : Nat, a < s.heap.size → ¬ A a) : vx_Zq C n d A s s.heap := by
  refine ⟨va_Zqof hl hini h hA, ?_⟩
  obtain ⟨c, k, i, f, a, cell, h1, h2, h3, h4, h5, h6, h7, h8, h9⟩ := Cond.laysStatic_spec hl
  exact ⟨c, k, i, f, a, cell, h1, h2, h3, h4, h5, h6, h7, h8, h9, hA a (Array.getElem?_eq_some_iff.mp h5).1⟩
theorem vx_isRef {C n d : String} {v : Value} {A : Nat → Prop} {s : State} {args : Array Value} (h : va_Z C n d v A s s.heap) (hv : v.isRef = true) : (Cond.isRef (.static C n d)).before args s = true := by
  obtain ⟨cf, kf, fi, f, a, cell, h1, h2, h3, h4, h5, h6, h7, -⟩ := h
  have he : (Term.static C n d).eval args s none [] s = some v := by
    simp [Term.eval, State.fieldNamed?, h1, h2, h4, h5, h6, h7]
  simp only [Cond.before, Cond.holds, Cond.value, he]
  cases v <;> simp_all [Value.isRef]
theorem vx_isRefq {C n d : String} {A : Nat → Prop} {s : State} {args : Array Value} (h : va_Zq C n d A s s.heap) : (Cond.isRef (.static C n d)).before args s = true := by
  rcases h with h | ⟨t, h⟩
  · exact vx_isRef h rfl
  · exact vx_isRef h rfl
/-- the same frame, seen from here: as if the method were called anew in this heap -/
theorem vx_rebase {T : State} (X : Stand p l e R s m args below meth c T locs cells slots) {R' : Room} (hf : R'.frames ≤ R.frames) (hl : R'.locals ≤ R.locals) (hc : cells + R'.cells ≤ R.cells) (hs : slots + R'.slots ≤ R.slots) :
    Stand p l e R' ((T.setVm s.vm).setFrames (.invoking m args :: below)) m args below meth c T [] 0 0 := by
  have htop : (T.setVm s.vm).topJava?.isSome := X.here.top
  have hF : ((T.setVm s.vm).setFrames (.invoking m args :: below)).frames = .invoking m args :: below := State.frames_setFrames _ (State.cur_lt_of_top htop)
  obtain ⟨g₀, hg0⟩ := Option.isSome_iff_exists.mp htop
  obtain ⟨r, hr⟩ := State.topJava?_eq_some.mp hg0
  have hl9 : e.platform.stackLimits (T.setVm s.vm).me = e.platform.stackLimits s.me := X.limits
  have hb9 : (T.setVm s.vm).me.stackBytes = s.me.stackBytes := X.bytes
  refine ⟨X.admits, X.cas, X.clock, hF, ?_, X.hears, X.method, X.code, X.here, X.tail, X.warmed, ?_, ?_, ?_⟩
  · have h := X.room
    have hU : ((T.setVm s.vm).setFrames (.invoking m args :: below)).localsInUse = s.localsInUse := by
      rw [State.localsInUse_invoking hF (meth := meth) (c := c) X.method X.code, State.localsInUse_invoking X.frames X.method X.code]
    simp only [State.hasRoom, Bool.and_eq_true, decide_eq_true_eq] at h ⊢
    obtain ⟨⟨⟨⟨h1, h2, h3, h4, h5, h6⟩, h7⟩, h8⟩, h9⟩ := h
    rw [X.frames, List.length_cons] at h2 h3
    have q1 := X.heapSize
    have q2 := X.used
    simp only [hF, hU, List.length_cons, State.stackLimits_setFrames, State.stackBytes_setFrames, hl9, hb9]
    refine ⟨⟨⟨⟨by omega, by omega, by omega, by omega, by omega, h6⟩, ?_⟩, ?_⟩, X.book⟩
    · show T.heap.size + R'.cells ≤ e.platform.maxCells
      omega
    · show T.slotsUsed + R'.slots ≤ e.platform.maxSlots
      omega
  · rw [State.stackLimits_setFrames]; rfl
  · rw [State.stackBytes_setFrames]; rfl
  · refine ⟨?_, Nat.le_refl _, Nat.le_refl _, ?_, ?_, fun a c9 h9 => ⟨c9, h9, rfl, rfl, fun _ _ => rfl⟩⟩
    · obtain ⟨t, ht, -⟩ := State.frames_cons hr
      show T.setVm s.vm = { ((T.setVm s.vm).setFrames (.invoking m args :: below)).setFrames (T.setVm s.vm).frames with heap := T.heap, slotsUsed := T.slotsUsed }
      rw [State.setFrames_setFrames, State.setFrames_self ht]
      rfl
    · show T.slotsUsed = T.slotsUsed + ((T.heap.toList.drop T.heap.size).map (·.slots.size)).sum
      rw [List.drop_eq_nil_of_le (Nat.le_of_eq Array.length_toList)]
      rfl
    · show ((T.heap.toList.drop T.heap.size).map (·.slots.size)).sum ≤ 0
      rw [List.drop_eq_nil_of_le (Nat.le_of_eq Array.length_toList)]
      exact Nat.le_refl _
/-- 'throw new E()': new; dup; invokespecial; athrow -/
theorem vx_throw0 {cc : ByteArray} {pc : Nat} (hexec : p.tables.exec = Jvm.exec) (hb : c.code = cc) (hl : l.stackTraces = false) {own cls : String} {names : List String} {ik ic mc ms : Nat} {A : Nat → Prop}
    (hown : s.vm.findClass own = some m.cls) (hcls : Bundle.fit cls = true) (hnames : ∀ n ∈ names, Bundle.fit n = true)
    (hk : (Cond.classLink own ik cls).before args s = true) (hini : (Cond.initialized cls).before args s = true) (hat : ∀ w ∈ vx_at0 own ic cls names, w.before args s = true)
    (hgood : ∀ w ∈ Cond.classLink own ik cls :: Cond.initialized cls :: vx_at0 own ic cls names, vx_ot w = true)
    (hU : vx_Zq Bundle.tN "UNASSIGNED_STACK" Bundle.steD A s s.heap) (hN : vx_Zq Bundle.tN "SUPPRESSED_SENTINEL" Bundle.listD A s s.heap) (hS : va_S A s.heap H locs) (hsize : ls.size = c.maxLocals)
    (d0 : decode cc pc = .ok (.new ik, 3)) (d3 : decode cc (pc + 3) = .ok (.dup, 1)) (d4 : decode cc (pc + 4) = .ok (.invokespecial ic, 3)) (d7 : decode cc (pc + 7) = .ok (.athrow, 1))
    (hout : ∀ x ∈ c.exceptionTable.toList, covers x (pc + 7) = false)
    (hRframes : names.length + 3 < R.frames) (hRlocals : (rest.map fun v => v.category).sum + (13 * (names.length + 1) + 42) ≤ R.locals) (hRcells : cells + 1 ≤ R.cells) (hRslots : slots + 6 ≤ R.slots) (hlocks : meth.locks = false)
    (hx : ∀ t : State, s.vm.Alike t.vm → H.size ≤ t.heap.size → (∀ q : Nat, q < H.size → t.heap[q]? = H[q]?) → XC cls s t)
    (hf : ∀ z ∈ locs, free z.base) (hc : cells + 1 ≤ mc) (hs : slots + 6 ≤ ms) :
    W p l e R s m args below meth c H locs cells slots (vx_MQ below Qc XC args s mc ms free) (F0 m pc ls rest) := by
  intro T hT X
  have htr : e.platform.stackTraces = false := (show e.platform.stackTraces = l.stackTraces by rw [X.admits.platform]).trans hl
  have Y := vx_rebase X (R' := { frames := R.frames, locals := R.locals, cells := 1, slots := 6 }) (Nat.le_refl _) (Nat.le_refl _) hRcells hRslots
  obtain ⟨s', hA⟩ : ∃ z, z = (T.setVm s.vm).setFrames (.invoking m args :: below) := ⟨_, rfl⟩
  rw [← hA] at Y
  have hvm : s'.vm = s.vm := by rw [hA]; rfl
  have hhp : s'.heap = H := by rw [hA]; exact hT
  have hW0 : s.WarmedH s'.vm := by rw [hvm]; exact State.WarmedH.refl s
  have hat' : ∀ w ∈ vx_at0 own ic cls names, w.before args s' = true := fun w hw => vx_ot_at hW0 hvm.symm (hgood w (List.mem_cons_of_mem _ (List.mem_cons_of_mem _ hw))) (hat w hw)
  have hk' : (Cond.classLink own ik cls).before args s' = true := vx_ot_at hW0 hvm.symm (hgood _ List.mem_cons_self) hk
  have hini' : (Cond.initialized cls).before args s' = true := vx_ot_at hW0 hvm.symm (hgood _ (List.mem_cons_of_mem _ List.mem_cons_self)) hini
  have hU' : vx_Zq Bundle.tN "UNASSIGNED_STACK" Bundle.steD A s' s'.heap := by rw [hhp]; exact vx_Zq.moved hW0.alike (hU.kept hS.2.1)
  have hN' : vx_Zq Bundle.tN "SUPPRESSED_SENTINEL" Bundle.listD A s' s'.heap := by rw [hhp]; exact vx_Zq.moved hW0.alike (hN.kept hS.2.1)
  have h : ∀ w ∈ Bundle.ownAtoms0 own ic cls names, w.before args s' = true := vx_own hat' (vx_isRefq hU'.1) (vx_isRefq hN'.1) hU'.2.word hN'.2.word
  have hown' : s'.vm.findClass own = some m.cls := by rw [hvm]; exact hown
  have hins : (Cond.instantiable cls 6).before args s' = true := h _ (by simp [Bundle.ownAtoms0])
  obtain ⟨vm₁, cX, kX, hfX, hkX, -, -, X₁, st1⟩ := Y.newCold hexec (own := own) (C := cls) (index := ik) (n := 6) hown' hk' hins hini'
    (g := F0 m pc ls rest) rfl (by rw [hb]; exact d0) (Nat.le_refl _) (Nat.le_refl _)
  generalize hT1 : (T.setVm vm₁).pushCell { cls := cX, slots := kX.instanceTypes.map defaultValue, vm := .none } = T1 at X₁ st1
  have hcat : (Value.ref T.heap.size).category = 1 := rfl
  have hcellA : T1.heap[T.heap.size]? = some (freshCell cX kX) := by rw [← hT1]; exact State.heap_pushCell_size _ _
  have d3' : decode c.code (pc + 3) = .ok (.dup, 1) := by rw [hb]; exact d3
  obtain ⟨U, hsteps, hrun, hend, hW, hsame, ce, hce, hO⟩ := X₁.ctorThrow0 hexec htr (own := own) (cls := cls) (names := names) (ic := ic) hown' hcls hnames h (fun x hx => nomatch hx) hfX hkX hcellA (by rw [hhp, hT]; exact Nat.le_refl _)
    (g := { method := m, pc := pc + 4, locals := ls, stack := .ref T.heap.size :: .ref T.heap.size :: rest, locked := none }) rfl hsize rfl rfl (rest := rest) rfl
    (by rw [hb]; exact d4) (by rw [hb]; exact d7) hout hRframes (by simp only [List.map_cons, List.sum_cons, hcat]; omega) hlocks
  obtain ⟨f1, f2⟩ := vx_frame hsame
  rw [hhp] at f1 f2
  have hWs : s.WarmedH U.vm := State.WarmedH.trans hW0 hW
  have hcl : s.vm.findClass cls = some ce.cls := by
    have h9 := hO.cls
    rw [hvm] at h9
    exact h9
  have hall : s.sameButNew ({ U with vm := s.vm } : State) locs mc ms := by
    subst hA
    obtain ⟨e1, e2⟩ := hsame
    rw [State.setFrames_setFrames] at e1
    have h2 : (T.setVm s.vm).sameButNew ({ U with vm := s.vm } : State) [] (0 + 1) (0 + 6) := ⟨e1, e2⟩
    have h3 := X.same.trans h2
    rw [List.append_nil] at h3
    exact h3.mono hc hs
  refine ⟨U, ?_, .threw T.heap.size, hrun, hend, Or.inr ⟨T.heap.size, rfl, cls, ce, locs, hx U hWs.alike f1 (fun q hq => f2 q hq (fun z hz => nomatch hz)), hce, hO.vm, hcl, hWs, hall, hf⟩⟩
  refine st1 _ ?_
  show Steps p.tables e below (T1.setTop { method := m, pc := pc + 3, locals := ls, stack := .ref T.heap.size :: rest, locked := none }) _
  jvm_step X₁.here [X₁.here.top, hexec, d3', Value.category]
  exact hsteps
/-- 'throw new E("text")': new; dup; ldc; invokespecial; athrow -/
theorem vx_throwS {cc : ByteArray} {pc : Nat} (hexec : p.tables.exec = Jvm.exec) (hb : c.code = cc) (hl : l.stackTraces = false) {own cls text : String} {names : List String} {ik is ic mc ms sa : Nat} {A : Nat → Prop}
    (hown : s.vm.findClass own = some m.cls) (hcls : Bundle.fit cls = true) (hnames : ∀ n ∈ names, Bundle.fit n = true)
    (hk : (Cond.classLink own ik cls).before args s = true) (hini : (Cond.initialized cls).before args s = true) (hstr : vk_R own is text sa s) (hat : ∀ w ∈ vx_atS own ic cls names, w.before args s = true)
    (hgood : ∀ w ∈ Cond.classLink own ik cls :: Cond.initialized cls :: vx_atS own ic cls names, vx_ot w = true)
    (hU : vx_Zq Bundle.tN "UNASSIGNED_STACK" Bundle.steD A s s.heap) (hN : vx_Zq Bundle.tN "SUPPRESSED_SENTINEL" Bundle.listD A s s.heap) (hS : va_S A s.heap H locs) (hsize : ls.size = c.maxLocals)
    (d0 : decode cc pc = .ok (.new ik, 3)) (d3 : decode cc (pc + 3) = .ok (.dup, 1)) (d4 : decode cc (pc + 4) = .ok (.ldc is, 2)) (d6 : decode cc (pc + 6) = .ok (.invokespecial ic, 3)) (d9 : decode cc (pc + 9) = .ok (.athrow, 1))
    (hout : ∀ x ∈ c.exceptionTable.toList, covers x (pc + 9) = false)
    (hRframes : names.length + 3 < R.frames) (hRlocals : (rest.map fun v => v.category).sum + (13 * (names.length + 1) + 43) ≤ R.locals) (hRcells : cells + 1 ≤ R.cells) (hRslots : slots + 6 ≤ R.slots) (hlocks : meth.locks = false)
    (hx : ∀ t : State, s.vm.Alike t.vm → H.size ≤ t.heap.size → (∀ q : Nat, q < H.size → t.heap[q]? = H[q]?) → XC cls s t)
    (hf : ∀ z ∈ locs, free z.base) (hc : cells + 1 ≤ mc) (hs : slots + 6 ≤ ms) :
    W p l e R s m args below meth c H locs cells slots (vx_MQ below Qc XC args s mc ms free) (F0 m pc ls rest) := by
  intro T hT X
  have htr : e.platform.stackTraces = false := (show e.platform.stackTraces = l.stackTraces by rw [X.admits.platform]).trans hl
  have Y := vx_rebase X (R' := { frames := R.frames, locals := R.locals, cells := 1, slots := 6 }) (Nat.le_refl _) (Nat.le_refl _) hRcells hRslots
  obtain ⟨s', hA⟩ : ∃ z, z = (T.setVm s.vm).setFrames (.invoking m args :: below) := ⟨_, rfl⟩
  rw [← hA] at Y
  have hvm : s'.vm = s.vm := by rw [hA]; rfl
  have hhp : s'.heap = H := by rw [hA]; exact hT
  have hW0 : s.WarmedH s'.vm := by rw [hvm]; exact State.WarmedH.refl s
  have hat' : ∀ w ∈ vx_atS own ic cls names, w.before args s' = true := fun w hw => vx_ot_at hW0 hvm.symm (hgood w (List.mem_cons_of_mem _ (List.mem_cons_of_mem _ hw))) (hat w hw)
  have hk' : (Cond.classLink own ik cls).before args s' = true := vx_ot_at hW0 hvm.symm (hgood _ List.mem_cons_self) hk
  have hini' : (Cond.initialized cls).before args s' = true := vx_ot_at hW0 hvm.symm (hgood _ (List.mem_cons_of_mem _ List.mem_cons_self)) hini
  have hU' : vx_Zq Bundle.tN "UNASSIGNED_STACK" Bundle.steD A s' s'.heap := by rw [hhp]; exact vx_Zq.moved hW0.alike (hU.kept hS.2.1)
  have hN' : vx_Zq Bundle.tN "SUPPRESSED_SENTINEL" Bundle.listD A s' s'.heap := by rw [hhp]; exact vx_Zq.moved hW0.alike (hN.kept hS.2.1)
  have h : ∀ w ∈ Bundle.ownAtoms own ic cls names, w.before args s' = true := vx_own hat' (vx_isRefq hU'.1) (vx_isRefq hN'.1) hU'.2.word hN'.2.word
  have hown' : s'.vm.findClass own = some m.cls := by rw [hvm]; exact hown
  have hins : (Cond.instantiable cls 6).before args s' = true := h _ (by simp [Bundle.ownAtoms])
  obtain ⟨vm₁, cX, kX, hfX, hkX, -, -, X₁, st1⟩ := Y.newCold hexec (own := own) (C := cls) (index := ik) (n := 6) hown' hk' hins hini'
    (g := F0 m pc ls rest) rfl (by rw [hb]; exact d0) (Nat.le_refl _) (Nat.le_refl _)
  generalize hT1 : (T.setVm vm₁).pushCell { cls := cX, slots := kX.instanceTypes.map defaultValue, vm := .none } = T1 at X₁ st1
  have hcat : (Value.ref T.heap.size).category = 1 := rfl
  have hcellA : T1.heap[T.heap.size]? = some (freshCell cX kX) := by rw [← hT1]; exact State.heap_pushCell_size _ _
  have d3' : decode c.code (pc + 3) = .ok (.dup, 1) := by rw [hb]; exact d3
  have d4' : decode c.code (pc + 4) = .ok (.ldc is, 2) := by rw [hb]; exact d4
  have hstr' : vk_R own is text sa s' := vk_R.warm hW0 hstr
  obtain ⟨U, hsteps, hrun, hend, hW, hsame, ce, hce, hO⟩ := X₁.ctorThrowS hexec htr (own := own) (cls := cls) (names := names) (ic := ic) hown' hcls hnames h (fun x hx => nomatch hx) hfX hkX hcellA (by rw [hhp, hT]; exact Nat.le_refl _) (msg := .ref sa) rfl
    (g := { method := m, pc := pc + 6, locals := ls, stack := .ref sa :: .ref T.heap.size :: .ref T.heap.size :: rest, locked := none }) rfl hsize rfl rfl (rest := rest) rfl
    (by rw [hb]; exact d6) (by rw [hb]; exact d9) hout hRframes (by simp only [List.map_cons, List.sum_cons, hcat]; omega) hlocks
  obtain ⟨f1, f2⟩ := vx_frame hsame
  rw [hhp] at f1 f2
  have hWs : s.WarmedH U.vm := State.WarmedH.trans hW0 hW
  have hcl : s.vm.findClass cls = some ce.cls := by
    have h9 := hO.cls
    rw [hvm] at h9
    exact h9
  have hall : s.sameButNew ({ U with vm := s.vm } : State) locs mc ms := by
    subst hA
    obtain ⟨e1, e2⟩ := hsame
    rw [State.setFrames_setFrames] at e1
    have h2 : (T.setVm s.vm).sameButNew ({ U with vm := s.vm } : State) [] (0 + 1) (0 + 6) := ⟨e1, e2⟩
    have h3 := X.same.trans h2
    rw [List.append_nil] at h3
    exact h3.mono hc hs
  refine ⟨U, ?_, .threw T.heap.size, hrun, hend, Or.inr ⟨T.heap.size, rfl, cls, ce, locs, hx U hWs.alike f1 (fun q hq => f2 q hq (fun z hz => nomatch hz)), hce, hO.vm, hcl, hWs, hall, hf⟩⟩
  refine st1 _ ?_
  show Steps p.tables e below (T1.setTop { method := m, pc := pc + 3, locals := ls, stack := .ref T.heap.size :: rest, locked := none }) _
  jvm_step X₁.here [X₁.here.top, hexec, d3', Value.category]
  exact X₁.ldcString hexec (own := own) (text := text) (index := is) (a := sa) hown' hstr'.1 hstr'.2
    (g := { method := m, pc := pc + 4, locals := ls, stack := .ref T.heap.size :: .ref T.heap.size :: rest, locked := none }) rfl d4' _ hsteps
/-- 'throw new E("text")', the text by a wide index -/
theorem vx_throwSW {cc : ByteArray} {pc : Nat} (hexec : p.tables.exec = Jvm.exec) (hb : c.code = cc) (hl : l.stackTraces = false) {own cls text : String} {names : List String} {ik is ic mc ms sa : Nat} {A : Nat → Prop}
    (hown : s.vm.findClass own = some m.cls) (hcls : Bundle.fit cls = true) (hnames : ∀ n ∈ names, Bundle.fit n = true)
    (hk : (Cond.classLink own ik cls).before args s = true) (hini : (Cond.initialized cls).before args s = true) (hstr : vk_R own is text sa s) (hat : ∀ w ∈ vx_atS own ic cls names, w.before args s = true)
    (hgood : ∀ w ∈ Cond.classLink own ik cls :: Cond.initialized cls :: vx_atS own ic cls names, vx_ot w = true)
    (hU : vx_Zq Bundle.tN "UNASSIGNED_STACK" Bundle.steD A s s.heap) (hN : vx_Zq Bundle.tN "SUPPRESSED_SENTINEL" Bundle.listD A s s.heap) (hS : va_S A s.heap H locs) (hsize : ls.size = c.maxLocals)
    (d0 : decode cc pc = .ok (.new ik, 3)) (d3 : decode cc (pc + 3) = .ok (.dup, 1)) (d4 : decode cc (pc + 4) = .ok (.ldc_w is, 3)) (d7 : decode cc (pc + 7) = .ok (.invokespecial ic, 3)) (d10 : decode cc (pc + 10) = .ok (.athrow, 1))
    (hout : ∀ x ∈ c.exceptionTable.toList, covers x (pc + 10) = false)
    (hRframes : names.length + 3 < R.frames) (hRlocals : (rest.map fun v => v.category).sum + (13 * (names.length + 1) + 43) ≤ R.locals) (hRcells : cells + 1 ≤ R.cells) (hRslots : slots + 6 ≤ R.slots) (hlocks : meth.locks = false)
    (hx : ∀ t : State, s.vm.Alike t.vm → H.size ≤ t.heap.size → (∀ q : Nat, q < H.size → t.heap[q]? = H[q]?) → XC cls s t)
    (hf : ∀ z ∈ locs, free z.base) (hc : cells + 1 ≤ mc) (hs : slots + 6 ≤ ms) :
    W p l e R s m args below meth c H locs cells slots (vx_MQ below Qc XC args s mc ms free) (F0 m pc ls rest) := by
  intro T hT X
  have htr : e.platform.stackTraces = false := (show e.platform.stackTraces = l.stackTraces by rw [X.admits.platform]).trans hl
  have Y := vx_rebase X (R' := { frames := R.frames, locals := R.locals, cells := 1, slots := 6 }) (Nat.le_refl _) (Nat.le_refl _) hRcells hRslots
  obtain ⟨s', hA⟩ : ∃ z, z = (T.setVm s.vm).setFrames (.invoking m args :: below) := ⟨_, rfl⟩
  rw [← hA] at Y
  have hvm : s'.vm = s.vm := by rw [hA]; rfl
  have hhp : s'.heap = H := by rw [hA]; exact hT
  have hW0 : s.WarmedH s'.vm := by rw [hvm]; exact State.WarmedH.refl s
  have hat' : ∀ w ∈ vx_atS own ic cls names, w.before args s' = true := fun w hw => vx_ot_at hW0 hvm.symm (hgood w (List.mem_cons_of_mem _ (List.mem_cons_of_mem _ hw))) (hat w hw)
  have hk' : (Cond.classLink own ik cls).before args s' = true := vx_ot_at hW0 hvm.symm (hgood _ List.mem_cons_self) hk
  have hini' : (Cond.initialized cls).before args s' = true := vx_ot_at hW0 hvm.symm (hgood _ (List.mem_cons_of_mem _ List.mem_cons_self)) hini
  have hU' : vx_Zq Bundle.tN "UNASSIGNED_STACK" Bundle.steD A s' s'.heap := by rw [hhp]; exact vx_Zq.moved hW0.alike (hU.kept hS.2.1)
  have hN' : vx_Zq Bundle.tN "SUPPRESSED_SENTINEL" Bundle.listD A s' s'.heap := by rw [hhp]; exact vx_Zq.moved hW0.alike (hN.kept hS.2.1)
  have h : ∀ w ∈ Bundle.ownAtoms own ic cls names, w.before args s' = true := vx_own hat' (vx_isRefq hU'.1) (vx_isRefq hN'.1) hU'.2.word hN'.2.word
  have hown' : s'.vm.findClass own = some m.cls := by rw [hvm]; exact hown
  have hins : (Cond.instantiable cls 6).before args s' = true := h _ (by simp [Bundle.ownAtoms])
  obtain ⟨vm₁, cX, kX, hfX, hkX, -, -, X₁, st1⟩ := Y.newCold hexec (own := own) (C := cls) (index := ik) (n := 6) hown' hk' hins hini'
    (g := F0 m pc ls rest) rfl (by rw [hb]; exact d0) (Nat.le_refl _) (Nat.le_refl _)
  generalize hT1 : (T.setVm vm₁).pushCell { cls := cX, slots := kX.instanceTypes.map defaultValue, vm := .none } = T1 at X₁ st1
  have hcat : (Value.ref T.heap.size).category = 1 := rfl
  have hcellA : T1.heap[T.heap.size]? = some (freshCell cX kX) := by rw [← hT1]; exact State.heap_pushCell_size _ _
  have d3' : decode c.code (pc + 3) = .ok (.dup, 1) := by rw [hb]; exact d3
  have d4' : decode c.code (pc + 4) = .ok (.ldc_w is, 3) := by rw [hb]; exact d4
  have hstr' : vk_R own is text sa s' := vk_R.warm hW0 hstr
  obtain ⟨U, hsteps, hrun, hend, hW, hsame, ce, hce, hO⟩ := X₁.ctorThrowS hexec htr (own := own) (cls := cls) (names := names) (ic := ic) hown' hcls hnames h (fun x hx => nomatch hx) hfX hkX hcellA (by rw [hhp, hT]; exact Nat.le_refl _) (msg := .ref sa) rfl
    (g := { method := m, pc := pc + 7, locals := ls, stack := .ref sa :: .ref T.heap.size :: .ref T.heap.size :: rest, locked := none }) rfl hsize rfl rfl (rest := rest) rfl
    (by rw [hb]; exact d7) (by rw [hb]; exact d10) hout hRframes (by simp only [List.map_cons, List.sum_cons, hcat]; omega) hlocks
  obtain ⟨f1, f2⟩ := vx_frame hsame
  rw [hhp] at f1 f2
  have hWs : s.WarmedH U.vm := State.WarmedH.trans hW0 hW
  have hcl : s.vm.findClass cls = some ce.cls := by
    have h9 := hO.cls
    rw [hvm] at h9
    exact h9
  have hall : s.sameButNew ({ U with vm := s.vm } : State) locs mc ms := by
    subst hA
    obtain ⟨e1, e2⟩ := hsame
    rw [State.setFrames_setFrames] at e1
    have h2 : (T.setVm s.vm).sameButNew ({ U with vm := s.vm } : State) [] (0 + 1) (0 + 6) := ⟨e1, e2⟩
    have h3 := X.same.trans h2
    rw [List.append_nil] at h3
    exact h3.mono hc hs
  refine ⟨U, ?_, .threw T.heap.size, hrun, hend, Or.inr ⟨T.heap.size, rfl, cls, ce, locs, hx U hWs.alike f1 (fun q hq => f2 q hq (fun z hz => nomatch hz)), hce, hO.vm, hcl, hWs, hall, hf⟩⟩
  refine st1 _ ?_
  show Steps p.tables e below (T1.setTop { method := m, pc := pc + 3, locals := ls, stack := .ref T.heap.size :: rest, locked := none }) _
  jvm_step X₁.here [X₁.here.top, hexec, d3', Value.category]
  exact X₁.ldcStringW hexec (own := own) (text := text) (index := is) (a := sa) hown' hstr'.1 hstr'.2
    (g := { method := m, pc := pc + 4, locals := ls, stack := .ref T.heap.size :: .ref T.heap.size :: rest, locked := none }) rfl d4' _ hsteps
end Ends
section Bodies
variable {l : Launch}
theorem vx_ofW {y : MethodName} {ws ws' : List Cond} {rm : Room} {Pc : Array Value → State → Prop} {Qc : Array Value → State → Outcome → State → Prop} {XC : String → State → State → Prop} {mc ms : Nat} {free : Addr → Prop} {cc : ByteArray} {maxL : Nat} {ret : Option FieldType}
    (hy : plainName y.cls = true) (hw : ws = Cond.code y cc maxL ret :: ws')
    (body : ∀ p e s m args below meth c s₁, BodyLoose p l y (headSpec ws rm) cc maxL ret e s m args below meth c s₁ → c.maxLocals = maxL → (∀ x ∈ c.exceptionTable.toList, False) → Pc args s →
      W p l e (headSpec ws rm).room s m args below meth c s.heap [] 0 0 (vx_MQ below Qc XC args s mc ms free) (entryFrame m args maxL)) : vx_Met l y ws rm Pc Qc XC mc ms free := by
  refine MetFree.of_bodyS (code := cc) (maxLocals := maxL) (ret := ret) hy ?_ ?_
  · intro args s m h hn
    obtain ⟨meth, c, h1, h2, h3, h4, h5, h6, -, -⟩ := Cond.code_spec hn (atoms_spec (ws := ws) h _ (by rw [hw]; exact List.mem_cons_self))
    exact ⟨meth, c, h1, h2, h3, h4, h5, h6⟩
  · intro p e s m args below meth c s₁ B hml hP _
    have hh0 : s₁.heap = s.heap := by rw [B.state]; rfl
    have ht : ∀ x ∈ c.exceptionTable.toList, False := by
      obtain ⟨meth9, c9, h1, h2, -, -, -, -, h7, -⟩ := Cond.code_spec B.named (atoms_spec (ws := ws) B.pre _ (by rw [hw]; exact List.mem_cons_self))
      cases Option.some.inj (h1.symm.trans B.method)
      cases Option.some.inj (h2.symm.trans (Stand.of_body B).code)
      intro x hx
      rw [Array.isEmpty_iff.mp h7] at hx
      cases hx
    obtain ⟨t, a1, o, b1, b2, b3⟩ := body p e s m args below meth c s₁ B hml ht hP s₁ hh0 (Stand.of_body B)
    exact ⟨t, o, a1, b1, b2, b3⟩
/-- the table of a body with handlers -/
theorem vx_table {p : Program} {x y : MethodName} {S : Spec} {cc bytes : ByteArray} {maxL maxL' : Nat} {ret ret' : Option FieldType} {e : Env} {s s₁ : State} {m : MethodId} {args : Array Value} {below : List Frame} {meth : Method} {c : Code} {hh : List (Nat × Nat × Nat × Nat)}
    (B : BodyLoose p l y S cc maxL ret e s m args below meth c s₁) (h : (Cond.codeWith y bytes maxL' ret' hh).before args s = true) : c.exceptionTable.toList = tableOf hh := by
  obtain ⟨m9, meth9, c9, hn9, h1, h2, -, -, h6, -⟩ := Cond.codeWith_spec h
  cases Option.some.inj (hn9.symm.trans B.named)
  cases Option.some.inj (h1.symm.trans B.method)
  cases Option.some.inj (h2.symm.trans (Stand.of_body B).code)
  rw [← h6, table_eq]
end Bodies
end VXA
/-! ===== END ===== -/
/-! ===== BEGIN a static call of a method with an exception table ===== -/
section VXS
variable {p : Program} {l : Launch} {e : Env} {R : Room} {s : State} {m : MethodId} {args : Array Value} {below : List Frame} {meth : Method} {c : Code} {T : State} {H : Heap} {locs : List Loc} {cells slots : Nat}
abbrev vx_CSW (R : Room) (s : State) (args : Array Value) (own : String) (index : Nat) (y : MethodName) (bytes : ByteArray) (maxL : Nat) (ret : Option FieldType) (hh : List (Nat × Nat × Nat × Nat)) (ws : List Cond) (rm : Room) (mc ms n : Nat) : Prop :=
  (rm.cells = mc ∧ rm.slots = ms ∧ rm.frames + 1 ≤ R.frames ∧ 8 + (maxL + 11) + rm.locals ≤ R.locals ∧ (∀ w ∈ ws, ∀ (a' : Array Value) (U : State), s.WarmedH U.vm → w.before a' U = true) ∧ Cond.codeWith y bytes maxL ret hh ∈ ws) ∧
  (Cond.codeWith y bytes maxL ret hh).before args s = true ∧ (Cond.initialized y.cls).before args s = true ∧ (y.cls ≠ "java/lang/invoke/MethodHandle" ∧ y.cls ≠ "java/lang/invoke/VarHandle") ∧
  (∀ sig, parseMethodDescriptor y.desc = some sig → n = sig.parameters.length) ∧ (Cond.methodLink own index y).before args s = true ∧ (Cond.static y).before args s = true
theorem vx_cwSW {own : String} {index maxL mc ms : Nat} {y : MethodName} {bytes : ByteArray} {ret : Option FieldType} {hh : List (Nat × Nat × Nat × Nat)} {Ts ws ws' : List Cond} {rm : Room} (n : Nat) (ht : ∀ w ∈ Ts, w.before args s = true) (hT : GoodIn Ts (va_wsS own index y ws)) (hw : ws = Cond.codeWith y bytes maxL ret hh :: ws') (hrc : rm.cells = mc) (hrs : rm.slots = ms)
    (hd : y.cls ≠ "java/lang/invoke/MethodHandle" ∧ y.cls ≠ "java/lang/invoke/VarHandle" ∧ (parseMethodDescriptor y.desc).map (fun d => d.parameters.length) = some n) (hR : rm.frames + 1 ≤ R.frames ∧ 8 + (maxL + 11) + rm.locals ≤ R.locals) :
    vx_CSW R s args own index y bytes maxL ret hh ws rm mc ms n := by
  have ok : ∀ w ∈ va_wsS own index y ws, w.before args s = true := fun w h => ht w (hT w h).1
  have hG : GoodIn Ts ws := fun w h => hT w (by unfold va_wsS; exact List.mem_append_right _ h)
  have hc : Cond.codeWith y bytes maxL ret hh ∈ ws := by rw [hw]; exact List.mem_cons_self
  refine ⟨⟨hrc, hrs, hR.1, hR.2, pay_in ht hG, hc⟩, ht _ (hG _ hc).1, ok _ (by simp [va_wsS]), ⟨hd.1, hd.2.1⟩, fun sig h => ?_, ok _ (by simp [va_wsS]), ok _ (by simp [va_wsS])⟩
  have h2 := hd.2.2
  rw [h] at h2
  exact (Option.some.inj h2).symm
theorem vx_callSW (X : Stand p l e R s m args below meth c T locs cells slots) (hexec : p.tables.exec = Jvm.exec) {own : String} {index : Nat} {y : MethodName} {bytes : ByteArray} {maxL : Nat} {ret : Option FieldType} {hh : List (Nat × Nat × Nat × Nat)}
    (hown : s.vm.findClass own = some m.cls) (hlink : (Cond.methodLink own index y).before args s = true) (hstat : (Cond.static y).before args s = true) (hinit : (Cond.initialized y.cls).before args s = true)
    (hcode : (Cond.codeWith y bytes maxL ret hh).before args s = true) (hy : y.cls ≠ "java/lang/invoke/MethodHandle" ∧ y.cls ≠ "java/lang/invoke/VarHandle")
    {W9 : Nat} {Pre : Pt → Array Value → Prop} {Post : Pt → Array Value → Option Value → Pt → Prop} (hK : Back l R p e below s args y 3 W9 Pre Post)
    {g : JFrame} (hg : g.method = m) (hsize : g.locals.size = c.maxLocals) {argsL rest : List Value} (hlen : ∀ sig, parseMethodDescriptor y.desc = some sig → argsL.length = sig.parameters.length)
    (hstack : g.stack = argsL.reverse ++ rest) (hW : 2 * g.monitorRoom + (rest.map fun v => v.category).sum ≤ W9) (hdg : decode c.code g.pc = .ok (.invokestatic index, 3))
    (hpre : ∀ vm₁, s.WarmedH vm₁ → Pre ⟨T.setVm vm₁, locs, cells, slots⟩ argsL.toArray) :
    ∃ (v : Option Value) (vm₁ : Vm) (B : Pt), s.WarmedH vm₁ ∧ Stand p l e R s m args below meth c B.U B.locs B.cells B.slots ∧ Post ⟨T.setVm vm₁, locs, cells, slots⟩ argsL.toArray v B ∧
      ∀ target, Steps p.tables e below (B.U.setTop { g with pc := g.pc + 3, stack := v.toList ++ rest }) target → Steps p.tables e below (T.setTop g) target := by
  obtain ⟨mk, methM, cM, hnamed, hmethM, -, -, -, -, -, -, hsigM⟩ := Cond.codeWith_spec hcode
  have hstatic : methM.isStatic = true := Cond.static_spec hnamed hmethM hstat
  obtain ⟨kP, hkP, -⟩ := className_of_methodNamed hnamed
  have hinitP : kP.init = .initialized := Cond.initialized_spec (findClass_of_methodNamed hnamed) hkP hinit
  obtain ⟨vm₁, X₁, hstep₁⟩ := X.invokestatic hexec hown hlink hnamed hmethM hstatic hkP hinitP hy (g := g) hg (argsL := argsL) (rest := rest) (hlen _ hsigM) hstack hdg
  obtain ⟨v, B, X', hpost, hsteps⟩ := hK m meth c ⟨T.setVm vm₁, locs, cells, slots⟩ { g with stack := rest } (.invokestatic index) mk argsL.toArray X₁ hg hsize hdg hW (X₁.named hnamed) (hpre vm₁ X₁.warmed)
  exact ⟨v, vm₁, B, X₁.warmed, X', hpost, fun target h => hstep₁ _ fun acts => by rw [doInvoke_state]; exact hsteps.trans h⟩
theorem vx_runSW {y : MethodName} {bytes cc : ByteArray} {maxL nL mc ms n index : Nat} {ret : Option FieldType} {hh : List (Nat × Nat × Nat × Nat)} {ws : List Cond} {rm : Room} {Pc : Array Value → State → Prop} {Qc : Array Value → State → Outcome → State → Prop} {free : Addr → Prop} {Ts : List Cond} {own : String} {As rest : List Value} {g : JFrame}
    (S : CallFix p m c cc nL s args Ts own) (hM : Met l y ws rm Pc Qc mc ms free) (cw : vx_CSW R s args own index y bytes maxL ret hh ws rm mc ms n) (hp : PreS s H Pc As)
    (hg : g.method = m) (hn : As.length = n) (hsize : g.locals.size = nL) (hstack : g.stack = As.reverse ++ rest) (hW : 2 * g.monitorRoom + (rest.map fun v => v.category).sum ≤ 8) (hdg : decode cc g.pc = .ok (.invokestatic index, 3)) (hf : cells + mc ≤ R.cells ∧ slots + ms ≤ R.slots) :
    va_Run p l e R s m args below meth c H locs cells slots mc ms g rest (Qc As.toArray) (free) := by
  obtain ⟨⟨hrc, hrs, hfr, hlo, hws, hcw⟩, hcode, hini, hy, hlen, hl, hstt⟩ := cw
  have hK : Back l R p e below s args y 3 8 (PreOf R mc ms Pc) (PostOf Qc mc ms free) := va_backW (hh := hh) (bytes := bytes) (maxL := maxL) (ret := ret) hM hp.1 hrc hrs hfr hlo hws hcw (fun a' U hW => word_at hW (Or.inl (by first | rfl | simp [Cond.onTables, Cond.keeps, Cond.steady])) hini)
  obtain ⟨hx, hb, hml, ho, -⟩ := S
  intro T hT X
  obtain ⟨v, vm₁, ⟨U', l2, c2, s2⟩, hW₁, X', ⟨g', mk, t, L, e1, e2, hq, h1, hL, h2, h3⟩, st⟩ := vx_callSW X hx (hh := hh) (bytes := bytes) (maxL := maxL) (ret := ret) ho hl hstt hini hcode hy hK hg (hsize.trans hml.symm) (argsL := As) (rest := rest) (fun sig h => hn.trans (hlen sig h)) hstack hW (by rw [hb]; exact hdg)
    (fun vm₁ hW₁ => ⟨hf.1, hf.2, hp.2 (T.setVm vm₁) hT hW₁⟩)
  dsimp only [Pt.U, Pt.locs, Pt.cells, Pt.slots] at X' e1 e2 h1 h2 h3 st
  subst h1; subst h2; subst h3
  exact ⟨v, (T.setVm vm₁).calling g' mk As.toArray, t, U', L, hT, X', hL, e1, e2, hq, st⟩
/-- not caught here, past rows that name other classes: it goes on to the caller -/
theorem vx_outP {p : Program} {l : Launch} {e : Env} {R : Room} {s : State} {m : MethodId} {args : Array Value} {below : List Frame} {meth : Method} {c : Code} {H : Heap} {locs : List Loc} {cells slots : Nat} {free : Addr → Prop} {ls : Array Slot} {rest : List Value} {Qc : Array Value → State → Outcome → State → Prop} {XC : String → State → State → Prop}
    {pc : Nat} {own E : String} {ce : Cell} {q : Addr} {mc ms : Nat} (hown : s.vm.findClass own = some m.cls) (hlocks : meth.locks = false)
    (hpass : ∀ z ∈ c.exceptionTable.toList, covers z pc = false ∨ (z.catchType ≠ 0 ∧ ∃ nm : String, (Cond.classLink own z.catchType nm).before args s = true ∧ va_Nc E nm s)) (hcell : H[q]? = some ce) (hv : ce.vm = .none) (hcl : s.vm.findClass E = some ce.cls)
    (hx : ∀ t : State, t.heap = H → s.vm.Alike t.vm → XC E s t) (hf : ∀ z ∈ locs, free z.base) (hc : cells ≤ mc) (hs : slots ≤ ms) :
    vx_W p l e R s m args below meth c H locs cells slots (vx_MQ below Qc XC args s mc ms free) (F0 m pc ls rest) q := by
  intro T hT X
  have hpl : e.platform.magicAccessors = ({} : Platform).magicAccessors := by rw [X.admits.platform]
  obtain ⟨vm', hW', X', st⟩ := X.outThrough hlocks q (g := F0 m pc ls rest) rfl rfl rfl (cell := ce) (by rw [hT]; exact hcell) (by rw [hv]; rfl)
    (by obtain ⟨k9, h9, -⟩ := Vm.findClass_spec hcl; exact ⟨k9, h9⟩) (fun z hz => by
      rcases hpass z hz with h | ⟨hz0, nm, hl1, hn1⟩
      · exact Or.inl h
      · obtain ⟨c6, hc6, hcl6⟩ := Cond.classLink_spec hown hl1 e.platform hpl
        obtain ⟨a8, b8, h1, h2, h3⟩ := hn1
        cases Option.some.inj (h1.symm.trans hcl)
        cases Option.some.inj (h2.symm.trans hc6)
        exact Or.inr ⟨hz0, _, hcl6, h3⟩)
  obtain ⟨g₀, hfr⟩ := X'.frames_eq
  have hcell9 : ((T.setVm vm').setFrames (.throwing q :: below)).heap[q]? = some ce := by
    show T.heap[q]? = some ce
    rw [hT]; exact hcell
  have hend : Ended ((T.setVm vm').setFrames (.throwing q :: below)) below (.threw q) := State.frames_setFrames _ (State.cur_lt_of_frames hfr)
  refine ⟨(T.setVm vm').setFrames (.throwing q :: below), ?_, .threw q, X'.here.running, hend, Or.inr ⟨q, rfl, E, ce, locs, hx _ hT (X'.ends _).1.alike, hcell9, hv, hcl, (X'.ends _).1, (X'.ends _).2.mono hc hs, hf⟩⟩
  rw [X.pushThrowing_eq]
  exact st
/-- a thing of a world lies in the heap -/
theorem vx_lt {D : va_G} {cl : List vw_C} {ws : va_W} {H1 : Heap} (h : va_P D cl ws H1) {k : Nat} {q : Nat × va_E} (hk : ws[k]? = some q) : q.1 < H1.size := (h k q hk).lt
end VXS
/-! ===== END ===== -/
/-! ===== BEGIN methods with a table of their own: called by a name, returning or throwing ===== -/
section VXH
/-! vx_backW, vx_callVX, vx_callSX, vx_callVW, vx_runVW, vx_runVX, vx_runSX, vx_ofWH follow the same proofs as their sisters above (Free/Laws.lean, Shelf42/LK1.lean); vx_outP calls Shelf42/NT130.lean (outThrough). -/
section
variable {l : Launch} {R : Room} {p : Program} {e : Env} {below : List Frame} {s : State} {sargs : Array Value} {y : MethodName} {len W9 : Nat}
theorem vx_backW {ws : List Cond} {rm : Room} {Pc : Array Value → State → Prop} {Qc : Array Value → State → Outcome → State → Prop} {XC : String → State → State → Prop} {mc ms : Nat} {free : Addr → Prop} {bytes : ByteArray} {maxL : Nat} {ret : Option FieldType} {hh : List (Nat × Nat × Nat × Nat)}
    (hM : vx_Met l y ws rm Pc Qc XC mc ms free) (hblind : FrameBlind Pc) (hrc : rm.cells = mc) (hrs : rm.slots = ms)
    (hframes : rm.frames + 1 ≤ R.frames) (hlocals : W9 + (maxL + 11) + rm.locals ≤ R.locals)
    (hws : ∀ w ∈ ws, ∀ a' U, s.WarmedH U.vm → w.before a' U = true) (hcode : Cond.codeWith y bytes maxL ret hh ∈ ws) (hinit : ∀ a' U, s.WarmedH U.vm → (Cond.initialized y.cls).before a' U = true) :
    vx_Back l R p e below s sargs y len W9 (PreOf R mc ms Pc) (PostOf Qc mc ms free) (vx_Post XC mc ms free) := by
  intro m meth c A g ig mk a X hg hsize hdg hW hn hp
  have h1 : (headSpec ws rm).pre.before a A.U = true := atoms_intro fun w hw => hws w hw _ _ X.warmed
  have h2 : (Cond.codeWith y bytes maxL ret hh).before a A.U = true := hws _ hcode _ _ X.warmed
  have h3 : (Cond.initialized y.cls).before a A.U = true := hinit _ _ X.warmed
  have h4 : A.cells + (headSpec ws rm).room.cells ≤ R.cells := by rw [show (headSpec ws rm).room.cells = mc from hrc]; exact hp.1
  have h5 : A.slots + (headSpec ws rm).room.slots ≤ R.slots := by rw [show (headSpec ws rm).room.slots = ms from hrs]; exact hp.2.1
  have hPc : Pc a (A.U.calling g mk a) := hblind _ _ _ _ hp.2.2
  obtain ⟨U, Ls, c0, s0⟩ := A
  dsimp only [Pt.U, Pt.locs, Pt.cells, Pt.slots] at h1 h2 h3 h4 h5 X hn hPc ⊢
  obtain ⟨m9, methY, cY, hn9, hmY, hcY, -, hlY, -⟩ := Cond.codeWith_spec h2
  cases Option.some.inj (hn9.symm.trans hn)
  obtain ⟨kY, hkY, -⟩ := className_of_methodNamed hn
  have hinitY : kY.init = .initialized := Cond.initialized_spec (findClass_of_methodNamed hn) hkY h3
  have h : At U g.method c below := by rw [hg]; exact X.here
  have hlocals9 : W9 + (maxL + 11) + (headSpec ws rm).room.locals ≤ R.locals := hlocals
  have happ : (headSpec ws rm).appliesLoose y e.platform (U.calling g mk a) = true :=
    Spec.appliesLoose_calling (g := g) h hdg hn hkY hinitY
      (X.room_calling (g := g) (R' := (headSpec ws rm).room) hsize hmY hcY hframes (by rw [hlY]; omega) h4 h5) h1
  obtain ⟨mid, hmid⟩ := h.above
  have hfr : (U.setTop g).frames = (.java g :: mid) ++ below := by rw [State.frames_setTop' g h.top, hmid]; rfl
  obtain ⟨o, s₂, hsteps, -, hend, hq⟩ := Steps.callFree hM p X.admits X.cas X.clock (acts := []) hfr happ hPc trivial
  have hq' : vx_Q Qc XC mc ms free a (U.calling g mk a) o s₂ := hq
  rw [State.frames_setTop' g h.top] at hend
  obtain ⟨g₀, hg0⟩ := Option.isSome_iff_exists.mp h.top
  obtain ⟨r, hr⟩ := State.topJava?_eq_some.mp hg0
  have hr' : (({ U with heap := s₂.heap, slotsUsed := s₂.slotsUsed } : State).setVm s₂.vm).frames = .java g₀ :: r := hr
  rcases hq' with ⟨hqc, L, hfe, hL⟩ | ⟨q, rfl, E, ce, L, hx, hce, hcv, hcl, hW₂, hsm, hL⟩
  · obtain ⟨⟨v, rfl⟩, hW₂, e2, q2, q3, q4, q5, q6⟩ := id hfe
    have e3 : s₂ = ({ (U.calling g mk a).setFrames s₂.frames with heap := s₂.heap, slotsUsed := s₂.slotsUsed } : State).setVm s₂.vm := by
      have : s₂ = ({ s₂ with vm := (U.calling g mk a).vm } : State).setVm s₂.vm := rfl
      rw [e2] at this
      exact this
    obtain ⟨c₂, i₂, len₂, hc₂, hd₂, hf₂⟩ := hend
    have hW' : U.WarmedH s₂.vm := hW₂
    have hcc : c₂ = c := by
      have h1 : s₂.code? g.method = U.code? g.method := by
        rw [State.code?_eq, State.code?_eq, hW'.alike.method?]
      exact Option.some.inj (hc₂.symm.trans (h1.trans h.code))
    subst hcc
    have hlen : len₂ = len := by rw [hdg] at hd₂; cases hd₂; rfl
    subst hlen
    have hs₂ : s₂ = (({ U with heap := s₂.heap, slotsUsed := s₂.slotsUsed } : State).setVm s₂.vm).setTop { g with pc := g.pc + len₂, stack := v.toList ++ g.stack } := by
      refine e3.trans ?_
      rw [hf₂, State.calling_eq h.top, State.setFrames_setFrames, State.setTop_of_frames _ hr', hr]
      rfl
    have hsame : U.sameButNew ({ U with heap := s₂.heap, slotsUsed := s₂.slotsUsed } : State) L mc ms := by
      refine ⟨?_, q2, q3, q4, q5, q6⟩
      obtain ⟨t, ht, -⟩ := State.frames_cons hr
      show ({ U with heap := s₂.heap, slotsUsed := s₂.slotsUsed } : State) = { U.setFrames U.frames with heap := s₂.heap, slotsUsed := s₂.slotsUsed }
      rw [State.setFrames_self ht]
    subst hg
    refine Or.inl ⟨v, ⟨(({ U with heap := s₂.heap, slotsUsed := s₂.slotsUsed } : State).setVm s₂.vm), Ls ++ L, c0 + mc, s0 + ms⟩,
      ⟨X.admits, X.cas, X.clock, X.frames, X.room, X.hears, X.method, X.code, (X.here.setHeapUsed s₂.heap s₂.slotsUsed).setVm hW'.alike, X.tail, State.WarmedH.trans X.warmed hW', X.limits, X.bytes, X.same.trans (hsame.setVm s.vm)⟩,
      ⟨g, mk, s₂, L, rfl, rfl, hqc, rfl, hL, rfl, rfl⟩, ?_⟩
    show Steps p.tables e below _ ((({ U with heap := s₂.heap, slotsUsed := s₂.slotsUsed } : State).setVm s₂.vm).setTop { g with pc := g.pc + len₂, stack := v.toList ++ g.stack })
    rw [← hs₂]
    exact hsteps
  · obtain ⟨e2, q2, q3, q4, q5, q6⟩ := id hsm
    have e3 : s₂ = ({ (U.calling g mk a).setFrames s₂.frames with heap := s₂.heap, slotsUsed := s₂.slotsUsed } : State).setVm s₂.vm := by
      have : s₂ = ({ s₂ with vm := (U.calling g mk a).vm } : State).setVm s₂.vm := rfl
      rw [e2] at this
      exact this
    have hf₂ : s₂.frames = .throwing q :: .java g :: U.frames.tail := hend
    have hW' : U.WarmedH s₂.vm := hW₂
    have hs₂ : s₂ = ((({ U with heap := s₂.heap, slotsUsed := s₂.slotsUsed } : State).setVm s₂.vm).setTop g).pushFrame (.throwing q) := by
      refine e3.trans ?_
      rw [hf₂, State.calling_eq h.top, State.setFrames_setFrames, State.pushFrame, State.frames_setTop _ hr', State.setTop_of_frames _ hr', State.setFrames_setFrames, hr]
      rfl
    have hsame : U.sameButNew ({ U with heap := s₂.heap, slotsUsed := s₂.slotsUsed } : State) L mc ms := by
      refine ⟨?_, q2, q3, q4, q5, q6⟩
      obtain ⟨t, ht, -⟩ := State.frames_cons hr
      show ({ U with heap := s₂.heap, slotsUsed := s₂.slotsUsed } : State) = { U.setFrames U.frames with heap := s₂.heap, slotsUsed := s₂.slotsUsed }
      rw [State.setFrames_self ht]
    subst hg
    refine Or.inr ⟨q, ⟨(({ U with heap := s₂.heap, slotsUsed := s₂.slotsUsed } : State).setVm s₂.vm), Ls ++ L, c0 + mc, s0 + ms⟩,
      ⟨X.admits, X.cas, X.clock, X.frames, X.room, X.hears, X.method, X.code, (X.here.setHeapUsed s₂.heap s₂.slotsUsed).setVm hW'.alike, X.tail, State.WarmedH.trans X.warmed hW', X.limits, X.bytes, X.same.trans (hsame.setVm s.vm)⟩,
      ⟨g, mk, s₂, L, E, ce, rfl, rfl, hx, hce, hcv, hcl, rfl, hL, rfl, rfl⟩, ?_⟩
    show Steps p.tables e below _ (((({ U with heap := s₂.heap, slotsUsed := s₂.slotsUsed } : State).setVm s₂.vm).setTop g).pushFrame (.throwing q))
    rw [← hs₂]
    exact hsteps
end
variable {p : Program} {l : Launch} {e : Env} {R : Room} {s : State} {m : MethodId} {args : Array Value} {below : List Frame} {meth : Method} {c : Code} {T : State} {H : Heap} {locs : List Loc} {cells slots : Nat}
theorem vx_callVX (X : Stand p l e R s m args below meth c T locs cells slots) (hexec : p.tables.exec = Jvm.exec) {own C : String} {index : Nat} {y : MethodName} {bytes : ByteArray} {maxL : Nat} {ret : Option FieldType} {hh : List (Nat × Nat × Nat × Nat)}
    (hown : s.vm.findClass own = some m.cls) (hlink : (Cond.methodLink own index y).before args s = true) (hinst : (Cond.instanceMethod y).before args s = true) (hsel : (Cond.selects C y y).before args s = true)
    (hcode : (Cond.codeWith y bytes maxL ret hh).before args s = true) (hy : y.cls ≠ "java/lang/invoke/MethodHandle" ∧ y.cls ≠ "java/lang/invoke/VarHandle")
    {W9 : Nat} {Pre : Pt → Array Value → Prop} {Post : Pt → Array Value → Option Value → Pt → Prop} {PostX : Pt → Array Value → Addr → Pt → Prop} (hK : vx_Back l R p e below s args y 3 W9 Pre Post PostX)
    {b : Addr} {cellB : Cell} (hcell : T.heap[b]? = some cellB) (hobj : cellB.vm.isStatics = false) (hcls : s.vm.findClass C = some cellB.cls)
    {g : JFrame} (hg : g.method = m) (hsize : g.locals.size = c.maxLocals) {argsL rest : List Value} (hlen : ∀ sig, parseMethodDescriptor y.desc = some sig → argsL.length = sig.parameters.length)
    (hstack : g.stack = argsL.reverse ++ .ref b :: rest) (hW : 2 * g.monitorRoom + (rest.map fun v => v.category).sum ≤ W9) (hdg : decode c.code g.pc = .ok (.invokevirtual index, 3))
    (hpre : ∀ vm₁, s.WarmedH vm₁ → Pre ⟨T.setVm vm₁, locs, cells, slots⟩ (Value.ref b :: argsL).toArray) :
    (∃ (v : Option Value) (vm₁ : Vm) (B : Pt), s.WarmedH vm₁ ∧ Stand p l e R s m args below meth c B.U B.locs B.cells B.slots ∧ Post ⟨T.setVm vm₁, locs, cells, slots⟩ (Value.ref b :: argsL).toArray v B ∧
      ∀ target, Steps p.tables e below (B.U.setTop { g with pc := g.pc + 3, stack := v.toList ++ rest }) target → Steps p.tables e below (T.setTop g) target) ∨
    (∃ (q : Addr) (vm₁ : Vm) (B : Pt), s.WarmedH vm₁ ∧ Stand p l e R s m args below meth c B.U B.locs B.cells B.slots ∧ PostX ⟨T.setVm vm₁, locs, cells, slots⟩ (Value.ref b :: argsL).toArray q B ∧
      Steps p.tables e below (T.setTop g) ((B.U.setTop { g with stack := rest }).pushFrame (.throwing q))) := by
  obtain ⟨mk, methM, hnamed, hmethM, hstM, habM⟩ := Cond.instanceMethod_spec hinst
  obtain ⟨m8, methM', cM, hn8, hmethM', -, -, -, -, -, -, hsigM⟩ := Cond.codeWith_spec hcode
  cases Option.some.inj (hn8.symm.trans hnamed)
  cases hmethM.symm.trans hmethM'
  obtain ⟨c2, r2, m2, q1, q2, q3, q4, kP, hkP, hkPi⟩ := Cond.selects_spec hsel
  cases hcls.symm.trans q1
  cases (State.methodFound?_of_named hnamed hy).symm.trans q2
  cases hnamed.symm.trans q3
  have hselP : selectMethod e.platform s.vm cellB.cls mk = .method mk := by rw [Launch.admits_selectMethod X.admits]; exact q4
  obtain ⟨vm₁, X₁, hstep₁⟩ := X.invokevirtual hexec hown hlink hnamed hmethM hstM hkP hkPi hy (a := b) (cell := cellB) hcell
    (fun z h => by rw [h] at hobj; cases hobj) hselP hmethM habM hkP hkPi (g := g) hg (argsL := argsL) (rest := rest) (hlen _ hsigM) hstack hdg
  rcases hK m meth c ⟨T.setVm vm₁, locs, cells, slots⟩ { g with stack := rest } (.invokevirtual index) mk (Value.ref b :: argsL).toArray X₁ hg hsize hdg hW (X₁.named hnamed) (hpre vm₁ X₁.warmed) with ⟨v, B, X', hpost, hsteps⟩ | ⟨q, B, X', hpost, hsteps⟩
  · exact Or.inl ⟨v, vm₁, B, X₁.warmed, X', hpost, fun target h => hstep₁ _ fun acts => by rw [doInvoke_state]; exact hsteps.trans h⟩
  · exact Or.inr ⟨q, vm₁, B, X₁.warmed, X', hpost, hstep₁ _ fun acts => by rw [doInvoke_state]; exact hsteps⟩
theorem vx_callSX (X : Stand p l e R s m args below meth c T locs cells slots) (hexec : p.tables.exec = Jvm.exec) {own : String} {index : Nat} {y : MethodName} {bytes : ByteArray} {maxL : Nat} {ret : Option FieldType} {hh : List (Nat × Nat × Nat × Nat)}
    (hown : s.vm.findClass own = some m.cls) (hlink : (Cond.methodLink own index y).before args s = true) (hstat : (Cond.static y).before args s = true) (hinit : (Cond.initialized y.cls).before args s = true)
    (hcode : (Cond.codeWith y bytes maxL ret hh).before args s = true) (hy : y.cls ≠ "java/lang/invoke/MethodHandle" ∧ y.cls ≠ "java/lang/invoke/VarHandle")
    {W9 : Nat} {Pre : Pt → Array Value → Prop} {Post : Pt → Array Value → Option Value → Pt → Prop} {PostX : Pt → Array Value → Addr → Pt → Prop} (hK : vx_Back l R p e below s args y 3 W9 Pre Post PostX)
    {g : JFrame} (hg : g.method = m) (hsize : g.locals.size = c.maxLocals) {argsL rest : List Value} (hlen : ∀ sig, parseMethodDescriptor y.desc = some sig → argsL.length = sig.parameters.length)
    (hstack : g.stack = argsL.reverse ++ rest) (hW : 2 * g.monitorRoom + (rest.map fun v => v.category).sum ≤ W9) (hdg : decode c.code g.pc = .ok (.invokestatic index, 3))
    (hpre : ∀ vm₁, s.WarmedH vm₁ → Pre ⟨T.setVm vm₁, locs, cells, slots⟩ argsL.toArray) :
    (∃ (v : Option Value) (vm₁ : Vm) (B : Pt), s.WarmedH vm₁ ∧ Stand p l e R s m args below meth c B.U B.locs B.cells B.slots ∧ Post ⟨T.setVm vm₁, locs, cells, slots⟩ argsL.toArray v B ∧
      ∀ target, Steps p.tables e below (B.U.setTop { g with pc := g.pc + 3, stack := v.toList ++ rest }) target → Steps p.tables e below (T.setTop g) target) ∨
    (∃ (q : Addr) (vm₁ : Vm) (B : Pt), s.WarmedH vm₁ ∧ Stand p l e R s m args below meth c B.U B.locs B.cells B.slots ∧ PostX ⟨T.setVm vm₁, locs, cells, slots⟩ argsL.toArray q B ∧
      Steps p.tables e below (T.setTop g) ((B.U.setTop { g with stack := rest }).pushFrame (.throwing q))) := by
  obtain ⟨mk, methM, cM, hnamed, hmethM, -, -, -, -, -, -, hsigM⟩ := Cond.codeWith_spec hcode
  have hstatic : methM.isStatic = true := Cond.static_spec hnamed hmethM hstat
  obtain ⟨kP, hkP, -⟩ := className_of_methodNamed hnamed
  have hinitP : kP.init = .initialized := Cond.initialized_spec (findClass_of_methodNamed hnamed) hkP hinit
  obtain ⟨vm₁, X₁, hstep₁⟩ := X.invokestatic hexec hown hlink hnamed hmethM hstatic hkP hinitP hy (g := g) hg (argsL := argsL) (rest := rest) (hlen _ hsigM) hstack hdg
  rcases hK m meth c ⟨T.setVm vm₁, locs, cells, slots⟩ { g with stack := rest } (.invokestatic index) mk argsL.toArray X₁ hg hsize hdg hW (X₁.named hnamed) (hpre vm₁ X₁.warmed) with ⟨v, B, X', hpost, hsteps⟩ | ⟨q, B, X', hpost, hsteps⟩
  · exact Or.inl ⟨v, vm₁, B, X₁.warmed, X', hpost, fun target h => hstep₁ _ fun acts => by rw [doInvoke_state]; exact hsteps.trans h⟩
  · exact Or.inr ⟨q, vm₁, B, X₁.warmed, X', hpost, hstep₁ _ fun acts => by rw [doInvoke_state]; exact hsteps⟩
theorem vx_callVW (X : Stand p l e R s m args below meth c T locs cells slots) (hexec : p.tables.exec = Jvm.exec) {own C : String} {index : Nat} {y : MethodName} {bytes : ByteArray} {maxL : Nat} {ret : Option FieldType} {hh : List (Nat × Nat × Nat × Nat)}
    (hown : s.vm.findClass own = some m.cls) (hlink : (Cond.methodLink own index y).before args s = true) (hinst : (Cond.instanceMethod y).before args s = true) (hsel : (Cond.selects C y y).before args s = true)
    (hcode : (Cond.codeWith y bytes maxL ret hh).before args s = true) (hy : y.cls ≠ "java/lang/invoke/MethodHandle" ∧ y.cls ≠ "java/lang/invoke/VarHandle")
    {W9 : Nat} {Pre : Pt → Array Value → Prop} {Post : Pt → Array Value → Option Value → Pt → Prop} (hK : Back l R p e below s args y 3 W9 Pre Post)
    {b : Addr} {cellB : Cell} (hcell : T.heap[b]? = some cellB) (hobj : cellB.vm.isStatics = false) (hcls : s.vm.findClass C = some cellB.cls)
    {g : JFrame} (hg : g.method = m) (hsize : g.locals.size = c.maxLocals) {argsL rest : List Value} (hlen : ∀ sig, parseMethodDescriptor y.desc = some sig → argsL.length = sig.parameters.length)
    (hstack : g.stack = argsL.reverse ++ .ref b :: rest) (hW : 2 * g.monitorRoom + (rest.map fun v => v.category).sum ≤ W9) (hdg : decode c.code g.pc = .ok (.invokevirtual index, 3))
    (hpre : ∀ vm₁, s.WarmedH vm₁ → Pre ⟨T.setVm vm₁, locs, cells, slots⟩ (Value.ref b :: argsL).toArray) :
    ∃ (v : Option Value) (vm₁ : Vm) (B : Pt), s.WarmedH vm₁ ∧ Stand p l e R s m args below meth c B.U B.locs B.cells B.slots ∧ Post ⟨T.setVm vm₁, locs, cells, slots⟩ (Value.ref b :: argsL).toArray v B ∧
      ∀ target, Steps p.tables e below (B.U.setTop { g with pc := g.pc + 3, stack := v.toList ++ rest }) target → Steps p.tables e below (T.setTop g) target := by
  obtain ⟨mk, methM, hnamed, hmethM, hstM, habM⟩ := Cond.instanceMethod_spec hinst
  obtain ⟨m8, methM', cM, hn8, hmethM', -, -, -, -, -, -, hsigM⟩ := Cond.codeWith_spec hcode
  cases Option.some.inj (hn8.symm.trans hnamed)
  cases hmethM.symm.trans hmethM'
  obtain ⟨c2, r2, m2, q1, q2, q3, q4, kP, hkP, hkPi⟩ := Cond.selects_spec hsel
  cases hcls.symm.trans q1
  cases (State.methodFound?_of_named hnamed hy).symm.trans q2
  cases hnamed.symm.trans q3
  have hselP : selectMethod e.platform s.vm cellB.cls mk = .method mk := by rw [Launch.admits_selectMethod X.admits]; exact q4
  obtain ⟨vm₁, X₁, hstep₁⟩ := X.invokevirtual hexec hown hlink hnamed hmethM hstM hkP hkPi hy (a := b) (cell := cellB) hcell
    (fun z h => by rw [h] at hobj; cases hobj) hselP hmethM habM hkP hkPi (g := g) hg (argsL := argsL) (rest := rest) (hlen _ hsigM) hstack hdg
  obtain ⟨v, B, X', hpost, hsteps⟩ := hK m meth c ⟨T.setVm vm₁, locs, cells, slots⟩ { g with stack := rest } (.invokevirtual index) mk (Value.ref b :: argsL).toArray X₁ hg hsize hdg hW (X₁.named hnamed) (hpre vm₁ X₁.warmed)
  exact ⟨v, vm₁, B, X₁.warmed, X', hpost, fun target h => hstep₁ _ fun acts => by rw [doInvoke_state]; exact hsteps.trans h⟩
abbrev vx_CVW (R : Room) (s : State) (args : Array Value) (own C : String) (index : Nat) (y : MethodName) (bytes : ByteArray) (maxL : Nat) (ret : Option FieldType) (hh : List (Nat × Nat × Nat × Nat)) (ws : List Cond) (rm : Room) (mc ms n : Nat) : Prop :=
  (rm.cells = mc ∧ rm.slots = ms ∧ rm.frames + 1 ≤ R.frames ∧ 8 + (maxL + 11) + rm.locals ≤ R.locals ∧ (∀ w ∈ ws, ∀ (a' : Array Value) (U : State), s.WarmedH U.vm → w.before a' U = true) ∧ Cond.codeWith y bytes maxL ret hh ∈ ws) ∧
  (Cond.codeWith y bytes maxL ret hh).before args s = true ∧ (Cond.initialized y.cls).before args s = true ∧ (y.cls ≠ "java/lang/invoke/MethodHandle" ∧ y.cls ≠ "java/lang/invoke/VarHandle") ∧
  (∀ sig, parseMethodDescriptor y.desc = some sig → n = sig.parameters.length) ∧ (Cond.methodLink own index y).before args s = true ∧ (Cond.instanceMethod y).before args s = true ∧ (Cond.selects C y y).before args s = true
theorem vx_cwVW {own C : String} {index maxL mc ms : Nat} {y : MethodName} {bytes : ByteArray} {ret : Option FieldType} {hh : List (Nat × Nat × Nat × Nat)} {Ts ws ws' : List Cond} {rm : Room} (n : Nat) (ht : ∀ w ∈ Ts, w.before args s = true) (hT : GoodIn Ts (wsV own index C y ws)) (hw : ws = Cond.codeWith y bytes maxL ret hh :: ws') (hrc : rm.cells = mc) (hrs : rm.slots = ms)
    (hd : y.cls = C ∧ y.cls ≠ "java/lang/invoke/MethodHandle" ∧ y.cls ≠ "java/lang/invoke/VarHandle" ∧ (parseMethodDescriptor y.desc).map (fun d => d.parameters.length) = some n) (hR : rm.frames + 1 ≤ R.frames ∧ 8 + (maxL + 11) + rm.locals ≤ R.locals) :
    vx_CVW R s args own C index y bytes maxL ret hh ws rm mc ms n := by
  obtain ⟨hC, hd⟩ := hd
  subst hC
  have ok : ∀ w ∈ wsV own index y.cls y ws, w.before args s = true := fun w h => ht w (hT w h).1
  have hG : GoodIn Ts ws := fun w h => hT w (by unfold wsV; exact List.mem_append_right _ h)
  have hc : Cond.codeWith y bytes maxL ret hh ∈ ws := by rw [hw]; exact List.mem_cons_self
  refine ⟨⟨hrc, hrs, hR.1, hR.2, pay_in ht hG, hc⟩, ht _ (hG _ hc).1, ok _ (by simp [wsV]), ⟨hd.1, hd.2.1⟩, fun sig h => ?_, ok _ (by simp [wsV]), ok _ (by simp [wsV]), ok _ (by simp [wsV])⟩
  have h2 := hd.2.2
  rw [h] at h2
  exact (Option.some.inj h2).symm
theorem vx_runVW {y : MethodName} {bytes cc : ByteArray} {maxL nL mc ms n index : Nat} {ret : Option FieldType} {hh : List (Nat × Nat × Nat × Nat)} {ws : List Cond} {rm : Room} {Pc : Array Value → State → Prop} {Qc : Array Value → State → Outcome → State → Prop} {free : Addr → Prop} {Ts : List Cond} {own C : String} {b : Addr} {As rest : List Value} {g : JFrame}
    (S : CallFix p m c cc nL s args Ts own) (hM : Met l y ws rm Pc Qc mc ms free) (cw : vx_CVW R s args own C index y bytes maxL ret hh ws rm mc ms n) (hp : PreV s H C b Pc As)
    (hg : g.method = m) (hn : As.length = n) (hsize : g.locals.size = nL) (hstack : g.stack = As.reverse ++ .ref b :: rest) (hW : 2 * g.monitorRoom + (rest.map fun v => v.category).sum ≤ 8) (hdg : decode cc g.pc = .ok (.invokevirtual index, 3)) (hf : cells + mc ≤ R.cells ∧ slots + ms ≤ R.slots) :
    va_Run p l e R s m args below meth c H locs cells slots mc ms g rest (Qc (Value.ref b :: As).toArray) free := by
  obtain ⟨⟨hrc, hrs, hfr, hlo, hws, hcw⟩, hcode, hini, hy, hlen, hl, hin, hse⟩ := cw
  have hK : Back l R p e below s args y 3 8 (PreOf R mc ms Pc) (PostOf Qc mc ms free) := va_backW (hh := hh) (bytes := bytes) (maxL := maxL) (ret := ret) hM hp.1 hrc hrs hfr hlo hws hcw (fun a' U hW => word_at hW (Or.inl (by first | rfl | simp [Cond.onTables, Cond.keeps, Cond.steady])) hini)
  obtain ⟨hx, hb, hml, ho, -⟩ := S
  obtain ⟨-, ⟨cellB, hcB, hoB, hclB⟩, hPc⟩ := hp
  intro T hT X
  obtain ⟨v, vm₁, ⟨U', l2, c2, s2⟩, hW₁, X', ⟨g', mk, t, L, e1, e2, hq, h1, hL, h2, h3⟩, st⟩ := vx_callVW X hx (C := C) (hh := hh) (bytes := bytes) (maxL := maxL) (ret := ret) ho hl hin hse hcode hy hK (by rw [hT]; exact hcB) hoB hclB hg (hsize.trans hml.symm) (argsL := As) (rest := rest) (fun sig h => hn.trans (hlen sig h)) hstack hW (by rw [hb]; exact hdg)
    (fun vm₁ hW₁ => ⟨hf.1, hf.2, hPc (T.setVm vm₁) hT hW₁⟩)
  dsimp only [Pt.U, Pt.locs, Pt.cells, Pt.slots] at X' e1 e2 h1 h2 h3 st
  subst h1; subst h2; subst h3
  exact ⟨v, (T.setVm vm₁).calling g' mk (Value.ref b :: As).toArray, t, U', L, hT, X', hL, e1, e2, hq, st⟩
section
variable {y : MethodName} {bytes cc : ByteArray} {maxL nL mc ms n index : Nat} {ret : Option FieldType} {ws : List Cond} {rm : Room} {Pc : Array Value → State → Prop} {Qc : Array Value → State → Outcome → State → Prop} {XC : String → State → State → Prop} {free : Addr → Prop} {Ts : List Cond} {own C : String} {b : Addr} {As rest : List Value} {g : JFrame}
theorem vx_runVX {hh : List (Nat × Nat × Nat × Nat)} (S : CallFix p m c cc nL s args Ts own) (hM : vx_Met l y ws rm Pc Qc XC mc ms free) (cw : vx_CVW R s args own C index y bytes maxL ret hh ws rm mc ms n) (hp : PreV s H C b Pc As)
    (hg : g.method = m) (hn : As.length = n) (hsize : g.locals.size = nL) (hstack : g.stack = As.reverse ++ .ref b :: rest) (hW : 2 * g.monitorRoom + (rest.map fun v => v.category).sum ≤ 8) (hdg : decode cc g.pc = .ok (.invokevirtual index, 3)) (hf : cells + mc ≤ R.cells ∧ slots + ms ≤ R.slots) :
    vx_Run p l e R s m args below meth c H locs cells slots mc ms g rest (Qc (Value.ref b :: As).toArray) XC free := by
  obtain ⟨⟨hrc, hrs, hfr, hlo, hws, hcw⟩, hcode, hini, hy, hlen, hl, hin, hse⟩ := cw
  have hK : vx_Back l R p e below s args y 3 8 (PreOf R mc ms Pc) (PostOf Qc mc ms free) (vx_Post XC mc ms free) := vx_backW (hh := hh) (bytes := bytes) (maxL := maxL) (ret := ret) hM hp.1 hrc hrs hfr hlo hws hcw (fun a' U hW => word_at hW (Or.inl (by first | rfl | simp [Cond.onTables, Cond.keeps, Cond.steady])) hini)
  obtain ⟨hx, hb, hml, ho, -⟩ := S
  obtain ⟨-, ⟨cellB, hcB, hoB, hclB⟩, hPc⟩ := hp
  intro T hT X
  rcases vx_callVX X hx (C := C) (hh := hh) (bytes := bytes) (maxL := maxL) (ret := ret) ho hl hin hse hcode hy hK (by rw [hT]; exact hcB) hoB hclB hg (hsize.trans hml.symm) (argsL := As) (rest := rest) (fun sig h => hn.trans (hlen sig h)) hstack hW (by rw [hb]; exact hdg)
    (fun vm₁ hW₁ => ⟨hf.1, hf.2, hPc (T.setVm vm₁) hT hW₁⟩) with ⟨v, vm₁, ⟨U', l2, c2, s2⟩, hW₁, X', ⟨g', mk, t, L, e1, e2, hq, h1, hL, h2, h3⟩, st⟩ | ⟨q, vm₁, ⟨U', l2, c2, s2⟩, hW₁, X', ⟨g', mk, t, L, E, ce, e1, e2, hq, hce, hcv, hcl, h1, hL, h2, h3⟩, st⟩
  · dsimp only [Pt.U, Pt.locs, Pt.cells, Pt.slots] at X' e1 e2 h1 h2 h3 st
    subst h1; subst h2; subst h3
    exact Or.inl ⟨v, (T.setVm vm₁).calling g' mk (Value.ref b :: As).toArray, t, U', L, hT, X', hL, e1, e2, hq, st⟩
  · dsimp only [Pt.U, Pt.locs, Pt.cells, Pt.slots] at X' e1 e2 h1 h2 h3 st hcl
    subst h1; subst h2; subst h3
    exact Or.inr ⟨q, (T.setVm vm₁).calling g' mk (Value.ref b :: As).toArray, t, U', L, E, ce, hT, X', hL, e1, e2, hq, hce, hcv, vx_cls hW₁ hcl, st⟩
theorem vx_runSX {hh : List (Nat × Nat × Nat × Nat)} (S : CallFix p m c cc nL s args Ts own) (hM : vx_Met l y ws rm Pc Qc XC mc ms free) (cw : vx_CSW R s args own index y bytes maxL ret hh ws rm mc ms n) (hp : PreS s H Pc As)
    (hg : g.method = m) (hn : As.length = n) (hsize : g.locals.size = nL) (hstack : g.stack = As.reverse ++ rest) (hW : 2 * g.monitorRoom + (rest.map fun v => v.category).sum ≤ 8) (hdg : decode cc g.pc = .ok (.invokestatic index, 3)) (hf : cells + mc ≤ R.cells ∧ slots + ms ≤ R.slots) :
    vx_Run p l e R s m args below meth c H locs cells slots mc ms g rest (Qc As.toArray) XC free := by
  obtain ⟨⟨hrc, hrs, hfr, hlo, hws, hcw⟩, hcode, hini, hy, hlen, hl, hstt⟩ := cw
  have hK : vx_Back l R p e below s args y 3 8 (PreOf R mc ms Pc) (PostOf Qc mc ms free) (vx_Post XC mc ms free) := vx_backW (hh := hh) (bytes := bytes) (maxL := maxL) (ret := ret) hM hp.1 hrc hrs hfr hlo hws hcw (fun a' U hW => word_at hW (Or.inl (by first | rfl | simp [Cond.onTables, Cond.keeps, Cond.steady])) hini)
  obtain ⟨hx, hb, hml, ho, -⟩ := S
  intro T hT X
  rcases vx_callSX X hx (hh := hh) (bytes := bytes) (maxL := maxL) (ret := ret) ho hl hstt hini hcode hy hK hg (hsize.trans hml.symm) (argsL := As) (rest := rest) (fun sig h => hn.trans (hlen sig h)) hstack hW (by rw [hb]; exact hdg)
    (fun vm₁ hW₁ => ⟨hf.1, hf.2, hp.2 (T.setVm vm₁) hT hW₁⟩) with ⟨v, vm₁, ⟨U', l2, c2, s2⟩, hW₁, X', ⟨g', mk, t, L, e1, e2, hq, h1, hL, h2, h3⟩, st⟩ | ⟨q, vm₁, ⟨U', l2, c2, s2⟩, hW₁, X', ⟨g', mk, t, L, E, ce, e1, e2, hq, hce, hcv, hcl, h1, hL, h2, h3⟩, st⟩
  · dsimp only [Pt.U, Pt.locs, Pt.cells, Pt.slots] at X' e1 e2 h1 h2 h3 st
    subst h1; subst h2; subst h3
    exact Or.inl ⟨v, (T.setVm vm₁).calling g' mk As.toArray, t, U', L, hT, X', hL, e1, e2, hq, st⟩
  · dsimp only [Pt.U, Pt.locs, Pt.cells, Pt.slots] at X' e1 e2 h1 h2 h3 st hcl
    subst h1; subst h2; subst h3
    exact Or.inr ⟨q, (T.setVm vm₁).calling g' mk As.toArray, t, U', L, E, ce, hT, X', hL, e1, e2, hq, hce, hcv, vx_cls hW₁ hcl, st⟩
end
end VXH
theorem vx_ofWH {l : Launch} {y : MethodName} {ws ws' : List Cond} {rm : Room} {Pc : Array Value → State → Prop} {Qc : Array Value → State → Outcome → State → Prop} {XC : String → State → State → Prop} {mc ms : Nat} {free : Addr → Prop} {cc : ByteArray} {maxL : Nat} {ret : Option FieldType} {hh : List (Nat × Nat × Nat × Nat)}
    (hy : plainName y.cls = true) (hw : ws = Cond.codeWith y cc maxL ret hh :: ws')
    (body : ∀ p e s m args below meth c s₁, BodyLoose p l y (headSpec ws rm) cc maxL ret e s m args below meth c s₁ → c.maxLocals = maxL → Pc args s →
      W p l e (headSpec ws rm).room s m args below meth c s.heap [] 0 0 (vx_MQ below Qc XC args s mc ms free) (entryFrame m args maxL)) : vx_Met l y ws rm Pc Qc XC mc ms free := by
  refine MetFree.of_bodyS (code := cc) (maxLocals := maxL) (ret := ret) hy ?_ ?_
  · intro args s m h hn
    obtain ⟨m9, meth, c, hn9, h1, h2, h3, h4, -, h5, h6, -⟩ := Cond.codeWith_spec (atoms_spec (ws := ws) h _ (by rw [hw]; exact List.mem_cons_self))
    cases hn.symm.trans hn9
    exact ⟨meth, c, h1, h2, h3, h4, h5, h6⟩
  · intro p e s m args below meth c s₁ B hml hP _
    have hh0 : s₁.heap = s.heap := by rw [B.state]; rfl
    obtain ⟨t, a1, o, b1, b2, b3⟩ := body p e s m args below meth c s₁ B hml hP s₁ hh0 (Stand.of_body B)
    exact ⟨t, o, a1, b1, b2, b3⟩
/-! ===== END ===== -/
end
section
def RX0 : String := "Pathwarden$AllowedPaths"
def TX0 : u_T := fun k => match k with
  | 0 => ("Pathwarden$AllowedPaths", "ties", "LPathwarden$Ties;", true)
  | 1 => ("Pathwarden$AllowedPaths", "pathJudge", "LPathwarden$PathJudge;", true)
  | _ => ("Pathwarden$AllowedPaths", "trail", "[I", true)
def tyX0 : Nat → FieldType := fun k => match k with
  | 0 => .object "Pathwarden$Ties"
  | 1 => .object "Pathwarden$PathJudge"
  | _ => .array .int
theorem nmX0 : ∀ a, a < 3 → ∀ b, b < 3 → a ≠ b → (TX0 a).2.1 ≠ (TX0 b).2.1 := by decide +kernel
theorem tyX0_ok : ∀ k, k < 3 → parseFieldDescriptor (TX0 k).2.2.1 = some (tyX0 k) := by decide +kernel
abbrev cX0_init : ByteArray := prog_2_method_1_code
def yX0_init : MethodName := ⟨RX0, "<init>", "(LPathwarden$Ties;LPathwarden$PathJudge;)V"⟩
abbrev cX0_countTo : ByteArray := prog_2_method_2_code
def yX0_countTo : MethodName := ⟨RX0, "countTo", "(II)I"⟩
abbrev cX0_countRefused : ByteArray := prog_2_method_3_code
def yX0_countRefused : MethodName := ⟨RX0, "countRefused", "()I"⟩
abbrev cX0_countOnwards : ByteArray := prog_2_method_4_code
def yX0_countOnwards : MethodName := ⟨RX0, "countOnwards", "(III)I"⟩
abbrev cX0_mayGoOn : ByteArray := prog_2_method_5_code
def yX0_mayGoOn : MethodName := ⟨RX0, "mayGoOn", "(II)Z"⟩
def RX1 : String := "Pathwarden$Blocks"
def TX1 : u_T := fun k => match k with
  | _ => ("", "", "", false)
def tyX1 : Nat → FieldType := fun k => match k with
  | _ => .int
theorem nmX1 : ∀ a, a < 0 → ∀ b, b < 0 → a ≠ b → (TX1 a).2.1 ≠ (TX1 b).2.1 := by decide +kernel
theorem tyX1_ok : ∀ k, k < 0 → parseFieldDescriptor (TX1 k).2.2.1 = some (tyX1 k) := by decide +kernel
abbrev cX1_firstBits : ByteArray := prog_3_method_2_code
def yX1_firstBits : MethodName := ⟨RX1, "firstBits", "(II)I"⟩
abbrev cX1_liesIn : ByteArray := prog_3_method_3_code
def yX1_liesIn : MethodName := ⟨RX1, "liesIn", "(IIII)Z"⟩
def RX2 : String := "Pathwarden$Judge"
def TX2 : u_T := fun k => match k with
  | 0 => ("Pathwarden$Judge", "registry", "LPathwarden$Registry;", true)
  | 1 => ("Pathwarden$Judge", "signed", "LPathwarden$SignedObjects;", true)
  | 2 => ("Pathwarden$Judge", "verdict", "[I", true)
  | _ => ("Pathwarden$Judge", "tried", "[Z", true)
def tyX2 : Nat → FieldType := fun k => match k with
  | 0 => .object "Pathwarden$Registry"
  | 1 => .object "Pathwarden$SignedObjects"
  | 2 => .array .int
  | _ => .array .boolean
theorem nmX2 : ∀ a, a < 4 → ∀ b, b < 4 → a ≠ b → (TX2 a).2.1 ≠ (TX2 b).2.1 := by decide +kernel
theorem tyX2_ok : ∀ k, k < 4 → parseFieldDescriptor (TX2 k).2.2.1 = some (tyX2 k) := by decide +kernel
abbrev cX2_init : ByteArray := prog_4_method_1_code
def yX2_init : MethodName := ⟨RX2, "<init>", "(LPathwarden$Registry;LPathwarden$SignedObjects;)V"⟩
abbrev cX2_judgeAll : ByteArray := prog_4_method_2_code
def yX2_judgeAll : MethodName := ⟨RX2, "judgeAll", "()V"⟩
abbrev cX2_judgeGrantsTo : ByteArray := prog_4_method_3_code
def yX2_judgeGrantsTo : MethodName := ⟨RX2, "judgeGrantsTo", "(I)V"⟩
abbrev cX2_isGrantTo : ByteArray := prog_4_method_4_code
def yX2_isGrantTo : MethodName := ⟨RX2, "isGrantTo", "(II)Z"⟩
abbrev cX2_judgeOne : ByteArray := prog_4_method_5_code
def yX2_judgeOne : MethodName := ⟨RX2, "judgeOne", "(I)I"⟩
abbrev cX2_faultOfItsOwn : ByteArray := prog_4_method_6_code
def yX2_faultOfItsOwn : MethodName := ⟨RX2, "faultOfItsOwn", "(I)I"⟩
abbrev cX2_isOutside : ByteArray := prog_4_method_7_code
def yX2_isOutside : MethodName := ⟨RX2, "isOutside", "(I)Z"⟩
abbrev cX2_holds : ByteArray := prog_4_method_8_code
def yX2_holds : MethodName := ⟨RX2, "holds", "(III)Z"⟩
abbrev cX2_holdsAnything : ByteArray := prog_4_method_9_code
def yX2_holdsAnything : MethodName := ⟨RX2, "holdsAnything", "(I)Z"⟩
abbrev cX2_isGoodGrantTo : ByteArray := prog_4_method_10_code
def yX2_isGoodGrantTo : MethodName := ⟨RX2, "isGoodGrantTo", "(II)Z"⟩
abbrev cX2_holdsByChains : ByteArray := prog_4_method_11_code
def yX2_holdsByChains : MethodName := ⟨RX2, "holdsByChains", "(III)Z"⟩
abbrev cX2_chainReaches : ByteArray := prog_4_method_12_code
def yX2_chainReaches : MethodName := ⟨RX2, "chainReaches", "(IIII)Z"⟩
abbrev cX2_isLinkTo : ByteArray := prog_4_method_13_code
def yX2_isLinkTo : MethodName := ⟨RX2, "isLinkTo", "(II)Z"⟩
abbrev cX2_originState : ByteArray := prog_4_method_14_code
def yX2_originState : MethodName := ⟨RX2, "originState", "(III)I"⟩
abbrev cX2_isGoodOriginOver : ByteArray := prog_4_method_15_code
def yX2_isGoodOriginOver : MethodName := ⟨RX2, "isGoodOriginOver", "(III)Z"⟩
def RX3 : String := "Pathwarden$PathJudge"
def TX3 : u_T := fun k => match k with
  | 0 => ("Pathwarden$PathJudge", "ties", "LPathwarden$Ties;", true)
  | 1 => ("Pathwarden$PathJudge", "hasVoucher", "[Z", true)
  | _ => ("Pathwarden$PathJudge", "providers", "[I", true)
def tyX3 : Nat → FieldType := fun k => match k with
  | 0 => .object "Pathwarden$Ties"
  | 1 => .array .boolean
  | _ => .array .int
theorem nmX3 : ∀ a, a < 3 → ∀ b, b < 3 → a ≠ b → (TX3 a).2.1 ≠ (TX3 b).2.1 := by decide +kernel
theorem tyX3_ok : ∀ k, k < 3 → parseFieldDescriptor (TX3 k).2.2.1 = some (tyX3 k) := by decide +kernel
abbrev cX3_init : ByteArray := prog_5_method_1_code
def yX3_init : MethodName := ⟨RX3, "<init>", "(LPathwarden$Ties;)V"⟩
abbrev cX3_forgetVouchers : ByteArray := prog_5_method_2_code
def yX3_forgetVouchers : MethodName := ⟨RX3, "forgetVouchers", "()V"⟩
abbrev cX3_addVoucher : ByteArray := prog_5_method_3_code
def yX3_addVoucher : MethodName := ⟨RX3, "addVoucher", "(II)V"⟩
abbrev cX3_judgeUp : ByteArray := prog_5_method_4_code
def yX3_judgeUp : MethodName := ⟨RX3, "judgeUp", "([II)I"⟩
abbrev cX3_judgeDown : ByteArray := prog_5_method_5_code
def yX3_judgeDown : MethodName := ⟨RX3, "judgeDown", "([II)I"⟩
abbrev cX3_isRefusedAt : ByteArray := prog_5_method_6_code
def yX3_isRefusedAt : MethodName := ⟨RX3, "isRefusedAt", "([II)Z"⟩
abbrev cX3_netsUp : ByteArray := prog_5_method_7_code
def yX3_netsUp : MethodName := ⟨RX3, "netsUp", "([IIZ)I"⟩
abbrev cX3_netsBack : ByteArray := prog_5_method_8_code
def yX3_netsBack : MethodName := ⟨RX3, "netsBack", "([IIZ)I"⟩
abbrev cX3_goesOn : ByteArray := prog_5_method_9_code
def yX3_goesOn : MethodName := ⟨RX3, "goesOn", "(IIZ)Z"⟩
def RX4 : String := "Pathwarden$Registry"
def TX4 : u_T := fun k => match k with
  | 0 => ("Pathwarden$Registry", "day", "I", false)
  | 1 => ("Pathwarden$Registry", "count", "I", false)
  | 2 => ("Pathwarden$Registry", "parent", "[I", true)
  | 3 => ("Pathwarden$Registry", "key", "[I", true)
  | 4 => ("Pathwarden$Registry", "freshUpTo", "[I", true)
  | _ => ("Pathwarden$Registry", "owner", "[I", true)
def tyX4 : Nat → FieldType := fun k => match k with
  | 0 => .int
  | 1 => .int
  | 2 => .array .int
  | 3 => .array .int
  | 4 => .array .int
  | _ => .array .int
theorem nmX4 : ∀ a, a < 6 → ∀ b, b < 6 → a ≠ b → (TX4 a).2.1 ≠ (TX4 b).2.1 := by decide +kernel
theorem tyX4_ok : ∀ k, k < 6 → parseFieldDescriptor (TX4 k).2.2.1 = some (tyX4 k) := by decide +kernel
abbrev cX4_init : ByteArray := prog_6_method_1_code
def yX4_init : MethodName := ⟨RX4, "<init>", "()V"⟩
abbrev cX4_add : ByteArray := prog_6_method_2_code
def yX4_add : MethodName := ⟨RX4, "add", "(I)I"⟩
def RX5 : String := "Pathwarden$Relations"
def TX5 : u_T := fun k => match k with
  | 0 => ("Pathwarden$Relations", "book", "LPathwarden$RouteBook;", true)
  | 1 => ("Pathwarden$Relations", "core", "I", false)
  | 2 => ("Pathwarden$Relations", "neighbours", "[I", true)
  | 3 => ("Pathwarden$Relations", "votes", "[[I", true)
  | _ => ("Pathwarden$Relations", "customers", "[[I", true)
def tyX5 : Nat → FieldType := fun k => match k with
  | 0 => .object "Pathwarden$RouteBook"
  | 1 => .int
  | 2 => .array .int
  | 3 => .array (.array .int)
  | _ => .array (.array .int)
theorem nmX5 : ∀ a, a < 5 → ∀ b, b < 5 → a ≠ b → (TX5 a).2.1 ≠ (TX5 b).2.1 := by decide +kernel
theorem tyX5_ok : ∀ k, k < 5 → parseFieldDescriptor (TX5 k).2.2.1 = some (tyX5 k) := by decide +kernel
abbrev cX5_init : ByteArray := prog_7_method_1_code
def yX5_init : MethodName := ⟨RX5, "<init>", "(LPathwarden$RouteBook;)V"⟩
abbrev cX5_infer : ByteArray := prog_7_method_2_code
def yX5_infer : MethodName := ⟨RX5, "infer", "()V"⟩
abbrev cX5_findNeighbours : ByteArray := prog_7_method_3_code
def yX5_findNeighbours : MethodName := ⟨RX5, "findNeighbours", "()V"⟩
abbrev cX5_joinNeighbours : ByteArray := prog_7_method_4_code
def yX5_joinNeighbours : MethodName := ⟨RX5, "joinNeighbours", "([II)V"⟩
abbrev cX5_findCore : ByteArray := prog_7_method_5_code
def yX5_findCore : MethodName := ⟨RX5, "findCore", "()V"⟩
abbrev cX5_vote : ByteArray := prog_7_method_6_code
def yX5_vote : MethodName := ⟨RX5, "vote", "(I)V"⟩
abbrev cX5_voteAlong : ByteArray := prog_7_method_7_code
def yX5_voteAlong : MethodName := ⟨RX5, "voteAlong", "([III)V"⟩
abbrev cX5_topOf : ByteArray := prog_7_method_8_code
def yX5_topOf : MethodName := ⟨RX5, "topOf", "([III)I"⟩
abbrev cX5_rankOf : ByteArray := prog_7_method_9_code
def yX5_rankOf : MethodName := ⟨RX5, "rankOf", "(II)I"⟩
abbrev cX5_findCustomers : ByteArray := prog_7_method_10_code
def yX5_findCustomers : MethodName := ⟨RX5, "findCustomers", "(I)V"⟩
abbrev cX5_between : ByteArray := prog_7_method_11_code
def yX5_between : MethodName := ⟨RX5, "between", "(III)I"⟩
abbrev cX5_coneOf : ByteArray := prog_7_method_12_code
def yX5_coneOf : MethodName := ⟨RX5, "coneOf", "(I)I"⟩
abbrev cX5_pathConeOf : ByteArray := prog_7_method_13_code
def yX5_pathConeOf : MethodName := ⟨RX5, "pathConeOf", "(I)I"⟩
abbrev cX5_customersAhead : ByteArray := prog_7_method_14_code
def yX5_customersAhead : MethodName := ⟨RX5, "customersAhead", "([III)I"⟩
def RX6 : String := "Pathwarden$RouteBook"
def TX6 : u_T := fun k => match k with
  | 0 => ("Pathwarden$RouteBook", "count", "I", false)
  | 1 => ("Pathwarden$RouteBook", "there", "I", false)
  | 2 => ("Pathwarden$RouteBook", "drafted", "I", false)
  | 3 => ("Pathwarden$RouteBook", "draft", "[I", true)
  | 4 => ("Pathwarden$RouteBook", "nets", "[[I", true)
  | 5 => ("Pathwarden$RouteBook", "size", "[I", true)
  | 6 => ("Pathwarden$RouteBook", "value", "[I", true)
  | 7 => ("Pathwarden$RouteBook", "length", "[I", true)
  | _ => ("Pathwarden$RouteBook", "withdrawn", "[Z", true)
def tyX6 : Nat → FieldType := fun k => match k with
  | 0 => .int
  | 1 => .int
  | 2 => .int
  | 3 => .array .int
  | 4 => .array (.array .int)
  | 5 => .array .int
  | 6 => .array .int
  | 7 => .array .int
  | _ => .array .boolean
theorem nmX6 : ∀ a, a < 9 → ∀ b, b < 9 → a ≠ b → (TX6 a).2.1 ≠ (TX6 b).2.1 := by decide +kernel
theorem tyX6_ok : ∀ k, k < 9 → parseFieldDescriptor (TX6 k).2.2.1 = some (tyX6 k) := by decide +kernel
abbrev cX6_init : ByteArray := prog_8_method_1_code
def yX6_init : MethodName := ⟨RX6, "<init>", "()V"⟩
abbrev cX6_addDraft : ByteArray := prog_8_method_2_code
def yX6_addDraft : MethodName := ⟨RX6, "addDraft", "(II)I"⟩
abbrev cX6_tellsRelations : ByteArray := prog_8_method_3_code
def yX6_tellsRelations : MethodName := ⟨RX6, "tellsRelations", "(I)Z"⟩
abbrev cX6_runsRound : ByteArray := prog_8_method_4_code
def yX6_runsRound : MethodName := ⟨RX6, "runsRound", "([II)Z"⟩
abbrev cX6_countAddressesFrom : ByteArray := prog_8_method_5_code
def yX6_countAddressesFrom : MethodName := ⟨RX6, "countAddressesFrom", "(I)I"⟩
abbrev cX6_reaches : ByteArray := prog_8_method_6_code
def yX6_reaches : MethodName := ⟨RX6, "reaches", "(II)Z"⟩
def RX7 : String := "Pathwarden$SignedObjects"
def TX7 : u_T := fun k => match k with
  | 0 => ("Pathwarden$SignedObjects", "count", "I", false)
  | 1 => ("Pathwarden$SignedObjects", "kind", "[I", true)
  | 2 => ("Pathwarden$SignedObjects", "issuer", "[I", true)
  | 3 => ("Pathwarden$SignedObjects", "whom", "[I", true)
  | 4 => ("Pathwarden$SignedObjects", "value", "[I", true)
  | 5 => ("Pathwarden$SignedObjects", "length", "[I", true)
  | 6 => ("Pathwarden$SignedObjects", "extra", "[I", true)
  | 7 => ("Pathwarden$SignedObjects", "lastDay", "[I", true)
  | 8 => ("Pathwarden$SignedObjects", "signature", "[I", true)
  | 9 => ("Pathwarden$SignedObjects", "revoked", "[Z", true)
  | _ => ("Pathwarden$SignedObjects", "listed", "[Z", true)
def tyX7 : Nat → FieldType := fun k => match k with
  | 0 => .int
  | 1 => .array .int
  | 2 => .array .int
  | 3 => .array .int
  | 4 => .array .int
  | 5 => .array .int
  | 6 => .array .int
  | 7 => .array .int
  | 8 => .array .int
  | 9 => .array .boolean
  | _ => .array .boolean
theorem nmX7 : ∀ a, a < 11 → ∀ b, b < 11 → a ≠ b → (TX7 a).2.1 ≠ (TX7 b).2.1 := by decide +kernel
theorem tyX7_ok : ∀ k, k < 11 → parseFieldDescriptor (TX7 k).2.2.1 = some (tyX7 k) := by decide +kernel
abbrev cX7_init : ByteArray := prog_9_method_1_code
def yX7_init : MethodName := ⟨RX7, "<init>", "()V"⟩
abbrev cX7_add : ByteArray := prog_9_method_2_code
def yX7_add : MethodName := ⟨RX7, "add", "(IIIIIII)I"⟩
abbrev cX7_listRevokedOf : ByteArray := prog_9_method_3_code
def yX7_listRevokedOf : MethodName := ⟨RX7, "listRevokedOf", "(I)I"⟩
abbrev cX7_signatureBy : ByteArray := prog_9_method_4_code
def yX7_signatureBy : MethodName := ⟨RX7, "signatureBy", "(II)I"⟩
abbrev cX7_digest : ByteArray := prog_9_method_5_code
def yX7_digest : MethodName := ⟨RX7, "digest", "(I)I"⟩
abbrev cX7_mix : ByteArray := prog_9_method_6_code
def yX7_mix : MethodName := ⟨RX7, "mix", "(II)I"⟩
abbrev cX7_covers : ByteArray := prog_9_method_7_code
def yX7_covers : MethodName := ⟨RX7, "covers", "(III)Z"⟩
def RX8 : String := "Pathwarden$Ties"
def TX8 : u_T := fun k => match k with
  | _ => ("Pathwarden$Ties", "what", "[[I", true)
def tyX8 : Nat → FieldType := fun k => match k with
  | _ => .array (.array .int)
theorem nmX8 : ∀ a, a < 1 → ∀ b, b < 1 → a ≠ b → (TX8 a).2.1 ≠ (TX8 b).2.1 := by decide +kernel
theorem tyX8_ok : ∀ k, k < 1 → parseFieldDescriptor (TX8 k).2.2.1 = some (tyX8 k) := by decide +kernel
abbrev cX8_init : ByteArray := prog_10_method_1_code
def yX8_init : MethodName := ⟨RX8, "<init>", "()V"⟩
abbrev cX8_between : ByteArray := prog_10_method_2_code
def yX8_between : MethodName := ⟨RX8, "between", "(II)I"⟩
abbrev cX8_tell : ByteArray := prog_10_method_3_code
def yX8_tell : MethodName := ⟨RX8, "tell", "(III)V"⟩
abbrev cX8_turned : ByteArray := prog_10_method_4_code
def yX8_turned : MethodName := ⟨RX8, "turned", "(I)I"⟩
abbrev cX8_areTied : ByteArray := prog_10_method_5_code
def yX8_areTied : MethodName := ⟨RX8, "areTied", "(II)Z"⟩
abbrev cX8_hasCustomer : ByteArray := prog_10_method_6_code
def yX8_hasCustomer : MethodName := ⟨RX8, "hasCustomer", "(III)Z"⟩
abbrev cX8_leaksAt : ByteArray := prog_10_method_7_code
def yX8_leaksAt : MethodName := ⟨RX8, "leaksAt", "(III)Z"⟩
def RX9 : String := "Pathwarden"
def TX9 : u_T := fun k => match k with
  | 0 => ("Pathwarden", "registry", "LPathwarden$Registry;", true)
  | 1 => ("Pathwarden", "signed", "LPathwarden$SignedObjects;", true)
  | 2 => ("Pathwarden", "judge", "LPathwarden$Judge;", true)
  | 3 => ("Pathwarden", "book", "LPathwarden$RouteBook;", true)
  | 4 => ("Pathwarden", "ties", "LPathwarden$Ties;", true)
  | 5 => ("Pathwarden", "pathJudge", "LPathwarden$PathJudge;", true)
  | 6 => ("Pathwarden", "search", "LPathwarden$AllowedPaths;", true)
  | _ => ("Pathwarden", "relations", "LPathwarden$Relations;", true)
def tyX9 : Nat → FieldType := fun k => match k with
  | 0 => .object "Pathwarden$Registry"
  | 1 => .object "Pathwarden$SignedObjects"
  | 2 => .object "Pathwarden$Judge"
  | 3 => .object "Pathwarden$RouteBook"
  | 4 => .object "Pathwarden$Ties"
  | 5 => .object "Pathwarden$PathJudge"
  | 6 => .object "Pathwarden$AllowedPaths"
  | _ => .object "Pathwarden$Relations"
theorem nmX9 : ∀ a, a < 8 → ∀ b, b < 8 → a ≠ b → (TX9 a).2.1 ≠ (TX9 b).2.1 := by decide +kernel
theorem tyX9_ok : ∀ k, k < 8 → parseFieldDescriptor (TX9 k).2.2.1 = some (tyX9 k) := by decide +kernel
abbrev cX9_init : ByteArray := prog_1_method_1_code
def yX9_init : MethodName := ⟨RX9, "<init>", "()V"⟩
abbrev cX9_holder : ByteArray := prog_1_method_2_code
def yX9_holder : MethodName := ⟨RX9, "holder", "(I)I"⟩
abbrev cX9_belong : ByteArray := prog_1_method_3_code
def yX9_belong : MethodName := ⟨RX9, "belong", "(II)I"⟩
abbrev cX9_roll : ByteArray := prog_1_method_4_code
def yX9_roll : MethodName := ⟨RX9, "roll", "(I)I"⟩
abbrev cX9_publish : ByteArray := prog_1_method_5_code
def yX9_publish : MethodName := ⟨RX9, "publish", "(II)I"⟩
abbrev cX9_pass : ByteArray := prog_1_method_6_code
def yX9_pass : MethodName := ⟨RX9, "pass", "(I)I"⟩
abbrev cX9_grant : ByteArray := prog_1_method_7_code
def yX9_grant : MethodName := ⟨RX9, "grant", "(IIIII)I"⟩
abbrev cX9_origin : ByteArray := prog_1_method_8_code
def yX9_origin : MethodName := ⟨RX9, "origin", "(IIIIII)I"⟩
abbrev cX9_vouch : ByteArray := prog_1_method_9_code
def yX9_vouch : MethodName := ⟨RX9, "vouch", "(IIII)I"⟩
abbrev cX9_revoke : ByteArray := prog_1_method_10_code
def yX9_revoke : MethodName := ⟨RX9, "revoke", "(I)Z"⟩
abbrev cX9_alter : ByteArray := prog_1_method_11_code
def yX9_alter : MethodName := ⟨RX9, "alter", "(II)I"⟩
abbrev cX9_sign : ByteArray := prog_1_method_12_code
def yX9_sign : MethodName := ⟨RX9, "sign", "(I)I"⟩
abbrev cX9_hop : ByteArray := prog_1_method_13_code
def yX9_hop : MethodName := ⟨RX9, "hop", "(I)I"⟩
abbrev cX9_hear : ByteArray := prog_1_method_14_code
def yX9_hear : MethodName := ⟨RX9, "hear", "(II)I"⟩
abbrev cX9_withdraw : ByteArray := prog_1_method_15_code
def yX9_withdraw : MethodName := ⟨RX9, "withdraw", "(I)I"⟩
abbrev cX9_tie : ByteArray := prog_1_method_16_code
def yX9_tie : MethodName := ⟨RX9, "tie", "(III)I"⟩
abbrev cX9_today : ByteArray := prog_1_method_17_code
def yX9_today : MethodName := ⟨RX9, "today", "()I"⟩
abbrev cX9_objects : ByteArray := prog_1_method_18_code
def yX9_objects : MethodName := ⟨RX9, "objects", "()I"⟩
abbrev cX9_judged : ByteArray := prog_1_method_19_code
def yX9_judged : MethodName := ⟨RX9, "judged", "(I)I"⟩
abbrev cX9_has : ByteArray := prog_1_method_20_code
def yX9_has : MethodName := ⟨RX9, "has", "(III)Z"⟩
abbrev cX9_hasByChains : ByteArray := prog_1_method_21_code
def yX9_hasByChains : MethodName := ⟨RX9, "hasByChains", "(III)Z"⟩
abbrev cX9_state : ByteArray := prog_1_method_22_code
def yX9_state : MethodName := ⟨RX9, "state", "(III)I"⟩
abbrev cX9_routes : ByteArray := prog_1_method_23_code
def yX9_routes : MethodName := ⟨RX9, "routes", "()I"⟩
abbrev cX9_path : ByteArray := prog_1_method_24_code
def yX9_path : MethodName := ⟨RX9, "path", "(IZ)I"⟩
abbrev cX9_leak : ByteArray := prog_1_method_25_code
def yX9_leak : MethodName := ⟨RX9, "leak", "(I)I"⟩
abbrev cX9_stopped : ByteArray := prog_1_method_26_code
def yX9_stopped : MethodName := ⟨RX9, "stopped", "(II)I"⟩
abbrev cX9_allowed : ByteArray := prog_1_method_27_code
def yX9_allowed : MethodName := ⟨RX9, "allowed", "(II)I"⟩
abbrev cX9_falseAlarms : ByteArray := prog_1_method_28_code
def yX9_falseAlarms : MethodName := ⟨RX9, "falseAlarms", "()I"⟩
abbrev cX9_clique : ByteArray := prog_1_method_29_code
def yX9_clique : MethodName := ⟨RX9, "clique", "()I"⟩
abbrev cX9_inferred : ByteArray := prog_1_method_30_code
def yX9_inferred : MethodName := ⟨RX9, "inferred", "(III)I"⟩
abbrev cX9_cone : ByteArray := prog_1_method_31_code
def yX9_cone : MethodName := ⟨RX9, "cone", "(I)I"⟩
abbrev cX9_coneByPaths : ByteArray := prog_1_method_32_code
def yX9_coneByPaths : MethodName := ⟨RX9, "coneByPaths", "(I)I"⟩
abbrev cX9_addresses : ByteArray := prog_1_method_33_code
def yX9_addresses : MethodName := ⟨RX9, "addresses", "(I)I"⟩
abbrev cX9_needHolder : ByteArray := prog_1_method_34_code
def yX9_needHolder : MethodName := ⟨RX9, "needHolder", "(I)V"⟩
abbrev cX9_needNet : ByteArray := prog_1_method_35_code
def yX9_needNet : MethodName := ⟨RX9, "needNet", "(I)V"⟩
abbrev cX9_needObject : ByteArray := prog_1_method_36_code
def yX9_needObject : MethodName := ⟨RX9, "needObject", "(I)V"⟩
abbrev cX9_needRouteThere : ByteArray := prog_1_method_37_code
def yX9_needRouteThere : MethodName := ⟨RX9, "needRouteThere", "(I)V"⟩
abbrev cX9_needRange : ByteArray := prog_1_method_38_code
def yX9_needRange : MethodName := ⟨RX9, "needRange", "(III)V"⟩
abbrev cX9_needBlock : ByteArray := prog_1_method_39_code
def yX9_needBlock : MethodName := ⟨RX9, "needBlock", "(II)V"⟩
abbrev cX9_needRoomForObject : ByteArray := prog_1_method_40_code
def yX9_needRoomForObject : MethodName := ⟨RX9, "needRoomForObject", "()V"⟩
abbrev cX9_keep : ByteArray := prog_1_method_41_code
def yX9_keep : MethodName := ⟨RX9, "keep", "(I)I"⟩
abbrev cX9_putSignature : ByteArray := prog_1_method_42_code
def yX9_putSignature : MethodName := ⟨RX9, "putSignature", "(I)I"⟩
abbrev cX9_readVouchers : ByteArray := prog_1_method_43_code
def yX9_readVouchers : MethodName := ⟨RX9, "readVouchers", "()V"⟩
abbrev cX9_isIn : ByteArray := prog_1_method_44_code
def yX9_isIn : MethodName := ⟨RX9, "isIn", "(II)Z"⟩
def RX10 : String := "PathwardenModel"
def TX10 : u_T := fun k => match k with
  | 0 => ("PathwardenModel", "thrown", "I", false)
  | 1 => ("PathwardenModel", "today", "I", false)
  | 2 => ("PathwardenModel", "parent", "[I", true)
  | 3 => ("PathwardenModel", "key", "[I", true)
  | 4 => ("PathwardenModel", "fresh", "[I", true)
  | 5 => ("PathwardenModel", "holders", "I", false)
  | 6 => ("PathwardenModel", "owner", "[I", true)
  | 7 => ("PathwardenModel", "kind", "[I", true)
  | 8 => ("PathwardenModel", "issuer", "[I", true)
  | 9 => ("PathwardenModel", "whom", "[I", true)
  | 10 => ("PathwardenModel", "value", "[I", true)
  | 11 => ("PathwardenModel", "bits", "[I", true)
  | 12 => ("PathwardenModel", "extra", "[I", true)
  | 13 => ("PathwardenModel", "last", "[I", true)
  | 14 => ("PathwardenModel", "signature", "[I", true)
  | 15 => ("PathwardenModel", "isRevoked", "[Z", true)
  | 16 => ("PathwardenModel", "isListed", "[Z", true)
  | 17 => ("PathwardenModel", "objects", "I", false)
  | 18 => ("PathwardenModel", "draft", "[I", true)
  | 19 => ("PathwardenModel", "drafted", "I", false)
  | 20 => ("PathwardenModel", "path", "[I", true)
  | 21 => ("PathwardenModel", "size", "[I", true)
  | 22 => ("PathwardenModel", "routeValue", "[I", true)
  | 23 => ("PathwardenModel", "routeBits", "[I", true)
  | 24 => ("PathwardenModel", "isThere", "[Z", true)
  | 25 => ("PathwardenModel", "routes", "I", false)
  | 26 => ("PathwardenModel", "ties", "[I", true)
  | 27 => ("PathwardenModel", "verdict", "[I", true)
  | 28 => ("PathwardenModel", "vouched", "[I", true)
  | 29 => ("PathwardenModel", "isVouching", "[Z", true)
  | 30 => ("PathwardenModel", "trial", "[I", true)
  | 31 => ("PathwardenModel", "near", "[I", true)
  | 32 => ("PathwardenModel", "relation", "[I", true)
  | 33 => ("PathwardenModel", "votes", "[I", true)
  | 34 => ("PathwardenModel", "rank", "[I", true)
  | 35 => ("PathwardenModel", "clique", "I", false)
  | _ => ("PathwardenModel", "isIn", "[Z", true)
def tyX10 : Nat → FieldType := fun k => match k with
  | 0 => .int
  | 1 => .int
  | 2 => .array .int
  | 3 => .array .int
  | 4 => .array .int
  | 5 => .int
  | 6 => .array .int
  | 7 => .array .int
  | 8 => .array .int
  | 9 => .array .int
  | 10 => .array .int
  | 11 => .array .int
  | 12 => .array .int
  | 13 => .array .int
  | 14 => .array .int
  | 15 => .array .boolean
  | 16 => .array .boolean
  | 17 => .int
  | 18 => .array .int
  | 19 => .int
  | 20 => .array .int
  | 21 => .array .int
  | 22 => .array .int
  | 23 => .array .int
  | 24 => .array .boolean
  | 25 => .int
  | 26 => .array .int
  | 27 => .array .int
  | 28 => .array .int
  | 29 => .array .boolean
  | 30 => .array .int
  | 31 => .array .int
  | 32 => .array .int
  | 33 => .array .int
  | 34 => .array .int
  | 35 => .int
  | _ => .array .boolean
theorem nmX10 : ∀ a, a < 37 → ∀ b, b < 37 → a ≠ b → (TX10 a).2.1 ≠ (TX10 b).2.1 := by decide +kernel
theorem tyX10_ok : ∀ k, k < 37 → parseFieldDescriptor (TX10 k).2.2.1 = some (tyX10 k) := by decide +kernel
abbrev cX10_init : ByteArray := prog_12_method_1_code
def yX10_init : MethodName := ⟨RX10, "<init>", "()V"⟩
abbrev cX10_thrown : ByteArray := prog_12_method_2_code
def yX10_thrown : MethodName := ⟨RX10, "thrown", "()I"⟩
abbrev cX10_isFine : ByteArray := prog_12_method_3_code
def yX10_isFine : MethodName := ⟨RX10, "isFine", "(I)Z"⟩
abbrev cX10_isBetween : ByteArray := prog_12_method_4_code
def yX10_isBetween : MethodName := ⟨RX10, "isBetween", "(III)Z"⟩
abbrev cX10_isHolder : ByteArray := prog_12_method_5_code
def yX10_isHolder : MethodName := ⟨RX10, "isHolder", "(I)Z"⟩
abbrev cX10_isNet : ByteArray := prog_12_method_6_code
def yX10_isNet : MethodName := ⟨RX10, "isNet", "(I)Z"⟩
abbrev cX10_isObject : ByteArray := prog_12_method_7_code
def yX10_isObject : MethodName := ⟨RX10, "isObject", "(I)Z"⟩
abbrev cX10_isBlock : ByteArray := prog_12_method_8_code
def yX10_isBlock : MethodName := ⟨RX10, "isBlock", "(II)Z"⟩
abbrev cX10_lies : ByteArray := prog_12_method_9_code
def yX10_lies : MethodName := ⟨RX10, "lies", "(IIII)Z"⟩
abbrev cX10_holder : ByteArray := prog_12_method_10_code
def yX10_holder : MethodName := ⟨RX10, "holder", "(I)I"⟩
abbrev cX10_belong : ByteArray := prog_12_method_11_code
def yX10_belong : MethodName := ⟨RX10, "belong", "(II)I"⟩
abbrev cX10_roll : ByteArray := prog_12_method_12_code
def yX10_roll : MethodName := ⟨RX10, "roll", "(I)I"⟩
abbrev cX10_publish : ByteArray := prog_12_method_13_code
def yX10_publish : MethodName := ⟨RX10, "publish", "(II)I"⟩
abbrev cX10_pass : ByteArray := prog_12_method_14_code
def yX10_pass : MethodName := ⟨RX10, "pass", "(I)I"⟩
abbrev cX10_mixes : ByteArray := prog_12_method_15_code
def yX10_mixes : MethodName := ⟨RX10, "mixes", "(II)I"⟩
abbrev cX10_signs : ByteArray := prog_12_method_16_code
def yX10_signs : MethodName := ⟨RX10, "signs", "(I)I"⟩
abbrev cX10_makes : ByteArray := prog_12_method_17_code
def yX10_makes : MethodName := ⟨RX10, "makes", "(IIIIIII)I"⟩
abbrev cX10_areDays : ByteArray := prog_12_method_18_code
def yX10_areDays : MethodName := ⟨RX10, "areDays", "(I)Z"⟩
abbrev cX10_grant : ByteArray := prog_12_method_19_code
def yX10_grant : MethodName := ⟨RX10, "grant", "(IIIII)I"⟩
abbrev cX10_origin : ByteArray := prog_12_method_20_code
def yX10_origin : MethodName := ⟨RX10, "origin", "(IIIIII)I"⟩
abbrev cX10_vouch : ByteArray := prog_12_method_21_code
def yX10_vouch : MethodName := ⟨RX10, "vouch", "(IIII)I"⟩
abbrev cX10_revoke : ByteArray := prog_12_method_22_code
def yX10_revoke : MethodName := ⟨RX10, "revoke", "(I)Z"⟩
abbrev cX10_alter : ByteArray := prog_12_method_23_code
def yX10_alter : MethodName := ⟨RX10, "alter", "(II)I"⟩
abbrev cX10_sign : ByteArray := prog_12_method_24_code
def yX10_sign : MethodName := ⟨RX10, "sign", "(I)I"⟩
abbrev cX10_hop : ByteArray := prog_12_method_25_code
def yX10_hop : MethodName := ⟨RX10, "hop", "(I)I"⟩
abbrev cX10_hear : ByteArray := prog_12_method_26_code
def yX10_hear : MethodName := ⟨RX10, "hear", "(II)I"⟩
abbrev cX10_withdraw : ByteArray := prog_12_method_27_code
def yX10_withdraw : MethodName := ⟨RX10, "withdraw", "(I)I"⟩
abbrev cX10_turned : ByteArray := prog_12_method_28_code
def yX10_turned : MethodName := ⟨RX10, "turned", "(I)I"⟩
abbrev cX10_tie : ByteArray := prog_12_method_29_code
def yX10_tie : MethodName := ⟨RX10, "tie", "(III)I"⟩
abbrev cX10_today : ByteArray := prog_12_method_30_code
def yX10_today : MethodName := ⟨RX10, "today", "()I"⟩
abbrev cX10_objects : ByteArray := prog_12_method_31_code
def yX10_objects : MethodName := ⟨RX10, "objects", "()I"⟩
abbrev cX10_simply : ByteArray := prog_12_method_32_code
def yX10_simply : MethodName := ⟨RX10, "simply", "(I)I"⟩
abbrev cX10_has0 : ByteArray := prog_12_method_33_code
def yX10_has0 : MethodName := ⟨RX10, "has0", "(III)Z"⟩
abbrev cX10_hasAny : ByteArray := prog_12_method_34_code
def yX10_hasAny : MethodName := ⟨RX10, "hasAny", "(I)Z"⟩
abbrev cX10_isOutside : ByteArray := prog_12_method_35_code
def yX10_isOutside : MethodName := ⟨RX10, "isOutside", "(I)Z"⟩
abbrev cX10_judges : ByteArray := prog_12_method_36_code
def yX10_judges : MethodName := ⟨RX10, "judges", "()V"⟩
abbrev cX10_judged : ByteArray := prog_12_method_37_code
def yX10_judged : MethodName := ⟨RX10, "judged", "(I)I"⟩
abbrev cX10_hasNow : ByteArray := prog_12_method_38_code
def yX10_hasNow : MethodName := ⟨RX10, "hasNow", "(III)Z"⟩
abbrev cX10_has : ByteArray := prog_12_method_39_code
def yX10_has : MethodName := ⟨RX10, "has", "(III)Z"⟩
abbrev cX10_hasByChains : ByteArray := prog_12_method_40_code
def yX10_hasByChains : MethodName := ⟨RX10, "hasByChains", "(III)Z"⟩
abbrev cX10_stands : ByteArray := prog_12_method_41_code
def yX10_stands : MethodName := ⟨RX10, "stands", "(III)I"⟩
abbrev cX10_state : ByteArray := prog_12_method_42_code
def yX10_state : MethodName := ⟨RX10, "state", "(III)I"⟩
abbrev cX10_vouches : ByteArray := prog_12_method_43_code
def yX10_vouches : MethodName := ⟨RX10, "vouches", "()V"⟩
abbrev cX10_isFor : ByteArray := prog_12_method_44_code
def yX10_isFor : MethodName := ⟨RX10, "isFor", "(II)Z"⟩
abbrev cX10_denies : ByteArray := prog_12_method_45_code
def yX10_denies : MethodName := ⟨RX10, "denies", "(II)Z"⟩
abbrev cX10_runsRound : ByteArray := prog_12_method_46_code
def yX10_runsRound : MethodName := ⟨RX10, "runsRound", "([III)Z"⟩
abbrev cX10_counts : ByteArray := prog_12_method_47_code
def yX10_counts : MethodName := ⟨RX10, "counts", "([IIIZZ)I"⟩
abbrev cX10_judge : ByteArray := prog_12_method_48_code
def yX10_judge : MethodName := ⟨RX10, "judge", "([IIIZ)I"⟩
abbrev cX10_isRoute : ByteArray := prog_12_method_49_code
def yX10_isRoute : MethodName := ⟨RX10, "isRoute", "(I)Z"⟩
abbrev cX10_routes : ByteArray := prog_12_method_50_code
def yX10_routes : MethodName := ⟨RX10, "routes", "()I"⟩
abbrev cX10_path : ByteArray := prog_12_method_51_code
def yX10_path : MethodName := ⟨RX10, "path", "(IZ)I"⟩
abbrev cX10_leak : ByteArray := prog_12_method_52_code
def yX10_leak : MethodName := ⟨RX10, "leak", "(I)I"⟩
abbrev cX10_refuses : ByteArray := prog_12_method_53_code
def yX10_refuses : MethodName := ⟨RX10, "refuses", "([IIII)Z"⟩
abbrev cX10_stopped : ByteArray := prog_12_method_54_code
def yX10_stopped : MethodName := ⟨RX10, "stopped", "(II)I"⟩
abbrev cX10_isAllowed : ByteArray := prog_12_method_55_code
def yX10_isAllowed : MethodName := ⟨RX10, "isAllowed", "(II)Z"⟩
abbrev cX10_power : ByteArray := prog_12_method_56_code
def yX10_power : MethodName := ⟨RX10, "power", "(I)I"⟩
abbrev cX10_allowed : ByteArray := prog_12_method_57_code
def yX10_allowed : MethodName := ⟨RX10, "allowed", "(II)I"⟩
abbrev cX10_falseAlarms : ByteArray := prog_12_method_58_code
def yX10_falseAlarms : MethodName := ⟨RX10, "falseAlarms", "()I"⟩
abbrev cX10_count : ByteArray := prog_12_method_59_code
def yX10_count : MethodName := ⟨RX10, "count", "(I)I"⟩
abbrev cX10_isUsed : ByteArray := prog_12_method_60_code
def yX10_isUsed : MethodName := ⟨RX10, "isUsed", "(I)Z"⟩
abbrev cX10_nears : ByteArray := prog_12_method_61_code
def yX10_nears : MethodName := ⟨RX10, "nears", "()V"⟩
abbrev cX10_topOf : ByteArray := prog_12_method_62_code
def yX10_topOf : MethodName := ⟨RX10, "topOf", "(I)I"⟩
abbrev cX10_votes : ByteArray := prog_12_method_63_code
def yX10_votes : MethodName := ⟨RX10, "votes", "()V"⟩
abbrev cX10_isInClique : ByteArray := prog_12_method_64_code
def yX10_isInClique : MethodName := ⟨RX10, "isInClique", "(I)Z"⟩
abbrev cX10_relates : ByteArray := prog_12_method_65_code
def yX10_relates : MethodName := ⟨RX10, "relates", "()V"⟩
abbrev cX10_infers : ByteArray := prog_12_method_66_code
def yX10_infers : MethodName := ⟨RX10, "infers", "(I)V"⟩
abbrev cX10_clique : ByteArray := prog_12_method_67_code
def yX10_clique : MethodName := ⟨RX10, "clique", "()I"⟩
abbrev cX10_inferred : ByteArray := prog_12_method_68_code
def yX10_inferred : MethodName := ⟨RX10, "inferred", "(III)I"⟩
abbrev cX10_conesOf : ByteArray := prog_12_method_69_code
def yX10_conesOf : MethodName := ⟨RX10, "conesOf", "(I)I"⟩
abbrev cX10_cone : ByteArray := prog_12_method_70_code
def yX10_cone : MethodName := ⟨RX10, "cone", "(I)I"⟩
abbrev cX10_coneByPaths : ByteArray := prog_12_method_71_code
def yX10_coneByPaths : MethodName := ⟨RX10, "coneByPaths", "(I)I"⟩
abbrev cX10_addresses : ByteArray := prog_12_method_72_code
def yX10_addresses : MethodName := ⟨RX10, "addresses", "(I)I"⟩
def RJ6 : String := "java/lang/Integer"
def TJ6 : u_T := fun k => match k with
  | _ => ("", "", "", false)
def tyJ6 : Nat → FieldType := fun k => match k with
  | _ => .int
theorem nmJ6 : ∀ a, a < 0 → ∀ b, b < 0 → a ≠ b → (TJ6 a).2.1 ≠ (TJ6 b).2.1 := by decide +kernel
theorem tyJ6_ok : ∀ k, k < 0 → parseFieldDescriptor (TJ6 k).2.2.1 = some (tyJ6 k) := by decide +kernel
abbrev cJ6_bitCount_0f7a4 : ByteArray := prog_17_method_49_code
def yJ6_bitCount_0f7a4 : MethodName := ⟨RJ6, "bitCount", "(I)I"⟩
def RJ0 : String := "java/lang/String"
def TJ0 : u_T := fun k => match k with
  | _ => ("", "", "", false)
def tyJ0 : Nat → FieldType := fun k => match k with
  | _ => .int
theorem nmJ0 : ∀ a, a < 0 → ∀ b, b < 0 → a ≠ b → (TJ0 a).2.1 ≠ (TJ0 b).2.1 := by decide +kernel
theorem tyJ0_ok : ∀ k, k < 0 → parseFieldDescriptor (TJ0 k).2.2.1 = some (tyJ0 k) := by decide +kernel
def RL : String := "PathwardenLaw"
abbrev cL_holder : ByteArray := method_3_code
def yL_holder : MethodName := ⟨RL, "holder", "(LPathwarden;I[J)I"⟩
abbrev cL_belong : ByteArray := method_4_code
def yL_belong : MethodName := ⟨RL, "belong", "(LPathwarden;II[J)I"⟩
abbrev cL_roll : ByteArray := method_5_code
def yL_roll : MethodName := ⟨RL, "roll", "(LPathwarden;I[J)I"⟩
abbrev cL_publish : ByteArray := method_6_code
def yL_publish : MethodName := ⟨RL, "publish", "(LPathwarden;II[J)I"⟩
abbrev cL_pass : ByteArray := method_7_code
def yL_pass : MethodName := ⟨RL, "pass", "(LPathwarden;I[J)I"⟩
abbrev cL_grant : ByteArray := method_8_code
def yL_grant : MethodName := ⟨RL, "grant", "(LPathwarden;IIIII[J)I"⟩
abbrev cL_origin : ByteArray := method_9_code
def yL_origin : MethodName := ⟨RL, "origin", "(LPathwarden;IIIIII[J)I"⟩
abbrev cL_vouch : ByteArray := method_10_code
def yL_vouch : MethodName := ⟨RL, "vouch", "(LPathwarden;IIII[J)I"⟩
abbrev cL_revoke : ByteArray := method_11_code
def yL_revoke : MethodName := ⟨RL, "revoke", "(LPathwarden;I[J)I"⟩
abbrev cL_alter : ByteArray := method_12_code
def yL_alter : MethodName := ⟨RL, "alter", "(LPathwarden;II[J)I"⟩
abbrev cL_sign : ByteArray := method_13_code
def yL_sign : MethodName := ⟨RL, "sign", "(LPathwarden;I[J)I"⟩
abbrev cL_hop : ByteArray := method_14_code
def yL_hop : MethodName := ⟨RL, "hop", "(LPathwarden;I[J)I"⟩
abbrev cL_hear : ByteArray := method_15_code
def yL_hear : MethodName := ⟨RL, "hear", "(LPathwarden;II[J)I"⟩
abbrev cL_withdraw : ByteArray := method_16_code
def yL_withdraw : MethodName := ⟨RL, "withdraw", "(LPathwarden;I[J)I"⟩
abbrev cL_tie : ByteArray := method_17_code
def yL_tie : MethodName := ⟨RL, "tie", "(LPathwarden;III[J)I"⟩
abbrev cL_judged : ByteArray := method_18_code
def yL_judged : MethodName := ⟨RL, "judged", "(LPathwarden;I[J)I"⟩
abbrev cL_has : ByteArray := method_19_code
def yL_has : MethodName := ⟨RL, "has", "(LPathwarden;III[J)I"⟩
abbrev cL_hasByChains : ByteArray := method_20_code
def yL_hasByChains : MethodName := ⟨RL, "hasByChains", "(LPathwarden;III[J)I"⟩
abbrev cL_state : ByteArray := method_21_code
def yL_state : MethodName := ⟨RL, "state", "(LPathwarden;III[J)I"⟩
abbrev cL_path : ByteArray := method_22_code
def yL_path : MethodName := ⟨RL, "path", "(LPathwarden;IZ[J)I"⟩
abbrev cL_leak : ByteArray := method_23_code
def yL_leak : MethodName := ⟨RL, "leak", "(LPathwarden;I[J)I"⟩
abbrev cL_stopped : ByteArray := method_24_code
def yL_stopped : MethodName := ⟨RL, "stopped", "(LPathwarden;II[J)I"⟩
abbrev cL_allowed : ByteArray := method_25_code
def yL_allowed : MethodName := ⟨RL, "allowed", "(LPathwarden;II[J)I"⟩
abbrev cL_inferred : ByteArray := method_26_code
def yL_inferred : MethodName := ⟨RL, "inferred", "(LPathwarden;III[J)I"⟩
abbrev cL_cone : ByteArray := method_27_code
def yL_cone : MethodName := ⟨RL, "cone", "(LPathwarden;I[J)I"⟩
abbrev cL_coneByPaths : ByteArray := method_28_code
def yL_coneByPaths : MethodName := ⟨RL, "coneByPaths", "(LPathwarden;I[J)I"⟩
abbrev cL_addresses : ByteArray := method_29_code
def yL_addresses : MethodName := ⟨RL, "addresses", "(LPathwarden;I[J)I"⟩
abbrev cL_law : ByteArray := code
def yL_law : MethodName := ⟨RL, "law", "([I)Z"⟩
abbrev vwCl : List vw_C := [(RX0, TX0, 3), (RX2, TX2, 4), (RX3, TX3, 3), (RX4, TX4, 6), (RX5, TX5, 5), (RX6, TX6, 9), (RX7, TX7, 11), (RX8, TX8, 1), (RX9, TX9, 8), (RX10, TX10, 37)]
end
section
theorem dX0_init_0 : decode cX0_init 0 = .ok (.aload_n 0, 1) := by decide +kernel
theorem dX0_init_1 : decode cX0_init 1 = .ok (.invokespecial 3, 3) := by decide +kernel
theorem dX0_init_4 : decode cX0_init 4 = .ok (.aload_n 0, 1) := by decide +kernel
theorem dX0_init_5 : decode cX0_init 5 = .ok (.iconst 5, 1) := by decide +kernel
theorem dX0_init_6 : decode cX0_init 6 = .ok (.newarray .int, 2) := by decide +kernel
theorem dX0_init_8 : decode cX0_init 8 = .ok (.putfield 9, 3) := by decide +kernel
theorem dX0_init_11 : decode cX0_init 11 = .ok (.aload_n 0, 1) := by decide +kernel
theorem dX0_init_12 : decode cX0_init 12 = .ok (.aload_n 1, 1) := by decide +kernel
theorem dX0_init_13 : decode cX0_init 13 = .ok (.putfield 15, 3) := by decide +kernel
theorem dX0_init_16 : decode cX0_init 16 = .ok (.aload_n 0, 1) := by decide +kernel
theorem dX0_init_17 : decode cX0_init 17 = .ok (.aload_n 2, 1) := by decide +kernel
theorem dX0_init_18 : decode cX0_init 18 = .ok (.putfield 19, 3) := by decide +kernel
theorem dX0_init_21 : decode cX0_init 21 = .ok (.return_, 1) := by decide +kernel
theorem dX0_countTo_0 : decode cX0_countTo 0 = .ok (.aload_n 0, 1) := by decide +kernel
theorem dX0_countTo_1 : decode cX0_countTo 1 = .ok (.getfield 9, 3) := by decide +kernel
theorem dX0_countTo_4 : decode cX0_countTo 4 = .ok (.iconst 0, 1) := by decide +kernel
theorem dX0_countTo_5 : decode cX0_countTo 5 = .ok (.iload_n 1, 1) := by decide +kernel
theorem dX0_countTo_6 : decode cX0_countTo 6 = .ok (.iastore, 1) := by decide +kernel
theorem dX0_countTo_7 : decode cX0_countTo 7 = .ok (.aload_n 0, 1) := by decide +kernel
theorem dX0_countTo_8 : decode cX0_countTo 8 = .ok (.iconst 1, 1) := by decide +kernel
theorem dX0_countTo_9 : decode cX0_countTo 9 = .ok (.iconst 1, 1) := by decide +kernel
theorem dX0_countTo_10 : decode cX0_countTo 10 = .ok (.iload_n 1, 1) := by decide +kernel
theorem dX0_countTo_11 : decode cX0_countTo 11 = .ok (.ishl, 1) := by decide +kernel
theorem dX0_countTo_12 : decode cX0_countTo 12 = .ok (.iload_n 2, 1) := by decide +kernel
theorem dX0_countTo_13 : decode cX0_countTo 13 = .ok (.invokevirtual 23, 3) := by decide +kernel
theorem dX0_countTo_16 : decode cX0_countTo 16 = .ok (.ireturn, 1) := by decide +kernel
theorem dX0_countRefused_0 : decode cX0_countRefused 0 = .ok (.iconst 0, 1) := by decide +kernel
theorem dX0_countRefused_1 : decode cX0_countRefused 1 = .ok (.istore_n 1, 1) := by decide +kernel
theorem dX0_countRefused_2 : decode cX0_countRefused 2 = .ok (.iconst 0, 1) := by decide +kernel
theorem dX0_countRefused_3 : decode cX0_countRefused 3 = .ok (.istore_n 2, 1) := by decide +kernel
theorem dX0_countRefused_4 : decode cX0_countRefused 4 = .ok (.iload_n 2, 1) := by decide +kernel
theorem dX0_countRefused_5 : decode cX0_countRefused 5 = .ok (.bipush 10, 2) := by decide +kernel
theorem dX0_countRefused_7 : decode cX0_countRefused 7 = .ok (.if_icmp .ge 28, 3) := by decide +kernel
theorem dX0_countRefused_10 : decode cX0_countRefused 10 = .ok (.aload_n 0, 1) := by decide +kernel
theorem dX0_countRefused_11 : decode cX0_countRefused 11 = .ok (.getfield 9, 3) := by decide +kernel
theorem dX0_countRefused_14 : decode cX0_countRefused 14 = .ok (.iconst 0, 1) := by decide +kernel
theorem dX0_countRefused_15 : decode cX0_countRefused 15 = .ok (.iload_n 2, 1) := by decide +kernel
theorem dX0_countRefused_16 : decode cX0_countRefused 16 = .ok (.iastore, 1) := by decide +kernel
theorem dX0_countRefused_17 : decode cX0_countRefused 17 = .ok (.iload_n 1, 1) := by decide +kernel
theorem dX0_countRefused_18 : decode cX0_countRefused 18 = .ok (.aload_n 0, 1) := by decide +kernel
theorem dX0_countRefused_19 : decode cX0_countRefused 19 = .ok (.iconst 1, 1) := by decide +kernel
theorem dX0_countRefused_20 : decode cX0_countRefused 20 = .ok (.iconst 1, 1) := by decide +kernel
theorem dX0_countRefused_21 : decode cX0_countRefused 21 = .ok (.iload_n 2, 1) := by decide +kernel
theorem dX0_countRefused_22 : decode cX0_countRefused 22 = .ok (.ishl, 1) := by decide +kernel
theorem dX0_countRefused_23 : decode cX0_countRefused 23 = .ok (.iconst (-1), 1) := by decide +kernel
theorem dX0_countRefused_24 : decode cX0_countRefused 24 = .ok (.invokevirtual 23, 3) := by decide +kernel
theorem dX0_countRefused_27 : decode cX0_countRefused 27 = .ok (.iadd, 1) := by decide +kernel
theorem dX0_countRefused_28 : decode cX0_countRefused 28 = .ok (.istore_n 1, 1) := by decide +kernel
theorem dX0_countRefused_29 : decode cX0_countRefused 29 = .ok (.iinc 2 1, 3) := by decide +kernel
theorem dX0_countRefused_32 : decode cX0_countRefused 32 = .ok (.goto (-28), 3) := by decide +kernel
theorem dX0_countRefused_35 : decode cX0_countRefused 35 = .ok (.iload_n 1, 1) := by decide +kernel
theorem dX0_countRefused_36 : decode cX0_countRefused 36 = .ok (.ireturn, 1) := by decide +kernel
theorem dX0_countOnwards_0 : decode cX0_countOnwards 0 = .ok (.iload_n 1, 1) := by decide +kernel
theorem dX0_countOnwards_1 : decode cX0_countOnwards 1 = .ok (.iconst 5, 1) := by decide +kernel
theorem dX0_countOnwards_2 : decode cX0_countOnwards 2 = .ok (.if_icmp .lt 5, 3) := by decide +kernel
theorem dX0_countOnwards_5 : decode cX0_countOnwards 5 = .ok (.iconst 0, 1) := by decide +kernel
theorem dX0_countOnwards_6 : decode cX0_countOnwards 6 = .ok (.ireturn, 1) := by decide +kernel
theorem dX0_countOnwards_7 : decode cX0_countOnwards 7 = .ok (.iconst 0, 1) := by decide +kernel
theorem dX0_countOnwards_8 : decode cX0_countOnwards 8 = .ok (.istore 4, 2) := by decide +kernel
theorem dX0_countOnwards_10 : decode cX0_countOnwards 10 = .ok (.iconst 0, 1) := by decide +kernel
theorem dX0_countOnwards_11 : decode cX0_countOnwards 11 = .ok (.istore 5, 2) := by decide +kernel
theorem dX0_countOnwards_13 : decode cX0_countOnwards 13 = .ok (.iload 5, 2) := by decide +kernel
theorem dX0_countOnwards_15 : decode cX0_countOnwards 15 = .ok (.bipush 10, 2) := by decide +kernel
theorem dX0_countOnwards_17 : decode cX0_countOnwards 17 = .ok (.if_icmp .ge 90, 3) := by decide +kernel
theorem dX0_countOnwards_20 : decode cX0_countOnwards 20 = .ok (.iload_n 2, 1) := by decide +kernel
theorem dX0_countOnwards_21 : decode cX0_countOnwards 21 = .ok (.iload 5, 2) := by decide +kernel
theorem dX0_countOnwards_23 : decode cX0_countOnwards 23 = .ok (.invokestatic 27, 3) := by decide +kernel
theorem dX0_countOnwards_26 : decode cX0_countOnwards 26 = .ok (.ifCond .ne 75, 3) := by decide +kernel
theorem dX0_countOnwards_29 : decode cX0_countOnwards 29 = .ok (.aload_n 0, 1) := by decide +kernel
theorem dX0_countOnwards_30 : decode cX0_countOnwards 30 = .ok (.iload_n 1, 1) := by decide +kernel
theorem dX0_countOnwards_31 : decode cX0_countOnwards 31 = .ok (.iload 5, 2) := by decide +kernel
theorem dX0_countOnwards_33 : decode cX0_countOnwards 33 = .ok (.invokevirtual 31, 3) := by decide +kernel
theorem dX0_countOnwards_36 : decode cX0_countOnwards 36 = .ok (.ifCond .ne 6, 3) := by decide +kernel
theorem dX0_countOnwards_39 : decode cX0_countOnwards 39 = .ok (.goto 62, 3) := by decide +kernel
theorem dX0_countOnwards_42 : decode cX0_countOnwards 42 = .ok (.aload_n 0, 1) := by decide +kernel
theorem dX0_countOnwards_43 : decode cX0_countOnwards 43 = .ok (.getfield 9, 3) := by decide +kernel
theorem dX0_countOnwards_46 : decode cX0_countOnwards 46 = .ok (.iload_n 1, 1) := by decide +kernel
theorem dX0_countOnwards_47 : decode cX0_countOnwards 47 = .ok (.iload 5, 2) := by decide +kernel
theorem dX0_countOnwards_49 : decode cX0_countOnwards 49 = .ok (.iastore, 1) := by decide +kernel
theorem dX0_countOnwards_50 : decode cX0_countOnwards 50 = .ok (.iload_n 3, 1) := by decide +kernel
theorem dX0_countOnwards_51 : decode cX0_countOnwards 51 = .ok (.iconst (-1), 1) := by decide +kernel
theorem dX0_countOnwards_52 : decode cX0_countOnwards 52 = .ok (.if_icmp .ne 21, 3) := by decide +kernel
theorem dX0_countOnwards_55 : decode cX0_countOnwards 55 = .ok (.aload_n 0, 1) := by decide +kernel
theorem dX0_countOnwards_56 : decode cX0_countOnwards 56 = .ok (.getfield 19, 3) := by decide +kernel
theorem dX0_countOnwards_59 : decode cX0_countOnwards 59 = .ok (.aload_n 0, 1) := by decide +kernel
theorem dX0_countOnwards_60 : decode cX0_countOnwards 60 = .ok (.getfield 9, 3) := by decide +kernel
theorem dX0_countOnwards_63 : decode cX0_countOnwards 63 = .ok (.iload_n 1, 1) := by decide +kernel
theorem dX0_countOnwards_64 : decode cX0_countOnwards 64 = .ok (.invokevirtual 34, 3) := by decide +kernel
theorem dX0_countOnwards_67 : decode cX0_countOnwards 67 = .ok (.ifCond .eq 15, 3) := by decide +kernel
theorem dX0_countOnwards_70 : decode cX0_countOnwards 70 = .ok (.goto 9, 3) := by decide +kernel
theorem dX0_countOnwards_73 : decode cX0_countOnwards 73 = .ok (.iload 5, 2) := by decide +kernel
theorem dX0_countOnwards_75 : decode cX0_countOnwards 75 = .ok (.iload_n 3, 1) := by decide +kernel
theorem dX0_countOnwards_76 : decode cX0_countOnwards 76 = .ok (.if_icmp .ne 6, 3) := by decide +kernel
theorem dX0_countOnwards_79 : decode cX0_countOnwards 79 = .ok (.iinc 4 1, 3) := by decide +kernel
theorem dX0_countOnwards_82 : decode cX0_countOnwards 82 = .ok (.iload 4, 2) := by decide +kernel
theorem dX0_countOnwards_84 : decode cX0_countOnwards 84 = .ok (.aload_n 0, 1) := by decide +kernel
theorem dX0_countOnwards_85 : decode cX0_countOnwards 85 = .ok (.iload_n 1, 1) := by decide +kernel
theorem dX0_countOnwards_86 : decode cX0_countOnwards 86 = .ok (.iconst 1, 1) := by decide +kernel
theorem dX0_countOnwards_87 : decode cX0_countOnwards 87 = .ok (.iadd, 1) := by decide +kernel
theorem dX0_countOnwards_88 : decode cX0_countOnwards 88 = .ok (.iload_n 2, 1) := by decide +kernel
theorem dX0_countOnwards_89 : decode cX0_countOnwards 89 = .ok (.iconst 1, 1) := by decide +kernel
theorem dX0_countOnwards_90 : decode cX0_countOnwards 90 = .ok (.iload 5, 2) := by decide +kernel
theorem dX0_countOnwards_92 : decode cX0_countOnwards 92 = .ok (.ishl, 1) := by decide +kernel
theorem dX0_countOnwards_93 : decode cX0_countOnwards 93 = .ok (.ior, 1) := by decide +kernel
theorem dX0_countOnwards_94 : decode cX0_countOnwards 94 = .ok (.iload_n 3, 1) := by decide +kernel
theorem dX0_countOnwards_95 : decode cX0_countOnwards 95 = .ok (.invokevirtual 23, 3) := by decide +kernel
theorem dX0_countOnwards_98 : decode cX0_countOnwards 98 = .ok (.iadd, 1) := by decide +kernel
theorem dX0_countOnwards_99 : decode cX0_countOnwards 99 = .ok (.istore 4, 2) := by decide +kernel
theorem dX0_countOnwards_101 : decode cX0_countOnwards 101 = .ok (.iinc 5 1, 3) := by decide +kernel
theorem dX0_countOnwards_104 : decode cX0_countOnwards 104 = .ok (.goto (-91), 3) := by decide +kernel
theorem dX0_countOnwards_107 : decode cX0_countOnwards 107 = .ok (.iload 4, 2) := by decide +kernel
theorem dX0_countOnwards_109 : decode cX0_countOnwards 109 = .ok (.ireturn, 1) := by decide +kernel
theorem dX0_mayGoOn_0 : decode cX0_mayGoOn 0 = .ok (.aload_n 0, 1) := by decide +kernel
theorem dX0_mayGoOn_1 : decode cX0_mayGoOn 1 = .ok (.getfield 9, 3) := by decide +kernel
theorem dX0_mayGoOn_4 : decode cX0_mayGoOn 4 = .ok (.iload_n 1, 1) := by decide +kernel
theorem dX0_mayGoOn_5 : decode cX0_mayGoOn 5 = .ok (.iconst 1, 1) := by decide +kernel
theorem dX0_mayGoOn_6 : decode cX0_mayGoOn 6 = .ok (.isub, 1) := by decide +kernel
theorem dX0_mayGoOn_7 : decode cX0_mayGoOn 7 = .ok (.iaload, 1) := by decide +kernel
theorem dX0_mayGoOn_8 : decode cX0_mayGoOn 8 = .ok (.istore_n 3, 1) := by decide +kernel
theorem dX0_mayGoOn_9 : decode cX0_mayGoOn 9 = .ok (.aload_n 0, 1) := by decide +kernel
theorem dX0_mayGoOn_10 : decode cX0_mayGoOn 10 = .ok (.getfield 15, 3) := by decide +kernel
theorem dX0_mayGoOn_13 : decode cX0_mayGoOn 13 = .ok (.iload_n 3, 1) := by decide +kernel
theorem dX0_mayGoOn_14 : decode cX0_mayGoOn 14 = .ok (.iload_n 2, 1) := by decide +kernel
theorem dX0_mayGoOn_15 : decode cX0_mayGoOn 15 = .ok (.invokevirtual 40, 3) := by decide +kernel
theorem dX0_mayGoOn_18 : decode cX0_mayGoOn 18 = .ok (.ifCond .eq 32, 3) := by decide +kernel
theorem dX0_mayGoOn_21 : decode cX0_mayGoOn 21 = .ok (.iload_n 1, 1) := by decide +kernel
theorem dX0_mayGoOn_22 : decode cX0_mayGoOn 22 = .ok (.iconst 1, 1) := by decide +kernel
theorem dX0_mayGoOn_23 : decode cX0_mayGoOn 23 = .ok (.if_icmp .eq 23, 3) := by decide +kernel
theorem dX0_mayGoOn_26 : decode cX0_mayGoOn 26 = .ok (.aload_n 0, 1) := by decide +kernel
theorem dX0_mayGoOn_27 : decode cX0_mayGoOn 27 = .ok (.getfield 15, 3) := by decide +kernel
theorem dX0_mayGoOn_30 : decode cX0_mayGoOn 30 = .ok (.iload_n 3, 1) := by decide +kernel
theorem dX0_mayGoOn_31 : decode cX0_mayGoOn 31 = .ok (.aload_n 0, 1) := by decide +kernel
theorem dX0_mayGoOn_32 : decode cX0_mayGoOn 32 = .ok (.getfield 9, 3) := by decide +kernel
theorem dX0_mayGoOn_35 : decode cX0_mayGoOn 35 = .ok (.iload_n 1, 1) := by decide +kernel
theorem dX0_mayGoOn_36 : decode cX0_mayGoOn 36 = .ok (.iconst 2, 1) := by decide +kernel
theorem dX0_mayGoOn_37 : decode cX0_mayGoOn 37 = .ok (.isub, 1) := by decide +kernel
theorem dX0_mayGoOn_38 : decode cX0_mayGoOn 38 = .ok (.iaload, 1) := by decide +kernel
theorem dX0_mayGoOn_39 : decode cX0_mayGoOn 39 = .ok (.iload_n 2, 1) := by decide +kernel
theorem dX0_mayGoOn_40 : decode cX0_mayGoOn 40 = .ok (.invokevirtual 45, 3) := by decide +kernel
theorem dX0_mayGoOn_43 : decode cX0_mayGoOn 43 = .ok (.ifCond .eq 7, 3) := by decide +kernel
theorem dX0_mayGoOn_46 : decode cX0_mayGoOn 46 = .ok (.iconst 1, 1) := by decide +kernel
theorem dX0_mayGoOn_47 : decode cX0_mayGoOn 47 = .ok (.goto 4, 3) := by decide +kernel
theorem dX0_mayGoOn_50 : decode cX0_mayGoOn 50 = .ok (.iconst 0, 1) := by decide +kernel
theorem dX0_mayGoOn_51 : decode cX0_mayGoOn 51 = .ok (.ireturn, 1) := by decide +kernel
theorem dX1_firstBits_0 : decode cX1_firstBits 0 = .ok (.iload_n 0, 1) := by decide +kernel
theorem dX1_firstBits_1 : decode cX1_firstBits 1 = .ok (.bipush 8, 2) := by decide +kernel
theorem dX1_firstBits_3 : decode cX1_firstBits 3 = .ok (.iload_n 1, 1) := by decide +kernel
theorem dX1_firstBits_4 : decode cX1_firstBits 4 = .ok (.isub, 1) := by decide +kernel
theorem dX1_firstBits_5 : decode cX1_firstBits 5 = .ok (.ishr, 1) := by decide +kernel
theorem dX1_firstBits_6 : decode cX1_firstBits 6 = .ok (.ireturn, 1) := by decide +kernel
theorem dX1_liesIn_0 : decode cX1_liesIn 0 = .ok (.iload_n 1, 1) := by decide +kernel
theorem dX1_liesIn_1 : decode cX1_liesIn 1 = .ok (.iload_n 3, 1) := by decide +kernel
theorem dX1_liesIn_2 : decode cX1_liesIn 2 = .ok (.if_icmp .lt 20, 3) := by decide +kernel
theorem dX1_liesIn_5 : decode cX1_liesIn 5 = .ok (.iload_n 0, 1) := by decide +kernel
theorem dX1_liesIn_6 : decode cX1_liesIn 6 = .ok (.iload_n 3, 1) := by decide +kernel
theorem dX1_liesIn_7 : decode cX1_liesIn 7 = .ok (.invokestatic 9, 3) := by decide +kernel
theorem dX1_liesIn_10 : decode cX1_liesIn 10 = .ok (.iload_n 2, 1) := by decide +kernel
theorem dX1_liesIn_11 : decode cX1_liesIn 11 = .ok (.iload_n 3, 1) := by decide +kernel
theorem dX1_liesIn_12 : decode cX1_liesIn 12 = .ok (.invokestatic 9, 3) := by decide +kernel
theorem dX1_liesIn_15 : decode cX1_liesIn 15 = .ok (.if_icmp .ne 7, 3) := by decide +kernel
theorem dX1_liesIn_18 : decode cX1_liesIn 18 = .ok (.iconst 1, 1) := by decide +kernel
theorem dX1_liesIn_19 : decode cX1_liesIn 19 = .ok (.goto 4, 3) := by decide +kernel
theorem dX1_liesIn_22 : decode cX1_liesIn 22 = .ok (.iconst 0, 1) := by decide +kernel
theorem dX1_liesIn_23 : decode cX1_liesIn 23 = .ok (.ireturn, 1) := by decide +kernel
theorem dX2_init_0 : decode cX2_init 0 = .ok (.aload_n 0, 1) := by decide +kernel
theorem dX2_init_1 : decode cX2_init 1 = .ok (.invokespecial 3, 3) := by decide +kernel
theorem dX2_init_4 : decode cX2_init 4 = .ok (.aload_n 0, 1) := by decide +kernel
theorem dX2_init_5 : decode cX2_init 5 = .ok (.bipush 50, 2) := by decide +kernel
theorem dX2_init_7 : decode cX2_init 7 = .ok (.newarray .int, 2) := by decide +kernel
theorem dX2_init_9 : decode cX2_init 9 = .ok (.putfield 9, 3) := by decide +kernel
theorem dX2_init_12 : decode cX2_init 12 = .ok (.aload_n 0, 1) := by decide +kernel
theorem dX2_init_13 : decode cX2_init 13 = .ok (.bipush 50, 2) := by decide +kernel
theorem dX2_init_15 : decode cX2_init 15 = .ok (.newarray .boolean, 2) := by decide +kernel
theorem dX2_init_17 : decode cX2_init 17 = .ok (.putfield 15, 3) := by decide +kernel
theorem dX2_init_20 : decode cX2_init 20 = .ok (.aload_n 0, 1) := by decide +kernel
theorem dX2_init_21 : decode cX2_init 21 = .ok (.aload_n 1, 1) := by decide +kernel
theorem dX2_init_22 : decode cX2_init 22 = .ok (.putfield 19, 3) := by decide +kernel
theorem dX2_init_25 : decode cX2_init 25 = .ok (.aload_n 0, 1) := by decide +kernel
theorem dX2_init_26 : decode cX2_init 26 = .ok (.aload_n 2, 1) := by decide +kernel
theorem dX2_init_27 : decode cX2_init 27 = .ok (.putfield 23, 3) := by decide +kernel
theorem dX2_init_30 : decode cX2_init 30 = .ok (.return_, 1) := by decide +kernel
theorem dX2_judgeAll_0 : decode cX2_judgeAll 0 = .ok (.iconst 0, 1) := by decide +kernel
theorem dX2_judgeAll_1 : decode cX2_judgeAll 1 = .ok (.istore_n 1, 1) := by decide +kernel
theorem dX2_judgeAll_2 : decode cX2_judgeAll 2 = .ok (.iload_n 1, 1) := by decide +kernel
theorem dX2_judgeAll_3 : decode cX2_judgeAll 3 = .ok (.aload_n 0, 1) := by decide +kernel
theorem dX2_judgeAll_4 : decode cX2_judgeAll 4 = .ok (.getfield 19, 3) := by decide +kernel
theorem dX2_judgeAll_7 : decode cX2_judgeAll 7 = .ok (.getfield 27, 3) := by decide +kernel
theorem dX2_judgeAll_10 : decode cX2_judgeAll 10 = .ok (.if_icmp .ge 14, 3) := by decide +kernel
theorem dX2_judgeAll_13 : decode cX2_judgeAll 13 = .ok (.aload_n 0, 1) := by decide +kernel
theorem dX2_judgeAll_14 : decode cX2_judgeAll 14 = .ok (.iload_n 1, 1) := by decide +kernel
theorem dX2_judgeAll_15 : decode cX2_judgeAll 15 = .ok (.invokevirtual 33, 3) := by decide +kernel
theorem dX2_judgeAll_18 : decode cX2_judgeAll 18 = .ok (.iinc 1 1, 3) := by decide +kernel
theorem dX2_judgeAll_21 : decode cX2_judgeAll 21 = .ok (.goto (-19), 3) := by decide +kernel
theorem dX2_judgeAll_24 : decode cX2_judgeAll 24 = .ok (.iconst 0, 1) := by decide +kernel
theorem dX2_judgeAll_25 : decode cX2_judgeAll 25 = .ok (.istore_n 1, 1) := by decide +kernel
theorem dX2_judgeAll_26 : decode cX2_judgeAll 26 = .ok (.iload_n 1, 1) := by decide +kernel
theorem dX2_judgeAll_27 : decode cX2_judgeAll 27 = .ok (.aload_n 0, 1) := by decide +kernel
theorem dX2_judgeAll_28 : decode cX2_judgeAll 28 = .ok (.getfield 23, 3) := by decide +kernel
theorem dX2_judgeAll_31 : decode cX2_judgeAll 31 = .ok (.getfield 37, 3) := by decide +kernel
theorem dX2_judgeAll_34 : decode cX2_judgeAll 34 = .ok (.if_icmp .ge 32, 3) := by decide +kernel
theorem dX2_judgeAll_37 : decode cX2_judgeAll 37 = .ok (.aload_n 0, 1) := by decide +kernel
theorem dX2_judgeAll_38 : decode cX2_judgeAll 38 = .ok (.getfield 23, 3) := by decide +kernel
theorem dX2_judgeAll_41 : decode cX2_judgeAll 41 = .ok (.getfield 40, 3) := by decide +kernel
theorem dX2_judgeAll_44 : decode cX2_judgeAll 44 = .ok (.iload_n 1, 1) := by decide +kernel
theorem dX2_judgeAll_45 : decode cX2_judgeAll 45 = .ok (.iaload, 1) := by decide +kernel
theorem dX2_judgeAll_46 : decode cX2_judgeAll 46 = .ok (.ifCond .eq 14, 3) := by decide +kernel
theorem dX2_judgeAll_49 : decode cX2_judgeAll 49 = .ok (.aload_n 0, 1) := by decide +kernel
theorem dX2_judgeAll_50 : decode cX2_judgeAll 50 = .ok (.getfield 9, 3) := by decide +kernel
theorem dX2_judgeAll_53 : decode cX2_judgeAll 53 = .ok (.iload_n 1, 1) := by decide +kernel
theorem dX2_judgeAll_54 : decode cX2_judgeAll 54 = .ok (.aload_n 0, 1) := by decide +kernel
theorem dX2_judgeAll_55 : decode cX2_judgeAll 55 = .ok (.iload_n 1, 1) := by decide +kernel
theorem dX2_judgeAll_56 : decode cX2_judgeAll 56 = .ok (.invokevirtual 43, 3) := by decide +kernel
theorem dX2_judgeAll_59 : decode cX2_judgeAll 59 = .ok (.iastore, 1) := by decide +kernel
theorem dX2_judgeAll_60 : decode cX2_judgeAll 60 = .ok (.iinc 1 1, 3) := by decide +kernel
theorem dX2_judgeAll_63 : decode cX2_judgeAll 63 = .ok (.goto (-37), 3) := by decide +kernel
theorem dX2_judgeAll_66 : decode cX2_judgeAll 66 = .ok (.return_, 1) := by decide +kernel
theorem dX2_judgeGrantsTo_0 : decode cX2_judgeGrantsTo 0 = .ok (.iconst 0, 1) := by decide +kernel
theorem dX2_judgeGrantsTo_1 : decode cX2_judgeGrantsTo 1 = .ok (.istore_n 2, 1) := by decide +kernel
theorem dX2_judgeGrantsTo_2 : decode cX2_judgeGrantsTo 2 = .ok (.iload_n 2, 1) := by decide +kernel
theorem dX2_judgeGrantsTo_3 : decode cX2_judgeGrantsTo 3 = .ok (.aload_n 0, 1) := by decide +kernel
theorem dX2_judgeGrantsTo_4 : decode cX2_judgeGrantsTo 4 = .ok (.getfield 23, 3) := by decide +kernel
theorem dX2_judgeGrantsTo_7 : decode cX2_judgeGrantsTo 7 = .ok (.getfield 37, 3) := by decide +kernel
theorem dX2_judgeGrantsTo_10 : decode cX2_judgeGrantsTo 10 = .ok (.if_icmp .ge 29, 3) := by decide +kernel
theorem dX2_judgeGrantsTo_13 : decode cX2_judgeGrantsTo 13 = .ok (.aload_n 0, 1) := by decide +kernel
theorem dX2_judgeGrantsTo_14 : decode cX2_judgeGrantsTo 14 = .ok (.iload_n 2, 1) := by decide +kernel
theorem dX2_judgeGrantsTo_15 : decode cX2_judgeGrantsTo 15 = .ok (.iload_n 1, 1) := by decide +kernel
theorem dX2_judgeGrantsTo_16 : decode cX2_judgeGrantsTo 16 = .ok (.invokevirtual 47, 3) := by decide +kernel
theorem dX2_judgeGrantsTo_19 : decode cX2_judgeGrantsTo 19 = .ok (.ifCond .eq 14, 3) := by decide +kernel
theorem dX2_judgeGrantsTo_22 : decode cX2_judgeGrantsTo 22 = .ok (.aload_n 0, 1) := by decide +kernel
theorem dX2_judgeGrantsTo_23 : decode cX2_judgeGrantsTo 23 = .ok (.getfield 9, 3) := by decide +kernel
theorem dX2_judgeGrantsTo_26 : decode cX2_judgeGrantsTo 26 = .ok (.iload_n 2, 1) := by decide +kernel
theorem dX2_judgeGrantsTo_27 : decode cX2_judgeGrantsTo 27 = .ok (.aload_n 0, 1) := by decide +kernel
theorem dX2_judgeGrantsTo_28 : decode cX2_judgeGrantsTo 28 = .ok (.iload_n 2, 1) := by decide +kernel
theorem dX2_judgeGrantsTo_29 : decode cX2_judgeGrantsTo 29 = .ok (.invokevirtual 43, 3) := by decide +kernel
theorem dX2_judgeGrantsTo_32 : decode cX2_judgeGrantsTo 32 = .ok (.iastore, 1) := by decide +kernel
theorem dX2_judgeGrantsTo_33 : decode cX2_judgeGrantsTo 33 = .ok (.iinc 2 1, 3) := by decide +kernel
theorem dX2_judgeGrantsTo_36 : decode cX2_judgeGrantsTo 36 = .ok (.goto (-34), 3) := by decide +kernel
theorem dX2_judgeGrantsTo_39 : decode cX2_judgeGrantsTo 39 = .ok (.return_, 1) := by decide +kernel
theorem dX2_isGrantTo_0 : decode cX2_isGrantTo 0 = .ok (.aload_n 0, 1) := by decide +kernel
theorem dX2_isGrantTo_1 : decode cX2_isGrantTo 1 = .ok (.getfield 23, 3) := by decide +kernel
theorem dX2_isGrantTo_4 : decode cX2_isGrantTo 4 = .ok (.getfield 40, 3) := by decide +kernel
theorem dX2_isGrantTo_7 : decode cX2_isGrantTo 7 = .ok (.iload_n 1, 1) := by decide +kernel
theorem dX2_isGrantTo_8 : decode cX2_isGrantTo 8 = .ok (.iaload, 1) := by decide +kernel
theorem dX2_isGrantTo_9 : decode cX2_isGrantTo 9 = .ok (.ifCond .ne 20, 3) := by decide +kernel
theorem dX2_isGrantTo_12 : decode cX2_isGrantTo 12 = .ok (.aload_n 0, 1) := by decide +kernel
theorem dX2_isGrantTo_13 : decode cX2_isGrantTo 13 = .ok (.getfield 23, 3) := by decide +kernel
theorem dX2_isGrantTo_16 : decode cX2_isGrantTo 16 = .ok (.getfield 51, 3) := by decide +kernel
theorem dX2_isGrantTo_19 : decode cX2_isGrantTo 19 = .ok (.iload_n 1, 1) := by decide +kernel
theorem dX2_isGrantTo_20 : decode cX2_isGrantTo 20 = .ok (.iaload, 1) := by decide +kernel
theorem dX2_isGrantTo_21 : decode cX2_isGrantTo 21 = .ok (.iload_n 2, 1) := by decide +kernel
theorem dX2_isGrantTo_22 : decode cX2_isGrantTo 22 = .ok (.if_icmp .ne 7, 3) := by decide +kernel
theorem dX2_isGrantTo_25 : decode cX2_isGrantTo 25 = .ok (.iconst 1, 1) := by decide +kernel
theorem dX2_isGrantTo_26 : decode cX2_isGrantTo 26 = .ok (.goto 4, 3) := by decide +kernel
theorem dX2_isGrantTo_29 : decode cX2_isGrantTo 29 = .ok (.iconst 0, 1) := by decide +kernel
theorem dX2_isGrantTo_30 : decode cX2_isGrantTo 30 = .ok (.ireturn, 1) := by decide +kernel
theorem dX2_judgeOne_0 : decode cX2_judgeOne 0 = .ok (.aload_n 0, 1) := by decide +kernel
theorem dX2_judgeOne_1 : decode cX2_judgeOne 1 = .ok (.iload_n 1, 1) := by decide +kernel
theorem dX2_judgeOne_2 : decode cX2_judgeOne 2 = .ok (.invokevirtual 54, 3) := by decide +kernel
theorem dX2_judgeOne_5 : decode cX2_judgeOne 5 = .ok (.istore_n 2, 1) := by decide +kernel
theorem dX2_judgeOne_6 : decode cX2_judgeOne 6 = .ok (.iload_n 2, 1) := by decide +kernel
theorem dX2_judgeOne_7 : decode cX2_judgeOne 7 = .ok (.ifCond .eq 5, 3) := by decide +kernel
theorem dX2_judgeOne_10 : decode cX2_judgeOne 10 = .ok (.iload_n 2, 1) := by decide +kernel
theorem dX2_judgeOne_11 : decode cX2_judgeOne 11 = .ok (.ireturn, 1) := by decide +kernel
theorem dX2_judgeOne_12 : decode cX2_judgeOne 12 = .ok (.aload_n 0, 1) := by decide +kernel
theorem dX2_judgeOne_13 : decode cX2_judgeOne 13 = .ok (.iload_n 1, 1) := by decide +kernel
theorem dX2_judgeOne_14 : decode cX2_judgeOne 14 = .ok (.invokevirtual 57, 3) := by decide +kernel
theorem dX2_judgeOne_17 : decode cX2_judgeOne 17 = .ok (.ifCond .eq 7, 3) := by decide +kernel
theorem dX2_judgeOne_20 : decode cX2_judgeOne 20 = .ok (.iconst 5, 1) := by decide +kernel
theorem dX2_judgeOne_21 : decode cX2_judgeOne 21 = .ok (.goto 4, 3) := by decide +kernel
theorem dX2_judgeOne_24 : decode cX2_judgeOne 24 = .ok (.iconst 0, 1) := by decide +kernel
theorem dX2_judgeOne_25 : decode cX2_judgeOne 25 = .ok (.ireturn, 1) := by decide +kernel
theorem dX2_faultOfItsOwn_0 : decode cX2_faultOfItsOwn 0 = .ok (.aload_n 0, 1) := by decide +kernel
theorem dX2_faultOfItsOwn_1 : decode cX2_faultOfItsOwn 1 = .ok (.getfield 23, 3) := by decide +kernel
theorem dX2_faultOfItsOwn_4 : decode cX2_faultOfItsOwn 4 = .ok (.getfield 61, 3) := by decide +kernel
theorem dX2_faultOfItsOwn_7 : decode cX2_faultOfItsOwn 7 = .ok (.iload_n 1, 1) := by decide +kernel
theorem dX2_faultOfItsOwn_8 : decode cX2_faultOfItsOwn 8 = .ok (.iaload, 1) := by decide +kernel
theorem dX2_faultOfItsOwn_9 : decode cX2_faultOfItsOwn 9 = .ok (.istore_n 2, 1) := by decide +kernel
theorem dX2_faultOfItsOwn_10 : decode cX2_faultOfItsOwn 10 = .ok (.aload_n 0, 1) := by decide +kernel
theorem dX2_faultOfItsOwn_11 : decode cX2_faultOfItsOwn 11 = .ok (.getfield 19, 3) := by decide +kernel
theorem dX2_faultOfItsOwn_14 : decode cX2_faultOfItsOwn 14 = .ok (.getfield 64, 3) := by decide +kernel
theorem dX2_faultOfItsOwn_17 : decode cX2_faultOfItsOwn 17 = .ok (.aload_n 0, 1) := by decide +kernel
theorem dX2_faultOfItsOwn_18 : decode cX2_faultOfItsOwn 18 = .ok (.getfield 23, 3) := by decide +kernel
theorem dX2_faultOfItsOwn_21 : decode cX2_faultOfItsOwn 21 = .ok (.getfield 67, 3) := by decide +kernel
theorem dX2_faultOfItsOwn_24 : decode cX2_faultOfItsOwn 24 = .ok (.iload_n 1, 1) := by decide +kernel
theorem dX2_faultOfItsOwn_25 : decode cX2_faultOfItsOwn 25 = .ok (.iaload, 1) := by decide +kernel
theorem dX2_faultOfItsOwn_26 : decode cX2_faultOfItsOwn 26 = .ok (.if_icmp .le 5, 3) := by decide +kernel
theorem dX2_faultOfItsOwn_29 : decode cX2_faultOfItsOwn 29 = .ok (.iconst 1, 1) := by decide +kernel
theorem dX2_faultOfItsOwn_30 : decode cX2_faultOfItsOwn 30 = .ok (.ireturn, 1) := by decide +kernel
theorem dX2_faultOfItsOwn_31 : decode cX2_faultOfItsOwn 31 = .ok (.aload_n 0, 1) := by decide +kernel
theorem dX2_faultOfItsOwn_32 : decode cX2_faultOfItsOwn 32 = .ok (.getfield 23, 3) := by decide +kernel
theorem dX2_faultOfItsOwn_35 : decode cX2_faultOfItsOwn 35 = .ok (.getfield 70, 3) := by decide +kernel
theorem dX2_faultOfItsOwn_38 : decode cX2_faultOfItsOwn 38 = .ok (.iload_n 1, 1) := by decide +kernel
theorem dX2_faultOfItsOwn_39 : decode cX2_faultOfItsOwn 39 = .ok (.baload, 1) := by decide +kernel
theorem dX2_faultOfItsOwn_40 : decode cX2_faultOfItsOwn 40 = .ok (.ifCond .eq 5, 3) := by decide +kernel
theorem dX2_faultOfItsOwn_43 : decode cX2_faultOfItsOwn 43 = .ok (.iconst 2, 1) := by decide +kernel
theorem dX2_faultOfItsOwn_44 : decode cX2_faultOfItsOwn 44 = .ok (.ireturn, 1) := by decide +kernel
theorem dX2_faultOfItsOwn_45 : decode cX2_faultOfItsOwn 45 = .ok (.aload_n 0, 1) := by decide +kernel
theorem dX2_faultOfItsOwn_46 : decode cX2_faultOfItsOwn 46 = .ok (.getfield 19, 3) := by decide +kernel
theorem dX2_faultOfItsOwn_49 : decode cX2_faultOfItsOwn 49 = .ok (.getfield 64, 3) := by decide +kernel
theorem dX2_faultOfItsOwn_52 : decode cX2_faultOfItsOwn 52 = .ok (.aload_n 0, 1) := by decide +kernel
theorem dX2_faultOfItsOwn_53 : decode cX2_faultOfItsOwn 53 = .ok (.getfield 19, 3) := by decide +kernel
theorem dX2_faultOfItsOwn_56 : decode cX2_faultOfItsOwn 56 = .ok (.getfield 73, 3) := by decide +kernel
theorem dX2_faultOfItsOwn_59 : decode cX2_faultOfItsOwn 59 = .ok (.iload_n 2, 1) := by decide +kernel
theorem dX2_faultOfItsOwn_60 : decode cX2_faultOfItsOwn 60 = .ok (.iaload, 1) := by decide +kernel
theorem dX2_faultOfItsOwn_61 : decode cX2_faultOfItsOwn 61 = .ok (.if_icmp .le 5, 3) := by decide +kernel
theorem dX2_faultOfItsOwn_64 : decode cX2_faultOfItsOwn 64 = .ok (.iconst 3, 1) := by decide +kernel
theorem dX2_faultOfItsOwn_65 : decode cX2_faultOfItsOwn 65 = .ok (.ireturn, 1) := by decide +kernel
theorem dX2_faultOfItsOwn_66 : decode cX2_faultOfItsOwn 66 = .ok (.aload_n 0, 1) := by decide +kernel
theorem dX2_faultOfItsOwn_67 : decode cX2_faultOfItsOwn 67 = .ok (.getfield 23, 3) := by decide +kernel
theorem dX2_faultOfItsOwn_70 : decode cX2_faultOfItsOwn 70 = .ok (.getfield 76, 3) := by decide +kernel
theorem dX2_faultOfItsOwn_73 : decode cX2_faultOfItsOwn 73 = .ok (.iload_n 1, 1) := by decide +kernel
theorem dX2_faultOfItsOwn_74 : decode cX2_faultOfItsOwn 74 = .ok (.iaload, 1) := by decide +kernel
theorem dX2_faultOfItsOwn_75 : decode cX2_faultOfItsOwn 75 = .ok (.aload_n 0, 1) := by decide +kernel
theorem dX2_faultOfItsOwn_76 : decode cX2_faultOfItsOwn 76 = .ok (.getfield 23, 3) := by decide +kernel
theorem dX2_faultOfItsOwn_79 : decode cX2_faultOfItsOwn 79 = .ok (.iload_n 1, 1) := by decide +kernel
theorem dX2_faultOfItsOwn_80 : decode cX2_faultOfItsOwn 80 = .ok (.aload_n 0, 1) := by decide +kernel
theorem dX2_faultOfItsOwn_81 : decode cX2_faultOfItsOwn 81 = .ok (.getfield 19, 3) := by decide +kernel
theorem dX2_faultOfItsOwn_84 : decode cX2_faultOfItsOwn 84 = .ok (.getfield 79, 3) := by decide +kernel
theorem dX2_faultOfItsOwn_87 : decode cX2_faultOfItsOwn 87 = .ok (.iload_n 2, 1) := by decide +kernel
theorem dX2_faultOfItsOwn_88 : decode cX2_faultOfItsOwn 88 = .ok (.iaload, 1) := by decide +kernel
theorem dX2_faultOfItsOwn_89 : decode cX2_faultOfItsOwn 89 = .ok (.invokevirtual 82, 3) := by decide +kernel
theorem dX2_faultOfItsOwn_92 : decode cX2_faultOfItsOwn 92 = .ok (.if_icmp .ne 7, 3) := by decide +kernel
theorem dX2_faultOfItsOwn_95 : decode cX2_faultOfItsOwn 95 = .ok (.iconst 0, 1) := by decide +kernel
theorem dX2_faultOfItsOwn_96 : decode cX2_faultOfItsOwn 96 = .ok (.goto 4, 3) := by decide +kernel
theorem dX2_faultOfItsOwn_99 : decode cX2_faultOfItsOwn 99 = .ok (.iconst 4, 1) := by decide +kernel
theorem dX2_faultOfItsOwn_100 : decode cX2_faultOfItsOwn 100 = .ok (.ireturn, 1) := by decide +kernel
theorem dX2_isOutside_0 : decode cX2_isOutside 0 = .ok (.aload_n 0, 1) := by decide +kernel
theorem dX2_isOutside_1 : decode cX2_isOutside 1 = .ok (.getfield 23, 3) := by decide +kernel
theorem dX2_isOutside_4 : decode cX2_isOutside 4 = .ok (.getfield 61, 3) := by decide +kernel
theorem dX2_isOutside_7 : decode cX2_isOutside 7 = .ok (.iload_n 1, 1) := by decide +kernel
theorem dX2_isOutside_8 : decode cX2_isOutside 8 = .ok (.iaload, 1) := by decide +kernel
theorem dX2_isOutside_9 : decode cX2_isOutside 9 = .ok (.istore_n 2, 1) := by decide +kernel
theorem dX2_isOutside_10 : decode cX2_isOutside 10 = .ok (.aload_n 0, 1) := by decide +kernel
theorem dX2_isOutside_11 : decode cX2_isOutside 11 = .ok (.getfield 23, 3) := by decide +kernel
theorem dX2_isOutside_14 : decode cX2_isOutside 14 = .ok (.getfield 51, 3) := by decide +kernel
theorem dX2_isOutside_17 : decode cX2_isOutside 17 = .ok (.iload_n 1, 1) := by decide +kernel
theorem dX2_isOutside_18 : decode cX2_isOutside 18 = .ok (.iaload, 1) := by decide +kernel
theorem dX2_isOutside_19 : decode cX2_isOutside 19 = .ok (.istore_n 3, 1) := by decide +kernel
theorem dX2_isOutside_20 : decode cX2_isOutside 20 = .ok (.aload_n 0, 1) := by decide +kernel
theorem dX2_isOutside_21 : decode cX2_isOutside 21 = .ok (.getfield 23, 3) := by decide +kernel
theorem dX2_isOutside_24 : decode cX2_isOutside 24 = .ok (.getfield 40, 3) := by decide +kernel
theorem dX2_isOutside_27 : decode cX2_isOutside 27 = .ok (.iload_n 1, 1) := by decide +kernel
theorem dX2_isOutside_28 : decode cX2_isOutside 28 = .ok (.iaload, 1) := by decide +kernel
theorem dX2_isOutside_29 : decode cX2_isOutside 29 = .ok (.iconst 2, 1) := by decide +kernel
theorem dX2_isOutside_30 : decode cX2_isOutside 30 = .ok (.if_icmp .ne 30, 3) := by decide +kernel
theorem dX2_isOutside_33 : decode cX2_isOutside 33 = .ok (.aload_n 0, 1) := by decide +kernel
theorem dX2_isOutside_34 : decode cX2_isOutside 34 = .ok (.getfield 19, 3) := by decide +kernel
theorem dX2_isOutside_37 : decode cX2_isOutside 37 = .ok (.getfield 86, 3) := by decide +kernel
theorem dX2_isOutside_40 : decode cX2_isOutside 40 = .ok (.iload_n 3, 1) := by decide +kernel
theorem dX2_isOutside_41 : decode cX2_isOutside 41 = .ok (.iaload, 1) := by decide +kernel
theorem dX2_isOutside_42 : decode cX2_isOutside 42 = .ok (.iload_n 2, 1) := by decide +kernel
theorem dX2_isOutside_43 : decode cX2_isOutside 43 = .ok (.if_icmp .ne 11, 3) := by decide +kernel
theorem dX2_isOutside_46 : decode cX2_isOutside 46 = .ok (.aload_n 0, 1) := by decide +kernel
theorem dX2_isOutside_47 : decode cX2_isOutside 47 = .ok (.iload_n 2, 1) := by decide +kernel
theorem dX2_isOutside_48 : decode cX2_isOutside 48 = .ok (.invokevirtual 89, 3) := by decide +kernel
theorem dX2_isOutside_51 : decode cX2_isOutside 51 = .ok (.ifCond .ne 7, 3) := by decide +kernel
theorem dX2_isOutside_54 : decode cX2_isOutside 54 = .ok (.iconst 1, 1) := by decide +kernel
theorem dX2_isOutside_55 : decode cX2_isOutside 55 = .ok (.goto 4, 3) := by decide +kernel
theorem dX2_isOutside_58 : decode cX2_isOutside 58 = .ok (.iconst 0, 1) := by decide +kernel
theorem dX2_isOutside_59 : decode cX2_isOutside 59 = .ok (.ireturn, 1) := by decide +kernel
theorem dX2_isOutside_60 : decode cX2_isOutside 60 = .ok (.aload_n 0, 1) := by decide +kernel
theorem dX2_isOutside_61 : decode cX2_isOutside 61 = .ok (.getfield 23, 3) := by decide +kernel
theorem dX2_isOutside_64 : decode cX2_isOutside 64 = .ok (.getfield 40, 3) := by decide +kernel
theorem dX2_isOutside_67 : decode cX2_isOutside 67 = .ok (.iload_n 1, 1) := by decide +kernel
theorem dX2_isOutside_68 : decode cX2_isOutside 68 = .ok (.iaload, 1) := by decide +kernel
theorem dX2_isOutside_69 : decode cX2_isOutside 69 = .ok (.ifCond .ne 18, 3) := by decide +kernel
theorem dX2_isOutside_72 : decode cX2_isOutside 72 = .ok (.aload_n 0, 1) := by decide +kernel
theorem dX2_isOutside_73 : decode cX2_isOutside 73 = .ok (.getfield 19, 3) := by decide +kernel
theorem dX2_isOutside_76 : decode cX2_isOutside 76 = .ok (.getfield 92, 3) := by decide +kernel
theorem dX2_isOutside_79 : decode cX2_isOutside 79 = .ok (.iload_n 3, 1) := by decide +kernel
theorem dX2_isOutside_80 : decode cX2_isOutside 80 = .ok (.iaload, 1) := by decide +kernel
theorem dX2_isOutside_81 : decode cX2_isOutside 81 = .ok (.iload_n 2, 1) := by decide +kernel
theorem dX2_isOutside_82 : decode cX2_isOutside 82 = .ok (.if_icmp .eq 5, 3) := by decide +kernel
theorem dX2_isOutside_85 : decode cX2_isOutside 85 = .ok (.iconst 1, 1) := by decide +kernel
theorem dX2_isOutside_86 : decode cX2_isOutside 86 = .ok (.ireturn, 1) := by decide +kernel
theorem dX2_isOutside_87 : decode cX2_isOutside 87 = .ok (.aload_n 0, 1) := by decide +kernel
theorem dX2_isOutside_88 : decode cX2_isOutside 88 = .ok (.iload_n 2, 1) := by decide +kernel
theorem dX2_isOutside_89 : decode cX2_isOutside 89 = .ok (.aload_n 0, 1) := by decide +kernel
theorem dX2_isOutside_90 : decode cX2_isOutside 90 = .ok (.getfield 23, 3) := by decide +kernel
theorem dX2_isOutside_93 : decode cX2_isOutside 93 = .ok (.getfield 95, 3) := by decide +kernel
theorem dX2_isOutside_96 : decode cX2_isOutside 96 = .ok (.iload_n 1, 1) := by decide +kernel
theorem dX2_isOutside_97 : decode cX2_isOutside 97 = .ok (.iaload, 1) := by decide +kernel
theorem dX2_isOutside_98 : decode cX2_isOutside 98 = .ok (.aload_n 0, 1) := by decide +kernel
theorem dX2_isOutside_99 : decode cX2_isOutside 99 = .ok (.getfield 23, 3) := by decide +kernel
theorem dX2_isOutside_102 : decode cX2_isOutside 102 = .ok (.getfield 98, 3) := by decide +kernel
theorem dX2_isOutside_105 : decode cX2_isOutside 105 = .ok (.iload_n 1, 1) := by decide +kernel
theorem dX2_isOutside_106 : decode cX2_isOutside 106 = .ok (.iaload, 1) := by decide +kernel
theorem dX2_isOutside_107 : decode cX2_isOutside 107 = .ok (.invokevirtual 101, 3) := by decide +kernel
theorem dX2_isOutside_110 : decode cX2_isOutside 110 = .ok (.ifCond .ne 7, 3) := by decide +kernel
theorem dX2_isOutside_113 : decode cX2_isOutside 113 = .ok (.iconst 1, 1) := by decide +kernel
theorem dX2_isOutside_114 : decode cX2_isOutside 114 = .ok (.goto 4, 3) := by decide +kernel
theorem dX2_isOutside_117 : decode cX2_isOutside 117 = .ok (.iconst 0, 1) := by decide +kernel
theorem dX2_isOutside_118 : decode cX2_isOutside 118 = .ok (.ireturn, 1) := by decide +kernel
theorem dX2_holds_0 : decode cX2_holds 0 = .ok (.iload_n 1, 1) := by decide +kernel
theorem dX2_holds_1 : decode cX2_holds 1 = .ok (.ifCond .ne 7, 3) := by decide +kernel
theorem dX2_holds_4 : decode cX2_holds 4 = .ok (.iconst 1, 1) := by decide +kernel
theorem dX2_holds_5 : decode cX2_holds 5 = .ok (.goto 4, 3) := by decide +kernel
theorem dX2_holds_8 : decode cX2_holds 8 = .ok (.iconst 0, 1) := by decide +kernel
theorem dX2_holds_9 : decode cX2_holds 9 = .ok (.istore 4, 2) := by decide +kernel
theorem dX2_holds_11 : decode cX2_holds 11 = .ok (.iconst 0, 1) := by decide +kernel
theorem dX2_holds_12 : decode cX2_holds 12 = .ok (.istore 5, 2) := by decide +kernel
theorem dX2_holds_14 : decode cX2_holds 14 = .ok (.iload 5, 2) := by decide +kernel
theorem dX2_holds_16 : decode cX2_holds 16 = .ok (.aload_n 0, 1) := by decide +kernel
theorem dX2_holds_17 : decode cX2_holds 17 = .ok (.getfield 23, 3) := by decide +kernel
theorem dX2_holds_20 : decode cX2_holds 20 = .ok (.getfield 37, 3) := by decide +kernel
theorem dX2_holds_23 : decode cX2_holds 23 = .ok (.if_icmp .ge 45, 3) := by decide +kernel
theorem dX2_holds_26 : decode cX2_holds 26 = .ok (.iload 4, 2) := by decide +kernel
theorem dX2_holds_28 : decode cX2_holds 28 = .ok (.ifCond .ne 40, 3) := by decide +kernel
theorem dX2_holds_31 : decode cX2_holds 31 = .ok (.aload_n 0, 1) := by decide +kernel
theorem dX2_holds_32 : decode cX2_holds 32 = .ok (.iload 5, 2) := by decide +kernel
theorem dX2_holds_34 : decode cX2_holds 34 = .ok (.iload_n 1, 1) := by decide +kernel
theorem dX2_holds_35 : decode cX2_holds 35 = .ok (.invokevirtual 105, 3) := by decide +kernel
theorem dX2_holds_38 : decode cX2_holds 38 = .ok (.ifCond .eq 21, 3) := by decide +kernel
theorem dX2_holds_41 : decode cX2_holds 41 = .ok (.aload_n 0, 1) := by decide +kernel
theorem dX2_holds_42 : decode cX2_holds 42 = .ok (.getfield 23, 3) := by decide +kernel
theorem dX2_holds_45 : decode cX2_holds 45 = .ok (.iload 5, 2) := by decide +kernel
theorem dX2_holds_47 : decode cX2_holds 47 = .ok (.iload_n 2, 1) := by decide +kernel
theorem dX2_holds_48 : decode cX2_holds 48 = .ok (.iload_n 3, 1) := by decide +kernel
theorem dX2_holds_49 : decode cX2_holds 49 = .ok (.invokevirtual 108, 3) := by decide +kernel
theorem dX2_holds_52 : decode cX2_holds 52 = .ok (.ifCond .eq 7, 3) := by decide +kernel
theorem dX2_holds_55 : decode cX2_holds 55 = .ok (.iconst 1, 1) := by decide +kernel
theorem dX2_holds_56 : decode cX2_holds 56 = .ok (.goto 4, 3) := by decide +kernel
theorem dX2_holds_59 : decode cX2_holds 59 = .ok (.iconst 0, 1) := by decide +kernel
theorem dX2_holds_60 : decode cX2_holds 60 = .ok (.istore 4, 2) := by decide +kernel
theorem dX2_holds_62 : decode cX2_holds 62 = .ok (.iinc 5 1, 3) := by decide +kernel
theorem dX2_holds_65 : decode cX2_holds 65 = .ok (.goto (-51), 3) := by decide +kernel
theorem dX2_holds_68 : decode cX2_holds 68 = .ok (.iload 4, 2) := by decide +kernel
theorem dX2_holds_70 : decode cX2_holds 70 = .ok (.ireturn, 1) := by decide +kernel
theorem dX2_holdsAnything_0 : decode cX2_holdsAnything 0 = .ok (.iload_n 1, 1) := by decide +kernel
theorem dX2_holdsAnything_1 : decode cX2_holdsAnything 1 = .ok (.ifCond .ne 7, 3) := by decide +kernel
theorem dX2_holdsAnything_4 : decode cX2_holdsAnything 4 = .ok (.iconst 1, 1) := by decide +kernel
theorem dX2_holdsAnything_5 : decode cX2_holdsAnything 5 = .ok (.goto 4, 3) := by decide +kernel
theorem dX2_holdsAnything_8 : decode cX2_holdsAnything 8 = .ok (.iconst 0, 1) := by decide +kernel
theorem dX2_holdsAnything_9 : decode cX2_holdsAnything 9 = .ok (.istore_n 2, 1) := by decide +kernel
theorem dX2_holdsAnything_10 : decode cX2_holdsAnything 10 = .ok (.iconst 0, 1) := by decide +kernel
theorem dX2_holdsAnything_11 : decode cX2_holdsAnything 11 = .ok (.istore_n 3, 1) := by decide +kernel
theorem dX2_holdsAnything_12 : decode cX2_holdsAnything 12 = .ok (.iload_n 3, 1) := by decide +kernel
theorem dX2_holdsAnything_13 : decode cX2_holdsAnything 13 = .ok (.aload_n 0, 1) := by decide +kernel
theorem dX2_holdsAnything_14 : decode cX2_holdsAnything 14 = .ok (.getfield 23, 3) := by decide +kernel
theorem dX2_holdsAnything_17 : decode cX2_holdsAnything 17 = .ok (.getfield 37, 3) := by decide +kernel
theorem dX2_holdsAnything_20 : decode cX2_holdsAnything 20 = .ok (.if_icmp .ge 20, 3) := by decide +kernel
theorem dX2_holdsAnything_23 : decode cX2_holdsAnything 23 = .ok (.iload_n 2, 1) := by decide +kernel
theorem dX2_holdsAnything_24 : decode cX2_holdsAnything 24 = .ok (.ifCond .ne 16, 3) := by decide +kernel
theorem dX2_holdsAnything_27 : decode cX2_holdsAnything 27 = .ok (.aload_n 0, 1) := by decide +kernel
theorem dX2_holdsAnything_28 : decode cX2_holdsAnything 28 = .ok (.iload_n 3, 1) := by decide +kernel
theorem dX2_holdsAnything_29 : decode cX2_holdsAnything 29 = .ok (.iload_n 1, 1) := by decide +kernel
theorem dX2_holdsAnything_30 : decode cX2_holdsAnything 30 = .ok (.invokevirtual 105, 3) := by decide +kernel
theorem dX2_holdsAnything_33 : decode cX2_holdsAnything 33 = .ok (.istore_n 2, 1) := by decide +kernel
theorem dX2_holdsAnything_34 : decode cX2_holdsAnything 34 = .ok (.iinc 3 1, 3) := by decide +kernel
theorem dX2_holdsAnything_37 : decode cX2_holdsAnything 37 = .ok (.goto (-25), 3) := by decide +kernel
theorem dX2_holdsAnything_40 : decode cX2_holdsAnything 40 = .ok (.iload_n 2, 1) := by decide +kernel
theorem dX2_holdsAnything_41 : decode cX2_holdsAnything 41 = .ok (.ireturn, 1) := by decide +kernel
theorem dX2_isGoodGrantTo_0 : decode cX2_isGoodGrantTo 0 = .ok (.aload_n 0, 1) := by decide +kernel
theorem dX2_isGoodGrantTo_1 : decode cX2_isGoodGrantTo 1 = .ok (.iload_n 1, 1) := by decide +kernel
theorem dX2_isGoodGrantTo_2 : decode cX2_isGoodGrantTo 2 = .ok (.iload_n 2, 1) := by decide +kernel
theorem dX2_isGoodGrantTo_3 : decode cX2_isGoodGrantTo 3 = .ok (.invokevirtual 47, 3) := by decide +kernel
theorem dX2_isGoodGrantTo_6 : decode cX2_isGoodGrantTo 6 = .ok (.ifCond .eq 16, 3) := by decide +kernel
theorem dX2_isGoodGrantTo_9 : decode cX2_isGoodGrantTo 9 = .ok (.aload_n 0, 1) := by decide +kernel
theorem dX2_isGoodGrantTo_10 : decode cX2_isGoodGrantTo 10 = .ok (.getfield 9, 3) := by decide +kernel
theorem dX2_isGoodGrantTo_13 : decode cX2_isGoodGrantTo 13 = .ok (.iload_n 1, 1) := by decide +kernel
theorem dX2_isGoodGrantTo_14 : decode cX2_isGoodGrantTo 14 = .ok (.iaload, 1) := by decide +kernel
theorem dX2_isGoodGrantTo_15 : decode cX2_isGoodGrantTo 15 = .ok (.ifCond .ne 7, 3) := by decide +kernel
theorem dX2_isGoodGrantTo_18 : decode cX2_isGoodGrantTo 18 = .ok (.iconst 1, 1) := by decide +kernel
theorem dX2_isGoodGrantTo_19 : decode cX2_isGoodGrantTo 19 = .ok (.goto 4, 3) := by decide +kernel
theorem dX2_isGoodGrantTo_22 : decode cX2_isGoodGrantTo 22 = .ok (.iconst 0, 1) := by decide +kernel
theorem dX2_isGoodGrantTo_23 : decode cX2_isGoodGrantTo 23 = .ok (.ireturn, 1) := by decide +kernel
theorem dX2_holdsByChains_0 : decode cX2_holdsByChains 0 = .ok (.iconst 0, 1) := by decide +kernel
theorem dX2_holdsByChains_1 : decode cX2_holdsByChains 1 = .ok (.istore 4, 2) := by decide +kernel
theorem dX2_holdsByChains_3 : decode cX2_holdsByChains 3 = .ok (.iload 4, 2) := by decide +kernel
theorem dX2_holdsByChains_5 : decode cX2_holdsByChains 5 = .ok (.aload_n 0, 1) := by decide +kernel
theorem dX2_holdsByChains_6 : decode cX2_holdsByChains 6 = .ok (.getfield 23, 3) := by decide +kernel
theorem dX2_holdsByChains_9 : decode cX2_holdsByChains 9 = .ok (.getfield 37, 3) := by decide +kernel
theorem dX2_holdsByChains_12 : decode cX2_holdsByChains 12 = .ok (.if_icmp .ge 17, 3) := by decide +kernel
theorem dX2_holdsByChains_15 : decode cX2_holdsByChains 15 = .ok (.aload_n 0, 1) := by decide +kernel
theorem dX2_holdsByChains_16 : decode cX2_holdsByChains 16 = .ok (.getfield 15, 3) := by decide +kernel
theorem dX2_holdsByChains_19 : decode cX2_holdsByChains 19 = .ok (.iload 4, 2) := by decide +kernel
theorem dX2_holdsByChains_21 : decode cX2_holdsByChains 21 = .ok (.iconst 0, 1) := by decide +kernel
theorem dX2_holdsByChains_22 : decode cX2_holdsByChains 22 = .ok (.bastore, 1) := by decide +kernel
theorem dX2_holdsByChains_23 : decode cX2_holdsByChains 23 = .ok (.iinc 4 1, 3) := by decide +kernel
theorem dX2_holdsByChains_26 : decode cX2_holdsByChains 26 = .ok (.goto (-23), 3) := by decide +kernel
theorem dX2_holdsByChains_29 : decode cX2_holdsByChains 29 = .ok (.aload_n 0, 1) := by decide +kernel
theorem dX2_holdsByChains_30 : decode cX2_holdsByChains 30 = .ok (.iload_n 1, 1) := by decide +kernel
theorem dX2_holdsByChains_31 : decode cX2_holdsByChains 31 = .ok (.iload_n 2, 1) := by decide +kernel
theorem dX2_holdsByChains_32 : decode cX2_holdsByChains 32 = .ok (.iload_n 3, 1) := by decide +kernel
theorem dX2_holdsByChains_33 : decode cX2_holdsByChains 33 = .ok (.iconst 0, 1) := by decide +kernel
theorem dX2_holdsByChains_34 : decode cX2_holdsByChains 34 = .ok (.invokevirtual 111, 3) := by decide +kernel
theorem dX2_holdsByChains_37 : decode cX2_holdsByChains 37 = .ok (.ireturn, 1) := by decide +kernel
theorem dX2_chainReaches_0 : decode cX2_chainReaches 0 = .ok (.iload_n 1, 1) := by decide +kernel
theorem dX2_chainReaches_1 : decode cX2_chainReaches 1 = .ok (.ifCond .ne 5, 3) := by decide +kernel
theorem dX2_chainReaches_4 : decode cX2_chainReaches 4 = .ok (.iconst 1, 1) := by decide +kernel
theorem dX2_chainReaches_5 : decode cX2_chainReaches 5 = .ok (.ireturn, 1) := by decide +kernel
theorem dX2_chainReaches_6 : decode cX2_chainReaches 6 = .ok (.iload 4, 2) := by decide +kernel
theorem dX2_chainReaches_8 : decode cX2_chainReaches 8 = .ok (.bipush 8, 2) := by decide +kernel
theorem dX2_chainReaches_10 : decode cX2_chainReaches 10 = .ok (.if_icmp .lt 5, 3) := by decide +kernel
theorem dX2_chainReaches_13 : decode cX2_chainReaches 13 = .ok (.iconst 0, 1) := by decide +kernel
theorem dX2_chainReaches_14 : decode cX2_chainReaches 14 = .ok (.ireturn, 1) := by decide +kernel
theorem dX2_chainReaches_15 : decode cX2_chainReaches 15 = .ok (.iconst 0, 1) := by decide +kernel
theorem dX2_chainReaches_16 : decode cX2_chainReaches 16 = .ok (.istore 5, 2) := by decide +kernel
theorem dX2_chainReaches_18 : decode cX2_chainReaches 18 = .ok (.iload 5, 2) := by decide +kernel
theorem dX2_chainReaches_20 : decode cX2_chainReaches 20 = .ok (.aload_n 0, 1) := by decide +kernel
theorem dX2_chainReaches_21 : decode cX2_chainReaches 21 = .ok (.getfield 23, 3) := by decide +kernel
theorem dX2_chainReaches_24 : decode cX2_chainReaches 24 = .ok (.getfield 37, 3) := by decide +kernel
theorem dX2_chainReaches_27 : decode cX2_chainReaches 27 = .ok (.if_icmp .ge 97, 3) := by decide +kernel
theorem dX2_chainReaches_30 : decode cX2_chainReaches 30 = .ok (.aload_n 0, 1) := by decide +kernel
theorem dX2_chainReaches_31 : decode cX2_chainReaches 31 = .ok (.getfield 15, 3) := by decide +kernel
theorem dX2_chainReaches_34 : decode cX2_chainReaches 34 = .ok (.iload 5, 2) := by decide +kernel
theorem dX2_chainReaches_36 : decode cX2_chainReaches 36 = .ok (.baload, 1) := by decide +kernel
theorem dX2_chainReaches_37 : decode cX2_chainReaches 37 = .ok (.ifCond .ne 81, 3) := by decide +kernel
theorem dX2_chainReaches_40 : decode cX2_chainReaches 40 = .ok (.aload_n 0, 1) := by decide +kernel
theorem dX2_chainReaches_41 : decode cX2_chainReaches 41 = .ok (.iload 5, 2) := by decide +kernel
theorem dX2_chainReaches_43 : decode cX2_chainReaches 43 = .ok (.iload_n 1, 1) := by decide +kernel
theorem dX2_chainReaches_44 : decode cX2_chainReaches 44 = .ok (.invokevirtual 115, 3) := by decide +kernel
theorem dX2_chainReaches_47 : decode cX2_chainReaches 47 = .ok (.ifCond .eq 71, 3) := by decide +kernel
theorem dX2_chainReaches_50 : decode cX2_chainReaches 50 = .ok (.aload_n 0, 1) := by decide +kernel
theorem dX2_chainReaches_51 : decode cX2_chainReaches 51 = .ok (.getfield 23, 3) := by decide +kernel
theorem dX2_chainReaches_54 : decode cX2_chainReaches 54 = .ok (.iload 5, 2) := by decide +kernel
theorem dX2_chainReaches_56 : decode cX2_chainReaches 56 = .ok (.iload_n 2, 1) := by decide +kernel
theorem dX2_chainReaches_57 : decode cX2_chainReaches 57 = .ok (.iload_n 3, 1) := by decide +kernel
theorem dX2_chainReaches_58 : decode cX2_chainReaches 58 = .ok (.invokevirtual 108, 3) := by decide +kernel
theorem dX2_chainReaches_61 : decode cX2_chainReaches 61 = .ok (.ifCond .ne 6, 3) := by decide +kernel
theorem dX2_chainReaches_64 : decode cX2_chainReaches 64 = .ok (.goto 54, 3) := by decide +kernel
theorem dX2_chainReaches_67 : decode cX2_chainReaches 67 = .ok (.aload_n 0, 1) := by decide +kernel
theorem dX2_chainReaches_68 : decode cX2_chainReaches 68 = .ok (.getfield 15, 3) := by decide +kernel
theorem dX2_chainReaches_71 : decode cX2_chainReaches 71 = .ok (.iload 5, 2) := by decide +kernel
theorem dX2_chainReaches_73 : decode cX2_chainReaches 73 = .ok (.iconst 1, 1) := by decide +kernel
theorem dX2_chainReaches_74 : decode cX2_chainReaches 74 = .ok (.bastore, 1) := by decide +kernel
theorem dX2_chainReaches_75 : decode cX2_chainReaches 75 = .ok (.aload_n 0, 1) := by decide +kernel
theorem dX2_chainReaches_76 : decode cX2_chainReaches 76 = .ok (.aload_n 0, 1) := by decide +kernel
theorem dX2_chainReaches_77 : decode cX2_chainReaches 77 = .ok (.getfield 23, 3) := by decide +kernel
theorem dX2_chainReaches_80 : decode cX2_chainReaches 80 = .ok (.getfield 61, 3) := by decide +kernel
theorem dX2_chainReaches_83 : decode cX2_chainReaches 83 = .ok (.iload 5, 2) := by decide +kernel
theorem dX2_chainReaches_85 : decode cX2_chainReaches 85 = .ok (.iaload, 1) := by decide +kernel
theorem dX2_chainReaches_86 : decode cX2_chainReaches 86 = .ok (.aload_n 0, 1) := by decide +kernel
theorem dX2_chainReaches_87 : decode cX2_chainReaches 87 = .ok (.getfield 23, 3) := by decide +kernel
theorem dX2_chainReaches_90 : decode cX2_chainReaches 90 = .ok (.getfield 95, 3) := by decide +kernel
theorem dX2_chainReaches_93 : decode cX2_chainReaches 93 = .ok (.iload 5, 2) := by decide +kernel
theorem dX2_chainReaches_95 : decode cX2_chainReaches 95 = .ok (.iaload, 1) := by decide +kernel
theorem dX2_chainReaches_96 : decode cX2_chainReaches 96 = .ok (.aload_n 0, 1) := by decide +kernel
theorem dX2_chainReaches_97 : decode cX2_chainReaches 97 = .ok (.getfield 23, 3) := by decide +kernel
theorem dX2_chainReaches_100 : decode cX2_chainReaches 100 = .ok (.getfield 98, 3) := by decide +kernel
theorem dX2_chainReaches_103 : decode cX2_chainReaches 103 = .ok (.iload 5, 2) := by decide +kernel
theorem dX2_chainReaches_105 : decode cX2_chainReaches 105 = .ok (.iaload, 1) := by decide +kernel
theorem dX2_chainReaches_106 : decode cX2_chainReaches 106 = .ok (.iload 4, 2) := by decide +kernel
theorem dX2_chainReaches_108 : decode cX2_chainReaches 108 = .ok (.iconst 1, 1) := by decide +kernel
theorem dX2_chainReaches_109 : decode cX2_chainReaches 109 = .ok (.iadd, 1) := by decide +kernel
theorem dX2_chainReaches_110 : decode cX2_chainReaches 110 = .ok (.invokevirtual 111, 3) := by decide +kernel
theorem dX2_chainReaches_113 : decode cX2_chainReaches 113 = .ok (.ifCond .eq 5, 3) := by decide +kernel
theorem dX2_chainReaches_116 : decode cX2_chainReaches 116 = .ok (.iconst 1, 1) := by decide +kernel
theorem dX2_chainReaches_117 : decode cX2_chainReaches 117 = .ok (.ireturn, 1) := by decide +kernel
theorem dX2_chainReaches_118 : decode cX2_chainReaches 118 = .ok (.iinc 5 1, 3) := by decide +kernel
theorem dX2_chainReaches_121 : decode cX2_chainReaches 121 = .ok (.goto (-103), 3) := by decide +kernel
theorem dX2_chainReaches_124 : decode cX2_chainReaches 124 = .ok (.iconst 0, 1) := by decide +kernel
theorem dX2_chainReaches_125 : decode cX2_chainReaches 125 = .ok (.ireturn, 1) := by decide +kernel
theorem dX2_isLinkTo_0 : decode cX2_isLinkTo 0 = .ok (.aload_n 0, 1) := by decide +kernel
theorem dX2_isLinkTo_1 : decode cX2_isLinkTo 1 = .ok (.iload_n 1, 1) := by decide +kernel
theorem dX2_isLinkTo_2 : decode cX2_isLinkTo 2 = .ok (.iload_n 2, 1) := by decide +kernel
theorem dX2_isLinkTo_3 : decode cX2_isLinkTo 3 = .ok (.invokevirtual 47, 3) := by decide +kernel
theorem dX2_isLinkTo_6 : decode cX2_isLinkTo 6 = .ok (.ifCond .eq 36, 3) := by decide +kernel
theorem dX2_isLinkTo_9 : decode cX2_isLinkTo 9 = .ok (.aload_n 0, 1) := by decide +kernel
theorem dX2_isLinkTo_10 : decode cX2_isLinkTo 10 = .ok (.getfield 23, 3) := by decide +kernel
theorem dX2_isLinkTo_13 : decode cX2_isLinkTo 13 = .ok (.getfield 61, 3) := by decide +kernel
theorem dX2_isLinkTo_16 : decode cX2_isLinkTo 16 = .ok (.iload_n 1, 1) := by decide +kernel
theorem dX2_isLinkTo_17 : decode cX2_isLinkTo 17 = .ok (.iaload, 1) := by decide +kernel
theorem dX2_isLinkTo_18 : decode cX2_isLinkTo 18 = .ok (.aload_n 0, 1) := by decide +kernel
theorem dX2_isLinkTo_19 : decode cX2_isLinkTo 19 = .ok (.getfield 19, 3) := by decide +kernel
theorem dX2_isLinkTo_22 : decode cX2_isLinkTo 22 = .ok (.getfield 92, 3) := by decide +kernel
theorem dX2_isLinkTo_25 : decode cX2_isLinkTo 25 = .ok (.iload_n 2, 1) := by decide +kernel
theorem dX2_isLinkTo_26 : decode cX2_isLinkTo 26 = .ok (.iaload, 1) := by decide +kernel
theorem dX2_isLinkTo_27 : decode cX2_isLinkTo 27 = .ok (.if_icmp .ne 15, 3) := by decide +kernel
theorem dX2_isLinkTo_30 : decode cX2_isLinkTo 30 = .ok (.aload_n 0, 1) := by decide +kernel
theorem dX2_isLinkTo_31 : decode cX2_isLinkTo 31 = .ok (.iload_n 1, 1) := by decide +kernel
theorem dX2_isLinkTo_32 : decode cX2_isLinkTo 32 = .ok (.invokevirtual 54, 3) := by decide +kernel
theorem dX2_isLinkTo_35 : decode cX2_isLinkTo 35 = .ok (.ifCond .ne 7, 3) := by decide +kernel
theorem dX2_isLinkTo_38 : decode cX2_isLinkTo 38 = .ok (.iconst 1, 1) := by decide +kernel
theorem dX2_isLinkTo_39 : decode cX2_isLinkTo 39 = .ok (.goto 4, 3) := by decide +kernel
theorem dX2_isLinkTo_42 : decode cX2_isLinkTo 42 = .ok (.iconst 0, 1) := by decide +kernel
theorem dX2_isLinkTo_43 : decode cX2_isLinkTo 43 = .ok (.ireturn, 1) := by decide +kernel
theorem dX2_originState_0 : decode cX2_originState 0 = .ok (.iconst 0, 1) := by decide +kernel
theorem dX2_originState_1 : decode cX2_originState 1 = .ok (.istore 4, 2) := by decide +kernel
theorem dX2_originState_3 : decode cX2_originState 3 = .ok (.iconst 0, 1) := by decide +kernel
theorem dX2_originState_4 : decode cX2_originState 4 = .ok (.istore 5, 2) := by decide +kernel
theorem dX2_originState_6 : decode cX2_originState 6 = .ok (.iload 5, 2) := by decide +kernel
theorem dX2_originState_8 : decode cX2_originState 8 = .ok (.aload_n 0, 1) := by decide +kernel
theorem dX2_originState_9 : decode cX2_originState 9 = .ok (.getfield 23, 3) := by decide +kernel
theorem dX2_originState_12 : decode cX2_originState 12 = .ok (.getfield 37, 3) := by decide +kernel
theorem dX2_originState_15 : decode cX2_originState 15 = .ok (.if_icmp .ge 61, 3) := by decide +kernel
theorem dX2_originState_18 : decode cX2_originState 18 = .ok (.iload 4, 2) := by decide +kernel
theorem dX2_originState_20 : decode cX2_originState 20 = .ok (.iconst 1, 1) := by decide +kernel
theorem dX2_originState_21 : decode cX2_originState 21 = .ok (.if_icmp .eq 55, 3) := by decide +kernel
theorem dX2_originState_24 : decode cX2_originState 24 = .ok (.aload_n 0, 1) := by decide +kernel
theorem dX2_originState_25 : decode cX2_originState 25 = .ok (.iload 5, 2) := by decide +kernel
theorem dX2_originState_27 : decode cX2_originState 27 = .ok (.iload_n 2, 1) := by decide +kernel
theorem dX2_originState_28 : decode cX2_originState 28 = .ok (.iload_n 3, 1) := by decide +kernel
theorem dX2_originState_29 : decode cX2_originState 29 = .ok (.invokevirtual 118, 3) := by decide +kernel
theorem dX2_originState_32 : decode cX2_originState 32 = .ok (.ifCond .eq 38, 3) := by decide +kernel
theorem dX2_originState_35 : decode cX2_originState 35 = .ok (.aload_n 0, 1) := by decide +kernel
theorem dX2_originState_36 : decode cX2_originState 36 = .ok (.getfield 23, 3) := by decide +kernel
theorem dX2_originState_39 : decode cX2_originState 39 = .ok (.getfield 51, 3) := by decide +kernel
theorem dX2_originState_42 : decode cX2_originState 42 = .ok (.iload 5, 2) := by decide +kernel
theorem dX2_originState_44 : decode cX2_originState 44 = .ok (.iaload, 1) := by decide +kernel
theorem dX2_originState_45 : decode cX2_originState 45 = .ok (.iload_n 1, 1) := by decide +kernel
theorem dX2_originState_46 : decode cX2_originState 46 = .ok (.if_icmp .ne 21, 3) := by decide +kernel
theorem dX2_originState_49 : decode cX2_originState 49 = .ok (.iload_n 3, 1) := by decide +kernel
theorem dX2_originState_50 : decode cX2_originState 50 = .ok (.aload_n 0, 1) := by decide +kernel
theorem dX2_originState_51 : decode cX2_originState 51 = .ok (.getfield 23, 3) := by decide +kernel
theorem dX2_originState_54 : decode cX2_originState 54 = .ok (.getfield 121, 3) := by decide +kernel
theorem dX2_originState_57 : decode cX2_originState 57 = .ok (.iload 5, 2) := by decide +kernel
theorem dX2_originState_59 : decode cX2_originState 59 = .ok (.iaload, 1) := by decide +kernel
theorem dX2_originState_60 : decode cX2_originState 60 = .ok (.if_icmp .gt 7, 3) := by decide +kernel
theorem dX2_originState_63 : decode cX2_originState 63 = .ok (.iconst 1, 1) := by decide +kernel
theorem dX2_originState_64 : decode cX2_originState 64 = .ok (.goto 4, 3) := by decide +kernel
theorem dX2_originState_67 : decode cX2_originState 67 = .ok (.iconst 2, 1) := by decide +kernel
theorem dX2_originState_68 : decode cX2_originState 68 = .ok (.istore 4, 2) := by decide +kernel
theorem dX2_originState_70 : decode cX2_originState 70 = .ok (.iinc 5 1, 3) := by decide +kernel
theorem dX2_originState_73 : decode cX2_originState 73 = .ok (.goto (-67), 3) := by decide +kernel
theorem dX2_originState_76 : decode cX2_originState 76 = .ok (.iload 4, 2) := by decide +kernel
theorem dX2_originState_78 : decode cX2_originState 78 = .ok (.ireturn, 1) := by decide +kernel
theorem dX2_isGoodOriginOver_0 : decode cX2_isGoodOriginOver 0 = .ok (.aload_n 0, 1) := by decide +kernel
theorem dX2_isGoodOriginOver_1 : decode cX2_isGoodOriginOver 1 = .ok (.getfield 23, 3) := by decide +kernel
theorem dX2_isGoodOriginOver_4 : decode cX2_isGoodOriginOver 4 = .ok (.getfield 40, 3) := by decide +kernel
theorem dX2_isGoodOriginOver_7 : decode cX2_isGoodOriginOver 7 = .ok (.iload_n 1, 1) := by decide +kernel
theorem dX2_isGoodOriginOver_8 : decode cX2_isGoodOriginOver 8 = .ok (.iaload, 1) := by decide +kernel
theorem dX2_isGoodOriginOver_9 : decode cX2_isGoodOriginOver 9 = .ok (.iconst 1, 1) := by decide +kernel
theorem dX2_isGoodOriginOver_10 : decode cX2_isGoodOriginOver 10 = .ok (.if_icmp .ne 29, 3) := by decide +kernel
theorem dX2_isGoodOriginOver_13 : decode cX2_isGoodOriginOver 13 = .ok (.aload_n 0, 1) := by decide +kernel
theorem dX2_isGoodOriginOver_14 : decode cX2_isGoodOriginOver 14 = .ok (.getfield 9, 3) := by decide +kernel
theorem dX2_isGoodOriginOver_17 : decode cX2_isGoodOriginOver 17 = .ok (.iload_n 1, 1) := by decide +kernel
theorem dX2_isGoodOriginOver_18 : decode cX2_isGoodOriginOver 18 = .ok (.iaload, 1) := by decide +kernel
theorem dX2_isGoodOriginOver_19 : decode cX2_isGoodOriginOver 19 = .ok (.ifCond .ne 20, 3) := by decide +kernel
theorem dX2_isGoodOriginOver_22 : decode cX2_isGoodOriginOver 22 = .ok (.aload_n 0, 1) := by decide +kernel
theorem dX2_isGoodOriginOver_23 : decode cX2_isGoodOriginOver 23 = .ok (.getfield 23, 3) := by decide +kernel
theorem dX2_isGoodOriginOver_26 : decode cX2_isGoodOriginOver 26 = .ok (.iload_n 1, 1) := by decide +kernel
theorem dX2_isGoodOriginOver_27 : decode cX2_isGoodOriginOver 27 = .ok (.iload_n 2, 1) := by decide +kernel
theorem dX2_isGoodOriginOver_28 : decode cX2_isGoodOriginOver 28 = .ok (.iload_n 3, 1) := by decide +kernel
theorem dX2_isGoodOriginOver_29 : decode cX2_isGoodOriginOver 29 = .ok (.invokevirtual 108, 3) := by decide +kernel
theorem dX2_isGoodOriginOver_32 : decode cX2_isGoodOriginOver 32 = .ok (.ifCond .eq 7, 3) := by decide +kernel
theorem dX2_isGoodOriginOver_35 : decode cX2_isGoodOriginOver 35 = .ok (.iconst 1, 1) := by decide +kernel
theorem dX2_isGoodOriginOver_36 : decode cX2_isGoodOriginOver 36 = .ok (.goto 4, 3) := by decide +kernel
theorem dX2_isGoodOriginOver_39 : decode cX2_isGoodOriginOver 39 = .ok (.iconst 0, 1) := by decide +kernel
theorem dX2_isGoodOriginOver_40 : decode cX2_isGoodOriginOver 40 = .ok (.ireturn, 1) := by decide +kernel
theorem dX3_init_0 : decode cX3_init 0 = .ok (.aload_n 0, 1) := by decide +kernel
theorem dX3_init_1 : decode cX3_init 1 = .ok (.invokespecial 3, 3) := by decide +kernel
theorem dX3_init_4 : decode cX3_init 4 = .ok (.aload_n 0, 1) := by decide +kernel
theorem dX3_init_5 : decode cX3_init 5 = .ok (.bipush 10, 2) := by decide +kernel
theorem dX3_init_7 : decode cX3_init 7 = .ok (.newarray .boolean, 2) := by decide +kernel
theorem dX3_init_9 : decode cX3_init 9 = .ok (.putfield 9, 3) := by decide +kernel
theorem dX3_init_12 : decode cX3_init 12 = .ok (.aload_n 0, 1) := by decide +kernel
theorem dX3_init_13 : decode cX3_init 13 = .ok (.bipush 10, 2) := by decide +kernel
theorem dX3_init_15 : decode cX3_init 15 = .ok (.newarray .int, 2) := by decide +kernel
theorem dX3_init_17 : decode cX3_init 17 = .ok (.putfield 15, 3) := by decide +kernel
theorem dX3_init_20 : decode cX3_init 20 = .ok (.aload_n 0, 1) := by decide +kernel
theorem dX3_init_21 : decode cX3_init 21 = .ok (.aload_n 1, 1) := by decide +kernel
theorem dX3_init_22 : decode cX3_init 22 = .ok (.putfield 19, 3) := by decide +kernel
theorem dX3_init_25 : decode cX3_init 25 = .ok (.return_, 1) := by decide +kernel
theorem dX3_forgetVouchers_0 : decode cX3_forgetVouchers 0 = .ok (.iconst 0, 1) := by decide +kernel
theorem dX3_forgetVouchers_1 : decode cX3_forgetVouchers 1 = .ok (.istore_n 1, 1) := by decide +kernel
theorem dX3_forgetVouchers_2 : decode cX3_forgetVouchers 2 = .ok (.iload_n 1, 1) := by decide +kernel
theorem dX3_forgetVouchers_3 : decode cX3_forgetVouchers 3 = .ok (.bipush 10, 2) := by decide +kernel
theorem dX3_forgetVouchers_5 : decode cX3_forgetVouchers 5 = .ok (.if_icmp .ge 23, 3) := by decide +kernel
theorem dX3_forgetVouchers_8 : decode cX3_forgetVouchers 8 = .ok (.aload_n 0, 1) := by decide +kernel
theorem dX3_forgetVouchers_9 : decode cX3_forgetVouchers 9 = .ok (.getfield 9, 3) := by decide +kernel
theorem dX3_forgetVouchers_12 : decode cX3_forgetVouchers 12 = .ok (.iload_n 1, 1) := by decide +kernel
theorem dX3_forgetVouchers_13 : decode cX3_forgetVouchers 13 = .ok (.iconst 0, 1) := by decide +kernel
theorem dX3_forgetVouchers_14 : decode cX3_forgetVouchers 14 = .ok (.bastore, 1) := by decide +kernel
theorem dX3_forgetVouchers_15 : decode cX3_forgetVouchers 15 = .ok (.aload_n 0, 1) := by decide +kernel
theorem dX3_forgetVouchers_16 : decode cX3_forgetVouchers 16 = .ok (.getfield 15, 3) := by decide +kernel
theorem dX3_forgetVouchers_19 : decode cX3_forgetVouchers 19 = .ok (.iload_n 1, 1) := by decide +kernel
theorem dX3_forgetVouchers_20 : decode cX3_forgetVouchers 20 = .ok (.iconst 0, 1) := by decide +kernel
theorem dX3_forgetVouchers_21 : decode cX3_forgetVouchers 21 = .ok (.iastore, 1) := by decide +kernel
theorem dX3_forgetVouchers_22 : decode cX3_forgetVouchers 22 = .ok (.iinc 1 1, 3) := by decide +kernel
theorem dX3_forgetVouchers_25 : decode cX3_forgetVouchers 25 = .ok (.goto (-23), 3) := by decide +kernel
theorem dX3_forgetVouchers_28 : decode cX3_forgetVouchers 28 = .ok (.return_, 1) := by decide +kernel
theorem dX3_addVoucher_0 : decode cX3_addVoucher 0 = .ok (.aload_n 0, 1) := by decide +kernel
theorem dX3_addVoucher_1 : decode cX3_addVoucher 1 = .ok (.getfield 9, 3) := by decide +kernel
theorem dX3_addVoucher_4 : decode cX3_addVoucher 4 = .ok (.iload_n 1, 1) := by decide +kernel
theorem dX3_addVoucher_5 : decode cX3_addVoucher 5 = .ok (.iconst 1, 1) := by decide +kernel
theorem dX3_addVoucher_6 : decode cX3_addVoucher 6 = .ok (.bastore, 1) := by decide +kernel
theorem dX3_addVoucher_7 : decode cX3_addVoucher 7 = .ok (.aload_n 0, 1) := by decide +kernel
theorem dX3_addVoucher_8 : decode cX3_addVoucher 8 = .ok (.getfield 15, 3) := by decide +kernel
theorem dX3_addVoucher_11 : decode cX3_addVoucher 11 = .ok (.iload_n 1, 1) := by decide +kernel
theorem dX3_addVoucher_12 : decode cX3_addVoucher 12 = .ok (.dup2, 1) := by decide +kernel
theorem dX3_addVoucher_13 : decode cX3_addVoucher 13 = .ok (.iaload, 1) := by decide +kernel
theorem dX3_addVoucher_14 : decode cX3_addVoucher 14 = .ok (.iload_n 2, 1) := by decide +kernel
theorem dX3_addVoucher_15 : decode cX3_addVoucher 15 = .ok (.ior, 1) := by decide +kernel
theorem dX3_addVoucher_16 : decode cX3_addVoucher 16 = .ok (.iastore, 1) := by decide +kernel
theorem dX3_addVoucher_17 : decode cX3_addVoucher 17 = .ok (.return_, 1) := by decide +kernel
theorem dX3_judgeUp_0 : decode cX3_judgeUp 0 = .ok (.aload_n 1, 1) := by decide +kernel
theorem dX3_judgeUp_1 : decode cX3_judgeUp 1 = .ok (.iload_n 2, 1) := by decide +kernel
theorem dX3_judgeUp_2 : decode cX3_judgeUp 2 = .ok (.invokestatic 23, 3) := by decide +kernel
theorem dX3_judgeUp_5 : decode cX3_judgeUp 5 = .ok (.ifCond .ne 14, 3) := by decide +kernel
theorem dX3_judgeUp_8 : decode cX3_judgeUp 8 = .ok (.aload_n 0, 1) := by decide +kernel
theorem dX3_judgeUp_9 : decode cX3_judgeUp 9 = .ok (.aload_n 1, 1) := by decide +kernel
theorem dX3_judgeUp_10 : decode cX3_judgeUp 10 = .ok (.iload_n 2, 1) := by decide +kernel
theorem dX3_judgeUp_11 : decode cX3_judgeUp 11 = .ok (.iconst 0, 1) := by decide +kernel
theorem dX3_judgeUp_12 : decode cX3_judgeUp 12 = .ok (.invokevirtual 29, 3) := by decide +kernel
theorem dX3_judgeUp_15 : decode cX3_judgeUp 15 = .ok (.iload_n 2, 1) := by decide +kernel
theorem dX3_judgeUp_16 : decode cX3_judgeUp 16 = .ok (.if_icmp .ge 5, 3) := by decide +kernel
theorem dX3_judgeUp_19 : decode cX3_judgeUp 19 = .ok (.iconst 2, 1) := by decide +kernel
theorem dX3_judgeUp_20 : decode cX3_judgeUp 20 = .ok (.ireturn, 1) := by decide +kernel
theorem dX3_judgeUp_21 : decode cX3_judgeUp 21 = .ok (.aload_n 0, 1) := by decide +kernel
theorem dX3_judgeUp_22 : decode cX3_judgeUp 22 = .ok (.aload_n 1, 1) := by decide +kernel
theorem dX3_judgeUp_23 : decode cX3_judgeUp 23 = .ok (.iload_n 2, 1) := by decide +kernel
theorem dX3_judgeUp_24 : decode cX3_judgeUp 24 = .ok (.iconst 1, 1) := by decide +kernel
theorem dX3_judgeUp_25 : decode cX3_judgeUp 25 = .ok (.invokevirtual 29, 3) := by decide +kernel
theorem dX3_judgeUp_28 : decode cX3_judgeUp 28 = .ok (.iload_n 2, 1) := by decide +kernel
theorem dX3_judgeUp_29 : decode cX3_judgeUp 29 = .ok (.if_icmp .ne 7, 3) := by decide +kernel
theorem dX3_judgeUp_32 : decode cX3_judgeUp 32 = .ok (.iconst 1, 1) := by decide +kernel
theorem dX3_judgeUp_33 : decode cX3_judgeUp 33 = .ok (.goto 4, 3) := by decide +kernel
theorem dX3_judgeUp_36 : decode cX3_judgeUp 36 = .ok (.iconst 0, 1) := by decide +kernel
theorem dX3_judgeUp_37 : decode cX3_judgeUp 37 = .ok (.ireturn, 1) := by decide +kernel
theorem dX3_judgeDown_0 : decode cX3_judgeDown 0 = .ok (.aload_n 1, 1) := by decide +kernel
theorem dX3_judgeDown_1 : decode cX3_judgeDown 1 = .ok (.iload_n 2, 1) := by decide +kernel
theorem dX3_judgeDown_2 : decode cX3_judgeDown 2 = .ok (.invokestatic 23, 3) := by decide +kernel
theorem dX3_judgeDown_5 : decode cX3_judgeDown 5 = .ok (.ifCond .eq 5, 3) := by decide +kernel
theorem dX3_judgeDown_8 : decode cX3_judgeDown 8 = .ok (.iconst 2, 1) := by decide +kernel
theorem dX3_judgeDown_9 : decode cX3_judgeDown 9 = .ok (.ireturn, 1) := by decide +kernel
theorem dX3_judgeDown_10 : decode cX3_judgeDown 10 = .ok (.aload_n 0, 1) := by decide +kernel
theorem dX3_judgeDown_11 : decode cX3_judgeDown 11 = .ok (.aload_n 1, 1) := by decide +kernel
theorem dX3_judgeDown_12 : decode cX3_judgeDown 12 = .ok (.iload_n 2, 1) := by decide +kernel
theorem dX3_judgeDown_13 : decode cX3_judgeDown 13 = .ok (.iconst 0, 1) := by decide +kernel
theorem dX3_judgeDown_14 : decode cX3_judgeDown 14 = .ok (.invokevirtual 29, 3) := by decide +kernel
theorem dX3_judgeDown_17 : decode cX3_judgeDown 17 = .ok (.aload_n 0, 1) := by decide +kernel
theorem dX3_judgeDown_18 : decode cX3_judgeDown 18 = .ok (.aload_n 1, 1) := by decide +kernel
theorem dX3_judgeDown_19 : decode cX3_judgeDown 19 = .ok (.iload_n 2, 1) := by decide +kernel
theorem dX3_judgeDown_20 : decode cX3_judgeDown 20 = .ok (.iconst 0, 1) := by decide +kernel
theorem dX3_judgeDown_21 : decode cX3_judgeDown 21 = .ok (.invokevirtual 33, 3) := by decide +kernel
theorem dX3_judgeDown_24 : decode cX3_judgeDown 24 = .ok (.iadd, 1) := by decide +kernel
theorem dX3_judgeDown_25 : decode cX3_judgeDown 25 = .ok (.iload_n 2, 1) := by decide +kernel
theorem dX3_judgeDown_26 : decode cX3_judgeDown 26 = .ok (.if_icmp .ge 5, 3) := by decide +kernel
theorem dX3_judgeDown_29 : decode cX3_judgeDown 29 = .ok (.iconst 2, 1) := by decide +kernel
theorem dX3_judgeDown_30 : decode cX3_judgeDown 30 = .ok (.ireturn, 1) := by decide +kernel
theorem dX3_judgeDown_31 : decode cX3_judgeDown 31 = .ok (.aload_n 0, 1) := by decide +kernel
theorem dX3_judgeDown_32 : decode cX3_judgeDown 32 = .ok (.aload_n 1, 1) := by decide +kernel
theorem dX3_judgeDown_33 : decode cX3_judgeDown 33 = .ok (.iload_n 2, 1) := by decide +kernel
theorem dX3_judgeDown_34 : decode cX3_judgeDown 34 = .ok (.iconst 1, 1) := by decide +kernel
theorem dX3_judgeDown_35 : decode cX3_judgeDown 35 = .ok (.invokevirtual 29, 3) := by decide +kernel
theorem dX3_judgeDown_38 : decode cX3_judgeDown 38 = .ok (.aload_n 0, 1) := by decide +kernel
theorem dX3_judgeDown_39 : decode cX3_judgeDown 39 = .ok (.aload_n 1, 1) := by decide +kernel
theorem dX3_judgeDown_40 : decode cX3_judgeDown 40 = .ok (.iload_n 2, 1) := by decide +kernel
theorem dX3_judgeDown_41 : decode cX3_judgeDown 41 = .ok (.iconst 1, 1) := by decide +kernel
theorem dX3_judgeDown_42 : decode cX3_judgeDown 42 = .ok (.invokevirtual 33, 3) := by decide +kernel
theorem dX3_judgeDown_45 : decode cX3_judgeDown 45 = .ok (.iadd, 1) := by decide +kernel
theorem dX3_judgeDown_46 : decode cX3_judgeDown 46 = .ok (.iload_n 2, 1) := by decide +kernel
theorem dX3_judgeDown_47 : decode cX3_judgeDown 47 = .ok (.if_icmp .lt 7, 3) := by decide +kernel
theorem dX3_judgeDown_50 : decode cX3_judgeDown 50 = .ok (.iconst 1, 1) := by decide +kernel
theorem dX3_judgeDown_51 : decode cX3_judgeDown 51 = .ok (.goto 4, 3) := by decide +kernel
theorem dX3_judgeDown_54 : decode cX3_judgeDown 54 = .ok (.iconst 0, 1) := by decide +kernel
theorem dX3_judgeDown_55 : decode cX3_judgeDown 55 = .ok (.ireturn, 1) := by decide +kernel
theorem dX3_isRefusedAt_0 : decode cX3_isRefusedAt 0 = .ok (.aload_n 0, 1) := by decide +kernel
theorem dX3_isRefusedAt_1 : decode cX3_isRefusedAt 1 = .ok (.getfield 19, 3) := by decide +kernel
theorem dX3_isRefusedAt_4 : decode cX3_isRefusedAt 4 = .ok (.aload_n 1, 1) := by decide +kernel
theorem dX3_isRefusedAt_5 : decode cX3_isRefusedAt 5 = .ok (.iload_n 2, 1) := by decide +kernel
theorem dX3_isRefusedAt_6 : decode cX3_isRefusedAt 6 = .ok (.iconst 1, 1) := by decide +kernel
theorem dX3_isRefusedAt_7 : decode cX3_isRefusedAt 7 = .ok (.isub, 1) := by decide +kernel
theorem dX3_isRefusedAt_8 : decode cX3_isRefusedAt 8 = .ok (.iaload, 1) := by decide +kernel
theorem dX3_isRefusedAt_9 : decode cX3_isRefusedAt 9 = .ok (.aload_n 1, 1) := by decide +kernel
theorem dX3_isRefusedAt_10 : decode cX3_isRefusedAt 10 = .ok (.iload_n 2, 1) := by decide +kernel
theorem dX3_isRefusedAt_11 : decode cX3_isRefusedAt 11 = .ok (.iaload, 1) := by decide +kernel
theorem dX3_isRefusedAt_12 : decode cX3_isRefusedAt 12 = .ok (.invokevirtual 36, 3) := by decide +kernel
theorem dX3_isRefusedAt_15 : decode cX3_isRefusedAt 15 = .ok (.iconst 2, 1) := by decide +kernel
theorem dX3_isRefusedAt_16 : decode cX3_isRefusedAt 16 = .ok (.if_icmp .ne 7, 3) := by decide +kernel
theorem dX3_isRefusedAt_19 : decode cX3_isRefusedAt 19 = .ok (.iconst 1, 1) := by decide +kernel
theorem dX3_isRefusedAt_20 : decode cX3_isRefusedAt 20 = .ok (.goto 4, 3) := by decide +kernel
theorem dX3_isRefusedAt_23 : decode cX3_isRefusedAt 23 = .ok (.iconst 0, 1) := by decide +kernel
theorem dX3_isRefusedAt_24 : decode cX3_isRefusedAt 24 = .ok (.istore_n 3, 1) := by decide +kernel
theorem dX3_isRefusedAt_25 : decode cX3_isRefusedAt 25 = .ok (.iload_n 3, 1) := by decide +kernel
theorem dX3_isRefusedAt_26 : decode cX3_isRefusedAt 26 = .ok (.ifCond .eq 12, 3) := by decide +kernel
theorem dX3_isRefusedAt_29 : decode cX3_isRefusedAt 29 = .ok (.aload_n 0, 1) := by decide +kernel
theorem dX3_isRefusedAt_30 : decode cX3_isRefusedAt 30 = .ok (.aload_n 1, 1) := by decide +kernel
theorem dX3_isRefusedAt_31 : decode cX3_isRefusedAt 31 = .ok (.iload_n 2, 1) := by decide +kernel
theorem dX3_isRefusedAt_32 : decode cX3_isRefusedAt 32 = .ok (.invokevirtual 42, 3) := by decide +kernel
theorem dX3_isRefusedAt_35 : decode cX3_isRefusedAt 35 = .ok (.goto 9, 3) := by decide +kernel
theorem dX3_isRefusedAt_38 : decode cX3_isRefusedAt 38 = .ok (.aload_n 0, 1) := by decide +kernel
theorem dX3_isRefusedAt_39 : decode cX3_isRefusedAt 39 = .ok (.aload_n 1, 1) := by decide +kernel
theorem dX3_isRefusedAt_40 : decode cX3_isRefusedAt 40 = .ok (.iload_n 2, 1) := by decide +kernel
theorem dX3_isRefusedAt_41 : decode cX3_isRefusedAt 41 = .ok (.invokevirtual 46, 3) := by decide +kernel
theorem dX3_isRefusedAt_44 : decode cX3_isRefusedAt 44 = .ok (.iconst 2, 1) := by decide +kernel
theorem dX3_isRefusedAt_45 : decode cX3_isRefusedAt 45 = .ok (.if_icmp .ne 7, 3) := by decide +kernel
theorem dX3_isRefusedAt_48 : decode cX3_isRefusedAt 48 = .ok (.iconst 1, 1) := by decide +kernel
theorem dX3_isRefusedAt_49 : decode cX3_isRefusedAt 49 = .ok (.goto 4, 3) := by decide +kernel
theorem dX3_isRefusedAt_52 : decode cX3_isRefusedAt 52 = .ok (.iconst 0, 1) := by decide +kernel
theorem dX3_isRefusedAt_53 : decode cX3_isRefusedAt 53 = .ok (.ireturn, 1) := by decide +kernel
theorem dX3_netsUp_0 : decode cX3_netsUp 0 = .ok (.iconst 1, 1) := by decide +kernel
theorem dX3_netsUp_1 : decode cX3_netsUp 1 = .ok (.istore 4, 2) := by decide +kernel
theorem dX3_netsUp_3 : decode cX3_netsUp 3 = .ok (.iload 4, 2) := by decide +kernel
theorem dX3_netsUp_5 : decode cX3_netsUp 5 = .ok (.iload_n 2, 1) := by decide +kernel
theorem dX3_netsUp_6 : decode cX3_netsUp 6 = .ok (.if_icmp .ge 27, 3) := by decide +kernel
theorem dX3_netsUp_9 : decode cX3_netsUp 9 = .ok (.aload_n 0, 1) := by decide +kernel
theorem dX3_netsUp_10 : decode cX3_netsUp 10 = .ok (.aload_n 1, 1) := by decide +kernel
theorem dX3_netsUp_11 : decode cX3_netsUp 11 = .ok (.iload 4, 2) := by decide +kernel
theorem dX3_netsUp_13 : decode cX3_netsUp 13 = .ok (.iconst 1, 1) := by decide +kernel
theorem dX3_netsUp_14 : decode cX3_netsUp 14 = .ok (.isub, 1) := by decide +kernel
theorem dX3_netsUp_15 : decode cX3_netsUp 15 = .ok (.iaload, 1) := by decide +kernel
theorem dX3_netsUp_16 : decode cX3_netsUp 16 = .ok (.aload_n 1, 1) := by decide +kernel
theorem dX3_netsUp_17 : decode cX3_netsUp 17 = .ok (.iload 4, 2) := by decide +kernel
theorem dX3_netsUp_19 : decode cX3_netsUp 19 = .ok (.iaload, 1) := by decide +kernel
theorem dX3_netsUp_20 : decode cX3_netsUp 20 = .ok (.iload_n 3, 1) := by decide +kernel
theorem dX3_netsUp_21 : decode cX3_netsUp 21 = .ok (.invokevirtual 49, 3) := by decide +kernel
theorem dX3_netsUp_24 : decode cX3_netsUp 24 = .ok (.ifCond .eq 9, 3) := by decide +kernel
theorem dX3_netsUp_27 : decode cX3_netsUp 27 = .ok (.iinc 4 1, 3) := by decide +kernel
theorem dX3_netsUp_30 : decode cX3_netsUp 30 = .ok (.goto (-27), 3) := by decide +kernel
theorem dX3_netsUp_33 : decode cX3_netsUp 33 = .ok (.iload 4, 2) := by decide +kernel
theorem dX3_netsUp_35 : decode cX3_netsUp 35 = .ok (.ireturn, 1) := by decide +kernel
theorem dX3_netsBack_0 : decode cX3_netsBack 0 = .ok (.iconst 1, 1) := by decide +kernel
theorem dX3_netsBack_1 : decode cX3_netsBack 1 = .ok (.istore 4, 2) := by decide +kernel
theorem dX3_netsBack_3 : decode cX3_netsBack 3 = .ok (.iload 4, 2) := by decide +kernel
theorem dX3_netsBack_5 : decode cX3_netsBack 5 = .ok (.iload_n 2, 1) := by decide +kernel
theorem dX3_netsBack_6 : decode cX3_netsBack 6 = .ok (.if_icmp .ge 31, 3) := by decide +kernel
theorem dX3_netsBack_9 : decode cX3_netsBack 9 = .ok (.aload_n 0, 1) := by decide +kernel
theorem dX3_netsBack_10 : decode cX3_netsBack 10 = .ok (.aload_n 1, 1) := by decide +kernel
theorem dX3_netsBack_11 : decode cX3_netsBack 11 = .ok (.iload_n 2, 1) := by decide +kernel
theorem dX3_netsBack_12 : decode cX3_netsBack 12 = .ok (.iload 4, 2) := by decide +kernel
theorem dX3_netsBack_14 : decode cX3_netsBack 14 = .ok (.isub, 1) := by decide +kernel
theorem dX3_netsBack_15 : decode cX3_netsBack 15 = .ok (.iaload, 1) := by decide +kernel
theorem dX3_netsBack_16 : decode cX3_netsBack 16 = .ok (.aload_n 1, 1) := by decide +kernel
theorem dX3_netsBack_17 : decode cX3_netsBack 17 = .ok (.iload_n 2, 1) := by decide +kernel
theorem dX3_netsBack_18 : decode cX3_netsBack 18 = .ok (.iload 4, 2) := by decide +kernel
theorem dX3_netsBack_20 : decode cX3_netsBack 20 = .ok (.isub, 1) := by decide +kernel
theorem dX3_netsBack_21 : decode cX3_netsBack 21 = .ok (.iconst 1, 1) := by decide +kernel
theorem dX3_netsBack_22 : decode cX3_netsBack 22 = .ok (.isub, 1) := by decide +kernel
theorem dX3_netsBack_23 : decode cX3_netsBack 23 = .ok (.iaload, 1) := by decide +kernel
theorem dX3_netsBack_24 : decode cX3_netsBack 24 = .ok (.iload_n 3, 1) := by decide +kernel
theorem dX3_netsBack_25 : decode cX3_netsBack 25 = .ok (.invokevirtual 49, 3) := by decide +kernel
theorem dX3_netsBack_28 : decode cX3_netsBack 28 = .ok (.ifCond .eq 9, 3) := by decide +kernel
theorem dX3_netsBack_31 : decode cX3_netsBack 31 = .ok (.iinc 4 1, 3) := by decide +kernel
theorem dX3_netsBack_34 : decode cX3_netsBack 34 = .ok (.goto (-31), 3) := by decide +kernel
theorem dX3_netsBack_37 : decode cX3_netsBack 37 = .ok (.iload 4, 2) := by decide +kernel
theorem dX3_netsBack_39 : decode cX3_netsBack 39 = .ok (.ireturn, 1) := by decide +kernel
theorem dX3_goesOn_0 : decode cX3_goesOn 0 = .ok (.aload_n 0, 1) := by decide +kernel
theorem dX3_goesOn_1 : decode cX3_goesOn 1 = .ok (.getfield 15, 3) := by decide +kernel
theorem dX3_goesOn_4 : decode cX3_goesOn 4 = .ok (.iload_n 1, 1) := by decide +kernel
theorem dX3_goesOn_5 : decode cX3_goesOn 5 = .ok (.iaload, 1) := by decide +kernel
theorem dX3_goesOn_6 : decode cX3_goesOn 6 = .ok (.iload_n 2, 1) := by decide +kernel
theorem dX3_goesOn_7 : decode cX3_goesOn 7 = .ok (.invokestatic 53, 3) := by decide +kernel
theorem dX3_goesOn_10 : decode cX3_goesOn 10 = .ok (.istore 4, 2) := by decide +kernel
theorem dX3_goesOn_12 : decode cX3_goesOn 12 = .ok (.iload 4, 2) := by decide +kernel
theorem dX3_goesOn_14 : decode cX3_goesOn 14 = .ok (.ifCond .ne 16, 3) := by decide +kernel
theorem dX3_goesOn_17 : decode cX3_goesOn 17 = .ok (.iload_n 3, 1) := by decide +kernel
theorem dX3_goesOn_18 : decode cX3_goesOn 18 = .ok (.ifCond .ne 16, 3) := by decide +kernel
theorem dX3_goesOn_21 : decode cX3_goesOn 21 = .ok (.aload_n 0, 1) := by decide +kernel
theorem dX3_goesOn_22 : decode cX3_goesOn 22 = .ok (.getfield 9, 3) := by decide +kernel
theorem dX3_goesOn_25 : decode cX3_goesOn 25 = .ok (.iload_n 1, 1) := by decide +kernel
theorem dX3_goesOn_26 : decode cX3_goesOn 26 = .ok (.baload, 1) := by decide +kernel
theorem dX3_goesOn_27 : decode cX3_goesOn 27 = .ok (.ifCond .ne 7, 3) := by decide +kernel
theorem dX3_goesOn_30 : decode cX3_goesOn 30 = .ok (.iconst 1, 1) := by decide +kernel
theorem dX3_goesOn_31 : decode cX3_goesOn 31 = .ok (.goto 4, 3) := by decide +kernel
theorem dX3_goesOn_34 : decode cX3_goesOn 34 = .ok (.iconst 0, 1) := by decide +kernel
theorem dX3_goesOn_35 : decode cX3_goesOn 35 = .ok (.ireturn, 1) := by decide +kernel
theorem dX4_init_0 : decode cX4_init 0 = .ok (.aload_n 0, 1) := by decide +kernel
theorem dX4_init_1 : decode cX4_init 1 = .ok (.invokespecial 3, 3) := by decide +kernel
theorem dX4_init_4 : decode cX4_init 4 = .ok (.aload_n 0, 1) := by decide +kernel
theorem dX4_init_5 : decode cX4_init 5 = .ok (.iconst 0, 1) := by decide +kernel
theorem dX4_init_6 : decode cX4_init 6 = .ok (.putfield 9, 3) := by decide +kernel
theorem dX4_init_9 : decode cX4_init 9 = .ok (.aload_n 0, 1) := by decide +kernel
theorem dX4_init_10 : decode cX4_init 10 = .ok (.iconst 1, 1) := by decide +kernel
theorem dX4_init_11 : decode cX4_init 11 = .ok (.putfield 15, 3) := by decide +kernel
theorem dX4_init_14 : decode cX4_init 14 = .ok (.aload_n 0, 1) := by decide +kernel
theorem dX4_init_15 : decode cX4_init 15 = .ok (.bipush 8, 2) := by decide +kernel
theorem dX4_init_17 : decode cX4_init 17 = .ok (.newarray .int, 2) := by decide +kernel
theorem dX4_init_19 : decode cX4_init 19 = .ok (.putfield 18, 3) := by decide +kernel
theorem dX4_init_22 : decode cX4_init 22 = .ok (.aload_n 0, 1) := by decide +kernel
theorem dX4_init_23 : decode cX4_init 23 = .ok (.bipush 8, 2) := by decide +kernel
theorem dX4_init_25 : decode cX4_init 25 = .ok (.newarray .int, 2) := by decide +kernel
theorem dX4_init_27 : decode cX4_init 27 = .ok (.putfield 22, 3) := by decide +kernel
theorem dX4_init_30 : decode cX4_init 30 = .ok (.aload_n 0, 1) := by decide +kernel
theorem dX4_init_31 : decode cX4_init 31 = .ok (.bipush 8, 2) := by decide +kernel
theorem dX4_init_33 : decode cX4_init 33 = .ok (.newarray .int, 2) := by decide +kernel
theorem dX4_init_35 : decode cX4_init 35 = .ok (.putfield 25, 3) := by decide +kernel
theorem dX4_init_38 : decode cX4_init 38 = .ok (.aload_n 0, 1) := by decide +kernel
theorem dX4_init_39 : decode cX4_init 39 = .ok (.bipush 10, 2) := by decide +kernel
theorem dX4_init_41 : decode cX4_init 41 = .ok (.newarray .int, 2) := by decide +kernel
theorem dX4_init_43 : decode cX4_init 43 = .ok (.putfield 28, 3) := by decide +kernel
theorem dX4_init_46 : decode cX4_init 46 = .ok (.aload_n 0, 1) := by decide +kernel
theorem dX4_init_47 : decode cX4_init 47 = .ok (.getfield 18, 3) := by decide +kernel
theorem dX4_init_50 : decode cX4_init 50 = .ok (.iconst 0, 1) := by decide +kernel
theorem dX4_init_51 : decode cX4_init 51 = .ok (.iconst (-1), 1) := by decide +kernel
theorem dX4_init_52 : decode cX4_init 52 = .ok (.iastore, 1) := by decide +kernel
theorem dX4_init_53 : decode cX4_init 53 = .ok (.aload_n 0, 1) := by decide +kernel
theorem dX4_init_54 : decode cX4_init 54 = .ok (.getfield 25, 3) := by decide +kernel
theorem dX4_init_57 : decode cX4_init 57 = .ok (.iconst 0, 1) := by decide +kernel
theorem dX4_init_58 : decode cX4_init 58 = .ok (.bipush 30, 2) := by decide +kernel
theorem dX4_init_60 : decode cX4_init 60 = .ok (.iastore, 1) := by decide +kernel
theorem dX4_init_61 : decode cX4_init 61 = .ok (.return_, 1) := by decide +kernel
theorem dX4_add_0 : decode cX4_add 0 = .ok (.aload_n 0, 1) := by decide +kernel
theorem dX4_add_1 : decode cX4_add 1 = .ok (.getfield 15, 3) := by decide +kernel
theorem dX4_add_4 : decode cX4_add 4 = .ok (.istore_n 2, 1) := by decide +kernel
theorem dX4_add_5 : decode cX4_add 5 = .ok (.aload_n 0, 1) := by decide +kernel
theorem dX4_add_6 : decode cX4_add 6 = .ok (.getfield 18, 3) := by decide +kernel
theorem dX4_add_9 : decode cX4_add 9 = .ok (.iload_n 2, 1) := by decide +kernel
theorem dX4_add_10 : decode cX4_add 10 = .ok (.iload_n 1, 1) := by decide +kernel
theorem dX4_add_11 : decode cX4_add 11 = .ok (.iastore, 1) := by decide +kernel
theorem dX4_add_12 : decode cX4_add 12 = .ok (.aload_n 0, 1) := by decide +kernel
theorem dX4_add_13 : decode cX4_add 13 = .ok (.getfield 25, 3) := by decide +kernel
theorem dX4_add_16 : decode cX4_add 16 = .ok (.iload_n 2, 1) := by decide +kernel
theorem dX4_add_17 : decode cX4_add 17 = .ok (.aload_n 0, 1) := by decide +kernel
theorem dX4_add_18 : decode cX4_add 18 = .ok (.getfield 9, 3) := by decide +kernel
theorem dX4_add_21 : decode cX4_add 21 = .ok (.bipush 30, 2) := by decide +kernel
theorem dX4_add_23 : decode cX4_add 23 = .ok (.iadd, 1) := by decide +kernel
theorem dX4_add_24 : decode cX4_add 24 = .ok (.iastore, 1) := by decide +kernel
theorem dX4_add_25 : decode cX4_add 25 = .ok (.aload_n 0, 1) := by decide +kernel
theorem dX4_add_26 : decode cX4_add 26 = .ok (.dup, 1) := by decide +kernel
theorem dX4_add_27 : decode cX4_add 27 = .ok (.getfield 15, 3) := by decide +kernel
theorem dX4_add_30 : decode cX4_add 30 = .ok (.iconst 1, 1) := by decide +kernel
theorem dX4_add_31 : decode cX4_add 31 = .ok (.iadd, 1) := by decide +kernel
theorem dX4_add_32 : decode cX4_add 32 = .ok (.putfield 15, 3) := by decide +kernel
theorem dX4_add_35 : decode cX4_add 35 = .ok (.iload_n 2, 1) := by decide +kernel
theorem dX4_add_36 : decode cX4_add 36 = .ok (.ireturn, 1) := by decide +kernel
theorem dX5_init_0 : decode cX5_init 0 = .ok (.aload_n 0, 1) := by decide +kernel
theorem dX5_init_1 : decode cX5_init 1 = .ok (.invokespecial 3, 3) := by decide +kernel
theorem dX5_init_4 : decode cX5_init 4 = .ok (.aload_n 0, 1) := by decide +kernel
theorem dX5_init_5 : decode cX5_init 5 = .ok (.iconst 0, 1) := by decide +kernel
theorem dX5_init_6 : decode cX5_init 6 = .ok (.putfield 9, 3) := by decide +kernel
theorem dX5_init_9 : decode cX5_init 9 = .ok (.aload_n 0, 1) := by decide +kernel
theorem dX5_init_10 : decode cX5_init 10 = .ok (.bipush 10, 2) := by decide +kernel
theorem dX5_init_12 : decode cX5_init 12 = .ok (.newarray .int, 2) := by decide +kernel
theorem dX5_init_14 : decode cX5_init 14 = .ok (.putfield 15, 3) := by decide +kernel
theorem dX5_init_17 : decode cX5_init 17 = .ok (.aload_n 0, 1) := by decide +kernel
theorem dX5_init_18 : decode cX5_init 18 = .ok (.bipush 10, 2) := by decide +kernel
theorem dX5_init_20 : decode cX5_init 20 = .ok (.bipush 10, 2) := by decide +kernel
theorem dX5_init_22 : decode cX5_init 22 = .ok (.multianewarray 19 2, 4) := by decide +kernel
theorem dX5_init_26 : decode cX5_init 26 = .ok (.putfield 21, 3) := by decide +kernel
theorem dX5_init_29 : decode cX5_init 29 = .ok (.aload_n 0, 1) := by decide +kernel
theorem dX5_init_30 : decode cX5_init 30 = .ok (.iconst 3, 1) := by decide +kernel
theorem dX5_init_31 : decode cX5_init 31 = .ok (.bipush 10, 2) := by decide +kernel
theorem dX5_init_33 : decode cX5_init 33 = .ok (.multianewarray 19 2, 4) := by decide +kernel
theorem dX5_init_37 : decode cX5_init 37 = .ok (.putfield 24, 3) := by decide +kernel
theorem dX5_init_40 : decode cX5_init 40 = .ok (.aload_n 0, 1) := by decide +kernel
theorem dX5_init_41 : decode cX5_init 41 = .ok (.aload_n 1, 1) := by decide +kernel
theorem dX5_init_42 : decode cX5_init 42 = .ok (.putfield 27, 3) := by decide +kernel
theorem dX5_init_45 : decode cX5_init 45 = .ok (.return_, 1) := by decide +kernel
theorem dX5_infer_0 : decode cX5_infer 0 = .ok (.aload_n 0, 1) := by decide +kernel
theorem dX5_infer_1 : decode cX5_infer 1 = .ok (.invokevirtual 31, 3) := by decide +kernel
theorem dX5_infer_4 : decode cX5_infer 4 = .ok (.aload_n 0, 1) := by decide +kernel
theorem dX5_infer_5 : decode cX5_infer 5 = .ok (.invokevirtual 34, 3) := by decide +kernel
theorem dX5_infer_8 : decode cX5_infer 8 = .ok (.iconst 0, 1) := by decide +kernel
theorem dX5_infer_9 : decode cX5_infer 9 = .ok (.istore_n 1, 1) := by decide +kernel
theorem dX5_infer_10 : decode cX5_infer 10 = .ok (.iload_n 1, 1) := by decide +kernel
theorem dX5_infer_11 : decode cX5_infer 11 = .ok (.iconst 3, 1) := by decide +kernel
theorem dX5_infer_12 : decode cX5_infer 12 = .ok (.if_icmp .ge 19, 3) := by decide +kernel
theorem dX5_infer_15 : decode cX5_infer 15 = .ok (.aload_n 0, 1) := by decide +kernel
theorem dX5_infer_16 : decode cX5_infer 16 = .ok (.iload_n 1, 1) := by decide +kernel
theorem dX5_infer_17 : decode cX5_infer 17 = .ok (.invokevirtual 37, 3) := by decide +kernel
theorem dX5_infer_20 : decode cX5_infer 20 = .ok (.aload_n 0, 1) := by decide +kernel
theorem dX5_infer_21 : decode cX5_infer 21 = .ok (.iload_n 1, 1) := by decide +kernel
theorem dX5_infer_22 : decode cX5_infer 22 = .ok (.invokevirtual 41, 3) := by decide +kernel
theorem dX5_infer_25 : decode cX5_infer 25 = .ok (.iinc 1 1, 3) := by decide +kernel
theorem dX5_infer_28 : decode cX5_infer 28 = .ok (.goto (-18), 3) := by decide +kernel
theorem dX5_infer_31 : decode cX5_infer 31 = .ok (.return_, 1) := by decide +kernel
theorem dX5_findNeighbours_0 : decode cX5_findNeighbours 0 = .ok (.iconst 0, 1) := by decide +kernel
theorem dX5_findNeighbours_1 : decode cX5_findNeighbours 1 = .ok (.istore_n 1, 1) := by decide +kernel
theorem dX5_findNeighbours_2 : decode cX5_findNeighbours 2 = .ok (.iload_n 1, 1) := by decide +kernel
theorem dX5_findNeighbours_3 : decode cX5_findNeighbours 3 = .ok (.bipush 10, 2) := by decide +kernel
theorem dX5_findNeighbours_5 : decode cX5_findNeighbours 5 = .ok (.if_icmp .ge 16, 3) := by decide +kernel
theorem dX5_findNeighbours_8 : decode cX5_findNeighbours 8 = .ok (.aload_n 0, 1) := by decide +kernel
theorem dX5_findNeighbours_9 : decode cX5_findNeighbours 9 = .ok (.getfield 15, 3) := by decide +kernel
theorem dX5_findNeighbours_12 : decode cX5_findNeighbours 12 = .ok (.iload_n 1, 1) := by decide +kernel
theorem dX5_findNeighbours_13 : decode cX5_findNeighbours 13 = .ok (.iconst 0, 1) := by decide +kernel
theorem dX5_findNeighbours_14 : decode cX5_findNeighbours 14 = .ok (.iastore, 1) := by decide +kernel
theorem dX5_findNeighbours_15 : decode cX5_findNeighbours 15 = .ok (.iinc 1 1, 3) := by decide +kernel
theorem dX5_findNeighbours_18 : decode cX5_findNeighbours 18 = .ok (.goto (-16), 3) := by decide +kernel
theorem dX5_findNeighbours_21 : decode cX5_findNeighbours 21 = .ok (.iconst 0, 1) := by decide +kernel
theorem dX5_findNeighbours_22 : decode cX5_findNeighbours 22 = .ok (.istore_n 1, 1) := by decide +kernel
theorem dX5_findNeighbours_23 : decode cX5_findNeighbours 23 = .ok (.iload_n 1, 1) := by decide +kernel
theorem dX5_findNeighbours_24 : decode cX5_findNeighbours 24 = .ok (.aload_n 0, 1) := by decide +kernel
theorem dX5_findNeighbours_25 : decode cX5_findNeighbours 25 = .ok (.getfield 27, 3) := by decide +kernel
theorem dX5_findNeighbours_28 : decode cX5_findNeighbours 28 = .ok (.getfield 44, 3) := by decide +kernel
theorem dX5_findNeighbours_31 : decode cX5_findNeighbours 31 = .ok (.if_icmp .ge 42, 3) := by decide +kernel
theorem dX5_findNeighbours_34 : decode cX5_findNeighbours 34 = .ok (.aload_n 0, 1) := by decide +kernel
theorem dX5_findNeighbours_35 : decode cX5_findNeighbours 35 = .ok (.getfield 27, 3) := by decide +kernel
theorem dX5_findNeighbours_38 : decode cX5_findNeighbours 38 = .ok (.iload_n 1, 1) := by decide +kernel
theorem dX5_findNeighbours_39 : decode cX5_findNeighbours 39 = .ok (.invokevirtual 49, 3) := by decide +kernel
theorem dX5_findNeighbours_42 : decode cX5_findNeighbours 42 = .ok (.ifCond .eq 25, 3) := by decide +kernel
theorem dX5_findNeighbours_45 : decode cX5_findNeighbours 45 = .ok (.aload_n 0, 1) := by decide +kernel
theorem dX5_findNeighbours_46 : decode cX5_findNeighbours 46 = .ok (.aload_n 0, 1) := by decide +kernel
theorem dX5_findNeighbours_47 : decode cX5_findNeighbours 47 = .ok (.getfield 27, 3) := by decide +kernel
theorem dX5_findNeighbours_50 : decode cX5_findNeighbours 50 = .ok (.getfield 53, 3) := by decide +kernel
theorem dX5_findNeighbours_53 : decode cX5_findNeighbours 53 = .ok (.iload_n 1, 1) := by decide +kernel
theorem dX5_findNeighbours_54 : decode cX5_findNeighbours 54 = .ok (.aaload, 1) := by decide +kernel
theorem dX5_findNeighbours_55 : decode cX5_findNeighbours 55 = .ok (.aload_n 0, 1) := by decide +kernel
theorem dX5_findNeighbours_56 : decode cX5_findNeighbours 56 = .ok (.getfield 27, 3) := by decide +kernel
theorem dX5_findNeighbours_59 : decode cX5_findNeighbours 59 = .ok (.getfield 56, 3) := by decide +kernel
theorem dX5_findNeighbours_62 : decode cX5_findNeighbours 62 = .ok (.iload_n 1, 1) := by decide +kernel
theorem dX5_findNeighbours_63 : decode cX5_findNeighbours 63 = .ok (.iaload, 1) := by decide +kernel
theorem dX5_findNeighbours_64 : decode cX5_findNeighbours 64 = .ok (.invokevirtual 59, 3) := by decide +kernel
theorem dX5_findNeighbours_67 : decode cX5_findNeighbours 67 = .ok (.iinc 1 1, 3) := by decide +kernel
theorem dX5_findNeighbours_70 : decode cX5_findNeighbours 70 = .ok (.goto (-47), 3) := by decide +kernel
theorem dX5_findNeighbours_73 : decode cX5_findNeighbours 73 = .ok (.return_, 1) := by decide +kernel
theorem dX5_joinNeighbours_0 : decode cX5_joinNeighbours 0 = .ok (.iconst 1, 1) := by decide +kernel
theorem dX5_joinNeighbours_1 : decode cX5_joinNeighbours 1 = .ok (.istore_n 3, 1) := by decide +kernel
theorem dX5_joinNeighbours_2 : decode cX5_joinNeighbours 2 = .ok (.iload_n 3, 1) := by decide +kernel
theorem dX5_joinNeighbours_3 : decode cX5_joinNeighbours 3 = .ok (.iload_n 2, 1) := by decide +kernel
theorem dX5_joinNeighbours_4 : decode cX5_joinNeighbours 4 = .ok (.if_icmp .ge 45, 3) := by decide +kernel
theorem dX5_joinNeighbours_7 : decode cX5_joinNeighbours 7 = .ok (.aload_n 0, 1) := by decide +kernel
theorem dX5_joinNeighbours_8 : decode cX5_joinNeighbours 8 = .ok (.getfield 15, 3) := by decide +kernel
theorem dX5_joinNeighbours_11 : decode cX5_joinNeighbours 11 = .ok (.aload_n 1, 1) := by decide +kernel
theorem dX5_joinNeighbours_12 : decode cX5_joinNeighbours 12 = .ok (.iload_n 3, 1) := by decide +kernel
theorem dX5_joinNeighbours_13 : decode cX5_joinNeighbours 13 = .ok (.iconst 1, 1) := by decide +kernel
theorem dX5_joinNeighbours_14 : decode cX5_joinNeighbours 14 = .ok (.isub, 1) := by decide +kernel
theorem dX5_joinNeighbours_15 : decode cX5_joinNeighbours 15 = .ok (.iaload, 1) := by decide +kernel
theorem dX5_joinNeighbours_16 : decode cX5_joinNeighbours 16 = .ok (.dup2, 1) := by decide +kernel
theorem dX5_joinNeighbours_17 : decode cX5_joinNeighbours 17 = .ok (.iaload, 1) := by decide +kernel
theorem dX5_joinNeighbours_18 : decode cX5_joinNeighbours 18 = .ok (.iconst 1, 1) := by decide +kernel
theorem dX5_joinNeighbours_19 : decode cX5_joinNeighbours 19 = .ok (.aload_n 1, 1) := by decide +kernel
theorem dX5_joinNeighbours_20 : decode cX5_joinNeighbours 20 = .ok (.iload_n 3, 1) := by decide +kernel
theorem dX5_joinNeighbours_21 : decode cX5_joinNeighbours 21 = .ok (.iaload, 1) := by decide +kernel
theorem dX5_joinNeighbours_22 : decode cX5_joinNeighbours 22 = .ok (.ishl, 1) := by decide +kernel
theorem dX5_joinNeighbours_23 : decode cX5_joinNeighbours 23 = .ok (.ior, 1) := by decide +kernel
theorem dX5_joinNeighbours_24 : decode cX5_joinNeighbours 24 = .ok (.iastore, 1) := by decide +kernel
theorem dX5_joinNeighbours_25 : decode cX5_joinNeighbours 25 = .ok (.aload_n 0, 1) := by decide +kernel
theorem dX5_joinNeighbours_26 : decode cX5_joinNeighbours 26 = .ok (.getfield 15, 3) := by decide +kernel
theorem dX5_joinNeighbours_29 : decode cX5_joinNeighbours 29 = .ok (.aload_n 1, 1) := by decide +kernel
theorem dX5_joinNeighbours_30 : decode cX5_joinNeighbours 30 = .ok (.iload_n 3, 1) := by decide +kernel
theorem dX5_joinNeighbours_31 : decode cX5_joinNeighbours 31 = .ok (.iaload, 1) := by decide +kernel
theorem dX5_joinNeighbours_32 : decode cX5_joinNeighbours 32 = .ok (.dup2, 1) := by decide +kernel
theorem dX5_joinNeighbours_33 : decode cX5_joinNeighbours 33 = .ok (.iaload, 1) := by decide +kernel
theorem dX5_joinNeighbours_34 : decode cX5_joinNeighbours 34 = .ok (.iconst 1, 1) := by decide +kernel
theorem dX5_joinNeighbours_35 : decode cX5_joinNeighbours 35 = .ok (.aload_n 1, 1) := by decide +kernel
theorem dX5_joinNeighbours_36 : decode cX5_joinNeighbours 36 = .ok (.iload_n 3, 1) := by decide +kernel
theorem dX5_joinNeighbours_37 : decode cX5_joinNeighbours 37 = .ok (.iconst 1, 1) := by decide +kernel
theorem dX5_joinNeighbours_38 : decode cX5_joinNeighbours 38 = .ok (.isub, 1) := by decide +kernel
theorem dX5_joinNeighbours_39 : decode cX5_joinNeighbours 39 = .ok (.iaload, 1) := by decide +kernel
theorem dX5_joinNeighbours_40 : decode cX5_joinNeighbours 40 = .ok (.ishl, 1) := by decide +kernel
theorem dX5_joinNeighbours_41 : decode cX5_joinNeighbours 41 = .ok (.ior, 1) := by decide +kernel
theorem dX5_joinNeighbours_42 : decode cX5_joinNeighbours 42 = .ok (.iastore, 1) := by decide +kernel
theorem dX5_joinNeighbours_43 : decode cX5_joinNeighbours 43 = .ok (.iinc 3 1, 3) := by decide +kernel
theorem dX5_joinNeighbours_46 : decode cX5_joinNeighbours 46 = .ok (.goto (-44), 3) := by decide +kernel
theorem dX5_joinNeighbours_49 : decode cX5_joinNeighbours 49 = .ok (.return_, 1) := by decide +kernel
theorem dX5_findCore_0 : decode cX5_findCore 0 = .ok (.aload_n 0, 1) := by decide +kernel
theorem dX5_findCore_1 : decode cX5_findCore 1 = .ok (.iconst 0, 1) := by decide +kernel
theorem dX5_findCore_2 : decode cX5_findCore 2 = .ok (.putfield 9, 3) := by decide +kernel
theorem dX5_findCore_5 : decode cX5_findCore 5 = .ok (.bipush 9, 2) := by decide +kernel
theorem dX5_findCore_7 : decode cX5_findCore 7 = .ok (.istore_n 1, 1) := by decide +kernel
theorem dX5_findCore_8 : decode cX5_findCore 8 = .ok (.iload_n 1, 1) := by decide +kernel
theorem dX5_findCore_9 : decode cX5_findCore 9 = .ok (.ifCond .le 64, 3) := by decide +kernel
theorem dX5_findCore_12 : decode cX5_findCore 12 = .ok (.iconst 0, 1) := by decide +kernel
theorem dX5_findCore_13 : decode cX5_findCore 13 = .ok (.istore_n 2, 1) := by decide +kernel
theorem dX5_findCore_14 : decode cX5_findCore 14 = .ok (.iload_n 2, 1) := by decide +kernel
theorem dX5_findCore_15 : decode cX5_findCore 15 = .ok (.bipush 10, 2) := by decide +kernel
theorem dX5_findCore_17 : decode cX5_findCore 17 = .ok (.if_icmp .ge 50, 3) := by decide +kernel
theorem dX5_findCore_20 : decode cX5_findCore 20 = .ok (.aload_n 0, 1) := by decide +kernel
theorem dX5_findCore_21 : decode cX5_findCore 21 = .ok (.getfield 15, 3) := by decide +kernel
theorem dX5_findCore_24 : decode cX5_findCore 24 = .ok (.iload_n 2, 1) := by decide +kernel
theorem dX5_findCore_25 : decode cX5_findCore 25 = .ok (.iaload, 1) := by decide +kernel
theorem dX5_findCore_26 : decode cX5_findCore 26 = .ok (.invokestatic 63, 3) := by decide +kernel
theorem dX5_findCore_29 : decode cX5_findCore 29 = .ok (.iload_n 1, 1) := by decide +kernel
theorem dX5_findCore_30 : decode cX5_findCore 30 = .ok (.if_icmp .ne 31, 3) := by decide +kernel
theorem dX5_findCore_33 : decode cX5_findCore 33 = .ok (.aload_n 0, 1) := by decide +kernel
theorem dX5_findCore_34 : decode cX5_findCore 34 = .ok (.getfield 9, 3) := by decide +kernel
theorem dX5_findCore_37 : decode cX5_findCore 37 = .ok (.aload_n 0, 1) := by decide +kernel
theorem dX5_findCore_38 : decode cX5_findCore 38 = .ok (.getfield 15, 3) := by decide +kernel
theorem dX5_findCore_41 : decode cX5_findCore 41 = .ok (.iload_n 2, 1) := by decide +kernel
theorem dX5_findCore_42 : decode cX5_findCore 42 = .ok (.iaload, 1) := by decide +kernel
theorem dX5_findCore_43 : decode cX5_findCore 43 = .ok (.iconst (-1), 1) := by decide +kernel
theorem dX5_findCore_44 : decode cX5_findCore 44 = .ok (.ixor, 1) := by decide +kernel
theorem dX5_findCore_45 : decode cX5_findCore 45 = .ok (.iand, 1) := by decide +kernel
theorem dX5_findCore_46 : decode cX5_findCore 46 = .ok (.ifCond .ne 15, 3) := by decide +kernel
theorem dX5_findCore_49 : decode cX5_findCore 49 = .ok (.aload_n 0, 1) := by decide +kernel
theorem dX5_findCore_50 : decode cX5_findCore 50 = .ok (.dup, 1) := by decide +kernel
theorem dX5_findCore_51 : decode cX5_findCore 51 = .ok (.getfield 9, 3) := by decide +kernel
theorem dX5_findCore_54 : decode cX5_findCore 54 = .ok (.iconst 1, 1) := by decide +kernel
theorem dX5_findCore_55 : decode cX5_findCore 55 = .ok (.iload_n 2, 1) := by decide +kernel
theorem dX5_findCore_56 : decode cX5_findCore 56 = .ok (.ishl, 1) := by decide +kernel
theorem dX5_findCore_57 : decode cX5_findCore 57 = .ok (.ior, 1) := by decide +kernel
theorem dX5_findCore_58 : decode cX5_findCore 58 = .ok (.putfield 9, 3) := by decide +kernel
theorem dX5_findCore_61 : decode cX5_findCore 61 = .ok (.iinc 2 1, 3) := by decide +kernel
theorem dX5_findCore_64 : decode cX5_findCore 64 = .ok (.goto (-50), 3) := by decide +kernel
theorem dX5_findCore_67 : decode cX5_findCore 67 = .ok (.iinc 1 (-1), 3) := by decide +kernel
theorem dX5_findCore_70 : decode cX5_findCore 70 = .ok (.goto (-62), 3) := by decide +kernel
theorem dX5_findCore_73 : decode cX5_findCore 73 = .ok (.return_, 1) := by decide +kernel
theorem dX5_vote_0 : decode cX5_vote 0 = .ok (.iconst 0, 1) := by decide +kernel
theorem dX5_vote_1 : decode cX5_vote 1 = .ok (.istore_n 2, 1) := by decide +kernel
theorem dX5_vote_2 : decode cX5_vote 2 = .ok (.iload_n 2, 1) := by decide +kernel
theorem dX5_vote_3 : decode cX5_vote 3 = .ok (.bipush 10, 2) := by decide +kernel
theorem dX5_vote_5 : decode cX5_vote 5 = .ok (.if_icmp .ge 32, 3) := by decide +kernel
theorem dX5_vote_8 : decode cX5_vote 8 = .ok (.iconst 0, 1) := by decide +kernel
theorem dX5_vote_9 : decode cX5_vote 9 = .ok (.istore_n 3, 1) := by decide +kernel
theorem dX5_vote_10 : decode cX5_vote 10 = .ok (.iload_n 3, 1) := by decide +kernel
theorem dX5_vote_11 : decode cX5_vote 11 = .ok (.bipush 10, 2) := by decide +kernel
theorem dX5_vote_13 : decode cX5_vote 13 = .ok (.if_icmp .ge 18, 3) := by decide +kernel
theorem dX5_vote_16 : decode cX5_vote 16 = .ok (.aload_n 0, 1) := by decide +kernel
theorem dX5_vote_17 : decode cX5_vote 17 = .ok (.getfield 21, 3) := by decide +kernel
theorem dX5_vote_20 : decode cX5_vote 20 = .ok (.iload_n 2, 1) := by decide +kernel
theorem dX5_vote_21 : decode cX5_vote 21 = .ok (.aaload, 1) := by decide +kernel
theorem dX5_vote_22 : decode cX5_vote 22 = .ok (.iload_n 3, 1) := by decide +kernel
theorem dX5_vote_23 : decode cX5_vote 23 = .ok (.iconst 0, 1) := by decide +kernel
theorem dX5_vote_24 : decode cX5_vote 24 = .ok (.iastore, 1) := by decide +kernel
theorem dX5_vote_25 : decode cX5_vote 25 = .ok (.iinc 3 1, 3) := by decide +kernel
theorem dX5_vote_28 : decode cX5_vote 28 = .ok (.goto (-18), 3) := by decide +kernel
theorem dX5_vote_31 : decode cX5_vote 31 = .ok (.iinc 2 1, 3) := by decide +kernel
theorem dX5_vote_34 : decode cX5_vote 34 = .ok (.goto (-32), 3) := by decide +kernel
theorem dX5_vote_37 : decode cX5_vote 37 = .ok (.iconst 0, 1) := by decide +kernel
theorem dX5_vote_38 : decode cX5_vote 38 = .ok (.istore_n 2, 1) := by decide +kernel
theorem dX5_vote_39 : decode cX5_vote 39 = .ok (.iload_n 2, 1) := by decide +kernel
theorem dX5_vote_40 : decode cX5_vote 40 = .ok (.aload_n 0, 1) := by decide +kernel
theorem dX5_vote_41 : decode cX5_vote 41 = .ok (.getfield 27, 3) := by decide +kernel
theorem dX5_vote_44 : decode cX5_vote 44 = .ok (.getfield 44, 3) := by decide +kernel
theorem dX5_vote_47 : decode cX5_vote 47 = .ok (.if_icmp .ge 43, 3) := by decide +kernel
theorem dX5_vote_50 : decode cX5_vote 50 = .ok (.aload_n 0, 1) := by decide +kernel
theorem dX5_vote_51 : decode cX5_vote 51 = .ok (.getfield 27, 3) := by decide +kernel
theorem dX5_vote_54 : decode cX5_vote 54 = .ok (.iload_n 2, 1) := by decide +kernel
theorem dX5_vote_55 : decode cX5_vote 55 = .ok (.invokevirtual 49, 3) := by decide +kernel
theorem dX5_vote_58 : decode cX5_vote 58 = .ok (.ifCond .eq 26, 3) := by decide +kernel
theorem dX5_vote_61 : decode cX5_vote 61 = .ok (.aload_n 0, 1) := by decide +kernel
theorem dX5_vote_62 : decode cX5_vote 62 = .ok (.aload_n 0, 1) := by decide +kernel
theorem dX5_vote_63 : decode cX5_vote 63 = .ok (.getfield 27, 3) := by decide +kernel
theorem dX5_vote_66 : decode cX5_vote 66 = .ok (.getfield 53, 3) := by decide +kernel
theorem dX5_vote_69 : decode cX5_vote 69 = .ok (.iload_n 2, 1) := by decide +kernel
theorem dX5_vote_70 : decode cX5_vote 70 = .ok (.aaload, 1) := by decide +kernel
theorem dX5_vote_71 : decode cX5_vote 71 = .ok (.aload_n 0, 1) := by decide +kernel
theorem dX5_vote_72 : decode cX5_vote 72 = .ok (.getfield 27, 3) := by decide +kernel
theorem dX5_vote_75 : decode cX5_vote 75 = .ok (.getfield 56, 3) := by decide +kernel
theorem dX5_vote_78 : decode cX5_vote 78 = .ok (.iload_n 2, 1) := by decide +kernel
theorem dX5_vote_79 : decode cX5_vote 79 = .ok (.iaload, 1) := by decide +kernel
theorem dX5_vote_80 : decode cX5_vote 80 = .ok (.iload_n 1, 1) := by decide +kernel
theorem dX5_vote_81 : decode cX5_vote 81 = .ok (.invokevirtual 69, 3) := by decide +kernel
theorem dX5_vote_84 : decode cX5_vote 84 = .ok (.iinc 2 1, 3) := by decide +kernel
theorem dX5_vote_87 : decode cX5_vote 87 = .ok (.goto (-48), 3) := by decide +kernel
theorem dX5_vote_90 : decode cX5_vote 90 = .ok (.return_, 1) := by decide +kernel
theorem dX5_voteAlong_0 : decode cX5_voteAlong 0 = .ok (.aload_n 0, 1) := by decide +kernel
theorem dX5_voteAlong_1 : decode cX5_voteAlong 1 = .ok (.aload_n 1, 1) := by decide +kernel
theorem dX5_voteAlong_2 : decode cX5_voteAlong 2 = .ok (.iload_n 2, 1) := by decide +kernel
theorem dX5_voteAlong_3 : decode cX5_voteAlong 3 = .ok (.iload_n 3, 1) := by decide +kernel
theorem dX5_voteAlong_4 : decode cX5_voteAlong 4 = .ok (.invokevirtual 73, 3) := by decide +kernel
theorem dX5_voteAlong_7 : decode cX5_voteAlong 7 = .ok (.istore 4, 2) := by decide +kernel
theorem dX5_voteAlong_9 : decode cX5_voteAlong 9 = .ok (.iconst 1, 1) := by decide +kernel
theorem dX5_voteAlong_10 : decode cX5_voteAlong 10 = .ok (.istore 5, 2) := by decide +kernel
theorem dX5_voteAlong_12 : decode cX5_voteAlong 12 = .ok (.iload 5, 2) := by decide +kernel
theorem dX5_voteAlong_14 : decode cX5_voteAlong 14 = .ok (.iload_n 2, 1) := by decide +kernel
theorem dX5_voteAlong_15 : decode cX5_voteAlong 15 = .ok (.if_icmp .ge 88, 3) := by decide +kernel
theorem dX5_voteAlong_18 : decode cX5_voteAlong 18 = .ok (.aload_n 1, 1) := by decide +kernel
theorem dX5_voteAlong_19 : decode cX5_voteAlong 19 = .ok (.iload 5, 2) := by decide +kernel
theorem dX5_voteAlong_21 : decode cX5_voteAlong 21 = .ok (.iconst 1, 1) := by decide +kernel
theorem dX5_voteAlong_22 : decode cX5_voteAlong 22 = .ok (.isub, 1) := by decide +kernel
theorem dX5_voteAlong_23 : decode cX5_voteAlong 23 = .ok (.iaload, 1) := by decide +kernel
theorem dX5_voteAlong_24 : decode cX5_voteAlong 24 = .ok (.istore 6, 2) := by decide +kernel
theorem dX5_voteAlong_26 : decode cX5_voteAlong 26 = .ok (.aload_n 1, 1) := by decide +kernel
theorem dX5_voteAlong_27 : decode cX5_voteAlong 27 = .ok (.iload 5, 2) := by decide +kernel
theorem dX5_voteAlong_29 : decode cX5_voteAlong 29 = .ok (.iaload, 1) := by decide +kernel
theorem dX5_voteAlong_30 : decode cX5_voteAlong 30 = .ok (.istore 7, 2) := by decide +kernel
theorem dX5_voteAlong_32 : decode cX5_voteAlong 32 = .ok (.aload_n 0, 1) := by decide +kernel
theorem dX5_voteAlong_33 : decode cX5_voteAlong 33 = .ok (.getfield 9, 3) := by decide +kernel
theorem dX5_voteAlong_36 : decode cX5_voteAlong 36 = .ok (.iload 6, 2) := by decide +kernel
theorem dX5_voteAlong_38 : decode cX5_voteAlong 38 = .ok (.invokestatic 77, 3) := by decide +kernel
theorem dX5_voteAlong_41 : decode cX5_voteAlong 41 = .ok (.ifCond .eq 18, 3) := by decide +kernel
theorem dX5_voteAlong_44 : decode cX5_voteAlong 44 = .ok (.aload_n 0, 1) := by decide +kernel
theorem dX5_voteAlong_45 : decode cX5_voteAlong 45 = .ok (.getfield 9, 3) := by decide +kernel
theorem dX5_voteAlong_48 : decode cX5_voteAlong 48 = .ok (.iload 7, 2) := by decide +kernel
theorem dX5_voteAlong_50 : decode cX5_voteAlong 50 = .ok (.invokestatic 77, 3) := by decide +kernel
theorem dX5_voteAlong_53 : decode cX5_voteAlong 53 = .ok (.ifCond .eq 6, 3) := by decide +kernel
theorem dX5_voteAlong_56 : decode cX5_voteAlong 56 = .ok (.goto 41, 3) := by decide +kernel
theorem dX5_voteAlong_59 : decode cX5_voteAlong 59 = .ok (.iload 5, 2) := by decide +kernel
theorem dX5_voteAlong_61 : decode cX5_voteAlong 61 = .ok (.iload 4, 2) := by decide +kernel
theorem dX5_voteAlong_63 : decode cX5_voteAlong 63 = .ok (.if_icmp .gt 20, 3) := by decide +kernel
theorem dX5_voteAlong_66 : decode cX5_voteAlong 66 = .ok (.aload_n 0, 1) := by decide +kernel
theorem dX5_voteAlong_67 : decode cX5_voteAlong 67 = .ok (.getfield 21, 3) := by decide +kernel
theorem dX5_voteAlong_70 : decode cX5_voteAlong 70 = .ok (.iload 6, 2) := by decide +kernel
theorem dX5_voteAlong_72 : decode cX5_voteAlong 72 = .ok (.aaload, 1) := by decide +kernel
theorem dX5_voteAlong_73 : decode cX5_voteAlong 73 = .ok (.iload 7, 2) := by decide +kernel
theorem dX5_voteAlong_75 : decode cX5_voteAlong 75 = .ok (.dup2, 1) := by decide +kernel
theorem dX5_voteAlong_76 : decode cX5_voteAlong 76 = .ok (.iaload, 1) := by decide +kernel
theorem dX5_voteAlong_77 : decode cX5_voteAlong 77 = .ok (.iconst 1, 1) := by decide +kernel
theorem dX5_voteAlong_78 : decode cX5_voteAlong 78 = .ok (.iadd, 1) := by decide +kernel
theorem dX5_voteAlong_79 : decode cX5_voteAlong 79 = .ok (.iastore, 1) := by decide +kernel
theorem dX5_voteAlong_80 : decode cX5_voteAlong 80 = .ok (.goto 17, 3) := by decide +kernel
theorem dX5_voteAlong_83 : decode cX5_voteAlong 83 = .ok (.aload_n 0, 1) := by decide +kernel
theorem dX5_voteAlong_84 : decode cX5_voteAlong 84 = .ok (.getfield 21, 3) := by decide +kernel
theorem dX5_voteAlong_87 : decode cX5_voteAlong 87 = .ok (.iload 7, 2) := by decide +kernel
theorem dX5_voteAlong_89 : decode cX5_voteAlong 89 = .ok (.aaload, 1) := by decide +kernel
theorem dX5_voteAlong_90 : decode cX5_voteAlong 90 = .ok (.iload 6, 2) := by decide +kernel
theorem dX5_voteAlong_92 : decode cX5_voteAlong 92 = .ok (.dup2, 1) := by decide +kernel
theorem dX5_voteAlong_93 : decode cX5_voteAlong 93 = .ok (.iaload, 1) := by decide +kernel
theorem dX5_voteAlong_94 : decode cX5_voteAlong 94 = .ok (.iconst 1, 1) := by decide +kernel
theorem dX5_voteAlong_95 : decode cX5_voteAlong 95 = .ok (.iadd, 1) := by decide +kernel
theorem dX5_voteAlong_96 : decode cX5_voteAlong 96 = .ok (.iastore, 1) := by decide +kernel
theorem dX5_voteAlong_97 : decode cX5_voteAlong 97 = .ok (.iinc 5 1, 3) := by decide +kernel
theorem dX5_voteAlong_100 : decode cX5_voteAlong 100 = .ok (.goto (-88), 3) := by decide +kernel
theorem dX5_voteAlong_103 : decode cX5_voteAlong 103 = .ok (.return_, 1) := by decide +kernel
theorem dX5_topOf_0 : decode cX5_topOf 0 = .ok (.iconst 0, 1) := by decide +kernel
theorem dX5_topOf_1 : decode cX5_topOf 1 = .ok (.istore 4, 2) := by decide +kernel
theorem dX5_topOf_3 : decode cX5_topOf 3 = .ok (.iconst 0, 1) := by decide +kernel
theorem dX5_topOf_4 : decode cX5_topOf 4 = .ok (.istore 5, 2) := by decide +kernel
theorem dX5_topOf_6 : decode cX5_topOf 6 = .ok (.iload 5, 2) := by decide +kernel
theorem dX5_topOf_8 : decode cX5_topOf 8 = .ok (.iload_n 2, 1) := by decide +kernel
theorem dX5_topOf_9 : decode cX5_topOf 9 = .ok (.if_icmp .ge 51, 3) := by decide +kernel
theorem dX5_topOf_12 : decode cX5_topOf 12 = .ok (.aload_n 0, 1) := by decide +kernel
theorem dX5_topOf_13 : decode cX5_topOf 13 = .ok (.getfield 9, 3) := by decide +kernel
theorem dX5_topOf_16 : decode cX5_topOf 16 = .ok (.aload_n 1, 1) := by decide +kernel
theorem dX5_topOf_17 : decode cX5_topOf 17 = .ok (.iload 5, 2) := by decide +kernel
theorem dX5_topOf_19 : decode cX5_topOf 19 = .ok (.iaload, 1) := by decide +kernel
theorem dX5_topOf_20 : decode cX5_topOf 20 = .ok (.invokestatic 77, 3) := by decide +kernel
theorem dX5_topOf_23 : decode cX5_topOf 23 = .ok (.ifCond .eq 6, 3) := by decide +kernel
theorem dX5_topOf_26 : decode cX5_topOf 26 = .ok (.iload 5, 2) := by decide +kernel
theorem dX5_topOf_28 : decode cX5_topOf 28 = .ok (.ireturn, 1) := by decide +kernel
theorem dX5_topOf_29 : decode cX5_topOf 29 = .ok (.aload_n 0, 1) := by decide +kernel
theorem dX5_topOf_30 : decode cX5_topOf 30 = .ok (.aload_n 1, 1) := by decide +kernel
theorem dX5_topOf_31 : decode cX5_topOf 31 = .ok (.iload 5, 2) := by decide +kernel
theorem dX5_topOf_33 : decode cX5_topOf 33 = .ok (.iaload, 1) := by decide +kernel
theorem dX5_topOf_34 : decode cX5_topOf 34 = .ok (.iload_n 3, 1) := by decide +kernel
theorem dX5_topOf_35 : decode cX5_topOf 35 = .ok (.invokevirtual 81, 3) := by decide +kernel
theorem dX5_topOf_38 : decode cX5_topOf 38 = .ok (.aload_n 0, 1) := by decide +kernel
theorem dX5_topOf_39 : decode cX5_topOf 39 = .ok (.aload_n 1, 1) := by decide +kernel
theorem dX5_topOf_40 : decode cX5_topOf 40 = .ok (.iload 4, 2) := by decide +kernel
theorem dX5_topOf_42 : decode cX5_topOf 42 = .ok (.iaload, 1) := by decide +kernel
theorem dX5_topOf_43 : decode cX5_topOf 43 = .ok (.iload_n 3, 1) := by decide +kernel
theorem dX5_topOf_44 : decode cX5_topOf 44 = .ok (.invokevirtual 81, 3) := by decide +kernel
theorem dX5_topOf_47 : decode cX5_topOf 47 = .ok (.if_icmp .le 7, 3) := by decide +kernel
theorem dX5_topOf_50 : decode cX5_topOf 50 = .ok (.iload 5, 2) := by decide +kernel
theorem dX5_topOf_52 : decode cX5_topOf 52 = .ok (.istore 4, 2) := by decide +kernel
theorem dX5_topOf_54 : decode cX5_topOf 54 = .ok (.iinc 5 1, 3) := by decide +kernel
theorem dX5_topOf_57 : decode cX5_topOf 57 = .ok (.goto (-51), 3) := by decide +kernel
theorem dX5_topOf_60 : decode cX5_topOf 60 = .ok (.iload 4, 2) := by decide +kernel
theorem dX5_topOf_62 : decode cX5_topOf 62 = .ok (.ireturn, 1) := by decide +kernel
theorem dX5_rankOf_0 : decode cX5_rankOf 0 = .ok (.iload_n 2, 1) := by decide +kernel
theorem dX5_rankOf_1 : decode cX5_rankOf 1 = .ok (.ifCond .ne 12, 3) := by decide +kernel
theorem dX5_rankOf_4 : decode cX5_rankOf 4 = .ok (.aload_n 0, 1) := by decide +kernel
theorem dX5_rankOf_5 : decode cX5_rankOf 5 = .ok (.getfield 15, 3) := by decide +kernel
theorem dX5_rankOf_8 : decode cX5_rankOf 8 = .ok (.iload_n 1, 1) := by decide +kernel
theorem dX5_rankOf_9 : decode cX5_rankOf 9 = .ok (.iaload, 1) := by decide +kernel
theorem dX5_rankOf_10 : decode cX5_rankOf 10 = .ok (.goto 13, 3) := by decide +kernel
theorem dX5_rankOf_13 : decode cX5_rankOf 13 = .ok (.aload_n 0, 1) := by decide +kernel
theorem dX5_rankOf_14 : decode cX5_rankOf 14 = .ok (.getfield 24, 3) := by decide +kernel
theorem dX5_rankOf_17 : decode cX5_rankOf 17 = .ok (.iload_n 2, 1) := by decide +kernel
theorem dX5_rankOf_18 : decode cX5_rankOf 18 = .ok (.iconst 1, 1) := by decide +kernel
theorem dX5_rankOf_19 : decode cX5_rankOf 19 = .ok (.isub, 1) := by decide +kernel
theorem dX5_rankOf_20 : decode cX5_rankOf 20 = .ok (.aaload, 1) := by decide +kernel
theorem dX5_rankOf_21 : decode cX5_rankOf 21 = .ok (.iload_n 1, 1) := by decide +kernel
theorem dX5_rankOf_22 : decode cX5_rankOf 22 = .ok (.iaload, 1) := by decide +kernel
theorem dX5_rankOf_23 : decode cX5_rankOf 23 = .ok (.invokestatic 63, 3) := by decide +kernel
theorem dX5_rankOf_26 : decode cX5_rankOf 26 = .ok (.ireturn, 1) := by decide +kernel
theorem dX5_findCustomers_0 : decode cX5_findCustomers 0 = .ok (.iconst 0, 1) := by decide +kernel
theorem dX5_findCustomers_1 : decode cX5_findCustomers 1 = .ok (.istore_n 2, 1) := by decide +kernel
theorem dX5_findCustomers_2 : decode cX5_findCustomers 2 = .ok (.iload_n 2, 1) := by decide +kernel
theorem dX5_findCustomers_3 : decode cX5_findCustomers 3 = .ok (.bipush 10, 2) := by decide +kernel
theorem dX5_findCustomers_5 : decode cX5_findCustomers 5 = .ok (.if_icmp .ge 67, 3) := by decide +kernel
theorem dX5_findCustomers_8 : decode cX5_findCustomers 8 = .ok (.aload_n 0, 1) := by decide +kernel
theorem dX5_findCustomers_9 : decode cX5_findCustomers 9 = .ok (.getfield 24, 3) := by decide +kernel
theorem dX5_findCustomers_12 : decode cX5_findCustomers 12 = .ok (.iload_n 1, 1) := by decide +kernel
theorem dX5_findCustomers_13 : decode cX5_findCustomers 13 = .ok (.aaload, 1) := by decide +kernel
theorem dX5_findCustomers_14 : decode cX5_findCustomers 14 = .ok (.iload_n 2, 1) := by decide +kernel
theorem dX5_findCustomers_15 : decode cX5_findCustomers 15 = .ok (.iconst 0, 1) := by decide +kernel
theorem dX5_findCustomers_16 : decode cX5_findCustomers 16 = .ok (.iastore, 1) := by decide +kernel
theorem dX5_findCustomers_17 : decode cX5_findCustomers 17 = .ok (.iconst 0, 1) := by decide +kernel
theorem dX5_findCustomers_18 : decode cX5_findCustomers 18 = .ok (.istore_n 3, 1) := by decide +kernel
theorem dX5_findCustomers_19 : decode cX5_findCustomers 19 = .ok (.iload_n 3, 1) := by decide +kernel
theorem dX5_findCustomers_20 : decode cX5_findCustomers 20 = .ok (.bipush 10, 2) := by decide +kernel
theorem dX5_findCustomers_22 : decode cX5_findCustomers 22 = .ok (.if_icmp .ge 44, 3) := by decide +kernel
theorem dX5_findCustomers_25 : decode cX5_findCustomers 25 = .ok (.aload_n 0, 1) := by decide +kernel
theorem dX5_findCustomers_26 : decode cX5_findCustomers 26 = .ok (.getfield 21, 3) := by decide +kernel
theorem dX5_findCustomers_29 : decode cX5_findCustomers 29 = .ok (.iload_n 3, 1) := by decide +kernel
theorem dX5_findCustomers_30 : decode cX5_findCustomers 30 = .ok (.aaload, 1) := by decide +kernel
theorem dX5_findCustomers_31 : decode cX5_findCustomers 31 = .ok (.iload_n 2, 1) := by decide +kernel
theorem dX5_findCustomers_32 : decode cX5_findCustomers 32 = .ok (.iaload, 1) := by decide +kernel
theorem dX5_findCustomers_33 : decode cX5_findCustomers 33 = .ok (.iconst 2, 1) := by decide +kernel
theorem dX5_findCustomers_34 : decode cX5_findCustomers 34 = .ok (.aload_n 0, 1) := by decide +kernel
theorem dX5_findCustomers_35 : decode cX5_findCustomers 35 = .ok (.getfield 21, 3) := by decide +kernel
theorem dX5_findCustomers_38 : decode cX5_findCustomers 38 = .ok (.iload_n 2, 1) := by decide +kernel
theorem dX5_findCustomers_39 : decode cX5_findCustomers 39 = .ok (.aaload, 1) := by decide +kernel
theorem dX5_findCustomers_40 : decode cX5_findCustomers 40 = .ok (.iload_n 3, 1) := by decide +kernel
theorem dX5_findCustomers_41 : decode cX5_findCustomers 41 = .ok (.iaload, 1) := by decide +kernel
theorem dX5_findCustomers_42 : decode cX5_findCustomers 42 = .ok (.imul, 1) := by decide +kernel
theorem dX5_findCustomers_43 : decode cX5_findCustomers 43 = .ok (.if_icmp .le 17, 3) := by decide +kernel
theorem dX5_findCustomers_46 : decode cX5_findCustomers 46 = .ok (.aload_n 0, 1) := by decide +kernel
theorem dX5_findCustomers_47 : decode cX5_findCustomers 47 = .ok (.getfield 24, 3) := by decide +kernel
theorem dX5_findCustomers_50 : decode cX5_findCustomers 50 = .ok (.iload_n 1, 1) := by decide +kernel
theorem dX5_findCustomers_51 : decode cX5_findCustomers 51 = .ok (.aaload, 1) := by decide +kernel
theorem dX5_findCustomers_52 : decode cX5_findCustomers 52 = .ok (.iload_n 2, 1) := by decide +kernel
theorem dX5_findCustomers_53 : decode cX5_findCustomers 53 = .ok (.dup2, 1) := by decide +kernel
theorem dX5_findCustomers_54 : decode cX5_findCustomers 54 = .ok (.iaload, 1) := by decide +kernel
theorem dX5_findCustomers_55 : decode cX5_findCustomers 55 = .ok (.iconst 1, 1) := by decide +kernel
theorem dX5_findCustomers_56 : decode cX5_findCustomers 56 = .ok (.iload_n 3, 1) := by decide +kernel
theorem dX5_findCustomers_57 : decode cX5_findCustomers 57 = .ok (.ishl, 1) := by decide +kernel
theorem dX5_findCustomers_58 : decode cX5_findCustomers 58 = .ok (.ior, 1) := by decide +kernel
theorem dX5_findCustomers_59 : decode cX5_findCustomers 59 = .ok (.iastore, 1) := by decide +kernel
theorem dX5_findCustomers_60 : decode cX5_findCustomers 60 = .ok (.iinc 3 1, 3) := by decide +kernel
theorem dX5_findCustomers_63 : decode cX5_findCustomers 63 = .ok (.goto (-44), 3) := by decide +kernel
theorem dX5_findCustomers_66 : decode cX5_findCustomers 66 = .ok (.iinc 2 1, 3) := by decide +kernel
theorem dX5_findCustomers_69 : decode cX5_findCustomers 69 = .ok (.goto (-67), 3) := by decide +kernel
theorem dX5_findCustomers_72 : decode cX5_findCustomers 72 = .ok (.return_, 1) := by decide +kernel
theorem dX5_between_0 : decode cX5_between 0 = .ok (.aload_n 0, 1) := by decide +kernel
theorem dX5_between_1 : decode cX5_between 1 = .ok (.getfield 15, 3) := by decide +kernel
theorem dX5_between_4 : decode cX5_between 4 = .ok (.iload_n 1, 1) := by decide +kernel
theorem dX5_between_5 : decode cX5_between 5 = .ok (.iaload, 1) := by decide +kernel
theorem dX5_between_6 : decode cX5_between 6 = .ok (.iload_n 2, 1) := by decide +kernel
theorem dX5_between_7 : decode cX5_between 7 = .ok (.invokestatic 77, 3) := by decide +kernel
theorem dX5_between_10 : decode cX5_between 10 = .ok (.ifCond .ne 5, 3) := by decide +kernel
theorem dX5_between_13 : decode cX5_between 13 = .ok (.iconst 0, 1) := by decide +kernel
theorem dX5_between_14 : decode cX5_between 14 = .ok (.ireturn, 1) := by decide +kernel
theorem dX5_between_15 : decode cX5_between 15 = .ok (.aload_n 0, 1) := by decide +kernel
theorem dX5_between_16 : decode cX5_between 16 = .ok (.getfield 24, 3) := by decide +kernel
theorem dX5_between_19 : decode cX5_between 19 = .ok (.iload_n 3, 1) := by decide +kernel
theorem dX5_between_20 : decode cX5_between 20 = .ok (.aaload, 1) := by decide +kernel
theorem dX5_between_21 : decode cX5_between 21 = .ok (.iload_n 2, 1) := by decide +kernel
theorem dX5_between_22 : decode cX5_between 22 = .ok (.iaload, 1) := by decide +kernel
theorem dX5_between_23 : decode cX5_between 23 = .ok (.iload_n 1, 1) := by decide +kernel
theorem dX5_between_24 : decode cX5_between 24 = .ok (.invokestatic 77, 3) := by decide +kernel
theorem dX5_between_27 : decode cX5_between 27 = .ok (.ifCond .eq 5, 3) := by decide +kernel
theorem dX5_between_30 : decode cX5_between 30 = .ok (.iconst 1, 1) := by decide +kernel
theorem dX5_between_31 : decode cX5_between 31 = .ok (.ireturn, 1) := by decide +kernel
theorem dX5_between_32 : decode cX5_between 32 = .ok (.aload_n 0, 1) := by decide +kernel
theorem dX5_between_33 : decode cX5_between 33 = .ok (.getfield 24, 3) := by decide +kernel
end
section
theorem dX5_between_36 : decode cX5_between 36 = .ok (.iload_n 3, 1) := by decide +kernel
theorem dX5_between_37 : decode cX5_between 37 = .ok (.aaload, 1) := by decide +kernel
theorem dX5_between_38 : decode cX5_between 38 = .ok (.iload_n 1, 1) := by decide +kernel
theorem dX5_between_39 : decode cX5_between 39 = .ok (.iaload, 1) := by decide +kernel
theorem dX5_between_40 : decode cX5_between 40 = .ok (.iload_n 2, 1) := by decide +kernel
theorem dX5_between_41 : decode cX5_between 41 = .ok (.invokestatic 77, 3) := by decide +kernel
theorem dX5_between_44 : decode cX5_between 44 = .ok (.ifCond .eq 7, 3) := by decide +kernel
theorem dX5_between_47 : decode cX5_between 47 = .ok (.iconst 2, 1) := by decide +kernel
theorem dX5_between_48 : decode cX5_between 48 = .ok (.goto 4, 3) := by decide +kernel
theorem dX5_between_51 : decode cX5_between 51 = .ok (.iconst 3, 1) := by decide +kernel
theorem dX5_between_52 : decode cX5_between 52 = .ok (.ireturn, 1) := by decide +kernel
theorem dX5_coneOf_0 : decode cX5_coneOf 0 = .ok (.iconst 1, 1) := by decide +kernel
theorem dX5_coneOf_1 : decode cX5_coneOf 1 = .ok (.iload_n 1, 1) := by decide +kernel
theorem dX5_coneOf_2 : decode cX5_coneOf 2 = .ok (.ishl, 1) := by decide +kernel
theorem dX5_coneOf_3 : decode cX5_coneOf 3 = .ok (.istore_n 2, 1) := by decide +kernel
theorem dX5_coneOf_4 : decode cX5_coneOf 4 = .ok (.iconst 0, 1) := by decide +kernel
theorem dX5_coneOf_5 : decode cX5_coneOf 5 = .ok (.istore_n 3, 1) := by decide +kernel
theorem dX5_coneOf_6 : decode cX5_coneOf 6 = .ok (.iload_n 3, 1) := by decide +kernel
theorem dX5_coneOf_7 : decode cX5_coneOf 7 = .ok (.bipush 10, 2) := by decide +kernel
theorem dX5_coneOf_9 : decode cX5_coneOf 9 = .ok (.if_icmp .ge 46, 3) := by decide +kernel
theorem dX5_coneOf_12 : decode cX5_coneOf 12 = .ok (.iconst 0, 1) := by decide +kernel
theorem dX5_coneOf_13 : decode cX5_coneOf 13 = .ok (.istore 4, 2) := by decide +kernel
theorem dX5_coneOf_15 : decode cX5_coneOf 15 = .ok (.iload 4, 2) := by decide +kernel
theorem dX5_coneOf_17 : decode cX5_coneOf 17 = .ok (.bipush 10, 2) := by decide +kernel
theorem dX5_coneOf_19 : decode cX5_coneOf 19 = .ok (.if_icmp .ge 30, 3) := by decide +kernel
theorem dX5_coneOf_22 : decode cX5_coneOf 22 = .ok (.iload_n 2, 1) := by decide +kernel
theorem dX5_coneOf_23 : decode cX5_coneOf 23 = .ok (.iload 4, 2) := by decide +kernel
theorem dX5_coneOf_25 : decode cX5_coneOf 25 = .ok (.invokestatic 77, 3) := by decide +kernel
theorem dX5_coneOf_28 : decode cX5_coneOf 28 = .ok (.ifCond .eq 15, 3) := by decide +kernel
theorem dX5_coneOf_31 : decode cX5_coneOf 31 = .ok (.iload_n 2, 1) := by decide +kernel
theorem dX5_coneOf_32 : decode cX5_coneOf 32 = .ok (.aload_n 0, 1) := by decide +kernel
theorem dX5_coneOf_33 : decode cX5_coneOf 33 = .ok (.getfield 24, 3) := by decide +kernel
theorem dX5_coneOf_36 : decode cX5_coneOf 36 = .ok (.iconst 2, 1) := by decide +kernel
theorem dX5_coneOf_37 : decode cX5_coneOf 37 = .ok (.aaload, 1) := by decide +kernel
theorem dX5_coneOf_38 : decode cX5_coneOf 38 = .ok (.iload 4, 2) := by decide +kernel
theorem dX5_coneOf_40 : decode cX5_coneOf 40 = .ok (.iaload, 1) := by decide +kernel
theorem dX5_coneOf_41 : decode cX5_coneOf 41 = .ok (.ior, 1) := by decide +kernel
theorem dX5_coneOf_42 : decode cX5_coneOf 42 = .ok (.istore_n 2, 1) := by decide +kernel
theorem dX5_coneOf_43 : decode cX5_coneOf 43 = .ok (.iinc 4 1, 3) := by decide +kernel
theorem dX5_coneOf_46 : decode cX5_coneOf 46 = .ok (.goto (-31), 3) := by decide +kernel
theorem dX5_coneOf_49 : decode cX5_coneOf 49 = .ok (.iinc 3 1, 3) := by decide +kernel
theorem dX5_coneOf_52 : decode cX5_coneOf 52 = .ok (.goto (-46), 3) := by decide +kernel
theorem dX5_coneOf_55 : decode cX5_coneOf 55 = .ok (.iload_n 2, 1) := by decide +kernel
theorem dX5_coneOf_56 : decode cX5_coneOf 56 = .ok (.ireturn, 1) := by decide +kernel
theorem dX5_pathConeOf_0 : decode cX5_pathConeOf 0 = .ok (.iconst 1, 1) := by decide +kernel
theorem dX5_pathConeOf_1 : decode cX5_pathConeOf 1 = .ok (.iload_n 1, 1) := by decide +kernel
theorem dX5_pathConeOf_2 : decode cX5_pathConeOf 2 = .ok (.ishl, 1) := by decide +kernel
theorem dX5_pathConeOf_3 : decode cX5_pathConeOf 3 = .ok (.istore_n 2, 1) := by decide +kernel
theorem dX5_pathConeOf_4 : decode cX5_pathConeOf 4 = .ok (.iconst 0, 1) := by decide +kernel
theorem dX5_pathConeOf_5 : decode cX5_pathConeOf 5 = .ok (.istore_n 3, 1) := by decide +kernel
theorem dX5_pathConeOf_6 : decode cX5_pathConeOf 6 = .ok (.iload_n 3, 1) := by decide +kernel
theorem dX5_pathConeOf_7 : decode cX5_pathConeOf 7 = .ok (.aload_n 0, 1) := by decide +kernel
theorem dX5_pathConeOf_8 : decode cX5_pathConeOf 8 = .ok (.getfield 27, 3) := by decide +kernel
theorem dX5_pathConeOf_11 : decode cX5_pathConeOf 11 = .ok (.getfield 44, 3) := by decide +kernel
theorem dX5_pathConeOf_14 : decode cX5_pathConeOf 14 = .ok (.if_icmp .ge 46, 3) := by decide +kernel
theorem dX5_pathConeOf_17 : decode cX5_pathConeOf 17 = .ok (.aload_n 0, 1) := by decide +kernel
theorem dX5_pathConeOf_18 : decode cX5_pathConeOf 18 = .ok (.getfield 27, 3) := by decide +kernel
theorem dX5_pathConeOf_21 : decode cX5_pathConeOf 21 = .ok (.iload_n 3, 1) := by decide +kernel
theorem dX5_pathConeOf_22 : decode cX5_pathConeOf 22 = .ok (.invokevirtual 49, 3) := by decide +kernel
theorem dX5_pathConeOf_25 : decode cX5_pathConeOf 25 = .ok (.ifCond .eq 29, 3) := by decide +kernel
theorem dX5_pathConeOf_28 : decode cX5_pathConeOf 28 = .ok (.iload_n 2, 1) := by decide +kernel
theorem dX5_pathConeOf_29 : decode cX5_pathConeOf 29 = .ok (.aload_n 0, 1) := by decide +kernel
theorem dX5_pathConeOf_30 : decode cX5_pathConeOf 30 = .ok (.aload_n 0, 1) := by decide +kernel
theorem dX5_pathConeOf_31 : decode cX5_pathConeOf 31 = .ok (.getfield 27, 3) := by decide +kernel
theorem dX5_pathConeOf_34 : decode cX5_pathConeOf 34 = .ok (.getfield 53, 3) := by decide +kernel
theorem dX5_pathConeOf_37 : decode cX5_pathConeOf 37 = .ok (.iload_n 3, 1) := by decide +kernel
theorem dX5_pathConeOf_38 : decode cX5_pathConeOf 38 = .ok (.aaload, 1) := by decide +kernel
theorem dX5_pathConeOf_39 : decode cX5_pathConeOf 39 = .ok (.aload_n 0, 1) := by decide +kernel
theorem dX5_pathConeOf_40 : decode cX5_pathConeOf 40 = .ok (.getfield 27, 3) := by decide +kernel
theorem dX5_pathConeOf_43 : decode cX5_pathConeOf 43 = .ok (.getfield 56, 3) := by decide +kernel
theorem dX5_pathConeOf_46 : decode cX5_pathConeOf 46 = .ok (.iload_n 3, 1) := by decide +kernel
theorem dX5_pathConeOf_47 : decode cX5_pathConeOf 47 = .ok (.iaload, 1) := by decide +kernel
theorem dX5_pathConeOf_48 : decode cX5_pathConeOf 48 = .ok (.iload_n 1, 1) := by decide +kernel
theorem dX5_pathConeOf_49 : decode cX5_pathConeOf 49 = .ok (.invokevirtual 85, 3) := by decide +kernel
theorem dX5_pathConeOf_52 : decode cX5_pathConeOf 52 = .ok (.ior, 1) := by decide +kernel
theorem dX5_pathConeOf_53 : decode cX5_pathConeOf 53 = .ok (.istore_n 2, 1) := by decide +kernel
theorem dX5_pathConeOf_54 : decode cX5_pathConeOf 54 = .ok (.iinc 3 1, 3) := by decide +kernel
theorem dX5_pathConeOf_57 : decode cX5_pathConeOf 57 = .ok (.goto (-51), 3) := by decide +kernel
theorem dX5_pathConeOf_60 : decode cX5_pathConeOf 60 = .ok (.iload_n 2, 1) := by decide +kernel
theorem dX5_pathConeOf_61 : decode cX5_pathConeOf 61 = .ok (.ireturn, 1) := by decide +kernel
theorem dX5_customersAhead_0 : decode cX5_customersAhead 0 = .ok (.iconst 0, 1) := by decide +kernel
theorem dX5_customersAhead_1 : decode cX5_customersAhead 1 = .ok (.istore 4, 2) := by decide +kernel
theorem dX5_customersAhead_3 : decode cX5_customersAhead 3 = .ok (.iconst 0, 1) := by decide +kernel
theorem dX5_customersAhead_4 : decode cX5_customersAhead 4 = .ok (.istore 5, 2) := by decide +kernel
theorem dX5_customersAhead_6 : decode cX5_customersAhead 6 = .ok (.iload 5, 2) := by decide +kernel
theorem dX5_customersAhead_8 : decode cX5_customersAhead 8 = .ok (.iload_n 2, 1) := by decide +kernel
theorem dX5_customersAhead_9 : decode cX5_customersAhead 9 = .ok (.if_icmp .ge 62, 3) := by decide +kernel
theorem dX5_customersAhead_12 : decode cX5_customersAhead 12 = .ok (.iload 5, 2) := by decide +kernel
theorem dX5_customersAhead_14 : decode cX5_customersAhead 14 = .ok (.ifCond .le 29, 3) := by decide +kernel
theorem dX5_customersAhead_17 : decode cX5_customersAhead 17 = .ok (.aload_n 0, 1) := by decide +kernel
theorem dX5_customersAhead_18 : decode cX5_customersAhead 18 = .ok (.getfield 24, 3) := by decide +kernel
theorem dX5_customersAhead_21 : decode cX5_customersAhead 21 = .ok (.iconst 2, 1) := by decide +kernel
theorem dX5_customersAhead_22 : decode cX5_customersAhead 22 = .ok (.aaload, 1) := by decide +kernel
theorem dX5_customersAhead_23 : decode cX5_customersAhead 23 = .ok (.aload_n 1, 1) := by decide +kernel
theorem dX5_customersAhead_24 : decode cX5_customersAhead 24 = .ok (.iload 5, 2) := by decide +kernel
theorem dX5_customersAhead_26 : decode cX5_customersAhead 26 = .ok (.iaload, 1) := by decide +kernel
theorem dX5_customersAhead_27 : decode cX5_customersAhead 27 = .ok (.iaload, 1) := by decide +kernel
theorem dX5_customersAhead_28 : decode cX5_customersAhead 28 = .ok (.aload_n 1, 1) := by decide +kernel
theorem dX5_customersAhead_29 : decode cX5_customersAhead 29 = .ok (.iload 5, 2) := by decide +kernel
theorem dX5_customersAhead_31 : decode cX5_customersAhead 31 = .ok (.iconst 1, 1) := by decide +kernel
theorem dX5_customersAhead_32 : decode cX5_customersAhead 32 = .ok (.isub, 1) := by decide +kernel
theorem dX5_customersAhead_33 : decode cX5_customersAhead 33 = .ok (.iaload, 1) := by decide +kernel
theorem dX5_customersAhead_34 : decode cX5_customersAhead 34 = .ok (.invokestatic 77, 3) := by decide +kernel
theorem dX5_customersAhead_37 : decode cX5_customersAhead 37 = .ok (.ifCond .ne 6, 3) := by decide +kernel
theorem dX5_customersAhead_40 : decode cX5_customersAhead 40 = .ok (.iconst 0, 1) := by decide +kernel
theorem dX5_customersAhead_41 : decode cX5_customersAhead 41 = .ok (.istore 4, 2) := by decide +kernel
theorem dX5_customersAhead_43 : decode cX5_customersAhead 43 = .ok (.aload_n 1, 1) := by decide +kernel
theorem dX5_customersAhead_44 : decode cX5_customersAhead 44 = .ok (.iload 5, 2) := by decide +kernel
theorem dX5_customersAhead_46 : decode cX5_customersAhead 46 = .ok (.iaload, 1) := by decide +kernel
theorem dX5_customersAhead_47 : decode cX5_customersAhead 47 = .ok (.iload_n 3, 1) := by decide +kernel
theorem dX5_customersAhead_48 : decode cX5_customersAhead 48 = .ok (.if_icmp .ne 6, 3) := by decide +kernel
theorem dX5_customersAhead_51 : decode cX5_customersAhead 51 = .ok (.iload 4, 2) := by decide +kernel
theorem dX5_customersAhead_53 : decode cX5_customersAhead 53 = .ok (.ireturn, 1) := by decide +kernel
theorem dX5_customersAhead_54 : decode cX5_customersAhead 54 = .ok (.iload 4, 2) := by decide +kernel
theorem dX5_customersAhead_56 : decode cX5_customersAhead 56 = .ok (.iconst 1, 1) := by decide +kernel
theorem dX5_customersAhead_57 : decode cX5_customersAhead 57 = .ok (.aload_n 1, 1) := by decide +kernel
theorem dX5_customersAhead_58 : decode cX5_customersAhead 58 = .ok (.iload 5, 2) := by decide +kernel
theorem dX5_customersAhead_60 : decode cX5_customersAhead 60 = .ok (.iaload, 1) := by decide +kernel
theorem dX5_customersAhead_61 : decode cX5_customersAhead 61 = .ok (.ishl, 1) := by decide +kernel
theorem dX5_customersAhead_62 : decode cX5_customersAhead 62 = .ok (.ior, 1) := by decide +kernel
theorem dX5_customersAhead_63 : decode cX5_customersAhead 63 = .ok (.istore 4, 2) := by decide +kernel
theorem dX5_customersAhead_65 : decode cX5_customersAhead 65 = .ok (.iinc 5 1, 3) := by decide +kernel
theorem dX5_customersAhead_68 : decode cX5_customersAhead 68 = .ok (.goto (-62), 3) := by decide +kernel
theorem dX5_customersAhead_71 : decode cX5_customersAhead 71 = .ok (.iconst 0, 1) := by decide +kernel
theorem dX5_customersAhead_72 : decode cX5_customersAhead 72 = .ok (.ireturn, 1) := by decide +kernel
theorem dX6_init_0 : decode cX6_init 0 = .ok (.aload_n 0, 1) := by decide +kernel
theorem dX6_init_1 : decode cX6_init 1 = .ok (.invokespecial 3, 3) := by decide +kernel
theorem dX6_init_4 : decode cX6_init 4 = .ok (.aload_n 0, 1) := by decide +kernel
theorem dX6_init_5 : decode cX6_init 5 = .ok (.iconst 0, 1) := by decide +kernel
theorem dX6_init_6 : decode cX6_init 6 = .ok (.putfield 9, 3) := by decide +kernel
theorem dX6_init_9 : decode cX6_init 9 = .ok (.aload_n 0, 1) := by decide +kernel
theorem dX6_init_10 : decode cX6_init 10 = .ok (.iconst 0, 1) := by decide +kernel
theorem dX6_init_11 : decode cX6_init 11 = .ok (.putfield 15, 3) := by decide +kernel
theorem dX6_init_14 : decode cX6_init 14 = .ok (.aload_n 0, 1) := by decide +kernel
theorem dX6_init_15 : decode cX6_init 15 = .ok (.iconst 0, 1) := by decide +kernel
theorem dX6_init_16 : decode cX6_init 16 = .ok (.putfield 18, 3) := by decide +kernel
theorem dX6_init_19 : decode cX6_init 19 = .ok (.aload_n 0, 1) := by decide +kernel
theorem dX6_init_20 : decode cX6_init 20 = .ok (.bipush 6, 2) := by decide +kernel
theorem dX6_init_22 : decode cX6_init 22 = .ok (.newarray .int, 2) := by decide +kernel
theorem dX6_init_24 : decode cX6_init 24 = .ok (.putfield 21, 3) := by decide +kernel
theorem dX6_init_27 : decode cX6_init 27 = .ok (.aload_n 0, 1) := by decide +kernel
theorem dX6_init_28 : decode cX6_init 28 = .ok (.bipush 24, 2) := by decide +kernel
theorem dX6_init_30 : decode cX6_init 30 = .ok (.bipush 6, 2) := by decide +kernel
theorem dX6_init_32 : decode cX6_init 32 = .ok (.multianewarray 25 2, 4) := by decide +kernel
theorem dX6_init_36 : decode cX6_init 36 = .ok (.putfield 27, 3) := by decide +kernel
theorem dX6_init_39 : decode cX6_init 39 = .ok (.aload_n 0, 1) := by decide +kernel
theorem dX6_init_40 : decode cX6_init 40 = .ok (.bipush 24, 2) := by decide +kernel
theorem dX6_init_42 : decode cX6_init 42 = .ok (.newarray .int, 2) := by decide +kernel
theorem dX6_init_44 : decode cX6_init 44 = .ok (.putfield 30, 3) := by decide +kernel
theorem dX6_init_47 : decode cX6_init 47 = .ok (.aload_n 0, 1) := by decide +kernel
theorem dX6_init_48 : decode cX6_init 48 = .ok (.bipush 24, 2) := by decide +kernel
theorem dX6_init_50 : decode cX6_init 50 = .ok (.newarray .int, 2) := by decide +kernel
theorem dX6_init_52 : decode cX6_init 52 = .ok (.putfield 33, 3) := by decide +kernel
theorem dX6_init_55 : decode cX6_init 55 = .ok (.aload_n 0, 1) := by decide +kernel
theorem dX6_init_56 : decode cX6_init 56 = .ok (.bipush 24, 2) := by decide +kernel
theorem dX6_init_58 : decode cX6_init 58 = .ok (.newarray .int, 2) := by decide +kernel
theorem dX6_init_60 : decode cX6_init 60 = .ok (.putfield 36, 3) := by decide +kernel
theorem dX6_init_63 : decode cX6_init 63 = .ok (.aload_n 0, 1) := by decide +kernel
theorem dX6_init_64 : decode cX6_init 64 = .ok (.bipush 24, 2) := by decide +kernel
theorem dX6_init_66 : decode cX6_init 66 = .ok (.newarray .boolean, 2) := by decide +kernel
theorem dX6_init_68 : decode cX6_init 68 = .ok (.putfield 39, 3) := by decide +kernel
theorem dX6_init_71 : decode cX6_init 71 = .ok (.return_, 1) := by decide +kernel
theorem dX6_addDraft_0 : decode cX6_addDraft 0 = .ok (.aload_n 0, 1) := by decide +kernel
theorem dX6_addDraft_1 : decode cX6_addDraft 1 = .ok (.getfield 9, 3) := by decide +kernel
theorem dX6_addDraft_4 : decode cX6_addDraft 4 = .ok (.istore_n 3, 1) := by decide +kernel
theorem dX6_addDraft_5 : decode cX6_addDraft 5 = .ok (.iconst 0, 1) := by decide +kernel
theorem dX6_addDraft_6 : decode cX6_addDraft 6 = .ok (.istore 4, 2) := by decide +kernel
theorem dX6_addDraft_8 : decode cX6_addDraft 8 = .ok (.iconst 0, 1) := by decide +kernel
theorem dX6_addDraft_9 : decode cX6_addDraft 9 = .ok (.istore 5, 2) := by decide +kernel
theorem dX6_addDraft_11 : decode cX6_addDraft 11 = .ok (.iload 5, 2) := by decide +kernel
theorem dX6_addDraft_13 : decode cX6_addDraft 13 = .ok (.aload_n 0, 1) := by decide +kernel
theorem dX6_addDraft_14 : decode cX6_addDraft 14 = .ok (.getfield 18, 3) := by decide +kernel
theorem dX6_addDraft_17 : decode cX6_addDraft 17 = .ok (.if_icmp .ge 52, 3) := by decide +kernel
theorem dX6_addDraft_20 : decode cX6_addDraft 20 = .ok (.iload 5, 2) := by decide +kernel
theorem dX6_addDraft_22 : decode cX6_addDraft 22 = .ok (.ifCond .eq 22, 3) := by decide +kernel
theorem dX6_addDraft_25 : decode cX6_addDraft 25 = .ok (.aload_n 0, 1) := by decide +kernel
theorem dX6_addDraft_26 : decode cX6_addDraft 26 = .ok (.getfield 21, 3) := by decide +kernel
theorem dX6_addDraft_29 : decode cX6_addDraft 29 = .ok (.iload 5, 2) := by decide +kernel
theorem dX6_addDraft_31 : decode cX6_addDraft 31 = .ok (.iaload, 1) := by decide +kernel
theorem dX6_addDraft_32 : decode cX6_addDraft 32 = .ok (.aload_n 0, 1) := by decide +kernel
theorem dX6_addDraft_33 : decode cX6_addDraft 33 = .ok (.getfield 21, 3) := by decide +kernel
theorem dX6_addDraft_36 : decode cX6_addDraft 36 = .ok (.iload 5, 2) := by decide +kernel
theorem dX6_addDraft_38 : decode cX6_addDraft 38 = .ok (.iconst 1, 1) := by decide +kernel
theorem dX6_addDraft_39 : decode cX6_addDraft 39 = .ok (.isub, 1) := by decide +kernel
theorem dX6_addDraft_40 : decode cX6_addDraft 40 = .ok (.iaload, 1) := by decide +kernel
theorem dX6_addDraft_41 : decode cX6_addDraft 41 = .ok (.if_icmp .eq 22, 3) := by decide +kernel
theorem dX6_addDraft_44 : decode cX6_addDraft 44 = .ok (.aload_n 0, 1) := by decide +kernel
theorem dX6_addDraft_45 : decode cX6_addDraft 45 = .ok (.getfield 27, 3) := by decide +kernel
theorem dX6_addDraft_48 : decode cX6_addDraft 48 = .ok (.iload_n 3, 1) := by decide +kernel
theorem dX6_addDraft_49 : decode cX6_addDraft 49 = .ok (.aaload, 1) := by decide +kernel
theorem dX6_addDraft_50 : decode cX6_addDraft 50 = .ok (.iload 4, 2) := by decide +kernel
theorem dX6_addDraft_52 : decode cX6_addDraft 52 = .ok (.aload_n 0, 1) := by decide +kernel
theorem dX6_addDraft_53 : decode cX6_addDraft 53 = .ok (.getfield 21, 3) := by decide +kernel
theorem dX6_addDraft_56 : decode cX6_addDraft 56 = .ok (.iload 5, 2) := by decide +kernel
theorem dX6_addDraft_58 : decode cX6_addDraft 58 = .ok (.iaload, 1) := by decide +kernel
theorem dX6_addDraft_59 : decode cX6_addDraft 59 = .ok (.iastore, 1) := by decide +kernel
theorem dX6_addDraft_60 : decode cX6_addDraft 60 = .ok (.iinc 4 1, 3) := by decide +kernel
theorem dX6_addDraft_63 : decode cX6_addDraft 63 = .ok (.iinc 5 1, 3) := by decide +kernel
theorem dX6_addDraft_66 : decode cX6_addDraft 66 = .ok (.goto (-55), 3) := by decide +kernel
theorem dX6_addDraft_69 : decode cX6_addDraft 69 = .ok (.aload_n 0, 1) := by decide +kernel
theorem dX6_addDraft_70 : decode cX6_addDraft 70 = .ok (.getfield 30, 3) := by decide +kernel
theorem dX6_addDraft_73 : decode cX6_addDraft 73 = .ok (.iload_n 3, 1) := by decide +kernel
theorem dX6_addDraft_74 : decode cX6_addDraft 74 = .ok (.iload 4, 2) := by decide +kernel
theorem dX6_addDraft_76 : decode cX6_addDraft 76 = .ok (.iastore, 1) := by decide +kernel
theorem dX6_addDraft_77 : decode cX6_addDraft 77 = .ok (.aload_n 0, 1) := by decide +kernel
theorem dX6_addDraft_78 : decode cX6_addDraft 78 = .ok (.getfield 33, 3) := by decide +kernel
theorem dX6_addDraft_81 : decode cX6_addDraft 81 = .ok (.iload_n 3, 1) := by decide +kernel
theorem dX6_addDraft_82 : decode cX6_addDraft 82 = .ok (.iload_n 1, 1) := by decide +kernel
theorem dX6_addDraft_83 : decode cX6_addDraft 83 = .ok (.iastore, 1) := by decide +kernel
theorem dX6_addDraft_84 : decode cX6_addDraft 84 = .ok (.aload_n 0, 1) := by decide +kernel
theorem dX6_addDraft_85 : decode cX6_addDraft 85 = .ok (.getfield 36, 3) := by decide +kernel
theorem dX6_addDraft_88 : decode cX6_addDraft 88 = .ok (.iload_n 3, 1) := by decide +kernel
theorem dX6_addDraft_89 : decode cX6_addDraft 89 = .ok (.iload_n 2, 1) := by decide +kernel
theorem dX6_addDraft_90 : decode cX6_addDraft 90 = .ok (.iastore, 1) := by decide +kernel
theorem dX6_addDraft_91 : decode cX6_addDraft 91 = .ok (.aload_n 0, 1) := by decide +kernel
theorem dX6_addDraft_92 : decode cX6_addDraft 92 = .ok (.iconst 0, 1) := by decide +kernel
theorem dX6_addDraft_93 : decode cX6_addDraft 93 = .ok (.putfield 18, 3) := by decide +kernel
theorem dX6_addDraft_96 : decode cX6_addDraft 96 = .ok (.aload_n 0, 1) := by decide +kernel
theorem dX6_addDraft_97 : decode cX6_addDraft 97 = .ok (.dup, 1) := by decide +kernel
theorem dX6_addDraft_98 : decode cX6_addDraft 98 = .ok (.getfield 9, 3) := by decide +kernel
theorem dX6_addDraft_101 : decode cX6_addDraft 101 = .ok (.iconst 1, 1) := by decide +kernel
theorem dX6_addDraft_102 : decode cX6_addDraft 102 = .ok (.iadd, 1) := by decide +kernel
theorem dX6_addDraft_103 : decode cX6_addDraft 103 = .ok (.putfield 9, 3) := by decide +kernel
theorem dX6_addDraft_106 : decode cX6_addDraft 106 = .ok (.aload_n 0, 1) := by decide +kernel
theorem dX6_addDraft_107 : decode cX6_addDraft 107 = .ok (.dup, 1) := by decide +kernel
theorem dX6_addDraft_108 : decode cX6_addDraft 108 = .ok (.getfield 15, 3) := by decide +kernel
theorem dX6_addDraft_111 : decode cX6_addDraft 111 = .ok (.iconst 1, 1) := by decide +kernel
theorem dX6_addDraft_112 : decode cX6_addDraft 112 = .ok (.iadd, 1) := by decide +kernel
theorem dX6_addDraft_113 : decode cX6_addDraft 113 = .ok (.putfield 15, 3) := by decide +kernel
theorem dX6_addDraft_116 : decode cX6_addDraft 116 = .ok (.iload_n 3, 1) := by decide +kernel
theorem dX6_addDraft_117 : decode cX6_addDraft 117 = .ok (.ireturn, 1) := by decide +kernel
theorem dX6_tellsRelations_0 : decode cX6_tellsRelations 0 = .ok (.aload_n 0, 1) := by decide +kernel
theorem dX6_tellsRelations_1 : decode cX6_tellsRelations 1 = .ok (.getfield 39, 3) := by decide +kernel
theorem dX6_tellsRelations_4 : decode cX6_tellsRelations 4 = .ok (.iload_n 1, 1) := by decide +kernel
theorem dX6_tellsRelations_5 : decode cX6_tellsRelations 5 = .ok (.baload, 1) := by decide +kernel
theorem dX6_tellsRelations_6 : decode cX6_tellsRelations 6 = .ok (.ifCond .ne 25, 3) := by decide +kernel
theorem dX6_tellsRelations_9 : decode cX6_tellsRelations 9 = .ok (.aload_n 0, 1) := by decide +kernel
theorem dX6_tellsRelations_10 : decode cX6_tellsRelations 10 = .ok (.getfield 27, 3) := by decide +kernel
theorem dX6_tellsRelations_13 : decode cX6_tellsRelations 13 = .ok (.iload_n 1, 1) := by decide +kernel
theorem dX6_tellsRelations_14 : decode cX6_tellsRelations 14 = .ok (.aaload, 1) := by decide +kernel
theorem dX6_tellsRelations_15 : decode cX6_tellsRelations 15 = .ok (.aload_n 0, 1) := by decide +kernel
theorem dX6_tellsRelations_16 : decode cX6_tellsRelations 16 = .ok (.getfield 30, 3) := by decide +kernel
theorem dX6_tellsRelations_19 : decode cX6_tellsRelations 19 = .ok (.iload_n 1, 1) := by decide +kernel
theorem dX6_tellsRelations_20 : decode cX6_tellsRelations 20 = .ok (.iaload, 1) := by decide +kernel
theorem dX6_tellsRelations_21 : decode cX6_tellsRelations 21 = .ok (.invokestatic 43, 3) := by decide +kernel
theorem dX6_tellsRelations_24 : decode cX6_tellsRelations 24 = .ok (.ifCond .ne 7, 3) := by decide +kernel
theorem dX6_tellsRelations_27 : decode cX6_tellsRelations 27 = .ok (.iconst 1, 1) := by decide +kernel
theorem dX6_tellsRelations_28 : decode cX6_tellsRelations 28 = .ok (.goto 4, 3) := by decide +kernel
theorem dX6_tellsRelations_31 : decode cX6_tellsRelations 31 = .ok (.iconst 0, 1) := by decide +kernel
theorem dX6_tellsRelations_32 : decode cX6_tellsRelations 32 = .ok (.ireturn, 1) := by decide +kernel
theorem dX6_runsRound_0 : decode cX6_runsRound 0 = .ok (.iconst 0, 1) := by decide +kernel
theorem dX6_runsRound_1 : decode cX6_runsRound 1 = .ok (.istore_n 2, 1) := by decide +kernel
theorem dX6_runsRound_2 : decode cX6_runsRound 2 = .ok (.iconst 0, 1) := by decide +kernel
theorem dX6_runsRound_3 : decode cX6_runsRound 3 = .ok (.istore_n 3, 1) := by decide +kernel
theorem dX6_runsRound_4 : decode cX6_runsRound 4 = .ok (.iload_n 3, 1) := by decide +kernel
theorem dX6_runsRound_5 : decode cX6_runsRound 5 = .ok (.iload_n 1, 1) := by decide +kernel
theorem dX6_runsRound_6 : decode cX6_runsRound 6 = .ok (.if_icmp .ge 29, 3) := by decide +kernel
theorem dX6_runsRound_9 : decode cX6_runsRound 9 = .ok (.iload_n 2, 1) := by decide +kernel
theorem dX6_runsRound_10 : decode cX6_runsRound 10 = .ok (.aload_n 0, 1) := by decide +kernel
theorem dX6_runsRound_11 : decode cX6_runsRound 11 = .ok (.iload_n 3, 1) := by decide +kernel
theorem dX6_runsRound_12 : decode cX6_runsRound 12 = .ok (.iaload, 1) := by decide +kernel
theorem dX6_runsRound_13 : decode cX6_runsRound 13 = .ok (.invokestatic 47, 3) := by decide +kernel
theorem dX6_runsRound_16 : decode cX6_runsRound 16 = .ok (.ifCond .eq 5, 3) := by decide +kernel
theorem dX6_runsRound_19 : decode cX6_runsRound 19 = .ok (.iconst 1, 1) := by decide +kernel
theorem dX6_runsRound_20 : decode cX6_runsRound 20 = .ok (.ireturn, 1) := by decide +kernel
theorem dX6_runsRound_21 : decode cX6_runsRound 21 = .ok (.iload_n 2, 1) := by decide +kernel
theorem dX6_runsRound_22 : decode cX6_runsRound 22 = .ok (.iconst 1, 1) := by decide +kernel
theorem dX6_runsRound_23 : decode cX6_runsRound 23 = .ok (.aload_n 0, 1) := by decide +kernel
theorem dX6_runsRound_24 : decode cX6_runsRound 24 = .ok (.iload_n 3, 1) := by decide +kernel
theorem dX6_runsRound_25 : decode cX6_runsRound 25 = .ok (.iaload, 1) := by decide +kernel
theorem dX6_runsRound_26 : decode cX6_runsRound 26 = .ok (.ishl, 1) := by decide +kernel
theorem dX6_runsRound_27 : decode cX6_runsRound 27 = .ok (.ior, 1) := by decide +kernel
theorem dX6_runsRound_28 : decode cX6_runsRound 28 = .ok (.istore_n 2, 1) := by decide +kernel
theorem dX6_runsRound_29 : decode cX6_runsRound 29 = .ok (.iinc 3 1, 3) := by decide +kernel
theorem dX6_runsRound_32 : decode cX6_runsRound 32 = .ok (.goto (-28), 3) := by decide +kernel
theorem dX6_runsRound_35 : decode cX6_runsRound 35 = .ok (.iconst 0, 1) := by decide +kernel
theorem dX6_runsRound_36 : decode cX6_runsRound 36 = .ok (.ireturn, 1) := by decide +kernel
theorem dX6_countAddressesFrom_0 : decode cX6_countAddressesFrom 0 = .ok (.iconst 0, 1) := by decide +kernel
theorem dX6_countAddressesFrom_1 : decode cX6_countAddressesFrom 1 = .ok (.istore_n 2, 1) := by decide +kernel
theorem dX6_countAddressesFrom_2 : decode cX6_countAddressesFrom 2 = .ok (.iconst 0, 1) := by decide +kernel
theorem dX6_countAddressesFrom_3 : decode cX6_countAddressesFrom 3 = .ok (.istore_n 3, 1) := by decide +kernel
theorem dX6_countAddressesFrom_4 : decode cX6_countAddressesFrom 4 = .ok (.iload_n 3, 1) := by decide +kernel
theorem dX6_countAddressesFrom_5 : decode cX6_countAddressesFrom 5 = .ok (.sipush 256, 3) := by decide +kernel
theorem dX6_countAddressesFrom_8 : decode cX6_countAddressesFrom 8 = .ok (.if_icmp .ge 21, 3) := by decide +kernel
theorem dX6_countAddressesFrom_11 : decode cX6_countAddressesFrom 11 = .ok (.aload_n 0, 1) := by decide +kernel
theorem dX6_countAddressesFrom_12 : decode cX6_countAddressesFrom 12 = .ok (.iload_n 3, 1) := by decide +kernel
theorem dX6_countAddressesFrom_13 : decode cX6_countAddressesFrom 13 = .ok (.iload_n 1, 1) := by decide +kernel
theorem dX6_countAddressesFrom_14 : decode cX6_countAddressesFrom 14 = .ok (.invokevirtual 51, 3) := by decide +kernel
theorem dX6_countAddressesFrom_17 : decode cX6_countAddressesFrom 17 = .ok (.ifCond .eq 6, 3) := by decide +kernel
theorem dX6_countAddressesFrom_20 : decode cX6_countAddressesFrom 20 = .ok (.iinc 2 1, 3) := by decide +kernel
theorem dX6_countAddressesFrom_23 : decode cX6_countAddressesFrom 23 = .ok (.iinc 3 1, 3) := by decide +kernel
theorem dX6_countAddressesFrom_26 : decode cX6_countAddressesFrom 26 = .ok (.goto (-22), 3) := by decide +kernel
theorem dX6_countAddressesFrom_29 : decode cX6_countAddressesFrom 29 = .ok (.iload_n 2, 1) := by decide +kernel
theorem dX6_countAddressesFrom_30 : decode cX6_countAddressesFrom 30 = .ok (.ireturn, 1) := by decide +kernel
theorem dX6_reaches_0 : decode cX6_reaches 0 = .ok (.iconst 0, 1) := by decide +kernel
theorem dX6_reaches_1 : decode cX6_reaches 1 = .ok (.istore_n 3, 1) := by decide +kernel
theorem dX6_reaches_2 : decode cX6_reaches 2 = .ok (.iconst 0, 1) := by decide +kernel
theorem dX6_reaches_3 : decode cX6_reaches 3 = .ok (.istore 4, 2) := by decide +kernel
theorem dX6_reaches_5 : decode cX6_reaches 5 = .ok (.iload 4, 2) := by decide +kernel
theorem dX6_reaches_7 : decode cX6_reaches 7 = .ok (.aload_n 0, 1) := by decide +kernel
theorem dX6_reaches_8 : decode cX6_reaches 8 = .ok (.getfield 9, 3) := by decide +kernel
theorem dX6_reaches_11 : decode cX6_reaches 11 = .ok (.if_icmp .ge 68, 3) := by decide +kernel
theorem dX6_reaches_14 : decode cX6_reaches 14 = .ok (.iload_n 3, 1) := by decide +kernel
theorem dX6_reaches_15 : decode cX6_reaches 15 = .ok (.ifCond .ne 64, 3) := by decide +kernel
theorem dX6_reaches_18 : decode cX6_reaches 18 = .ok (.aload_n 0, 1) := by decide +kernel
theorem dX6_reaches_19 : decode cX6_reaches 19 = .ok (.getfield 39, 3) := by decide +kernel
theorem dX6_reaches_22 : decode cX6_reaches 22 = .ok (.iload 4, 2) := by decide +kernel
theorem dX6_reaches_24 : decode cX6_reaches 24 = .ok (.baload, 1) := by decide +kernel
theorem dX6_reaches_25 : decode cX6_reaches 25 = .ok (.ifCond .ne 46, 3) := by decide +kernel
theorem dX6_reaches_28 : decode cX6_reaches 28 = .ok (.iload_n 2, 1) := by decide +kernel
theorem dX6_reaches_29 : decode cX6_reaches 29 = .ok (.aload_n 0, 1) := by decide +kernel
theorem dX6_reaches_30 : decode cX6_reaches 30 = .ok (.getfield 27, 3) := by decide +kernel
theorem dX6_reaches_33 : decode cX6_reaches 33 = .ok (.iload 4, 2) := by decide +kernel
theorem dX6_reaches_35 : decode cX6_reaches 35 = .ok (.aaload, 1) := by decide +kernel
theorem dX6_reaches_36 : decode cX6_reaches 36 = .ok (.iconst 0, 1) := by decide +kernel
theorem dX6_reaches_37 : decode cX6_reaches 37 = .ok (.iaload, 1) := by decide +kernel
theorem dX6_reaches_38 : decode cX6_reaches 38 = .ok (.invokestatic 47, 3) := by decide +kernel
theorem dX6_reaches_41 : decode cX6_reaches 41 = .ok (.ifCond .eq 30, 3) := by decide +kernel
theorem dX6_reaches_44 : decode cX6_reaches 44 = .ok (.iload_n 1, 1) := by decide +kernel
theorem dX6_reaches_45 : decode cX6_reaches 45 = .ok (.bipush 8, 2) := by decide +kernel
theorem dX6_reaches_47 : decode cX6_reaches 47 = .ok (.aload_n 0, 1) := by decide +kernel
theorem dX6_reaches_48 : decode cX6_reaches 48 = .ok (.getfield 33, 3) := by decide +kernel
theorem dX6_reaches_51 : decode cX6_reaches 51 = .ok (.iload 4, 2) := by decide +kernel
theorem dX6_reaches_53 : decode cX6_reaches 53 = .ok (.iaload, 1) := by decide +kernel
theorem dX6_reaches_54 : decode cX6_reaches 54 = .ok (.aload_n 0, 1) := by decide +kernel
theorem dX6_reaches_55 : decode cX6_reaches 55 = .ok (.getfield 36, 3) := by decide +kernel
theorem dX6_reaches_58 : decode cX6_reaches 58 = .ok (.iload 4, 2) := by decide +kernel
theorem dX6_reaches_60 : decode cX6_reaches 60 = .ok (.iaload, 1) := by decide +kernel
theorem dX6_reaches_61 : decode cX6_reaches 61 = .ok (.invokestatic 54, 3) := by decide +kernel
theorem dX6_reaches_64 : decode cX6_reaches 64 = .ok (.ifCond .eq 7, 3) := by decide +kernel
theorem dX6_reaches_67 : decode cX6_reaches 67 = .ok (.iconst 1, 1) := by decide +kernel
theorem dX6_reaches_68 : decode cX6_reaches 68 = .ok (.goto 4, 3) := by decide +kernel
theorem dX6_reaches_71 : decode cX6_reaches 71 = .ok (.iconst 0, 1) := by decide +kernel
theorem dX6_reaches_72 : decode cX6_reaches 72 = .ok (.istore_n 3, 1) := by decide +kernel
theorem dX6_reaches_73 : decode cX6_reaches 73 = .ok (.iinc 4 1, 3) := by decide +kernel
theorem dX6_reaches_76 : decode cX6_reaches 76 = .ok (.goto (-71), 3) := by decide +kernel
theorem dX6_reaches_79 : decode cX6_reaches 79 = .ok (.iload_n 3, 1) := by decide +kernel
theorem dX6_reaches_80 : decode cX6_reaches 80 = .ok (.ireturn, 1) := by decide +kernel
theorem dX7_init_0 : decode cX7_init 0 = .ok (.aload_n 0, 1) := by decide +kernel
theorem dX7_init_1 : decode cX7_init 1 = .ok (.invokespecial 3, 3) := by decide +kernel
theorem dX7_init_4 : decode cX7_init 4 = .ok (.aload_n 0, 1) := by decide +kernel
theorem dX7_init_5 : decode cX7_init 5 = .ok (.iconst 0, 1) := by decide +kernel
theorem dX7_init_6 : decode cX7_init 6 = .ok (.putfield 9, 3) := by decide +kernel
theorem dX7_init_9 : decode cX7_init 9 = .ok (.aload_n 0, 1) := by decide +kernel
theorem dX7_init_10 : decode cX7_init 10 = .ok (.bipush 50, 2) := by decide +kernel
theorem dX7_init_12 : decode cX7_init 12 = .ok (.newarray .int, 2) := by decide +kernel
theorem dX7_init_14 : decode cX7_init 14 = .ok (.putfield 15, 3) := by decide +kernel
theorem dX7_init_17 : decode cX7_init 17 = .ok (.aload_n 0, 1) := by decide +kernel
theorem dX7_init_18 : decode cX7_init 18 = .ok (.bipush 50, 2) := by decide +kernel
theorem dX7_init_20 : decode cX7_init 20 = .ok (.newarray .int, 2) := by decide +kernel
theorem dX7_init_22 : decode cX7_init 22 = .ok (.putfield 19, 3) := by decide +kernel
theorem dX7_init_25 : decode cX7_init 25 = .ok (.aload_n 0, 1) := by decide +kernel
theorem dX7_init_26 : decode cX7_init 26 = .ok (.bipush 50, 2) := by decide +kernel
theorem dX7_init_28 : decode cX7_init 28 = .ok (.newarray .int, 2) := by decide +kernel
theorem dX7_init_30 : decode cX7_init 30 = .ok (.putfield 22, 3) := by decide +kernel
theorem dX7_init_33 : decode cX7_init 33 = .ok (.aload_n 0, 1) := by decide +kernel
theorem dX7_init_34 : decode cX7_init 34 = .ok (.bipush 50, 2) := by decide +kernel
theorem dX7_init_36 : decode cX7_init 36 = .ok (.newarray .int, 2) := by decide +kernel
theorem dX7_init_38 : decode cX7_init 38 = .ok (.putfield 25, 3) := by decide +kernel
theorem dX7_init_41 : decode cX7_init 41 = .ok (.aload_n 0, 1) := by decide +kernel
theorem dX7_init_42 : decode cX7_init 42 = .ok (.bipush 50, 2) := by decide +kernel
theorem dX7_init_44 : decode cX7_init 44 = .ok (.newarray .int, 2) := by decide +kernel
theorem dX7_init_46 : decode cX7_init 46 = .ok (.putfield 28, 3) := by decide +kernel
theorem dX7_init_49 : decode cX7_init 49 = .ok (.aload_n 0, 1) := by decide +kernel
theorem dX7_init_50 : decode cX7_init 50 = .ok (.bipush 50, 2) := by decide +kernel
theorem dX7_init_52 : decode cX7_init 52 = .ok (.newarray .int, 2) := by decide +kernel
theorem dX7_init_54 : decode cX7_init 54 = .ok (.putfield 31, 3) := by decide +kernel
theorem dX7_init_57 : decode cX7_init 57 = .ok (.aload_n 0, 1) := by decide +kernel
theorem dX7_init_58 : decode cX7_init 58 = .ok (.bipush 50, 2) := by decide +kernel
theorem dX7_init_60 : decode cX7_init 60 = .ok (.newarray .int, 2) := by decide +kernel
theorem dX7_init_62 : decode cX7_init 62 = .ok (.putfield 34, 3) := by decide +kernel
theorem dX7_init_65 : decode cX7_init 65 = .ok (.aload_n 0, 1) := by decide +kernel
theorem dX7_init_66 : decode cX7_init 66 = .ok (.bipush 50, 2) := by decide +kernel
theorem dX7_init_68 : decode cX7_init 68 = .ok (.newarray .int, 2) := by decide +kernel
theorem dX7_init_70 : decode cX7_init 70 = .ok (.putfield 37, 3) := by decide +kernel
theorem dX7_init_73 : decode cX7_init 73 = .ok (.aload_n 0, 1) := by decide +kernel
theorem dX7_init_74 : decode cX7_init 74 = .ok (.bipush 50, 2) := by decide +kernel
theorem dX7_init_76 : decode cX7_init 76 = .ok (.newarray .boolean, 2) := by decide +kernel
theorem dX7_init_78 : decode cX7_init 78 = .ok (.putfield 40, 3) := by decide +kernel
theorem dX7_init_81 : decode cX7_init 81 = .ok (.aload_n 0, 1) := by decide +kernel
theorem dX7_init_82 : decode cX7_init 82 = .ok (.bipush 50, 2) := by decide +kernel
theorem dX7_init_84 : decode cX7_init 84 = .ok (.newarray .boolean, 2) := by decide +kernel
theorem dX7_init_86 : decode cX7_init 86 = .ok (.putfield 44, 3) := by decide +kernel
theorem dX7_init_89 : decode cX7_init 89 = .ok (.return_, 1) := by decide +kernel
theorem dX7_add_0 : decode cX7_add 0 = .ok (.aload_n 0, 1) := by decide +kernel
theorem dX7_add_1 : decode cX7_add 1 = .ok (.getfield 9, 3) := by decide +kernel
theorem dX7_add_4 : decode cX7_add 4 = .ok (.istore 8, 2) := by decide +kernel
theorem dX7_add_6 : decode cX7_add 6 = .ok (.aload_n 0, 1) := by decide +kernel
theorem dX7_add_7 : decode cX7_add 7 = .ok (.getfield 15, 3) := by decide +kernel
theorem dX7_add_10 : decode cX7_add 10 = .ok (.iload 8, 2) := by decide +kernel
theorem dX7_add_12 : decode cX7_add 12 = .ok (.iload_n 1, 1) := by decide +kernel
theorem dX7_add_13 : decode cX7_add 13 = .ok (.iastore, 1) := by decide +kernel
theorem dX7_add_14 : decode cX7_add 14 = .ok (.aload_n 0, 1) := by decide +kernel
theorem dX7_add_15 : decode cX7_add 15 = .ok (.getfield 19, 3) := by decide +kernel
theorem dX7_add_18 : decode cX7_add 18 = .ok (.iload 8, 2) := by decide +kernel
theorem dX7_add_20 : decode cX7_add 20 = .ok (.iload_n 2, 1) := by decide +kernel
theorem dX7_add_21 : decode cX7_add 21 = .ok (.iastore, 1) := by decide +kernel
theorem dX7_add_22 : decode cX7_add 22 = .ok (.aload_n 0, 1) := by decide +kernel
theorem dX7_add_23 : decode cX7_add 23 = .ok (.getfield 22, 3) := by decide +kernel
theorem dX7_add_26 : decode cX7_add 26 = .ok (.iload 8, 2) := by decide +kernel
theorem dX7_add_28 : decode cX7_add 28 = .ok (.iload_n 3, 1) := by decide +kernel
theorem dX7_add_29 : decode cX7_add 29 = .ok (.iastore, 1) := by decide +kernel
theorem dX7_add_30 : decode cX7_add 30 = .ok (.aload_n 0, 1) := by decide +kernel
theorem dX7_add_31 : decode cX7_add 31 = .ok (.getfield 25, 3) := by decide +kernel
theorem dX7_add_34 : decode cX7_add 34 = .ok (.iload 8, 2) := by decide +kernel
theorem dX7_add_36 : decode cX7_add 36 = .ok (.iload 4, 2) := by decide +kernel
theorem dX7_add_38 : decode cX7_add 38 = .ok (.iastore, 1) := by decide +kernel
theorem dX7_add_39 : decode cX7_add 39 = .ok (.aload_n 0, 1) := by decide +kernel
theorem dX7_add_40 : decode cX7_add 40 = .ok (.getfield 28, 3) := by decide +kernel
theorem dX7_add_43 : decode cX7_add 43 = .ok (.iload 8, 2) := by decide +kernel
theorem dX7_add_45 : decode cX7_add 45 = .ok (.iload 5, 2) := by decide +kernel
theorem dX7_add_47 : decode cX7_add 47 = .ok (.iastore, 1) := by decide +kernel
theorem dX7_add_48 : decode cX7_add 48 = .ok (.aload_n 0, 1) := by decide +kernel
theorem dX7_add_49 : decode cX7_add 49 = .ok (.getfield 31, 3) := by decide +kernel
theorem dX7_add_52 : decode cX7_add 52 = .ok (.iload 8, 2) := by decide +kernel
theorem dX7_add_54 : decode cX7_add 54 = .ok (.iload 6, 2) := by decide +kernel
theorem dX7_add_56 : decode cX7_add 56 = .ok (.iastore, 1) := by decide +kernel
theorem dX7_add_57 : decode cX7_add 57 = .ok (.aload_n 0, 1) := by decide +kernel
theorem dX7_add_58 : decode cX7_add 58 = .ok (.getfield 34, 3) := by decide +kernel
theorem dX7_add_61 : decode cX7_add 61 = .ok (.iload 8, 2) := by decide +kernel
theorem dX7_add_63 : decode cX7_add 63 = .ok (.iload 7, 2) := by decide +kernel
theorem dX7_add_65 : decode cX7_add 65 = .ok (.iastore, 1) := by decide +kernel
theorem dX7_add_66 : decode cX7_add 66 = .ok (.aload_n 0, 1) := by decide +kernel
theorem dX7_add_67 : decode cX7_add 67 = .ok (.dup, 1) := by decide +kernel
theorem dX7_add_68 : decode cX7_add 68 = .ok (.getfield 9, 3) := by decide +kernel
theorem dX7_add_71 : decode cX7_add 71 = .ok (.iconst 1, 1) := by decide +kernel
theorem dX7_add_72 : decode cX7_add 72 = .ok (.iadd, 1) := by decide +kernel
theorem dX7_add_73 : decode cX7_add 73 = .ok (.putfield 9, 3) := by decide +kernel
theorem dX7_add_76 : decode cX7_add 76 = .ok (.iload 8, 2) := by decide +kernel
theorem dX7_add_78 : decode cX7_add 78 = .ok (.ireturn, 1) := by decide +kernel
theorem dX7_listRevokedOf_0 : decode cX7_listRevokedOf 0 = .ok (.iconst 0, 1) := by decide +kernel
theorem dX7_listRevokedOf_1 : decode cX7_listRevokedOf 1 = .ok (.istore_n 2, 1) := by decide +kernel
theorem dX7_listRevokedOf_2 : decode cX7_listRevokedOf 2 = .ok (.iconst 0, 1) := by decide +kernel
theorem dX7_listRevokedOf_3 : decode cX7_listRevokedOf 3 = .ok (.istore_n 3, 1) := by decide +kernel
theorem dX7_listRevokedOf_4 : decode cX7_listRevokedOf 4 = .ok (.iload_n 3, 1) := by decide +kernel
theorem dX7_listRevokedOf_5 : decode cX7_listRevokedOf 5 = .ok (.aload_n 0, 1) := by decide +kernel
theorem dX7_listRevokedOf_6 : decode cX7_listRevokedOf 6 = .ok (.getfield 9, 3) := by decide +kernel
theorem dX7_listRevokedOf_9 : decode cX7_listRevokedOf 9 = .ok (.if_icmp .ge 38, 3) := by decide +kernel
theorem dX7_listRevokedOf_12 : decode cX7_listRevokedOf 12 = .ok (.aload_n 0, 1) := by decide +kernel
theorem dX7_listRevokedOf_13 : decode cX7_listRevokedOf 13 = .ok (.getfield 19, 3) := by decide +kernel
theorem dX7_listRevokedOf_16 : decode cX7_listRevokedOf 16 = .ok (.iload_n 3, 1) := by decide +kernel
theorem dX7_listRevokedOf_17 : decode cX7_listRevokedOf 17 = .ok (.iaload, 1) := by decide +kernel
theorem dX7_listRevokedOf_18 : decode cX7_listRevokedOf 18 = .ok (.iload_n 1, 1) := by decide +kernel
theorem dX7_listRevokedOf_19 : decode cX7_listRevokedOf 19 = .ok (.if_icmp .ne 22, 3) := by decide +kernel
theorem dX7_listRevokedOf_22 : decode cX7_listRevokedOf 22 = .ok (.aload_n 0, 1) := by decide +kernel
theorem dX7_listRevokedOf_23 : decode cX7_listRevokedOf 23 = .ok (.getfield 40, 3) := by decide +kernel
theorem dX7_listRevokedOf_26 : decode cX7_listRevokedOf 26 = .ok (.iload_n 3, 1) := by decide +kernel
theorem dX7_listRevokedOf_27 : decode cX7_listRevokedOf 27 = .ok (.baload, 1) := by decide +kernel
theorem dX7_listRevokedOf_28 : decode cX7_listRevokedOf 28 = .ok (.ifCond .eq 13, 3) := by decide +kernel
theorem dX7_listRevokedOf_31 : decode cX7_listRevokedOf 31 = .ok (.aload_n 0, 1) := by decide +kernel
theorem dX7_listRevokedOf_32 : decode cX7_listRevokedOf 32 = .ok (.getfield 44, 3) := by decide +kernel
theorem dX7_listRevokedOf_35 : decode cX7_listRevokedOf 35 = .ok (.iload_n 3, 1) := by decide +kernel
theorem dX7_listRevokedOf_36 : decode cX7_listRevokedOf 36 = .ok (.iconst 1, 1) := by decide +kernel
theorem dX7_listRevokedOf_37 : decode cX7_listRevokedOf 37 = .ok (.bastore, 1) := by decide +kernel
theorem dX7_listRevokedOf_38 : decode cX7_listRevokedOf 38 = .ok (.iinc 2 1, 3) := by decide +kernel
theorem dX7_listRevokedOf_41 : decode cX7_listRevokedOf 41 = .ok (.iinc 3 1, 3) := by decide +kernel
theorem dX7_listRevokedOf_44 : decode cX7_listRevokedOf 44 = .ok (.goto (-40), 3) := by decide +kernel
theorem dX7_listRevokedOf_47 : decode cX7_listRevokedOf 47 = .ok (.iload_n 2, 1) := by decide +kernel
theorem dX7_listRevokedOf_48 : decode cX7_listRevokedOf 48 = .ok (.ireturn, 1) := by decide +kernel
theorem dX7_signatureBy_0 : decode cX7_signatureBy 0 = .ok (.sipush 7919, 3) := by decide +kernel
theorem dX7_signatureBy_3 : decode cX7_signatureBy 3 = .ok (.bipush 101, 2) := by decide +kernel
theorem dX7_signatureBy_5 : decode cX7_signatureBy 5 = .ok (.aload_n 0, 1) := by decide +kernel
theorem dX7_signatureBy_6 : decode cX7_signatureBy 6 = .ok (.getfield 19, 3) := by decide +kernel
theorem dX7_signatureBy_9 : decode cX7_signatureBy 9 = .ok (.iload_n 1, 1) := by decide +kernel
theorem dX7_signatureBy_10 : decode cX7_signatureBy 10 = .ok (.iaload, 1) := by decide +kernel
theorem dX7_signatureBy_11 : decode cX7_signatureBy 11 = .ok (.imul, 1) := by decide +kernel
theorem dX7_signatureBy_12 : decode cX7_signatureBy 12 = .ok (.bipush 17, 2) := by decide +kernel
theorem dX7_signatureBy_14 : decode cX7_signatureBy 14 = .ok (.iload_n 2, 1) := by decide +kernel
theorem dX7_signatureBy_15 : decode cX7_signatureBy 15 = .ok (.imul, 1) := by decide +kernel
theorem dX7_signatureBy_16 : decode cX7_signatureBy 16 = .ok (.iadd, 1) := by decide +kernel
theorem dX7_signatureBy_17 : decode cX7_signatureBy 17 = .ok (.imul, 1) := by decide +kernel
theorem dX7_signatureBy_18 : decode cX7_signatureBy 18 = .ok (.istore_n 3, 1) := by decide +kernel
theorem dX7_signatureBy_19 : decode cX7_signatureBy 19 = .ok (.bipush 31, 2) := by decide +kernel
theorem dX7_signatureBy_21 : decode cX7_signatureBy 21 = .ok (.aload_n 0, 1) := by decide +kernel
theorem dX7_signatureBy_22 : decode cX7_signatureBy 22 = .ok (.iload_n 1, 1) := by decide +kernel
theorem dX7_signatureBy_23 : decode cX7_signatureBy 23 = .ok (.invokevirtual 47, 3) := by decide +kernel
theorem dX7_signatureBy_26 : decode cX7_signatureBy 26 = .ok (.imul, 1) := by decide +kernel
theorem dX7_signatureBy_27 : decode cX7_signatureBy 27 = .ok (.iload_n 3, 1) := by decide +kernel
theorem dX7_signatureBy_28 : decode cX7_signatureBy 28 = .ok (.iadd, 1) := by decide +kernel
theorem dX7_signatureBy_29 : decode cX7_signatureBy 29 = .ok (.ldc 51, 2) := by decide +kernel
theorem dX7_signatureBy_31 : decode cX7_signatureBy 31 = .ok (.irem, 1) := by decide +kernel
theorem dX7_signatureBy_32 : decode cX7_signatureBy 32 = .ok (.ireturn, 1) := by decide +kernel
theorem dX7_digest_0 : decode cX7_digest 0 = .ok (.iconst 0, 1) := by decide +kernel
theorem dX7_digest_1 : decode cX7_digest 1 = .ok (.aload_n 0, 1) := by decide +kernel
theorem dX7_digest_2 : decode cX7_digest 2 = .ok (.getfield 15, 3) := by decide +kernel
theorem dX7_digest_5 : decode cX7_digest 5 = .ok (.iload_n 1, 1) := by decide +kernel
theorem dX7_digest_6 : decode cX7_digest 6 = .ok (.iaload, 1) := by decide +kernel
theorem dX7_digest_7 : decode cX7_digest 7 = .ok (.invokestatic 52, 3) := by decide +kernel
theorem dX7_digest_10 : decode cX7_digest 10 = .ok (.istore_n 2, 1) := by decide +kernel
theorem dX7_digest_11 : decode cX7_digest 11 = .ok (.iload_n 2, 1) := by decide +kernel
theorem dX7_digest_12 : decode cX7_digest 12 = .ok (.aload_n 0, 1) := by decide +kernel
theorem dX7_digest_13 : decode cX7_digest 13 = .ok (.getfield 19, 3) := by decide +kernel
theorem dX7_digest_16 : decode cX7_digest 16 = .ok (.iload_n 1, 1) := by decide +kernel
theorem dX7_digest_17 : decode cX7_digest 17 = .ok (.iaload, 1) := by decide +kernel
theorem dX7_digest_18 : decode cX7_digest 18 = .ok (.invokestatic 52, 3) := by decide +kernel
theorem dX7_digest_21 : decode cX7_digest 21 = .ok (.istore_n 2, 1) := by decide +kernel
theorem dX7_digest_22 : decode cX7_digest 22 = .ok (.iload_n 2, 1) := by decide +kernel
theorem dX7_digest_23 : decode cX7_digest 23 = .ok (.aload_n 0, 1) := by decide +kernel
theorem dX7_digest_24 : decode cX7_digest 24 = .ok (.getfield 22, 3) := by decide +kernel
theorem dX7_digest_27 : decode cX7_digest 27 = .ok (.iload_n 1, 1) := by decide +kernel
theorem dX7_digest_28 : decode cX7_digest 28 = .ok (.iaload, 1) := by decide +kernel
theorem dX7_digest_29 : decode cX7_digest 29 = .ok (.invokestatic 52, 3) := by decide +kernel
theorem dX7_digest_32 : decode cX7_digest 32 = .ok (.istore_n 2, 1) := by decide +kernel
theorem dX7_digest_33 : decode cX7_digest 33 = .ok (.iload_n 2, 1) := by decide +kernel
theorem dX7_digest_34 : decode cX7_digest 34 = .ok (.aload_n 0, 1) := by decide +kernel
theorem dX7_digest_35 : decode cX7_digest 35 = .ok (.getfield 25, 3) := by decide +kernel
theorem dX7_digest_38 : decode cX7_digest 38 = .ok (.iload_n 1, 1) := by decide +kernel
theorem dX7_digest_39 : decode cX7_digest 39 = .ok (.iaload, 1) := by decide +kernel
theorem dX7_digest_40 : decode cX7_digest 40 = .ok (.invokestatic 52, 3) := by decide +kernel
theorem dX7_digest_43 : decode cX7_digest 43 = .ok (.istore_n 2, 1) := by decide +kernel
theorem dX7_digest_44 : decode cX7_digest 44 = .ok (.iload_n 2, 1) := by decide +kernel
theorem dX7_digest_45 : decode cX7_digest 45 = .ok (.aload_n 0, 1) := by decide +kernel
theorem dX7_digest_46 : decode cX7_digest 46 = .ok (.getfield 28, 3) := by decide +kernel
theorem dX7_digest_49 : decode cX7_digest 49 = .ok (.iload_n 1, 1) := by decide +kernel
theorem dX7_digest_50 : decode cX7_digest 50 = .ok (.iaload, 1) := by decide +kernel
theorem dX7_digest_51 : decode cX7_digest 51 = .ok (.invokestatic 52, 3) := by decide +kernel
theorem dX7_digest_54 : decode cX7_digest 54 = .ok (.istore_n 2, 1) := by decide +kernel
theorem dX7_digest_55 : decode cX7_digest 55 = .ok (.iload_n 2, 1) := by decide +kernel
theorem dX7_digest_56 : decode cX7_digest 56 = .ok (.aload_n 0, 1) := by decide +kernel
theorem dX7_digest_57 : decode cX7_digest 57 = .ok (.getfield 31, 3) := by decide +kernel
theorem dX7_digest_60 : decode cX7_digest 60 = .ok (.iload_n 1, 1) := by decide +kernel
theorem dX7_digest_61 : decode cX7_digest 61 = .ok (.iaload, 1) := by decide +kernel
theorem dX7_digest_62 : decode cX7_digest 62 = .ok (.invokestatic 52, 3) := by decide +kernel
theorem dX7_digest_65 : decode cX7_digest 65 = .ok (.istore_n 2, 1) := by decide +kernel
theorem dX7_digest_66 : decode cX7_digest 66 = .ok (.iload_n 2, 1) := by decide +kernel
theorem dX7_digest_67 : decode cX7_digest 67 = .ok (.aload_n 0, 1) := by decide +kernel
theorem dX7_digest_68 : decode cX7_digest 68 = .ok (.getfield 34, 3) := by decide +kernel
theorem dX7_digest_71 : decode cX7_digest 71 = .ok (.iload_n 1, 1) := by decide +kernel
theorem dX7_digest_72 : decode cX7_digest 72 = .ok (.iaload, 1) := by decide +kernel
theorem dX7_digest_73 : decode cX7_digest 73 = .ok (.invokestatic 52, 3) := by decide +kernel
theorem dX7_digest_76 : decode cX7_digest 76 = .ok (.ireturn, 1) := by decide +kernel
theorem dX7_mix_0 : decode cX7_mix 0 = .ok (.sipush 263, 3) := by decide +kernel
theorem dX7_mix_3 : decode cX7_mix 3 = .ok (.iload_n 0, 1) := by decide +kernel
theorem dX7_mix_4 : decode cX7_mix 4 = .ok (.imul, 1) := by decide +kernel
theorem dX7_mix_5 : decode cX7_mix 5 = .ok (.iload_n 1, 1) := by decide +kernel
theorem dX7_mix_6 : decode cX7_mix 6 = .ok (.iadd, 1) := by decide +kernel
theorem dX7_mix_7 : decode cX7_mix 7 = .ok (.iconst 1, 1) := by decide +kernel
theorem dX7_mix_8 : decode cX7_mix 8 = .ok (.iadd, 1) := by decide +kernel
theorem dX7_mix_9 : decode cX7_mix 9 = .ok (.ldc 51, 2) := by decide +kernel
theorem dX7_mix_11 : decode cX7_mix 11 = .ok (.irem, 1) := by decide +kernel
theorem dX7_mix_12 : decode cX7_mix 12 = .ok (.ireturn, 1) := by decide +kernel
theorem dX7_covers_0 : decode cX7_covers 0 = .ok (.iload_n 2, 1) := by decide +kernel
theorem dX7_covers_1 : decode cX7_covers 1 = .ok (.iload_n 3, 1) := by decide +kernel
theorem dX7_covers_2 : decode cX7_covers 2 = .ok (.aload_n 0, 1) := by decide +kernel
theorem dX7_covers_3 : decode cX7_covers 3 = .ok (.getfield 25, 3) := by decide +kernel
theorem dX7_covers_6 : decode cX7_covers 6 = .ok (.iload_n 1, 1) := by decide +kernel
theorem dX7_covers_7 : decode cX7_covers 7 = .ok (.iaload, 1) := by decide +kernel
theorem dX7_covers_8 : decode cX7_covers 8 = .ok (.aload_n 0, 1) := by decide +kernel
theorem dX7_covers_9 : decode cX7_covers 9 = .ok (.getfield 28, 3) := by decide +kernel
theorem dX7_covers_12 : decode cX7_covers 12 = .ok (.iload_n 1, 1) := by decide +kernel
theorem dX7_covers_13 : decode cX7_covers 13 = .ok (.iaload, 1) := by decide +kernel
theorem dX7_covers_14 : decode cX7_covers 14 = .ok (.invokestatic 56, 3) := by decide +kernel
theorem dX7_covers_17 : decode cX7_covers 17 = .ok (.ireturn, 1) := by decide +kernel
theorem dX8_init_0 : decode cX8_init 0 = .ok (.aload_n 0, 1) := by decide +kernel
theorem dX8_init_1 : decode cX8_init 1 = .ok (.invokespecial 3, 3) := by decide +kernel
theorem dX8_init_4 : decode cX8_init 4 = .ok (.aload_n 0, 1) := by decide +kernel
theorem dX8_init_5 : decode cX8_init 5 = .ok (.bipush 10, 2) := by decide +kernel
theorem dX8_init_7 : decode cX8_init 7 = .ok (.bipush 10, 2) := by decide +kernel
theorem dX8_init_9 : decode cX8_init 9 = .ok (.multianewarray 9 2, 4) := by decide +kernel
theorem dX8_init_13 : decode cX8_init 13 = .ok (.putfield 11, 3) := by decide +kernel
theorem dX8_init_16 : decode cX8_init 16 = .ok (.return_, 1) := by decide +kernel
theorem dX8_between_0 : decode cX8_between 0 = .ok (.aload_n 0, 1) := by decide +kernel
theorem dX8_between_1 : decode cX8_between 1 = .ok (.getfield 11, 3) := by decide +kernel
theorem dX8_between_4 : decode cX8_between 4 = .ok (.iload_n 1, 1) := by decide +kernel
theorem dX8_between_5 : decode cX8_between 5 = .ok (.aaload, 1) := by decide +kernel
theorem dX8_between_6 : decode cX8_between 6 = .ok (.iload_n 2, 1) := by decide +kernel
theorem dX8_between_7 : decode cX8_between 7 = .ok (.iaload, 1) := by decide +kernel
theorem dX8_between_8 : decode cX8_between 8 = .ok (.ireturn, 1) := by decide +kernel
theorem dX8_tell_0 : decode cX8_tell 0 = .ok (.aload_n 0, 1) := by decide +kernel
theorem dX8_tell_1 : decode cX8_tell 1 = .ok (.getfield 11, 3) := by decide +kernel
theorem dX8_tell_4 : decode cX8_tell 4 = .ok (.iload_n 1, 1) := by decide +kernel
theorem dX8_tell_5 : decode cX8_tell 5 = .ok (.aaload, 1) := by decide +kernel
theorem dX8_tell_6 : decode cX8_tell 6 = .ok (.iload_n 2, 1) := by decide +kernel
theorem dX8_tell_7 : decode cX8_tell 7 = .ok (.iload_n 3, 1) := by decide +kernel
theorem dX8_tell_8 : decode cX8_tell 8 = .ok (.iastore, 1) := by decide +kernel
theorem dX8_tell_9 : decode cX8_tell 9 = .ok (.aload_n 0, 1) := by decide +kernel
theorem dX8_tell_10 : decode cX8_tell 10 = .ok (.getfield 11, 3) := by decide +kernel
theorem dX8_tell_13 : decode cX8_tell 13 = .ok (.iload_n 2, 1) := by decide +kernel
theorem dX8_tell_14 : decode cX8_tell 14 = .ok (.aaload, 1) := by decide +kernel
theorem dX8_tell_15 : decode cX8_tell 15 = .ok (.iload_n 1, 1) := by decide +kernel
theorem dX8_tell_16 : decode cX8_tell 16 = .ok (.iload_n 3, 1) := by decide +kernel
theorem dX8_tell_17 : decode cX8_tell 17 = .ok (.invokestatic 16, 3) := by decide +kernel
theorem dX8_tell_20 : decode cX8_tell 20 = .ok (.iastore, 1) := by decide +kernel
theorem dX8_tell_21 : decode cX8_tell 21 = .ok (.return_, 1) := by decide +kernel
theorem dX8_turned_0 : decode cX8_turned 0 = .ok (.iload_n 0, 1) := by decide +kernel
theorem dX8_turned_1 : decode cX8_turned 1 = .ok (.iconst 1, 1) := by decide +kernel
theorem dX8_turned_2 : decode cX8_turned 2 = .ok (.if_icmp .ne 5, 3) := by decide +kernel
theorem dX8_turned_5 : decode cX8_turned 5 = .ok (.iconst 2, 1) := by decide +kernel
theorem dX8_turned_6 : decode cX8_turned 6 = .ok (.ireturn, 1) := by decide +kernel
theorem dX8_turned_7 : decode cX8_turned 7 = .ok (.iload_n 0, 1) := by decide +kernel
theorem dX8_turned_8 : decode cX8_turned 8 = .ok (.iconst 2, 1) := by decide +kernel
theorem dX8_turned_9 : decode cX8_turned 9 = .ok (.if_icmp .ne 7, 3) := by decide +kernel
theorem dX8_turned_12 : decode cX8_turned 12 = .ok (.iconst 1, 1) := by decide +kernel
theorem dX8_turned_13 : decode cX8_turned 13 = .ok (.goto 4, 3) := by decide +kernel
theorem dX8_turned_16 : decode cX8_turned 16 = .ok (.iload_n 0, 1) := by decide +kernel
theorem dX8_turned_17 : decode cX8_turned 17 = .ok (.ireturn, 1) := by decide +kernel
theorem dX8_areTied_0 : decode cX8_areTied 0 = .ok (.aload_n 0, 1) := by decide +kernel
theorem dX8_areTied_1 : decode cX8_areTied 1 = .ok (.getfield 11, 3) := by decide +kernel
theorem dX8_areTied_4 : decode cX8_areTied 4 = .ok (.iload_n 1, 1) := by decide +kernel
theorem dX8_areTied_5 : decode cX8_areTied 5 = .ok (.aaload, 1) := by decide +kernel
theorem dX8_areTied_6 : decode cX8_areTied 6 = .ok (.iload_n 2, 1) := by decide +kernel
theorem dX8_areTied_7 : decode cX8_areTied 7 = .ok (.iaload, 1) := by decide +kernel
theorem dX8_areTied_8 : decode cX8_areTied 8 = .ok (.ifCond .eq 7, 3) := by decide +kernel
theorem dX8_areTied_11 : decode cX8_areTied 11 = .ok (.iconst 1, 1) := by decide +kernel
theorem dX8_areTied_12 : decode cX8_areTied 12 = .ok (.goto 4, 3) := by decide +kernel
theorem dX8_areTied_15 : decode cX8_areTied 15 = .ok (.iconst 0, 1) := by decide +kernel
theorem dX8_areTied_16 : decode cX8_areTied 16 = .ok (.ireturn, 1) := by decide +kernel
theorem dX8_hasCustomer_0 : decode cX8_hasCustomer 0 = .ok (.aload_n 0, 1) := by decide +kernel
theorem dX8_hasCustomer_1 : decode cX8_hasCustomer 1 = .ok (.getfield 11, 3) := by decide +kernel
theorem dX8_hasCustomer_4 : decode cX8_hasCustomer 4 = .ok (.iload_n 2, 1) := by decide +kernel
theorem dX8_hasCustomer_5 : decode cX8_hasCustomer 5 = .ok (.aaload, 1) := by decide +kernel
theorem dX8_hasCustomer_6 : decode cX8_hasCustomer 6 = .ok (.iload_n 1, 1) := by decide +kernel
theorem dX8_hasCustomer_7 : decode cX8_hasCustomer 7 = .ok (.iaload, 1) := by decide +kernel
theorem dX8_hasCustomer_8 : decode cX8_hasCustomer 8 = .ok (.iconst 1, 1) := by decide +kernel
theorem dX8_hasCustomer_9 : decode cX8_hasCustomer 9 = .ok (.if_icmp .eq 15, 3) := by decide +kernel
theorem dX8_hasCustomer_12 : decode cX8_hasCustomer 12 = .ok (.aload_n 0, 1) := by decide +kernel
theorem dX8_hasCustomer_13 : decode cX8_hasCustomer 13 = .ok (.getfield 11, 3) := by decide +kernel
theorem dX8_hasCustomer_16 : decode cX8_hasCustomer 16 = .ok (.iload_n 3, 1) := by decide +kernel
theorem dX8_hasCustomer_17 : decode cX8_hasCustomer 17 = .ok (.aaload, 1) := by decide +kernel
theorem dX8_hasCustomer_18 : decode cX8_hasCustomer 18 = .ok (.iload_n 1, 1) := by decide +kernel
theorem dX8_hasCustomer_19 : decode cX8_hasCustomer 19 = .ok (.iaload, 1) := by decide +kernel
theorem dX8_hasCustomer_20 : decode cX8_hasCustomer 20 = .ok (.iconst 1, 1) := by decide +kernel
theorem dX8_hasCustomer_21 : decode cX8_hasCustomer 21 = .ok (.if_icmp .ne 7, 3) := by decide +kernel
theorem dX8_hasCustomer_24 : decode cX8_hasCustomer 24 = .ok (.iconst 1, 1) := by decide +kernel
theorem dX8_hasCustomer_25 : decode cX8_hasCustomer 25 = .ok (.goto 4, 3) := by decide +kernel
theorem dX8_hasCustomer_28 : decode cX8_hasCustomer 28 = .ok (.iconst 0, 1) := by decide +kernel
theorem dX8_hasCustomer_29 : decode cX8_hasCustomer 29 = .ok (.ireturn, 1) := by decide +kernel
theorem dX8_leaksAt_0 : decode cX8_leaksAt 0 = .ok (.aload_n 0, 1) := by decide +kernel
theorem dX8_leaksAt_1 : decode cX8_leaksAt 1 = .ok (.iload_n 1, 1) := by decide +kernel
theorem dX8_leaksAt_2 : decode cX8_leaksAt 2 = .ok (.iload_n 2, 1) := by decide +kernel
theorem dX8_leaksAt_3 : decode cX8_leaksAt 3 = .ok (.invokevirtual 20, 3) := by decide +kernel
theorem dX8_leaksAt_6 : decode cX8_leaksAt 6 = .ok (.ifCond .eq 26, 3) := by decide +kernel
theorem dX8_leaksAt_9 : decode cX8_leaksAt 9 = .ok (.aload_n 0, 1) := by decide +kernel
theorem dX8_leaksAt_10 : decode cX8_leaksAt 10 = .ok (.iload_n 3, 1) := by decide +kernel
theorem dX8_leaksAt_11 : decode cX8_leaksAt 11 = .ok (.iload_n 2, 1) := by decide +kernel
theorem dX8_leaksAt_12 : decode cX8_leaksAt 12 = .ok (.invokevirtual 20, 3) := by decide +kernel
theorem dX8_leaksAt_15 : decode cX8_leaksAt 15 = .ok (.ifCond .eq 17, 3) := by decide +kernel
theorem dX8_leaksAt_18 : decode cX8_leaksAt 18 = .ok (.aload_n 0, 1) := by decide +kernel
theorem dX8_leaksAt_19 : decode cX8_leaksAt 19 = .ok (.iload_n 2, 1) := by decide +kernel
theorem dX8_leaksAt_20 : decode cX8_leaksAt 20 = .ok (.iload_n 1, 1) := by decide +kernel
theorem dX8_leaksAt_21 : decode cX8_leaksAt 21 = .ok (.iload_n 3, 1) := by decide +kernel
theorem dX8_leaksAt_22 : decode cX8_leaksAt 22 = .ok (.invokevirtual 24, 3) := by decide +kernel
theorem dX8_leaksAt_25 : decode cX8_leaksAt 25 = .ok (.ifCond .ne 7, 3) := by decide +kernel
theorem dX8_leaksAt_28 : decode cX8_leaksAt 28 = .ok (.iconst 1, 1) := by decide +kernel
theorem dX8_leaksAt_29 : decode cX8_leaksAt 29 = .ok (.goto 4, 3) := by decide +kernel
theorem dX8_leaksAt_32 : decode cX8_leaksAt 32 = .ok (.iconst 0, 1) := by decide +kernel
theorem dX8_leaksAt_33 : decode cX8_leaksAt 33 = .ok (.ireturn, 1) := by decide +kernel
theorem dX9_init_0 : decode cX9_init 0 = .ok (.aload_n 0, 1) := by decide +kernel
theorem dX9_init_1 : decode cX9_init 1 = .ok (.invokespecial 1, 3) := by decide +kernel
theorem dX9_init_4 : decode cX9_init 4 = .ok (.aload_n 0, 1) := by decide +kernel
theorem dX9_init_5 : decode cX9_init 5 = .ok (.new 7, 3) := by decide +kernel
theorem dX9_init_8 : decode cX9_init 8 = .ok (.dup, 1) := by decide +kernel
theorem dX9_init_9 : decode cX9_init 9 = .ok (.invokespecial 9, 3) := by decide +kernel
theorem dX9_init_12 : decode cX9_init 12 = .ok (.putfield 10, 3) := by decide +kernel
theorem dX9_init_15 : decode cX9_init 15 = .ok (.aload_n 0, 1) := by decide +kernel
theorem dX9_init_16 : decode cX9_init 16 = .ok (.new 16, 3) := by decide +kernel
theorem dX9_init_19 : decode cX9_init 19 = .ok (.dup, 1) := by decide +kernel
theorem dX9_init_20 : decode cX9_init 20 = .ok (.invokespecial 18, 3) := by decide +kernel
theorem dX9_init_23 : decode cX9_init 23 = .ok (.putfield 19, 3) := by decide +kernel
theorem dX9_init_26 : decode cX9_init 26 = .ok (.aload_n 0, 1) := by decide +kernel
theorem dX9_init_27 : decode cX9_init 27 = .ok (.new 23, 3) := by decide +kernel
theorem dX9_init_30 : decode cX9_init 30 = .ok (.dup, 1) := by decide +kernel
theorem dX9_init_31 : decode cX9_init 31 = .ok (.aload_n 0, 1) := by decide +kernel
theorem dX9_init_32 : decode cX9_init 32 = .ok (.getfield 10, 3) := by decide +kernel
theorem dX9_init_35 : decode cX9_init 35 = .ok (.aload_n 0, 1) := by decide +kernel
theorem dX9_init_36 : decode cX9_init 36 = .ok (.getfield 19, 3) := by decide +kernel
theorem dX9_init_39 : decode cX9_init 39 = .ok (.invokespecial 25, 3) := by decide +kernel
theorem dX9_init_42 : decode cX9_init 42 = .ok (.putfield 28, 3) := by decide +kernel
theorem dX9_init_45 : decode cX9_init 45 = .ok (.aload_n 0, 1) := by decide +kernel
theorem dX9_init_46 : decode cX9_init 46 = .ok (.new 32, 3) := by decide +kernel
theorem dX9_init_49 : decode cX9_init 49 = .ok (.dup, 1) := by decide +kernel
theorem dX9_init_50 : decode cX9_init 50 = .ok (.invokespecial 34, 3) := by decide +kernel
theorem dX9_init_53 : decode cX9_init 53 = .ok (.putfield 35, 3) := by decide +kernel
theorem dX9_init_56 : decode cX9_init 56 = .ok (.aload_n 0, 1) := by decide +kernel
theorem dX9_init_57 : decode cX9_init 57 = .ok (.new 39, 3) := by decide +kernel
theorem dX9_init_60 : decode cX9_init 60 = .ok (.dup, 1) := by decide +kernel
theorem dX9_init_61 : decode cX9_init 61 = .ok (.invokespecial 41, 3) := by decide +kernel
theorem dX9_init_64 : decode cX9_init 64 = .ok (.putfield 42, 3) := by decide +kernel
theorem dX9_init_67 : decode cX9_init 67 = .ok (.aload_n 0, 1) := by decide +kernel
theorem dX9_init_68 : decode cX9_init 68 = .ok (.new 46, 3) := by decide +kernel
theorem dX9_init_71 : decode cX9_init 71 = .ok (.dup, 1) := by decide +kernel
theorem dX9_init_72 : decode cX9_init 72 = .ok (.aload_n 0, 1) := by decide +kernel
theorem dX9_init_73 : decode cX9_init 73 = .ok (.getfield 42, 3) := by decide +kernel
theorem dX9_init_76 : decode cX9_init 76 = .ok (.invokespecial 48, 3) := by decide +kernel
theorem dX9_init_79 : decode cX9_init 79 = .ok (.putfield 51, 3) := by decide +kernel
theorem dX9_init_82 : decode cX9_init 82 = .ok (.aload_n 0, 1) := by decide +kernel
theorem dX9_init_83 : decode cX9_init 83 = .ok (.new 55, 3) := by decide +kernel
theorem dX9_init_86 : decode cX9_init 86 = .ok (.dup, 1) := by decide +kernel
theorem dX9_init_87 : decode cX9_init 87 = .ok (.aload_n 0, 1) := by decide +kernel
theorem dX9_init_88 : decode cX9_init 88 = .ok (.getfield 42, 3) := by decide +kernel
theorem dX9_init_91 : decode cX9_init 91 = .ok (.aload_n 0, 1) := by decide +kernel
theorem dX9_init_92 : decode cX9_init 92 = .ok (.getfield 51, 3) := by decide +kernel
theorem dX9_init_95 : decode cX9_init 95 = .ok (.invokespecial 57, 3) := by decide +kernel
theorem dX9_init_98 : decode cX9_init 98 = .ok (.putfield 60, 3) := by decide +kernel
theorem dX9_init_101 : decode cX9_init 101 = .ok (.aload_n 0, 1) := by decide +kernel
theorem dX9_init_102 : decode cX9_init 102 = .ok (.new 64, 3) := by decide +kernel
theorem dX9_init_105 : decode cX9_init 105 = .ok (.dup, 1) := by decide +kernel
theorem dX9_init_106 : decode cX9_init 106 = .ok (.aload_n 0, 1) := by decide +kernel
theorem dX9_init_107 : decode cX9_init 107 = .ok (.getfield 35, 3) := by decide +kernel
theorem dX9_init_110 : decode cX9_init 110 = .ok (.invokespecial 66, 3) := by decide +kernel
theorem dX9_init_113 : decode cX9_init 113 = .ok (.putfield 69, 3) := by decide +kernel
theorem dX9_init_116 : decode cX9_init 116 = .ok (.return_, 1) := by decide +kernel
theorem dX9_holder_0 : decode cX9_holder 0 = .ok (.aload_n 0, 1) := by decide +kernel
theorem dX9_holder_1 : decode cX9_holder 1 = .ok (.iload_n 1, 1) := by decide +kernel
theorem dX9_holder_2 : decode cX9_holder 2 = .ok (.invokevirtual 73, 3) := by decide +kernel
theorem dX9_holder_5 : decode cX9_holder 5 = .ok (.aload_n 0, 1) := by decide +kernel
theorem dX9_holder_6 : decode cX9_holder 6 = .ok (.getfield 10, 3) := by decide +kernel
theorem dX9_holder_9 : decode cX9_holder 9 = .ok (.getfield 77, 3) := by decide +kernel
theorem dX9_holder_12 : decode cX9_holder 12 = .ok (.bipush 8, 2) := by decide +kernel
theorem dX9_holder_14 : decode cX9_holder 14 = .ok (.if_icmp .lt 13, 3) := by decide +kernel
theorem dX9_holder_17 : decode cX9_holder 17 = .ok (.new 81, 3) := by decide +kernel
theorem dX9_holder_20 : decode cX9_holder 20 = .ok (.dup, 1) := by decide +kernel
theorem dX9_holder_21 : decode cX9_holder 21 = .ok (.ldc 83, 2) := by decide +kernel
theorem dX9_holder_23 : decode cX9_holder 23 = .ok (.invokespecial 85, 3) := by decide +kernel
theorem dX9_holder_26 : decode cX9_holder 26 = .ok (.athrow, 1) := by decide +kernel
theorem dX9_holder_27 : decode cX9_holder 27 = .ok (.aload_n 0, 1) := by decide +kernel
theorem dX9_holder_28 : decode cX9_holder 28 = .ok (.getfield 10, 3) := by decide +kernel
theorem dX9_holder_31 : decode cX9_holder 31 = .ok (.iload_n 1, 1) := by decide +kernel
theorem dX9_holder_32 : decode cX9_holder 32 = .ok (.invokevirtual 88, 3) := by decide +kernel
theorem dX9_holder_35 : decode cX9_holder 35 = .ok (.ireturn, 1) := by decide +kernel
theorem dX9_belong_0 : decode cX9_belong 0 = .ok (.iload_n 1, 1) := by decide +kernel
theorem dX9_belong_1 : decode cX9_belong 1 = .ok (.invokestatic 92, 3) := by decide +kernel
theorem dX9_belong_4 : decode cX9_belong 4 = .ok (.aload_n 0, 1) := by decide +kernel
theorem dX9_belong_5 : decode cX9_belong 5 = .ok (.iload_n 2, 1) := by decide +kernel
theorem dX9_belong_6 : decode cX9_belong 6 = .ok (.invokevirtual 73, 3) := by decide +kernel
theorem dX9_belong_9 : decode cX9_belong 9 = .ok (.aload_n 0, 1) := by decide +kernel
theorem dX9_belong_10 : decode cX9_belong 10 = .ok (.getfield 10, 3) := by decide +kernel
theorem dX9_belong_13 : decode cX9_belong 13 = .ok (.getfield 95, 3) := by decide +kernel
theorem dX9_belong_16 : decode cX9_belong 16 = .ok (.iload_n 1, 1) := by decide +kernel
theorem dX9_belong_17 : decode cX9_belong 17 = .ok (.iaload, 1) := by decide +kernel
theorem dX9_belong_18 : decode cX9_belong 18 = .ok (.istore_n 3, 1) := by decide +kernel
theorem dX9_belong_19 : decode cX9_belong 19 = .ok (.aload_n 0, 1) := by decide +kernel
theorem dX9_belong_20 : decode cX9_belong 20 = .ok (.getfield 10, 3) := by decide +kernel
theorem dX9_belong_23 : decode cX9_belong 23 = .ok (.getfield 95, 3) := by decide +kernel
theorem dX9_belong_26 : decode cX9_belong 26 = .ok (.iload_n 1, 1) := by decide +kernel
theorem dX9_belong_27 : decode cX9_belong 27 = .ok (.iload_n 2, 1) := by decide +kernel
theorem dX9_belong_28 : decode cX9_belong 28 = .ok (.iastore, 1) := by decide +kernel
theorem dX9_belong_29 : decode cX9_belong 29 = .ok (.iload_n 3, 1) := by decide +kernel
theorem dX9_belong_30 : decode cX9_belong 30 = .ok (.ireturn, 1) := by decide +kernel
theorem dX9_roll_0 : decode cX9_roll 0 = .ok (.aload_n 0, 1) := by decide +kernel
theorem dX9_roll_1 : decode cX9_roll 1 = .ok (.iload_n 1, 1) := by decide +kernel
theorem dX9_roll_2 : decode cX9_roll 2 = .ok (.invokevirtual 73, 3) := by decide +kernel
theorem dX9_roll_5 : decode cX9_roll 5 = .ok (.aload_n 0, 1) := by decide +kernel
theorem dX9_roll_6 : decode cX9_roll 6 = .ok (.getfield 10, 3) := by decide +kernel
theorem dX9_roll_9 : decode cX9_roll 9 = .ok (.getfield 99, 3) := by decide +kernel
theorem dX9_roll_12 : decode cX9_roll 12 = .ok (.iload_n 1, 1) := by decide +kernel
theorem dX9_roll_13 : decode cX9_roll 13 = .ok (.iaload, 1) := by decide +kernel
theorem dX9_roll_14 : decode cX9_roll 14 = .ok (.bipush 100, 2) := by decide +kernel
theorem dX9_roll_16 : decode cX9_roll 16 = .ok (.if_icmp .lt 13, 3) := by decide +kernel
theorem dX9_roll_19 : decode cX9_roll 19 = .ok (.new 81, 3) := by decide +kernel
theorem dX9_roll_22 : decode cX9_roll 22 = .ok (.dup, 1) := by decide +kernel
theorem dX9_roll_23 : decode cX9_roll 23 = .ok (.ldc 102, 2) := by decide +kernel
theorem dX9_roll_25 : decode cX9_roll 25 = .ok (.invokespecial 85, 3) := by decide +kernel
theorem dX9_roll_28 : decode cX9_roll 28 = .ok (.athrow, 1) := by decide +kernel
theorem dX9_roll_29 : decode cX9_roll 29 = .ok (.aload_n 0, 1) := by decide +kernel
theorem dX9_roll_30 : decode cX9_roll 30 = .ok (.getfield 10, 3) := by decide +kernel
theorem dX9_roll_33 : decode cX9_roll 33 = .ok (.getfield 99, 3) := by decide +kernel
theorem dX9_roll_36 : decode cX9_roll 36 = .ok (.iload_n 1, 1) := by decide +kernel
theorem dX9_roll_37 : decode cX9_roll 37 = .ok (.dup2, 1) := by decide +kernel
theorem dX9_roll_38 : decode cX9_roll 38 = .ok (.iaload, 1) := by decide +kernel
theorem dX9_roll_39 : decode cX9_roll 39 = .ok (.iconst 1, 1) := by decide +kernel
theorem dX9_roll_40 : decode cX9_roll 40 = .ok (.iadd, 1) := by decide +kernel
theorem dX9_roll_41 : decode cX9_roll 41 = .ok (.iastore, 1) := by decide +kernel
theorem dX9_roll_42 : decode cX9_roll 42 = .ok (.aload_n 0, 1) := by decide +kernel
theorem dX9_roll_43 : decode cX9_roll 43 = .ok (.getfield 10, 3) := by decide +kernel
theorem dX9_roll_46 : decode cX9_roll 46 = .ok (.getfield 99, 3) := by decide +kernel
theorem dX9_roll_49 : decode cX9_roll 49 = .ok (.iload_n 1, 1) := by decide +kernel
theorem dX9_roll_50 : decode cX9_roll 50 = .ok (.iaload, 1) := by decide +kernel
theorem dX9_roll_51 : decode cX9_roll 51 = .ok (.ireturn, 1) := by decide +kernel
theorem dX9_publish_0 : decode cX9_publish 0 = .ok (.aload_n 0, 1) := by decide +kernel
theorem dX9_publish_1 : decode cX9_publish 1 = .ok (.iload_n 1, 1) := by decide +kernel
theorem dX9_publish_2 : decode cX9_publish 2 = .ok (.invokevirtual 73, 3) := by decide +kernel
theorem dX9_publish_5 : decode cX9_publish 5 = .ok (.iload_n 2, 1) := by decide +kernel
theorem dX9_publish_6 : decode cX9_publish 6 = .ok (.iconst 0, 1) := by decide +kernel
theorem dX9_publish_7 : decode cX9_publish 7 = .ok (.bipush 100, 2) := by decide +kernel
theorem dX9_publish_9 : decode cX9_publish 9 = .ok (.invokestatic 104, 3) := by decide +kernel
theorem dX9_publish_12 : decode cX9_publish 12 = .ok (.aload_n 0, 1) := by decide +kernel
theorem dX9_publish_13 : decode cX9_publish 13 = .ok (.getfield 10, 3) := by decide +kernel
theorem dX9_publish_16 : decode cX9_publish 16 = .ok (.getfield 108, 3) := by decide +kernel
theorem dX9_publish_19 : decode cX9_publish 19 = .ok (.iload_n 1, 1) := by decide +kernel
theorem dX9_publish_20 : decode cX9_publish 20 = .ok (.aload_n 0, 1) := by decide +kernel
theorem dX9_publish_21 : decode cX9_publish 21 = .ok (.getfield 10, 3) := by decide +kernel
theorem dX9_publish_24 : decode cX9_publish 24 = .ok (.getfield 111, 3) := by decide +kernel
theorem dX9_publish_27 : decode cX9_publish 27 = .ok (.iload_n 2, 1) := by decide +kernel
theorem dX9_publish_28 : decode cX9_publish 28 = .ok (.iadd, 1) := by decide +kernel
theorem dX9_publish_29 : decode cX9_publish 29 = .ok (.iastore, 1) := by decide +kernel
theorem dX9_publish_30 : decode cX9_publish 30 = .ok (.aload_n 0, 1) := by decide +kernel
theorem dX9_publish_31 : decode cX9_publish 31 = .ok (.getfield 19, 3) := by decide +kernel
theorem dX9_publish_34 : decode cX9_publish 34 = .ok (.iload_n 1, 1) := by decide +kernel
theorem dX9_publish_35 : decode cX9_publish 35 = .ok (.invokevirtual 114, 3) := by decide +kernel
theorem dX9_publish_38 : decode cX9_publish 38 = .ok (.ireturn, 1) := by decide +kernel
theorem dX9_pass_0 : decode cX9_pass 0 = .ok (.iload_n 1, 1) := by decide +kernel
theorem dX9_pass_1 : decode cX9_pass 1 = .ok (.iconst 1, 1) := by decide +kernel
theorem dX9_pass_2 : decode cX9_pass 2 = .ok (.bipush 100, 2) := by decide +kernel
theorem dX9_pass_4 : decode cX9_pass 4 = .ok (.invokestatic 104, 3) := by decide +kernel
theorem dX9_pass_7 : decode cX9_pass 7 = .ok (.aload_n 0, 1) := by decide +kernel
theorem dX9_pass_8 : decode cX9_pass 8 = .ok (.getfield 10, 3) := by decide +kernel
theorem dX9_pass_11 : decode cX9_pass 11 = .ok (.getfield 111, 3) := by decide +kernel
theorem dX9_pass_14 : decode cX9_pass 14 = .ok (.iload_n 1, 1) := by decide +kernel
theorem dX9_pass_15 : decode cX9_pass 15 = .ok (.iadd, 1) := by decide +kernel
theorem dX9_pass_16 : decode cX9_pass 16 = .ok (.sipush 10000, 3) := by decide +kernel
theorem dX9_pass_19 : decode cX9_pass 19 = .ok (.if_icmp .le 13, 3) := by decide +kernel
theorem dX9_pass_22 : decode cX9_pass 22 = .ok (.new 81, 3) := by decide +kernel
theorem dX9_pass_25 : decode cX9_pass 25 = .ok (.dup, 1) := by decide +kernel
theorem dX9_pass_26 : decode cX9_pass 26 = .ok (.ldc 117, 2) := by decide +kernel
theorem dX9_pass_28 : decode cX9_pass 28 = .ok (.invokespecial 85, 3) := by decide +kernel
theorem dX9_pass_31 : decode cX9_pass 31 = .ok (.athrow, 1) := by decide +kernel
theorem dX9_pass_32 : decode cX9_pass 32 = .ok (.aload_n 0, 1) := by decide +kernel
theorem dX9_pass_33 : decode cX9_pass 33 = .ok (.getfield 10, 3) := by decide +kernel
theorem dX9_pass_36 : decode cX9_pass 36 = .ok (.dup, 1) := by decide +kernel
theorem dX9_pass_37 : decode cX9_pass 37 = .ok (.getfield 111, 3) := by decide +kernel
theorem dX9_pass_40 : decode cX9_pass 40 = .ok (.iload_n 1, 1) := by decide +kernel
theorem dX9_pass_41 : decode cX9_pass 41 = .ok (.iadd, 1) := by decide +kernel
theorem dX9_pass_42 : decode cX9_pass 42 = .ok (.putfield 111, 3) := by decide +kernel
theorem dX9_pass_45 : decode cX9_pass 45 = .ok (.aload_n 0, 1) := by decide +kernel
theorem dX9_pass_46 : decode cX9_pass 46 = .ok (.getfield 10, 3) := by decide +kernel
theorem dX9_pass_49 : decode cX9_pass 49 = .ok (.getfield 111, 3) := by decide +kernel
theorem dX9_pass_52 : decode cX9_pass 52 = .ok (.ireturn, 1) := by decide +kernel
theorem dX9_grant_0 : decode cX9_grant 0 = .ok (.aload_n 0, 1) := by decide +kernel
theorem dX9_grant_1 : decode cX9_grant 1 = .ok (.iload_n 1, 1) := by decide +kernel
theorem dX9_grant_2 : decode cX9_grant 2 = .ok (.invokevirtual 73, 3) := by decide +kernel
theorem dX9_grant_5 : decode cX9_grant 5 = .ok (.aload_n 0, 1) := by decide +kernel
theorem dX9_grant_6 : decode cX9_grant 6 = .ok (.iload_n 2, 1) := by decide +kernel
theorem dX9_grant_7 : decode cX9_grant 7 = .ok (.invokevirtual 73, 3) := by decide +kernel
theorem dX9_grant_10 : decode cX9_grant 10 = .ok (.iload_n 3, 1) := by decide +kernel
theorem dX9_grant_11 : decode cX9_grant 11 = .ok (.iload 4, 2) := by decide +kernel
theorem dX9_grant_13 : decode cX9_grant 13 = .ok (.invokestatic 119, 3) := by decide +kernel
theorem dX9_grant_16 : decode cX9_grant 16 = .ok (.iload 5, 2) := by decide +kernel
theorem dX9_grant_18 : decode cX9_grant 18 = .ok (.iconst 0, 1) := by decide +kernel
theorem dX9_grant_19 : decode cX9_grant 19 = .ok (.sipush 1000, 3) := by decide +kernel
theorem dX9_grant_22 : decode cX9_grant 22 = .ok (.invokestatic 104, 3) := by decide +kernel
theorem dX9_grant_25 : decode cX9_grant 25 = .ok (.aload_n 0, 1) := by decide +kernel
theorem dX9_grant_26 : decode cX9_grant 26 = .ok (.invokevirtual 123, 3) := by decide +kernel
theorem dX9_grant_29 : decode cX9_grant 29 = .ok (.aload_n 0, 1) := by decide +kernel
theorem dX9_grant_30 : decode cX9_grant 30 = .ok (.aload_n 0, 1) := by decide +kernel
theorem dX9_grant_31 : decode cX9_grant 31 = .ok (.getfield 19, 3) := by decide +kernel
theorem dX9_grant_34 : decode cX9_grant 34 = .ok (.iconst 0, 1) := by decide +kernel
theorem dX9_grant_35 : decode cX9_grant 35 = .ok (.iload_n 1, 1) := by decide +kernel
theorem dX9_grant_36 : decode cX9_grant 36 = .ok (.iload_n 2, 1) := by decide +kernel
theorem dX9_grant_37 : decode cX9_grant 37 = .ok (.iload_n 3, 1) := by decide +kernel
theorem dX9_grant_38 : decode cX9_grant 38 = .ok (.iload 4, 2) := by decide +kernel
theorem dX9_grant_40 : decode cX9_grant 40 = .ok (.iconst 0, 1) := by decide +kernel
theorem dX9_grant_41 : decode cX9_grant 41 = .ok (.aload_n 0, 1) := by decide +kernel
theorem dX9_grant_42 : decode cX9_grant 42 = .ok (.getfield 10, 3) := by decide +kernel
theorem dX9_grant_45 : decode cX9_grant 45 = .ok (.getfield 111, 3) := by decide +kernel
theorem dX9_grant_48 : decode cX9_grant 48 = .ok (.iload 5, 2) := by decide +kernel
theorem dX9_grant_50 : decode cX9_grant 50 = .ok (.iadd, 1) := by decide +kernel
theorem dX9_grant_51 : decode cX9_grant 51 = .ok (.invokevirtual 126, 3) := by decide +kernel
theorem dX9_grant_54 : decode cX9_grant 54 = .ok (.invokevirtual 129, 3) := by decide +kernel
theorem dX9_grant_57 : decode cX9_grant 57 = .ok (.ireturn, 1) := by decide +kernel
theorem dX9_origin_0 : decode cX9_origin 0 = .ok (.aload_n 0, 1) := by decide +kernel
theorem dX9_origin_1 : decode cX9_origin 1 = .ok (.iload_n 1, 1) := by decide +kernel
theorem dX9_origin_2 : decode cX9_origin 2 = .ok (.invokevirtual 73, 3) := by decide +kernel
theorem dX9_origin_5 : decode cX9_origin 5 = .ok (.iload_n 2, 1) := by decide +kernel
theorem dX9_origin_6 : decode cX9_origin 6 = .ok (.invokestatic 92, 3) := by decide +kernel
theorem dX9_origin_9 : decode cX9_origin 9 = .ok (.iload_n 3, 1) := by decide +kernel
theorem dX9_origin_10 : decode cX9_origin 10 = .ok (.iload 4, 2) := by decide +kernel
theorem dX9_origin_12 : decode cX9_origin 12 = .ok (.invokestatic 119, 3) := by decide +kernel
theorem dX9_origin_15 : decode cX9_origin 15 = .ok (.iload 5, 2) := by decide +kernel
theorem dX9_origin_17 : decode cX9_origin 17 = .ok (.iconst 0, 1) := by decide +kernel
theorem dX9_origin_18 : decode cX9_origin 18 = .ok (.bipush 8, 2) := by decide +kernel
theorem dX9_origin_20 : decode cX9_origin 20 = .ok (.invokestatic 104, 3) := by decide +kernel
theorem dX9_origin_23 : decode cX9_origin 23 = .ok (.iload 6, 2) := by decide +kernel
theorem dX9_origin_25 : decode cX9_origin 25 = .ok (.iconst 0, 1) := by decide +kernel
theorem dX9_origin_26 : decode cX9_origin 26 = .ok (.sipush 1000, 3) := by decide +kernel
theorem dX9_origin_29 : decode cX9_origin 29 = .ok (.invokestatic 104, 3) := by decide +kernel
theorem dX9_origin_32 : decode cX9_origin 32 = .ok (.aload_n 0, 1) := by decide +kernel
theorem dX9_origin_33 : decode cX9_origin 33 = .ok (.invokevirtual 123, 3) := by decide +kernel
theorem dX9_origin_36 : decode cX9_origin 36 = .ok (.aload_n 0, 1) := by decide +kernel
theorem dX9_origin_37 : decode cX9_origin 37 = .ok (.aload_n 0, 1) := by decide +kernel
theorem dX9_origin_38 : decode cX9_origin 38 = .ok (.getfield 19, 3) := by decide +kernel
theorem dX9_origin_41 : decode cX9_origin 41 = .ok (.iconst 1, 1) := by decide +kernel
theorem dX9_origin_42 : decode cX9_origin 42 = .ok (.iload_n 1, 1) := by decide +kernel
theorem dX9_origin_43 : decode cX9_origin 43 = .ok (.iload_n 2, 1) := by decide +kernel
theorem dX9_origin_44 : decode cX9_origin 44 = .ok (.iload_n 3, 1) := by decide +kernel
theorem dX9_origin_45 : decode cX9_origin 45 = .ok (.iload 4, 2) := by decide +kernel
theorem dX9_origin_47 : decode cX9_origin 47 = .ok (.iload 5, 2) := by decide +kernel
theorem dX9_origin_49 : decode cX9_origin 49 = .ok (.aload_n 0, 1) := by decide +kernel
theorem dX9_origin_50 : decode cX9_origin 50 = .ok (.getfield 10, 3) := by decide +kernel
theorem dX9_origin_53 : decode cX9_origin 53 = .ok (.getfield 111, 3) := by decide +kernel
theorem dX9_origin_56 : decode cX9_origin 56 = .ok (.iload 6, 2) := by decide +kernel
theorem dX9_origin_58 : decode cX9_origin 58 = .ok (.iadd, 1) := by decide +kernel
theorem dX9_origin_59 : decode cX9_origin 59 = .ok (.invokevirtual 126, 3) := by decide +kernel
theorem dX9_origin_62 : decode cX9_origin 62 = .ok (.invokevirtual 129, 3) := by decide +kernel
theorem dX9_origin_65 : decode cX9_origin 65 = .ok (.ireturn, 1) := by decide +kernel
theorem dX9_vouch_0 : decode cX9_vouch 0 = .ok (.aload_n 0, 1) := by decide +kernel
theorem dX9_vouch_1 : decode cX9_vouch 1 = .ok (.iload_n 1, 1) := by decide +kernel
theorem dX9_vouch_2 : decode cX9_vouch 2 = .ok (.invokevirtual 73, 3) := by decide +kernel
theorem dX9_vouch_5 : decode cX9_vouch 5 = .ok (.iload_n 2, 1) := by decide +kernel
theorem dX9_vouch_6 : decode cX9_vouch 6 = .ok (.invokestatic 92, 3) := by decide +kernel
theorem dX9_vouch_9 : decode cX9_vouch 9 = .ok (.iload_n 3, 1) := by decide +kernel
theorem dX9_vouch_10 : decode cX9_vouch 10 = .ok (.iconst 0, 1) := by decide +kernel
theorem dX9_vouch_11 : decode cX9_vouch 11 = .ok (.sipush 1023, 3) := by decide +kernel
theorem dX9_vouch_14 : decode cX9_vouch 14 = .ok (.invokestatic 104, 3) := by decide +kernel
theorem dX9_vouch_17 : decode cX9_vouch 17 = .ok (.iload 4, 2) := by decide +kernel
theorem dX9_vouch_19 : decode cX9_vouch 19 = .ok (.iconst 0, 1) := by decide +kernel
theorem dX9_vouch_20 : decode cX9_vouch 20 = .ok (.sipush 1000, 3) := by decide +kernel
theorem dX9_vouch_23 : decode cX9_vouch 23 = .ok (.invokestatic 104, 3) := by decide +kernel
theorem dX9_vouch_26 : decode cX9_vouch 26 = .ok (.aload_n 0, 1) := by decide +kernel
theorem dX9_vouch_27 : decode cX9_vouch 27 = .ok (.invokevirtual 123, 3) := by decide +kernel
theorem dX9_vouch_30 : decode cX9_vouch 30 = .ok (.aload_n 0, 1) := by decide +kernel
theorem dX9_vouch_31 : decode cX9_vouch 31 = .ok (.aload_n 0, 1) := by decide +kernel
theorem dX9_vouch_32 : decode cX9_vouch 32 = .ok (.getfield 19, 3) := by decide +kernel
theorem dX9_vouch_35 : decode cX9_vouch 35 = .ok (.iconst 2, 1) := by decide +kernel
theorem dX9_vouch_36 : decode cX9_vouch 36 = .ok (.iload_n 1, 1) := by decide +kernel
theorem dX9_vouch_37 : decode cX9_vouch 37 = .ok (.iload_n 2, 1) := by decide +kernel
theorem dX9_vouch_38 : decode cX9_vouch 38 = .ok (.iconst 0, 1) := by decide +kernel
theorem dX9_vouch_39 : decode cX9_vouch 39 = .ok (.iconst 0, 1) := by decide +kernel
theorem dX9_vouch_40 : decode cX9_vouch 40 = .ok (.iload_n 3, 1) := by decide +kernel
theorem dX9_vouch_41 : decode cX9_vouch 41 = .ok (.aload_n 0, 1) := by decide +kernel
theorem dX9_vouch_42 : decode cX9_vouch 42 = .ok (.getfield 10, 3) := by decide +kernel
theorem dX9_vouch_45 : decode cX9_vouch 45 = .ok (.getfield 111, 3) := by decide +kernel
theorem dX9_vouch_48 : decode cX9_vouch 48 = .ok (.iload 4, 2) := by decide +kernel
theorem dX9_vouch_50 : decode cX9_vouch 50 = .ok (.iadd, 1) := by decide +kernel
theorem dX9_vouch_51 : decode cX9_vouch 51 = .ok (.invokevirtual 126, 3) := by decide +kernel
theorem dX9_vouch_54 : decode cX9_vouch 54 = .ok (.invokevirtual 129, 3) := by decide +kernel
theorem dX9_vouch_57 : decode cX9_vouch 57 = .ok (.ireturn, 1) := by decide +kernel
theorem dX9_revoke_0 : decode cX9_revoke 0 = .ok (.aload_n 0, 1) := by decide +kernel
theorem dX9_revoke_1 : decode cX9_revoke 1 = .ok (.iload_n 1, 1) := by decide +kernel
theorem dX9_revoke_2 : decode cX9_revoke 2 = .ok (.invokevirtual 132, 3) := by decide +kernel
theorem dX9_revoke_5 : decode cX9_revoke 5 = .ok (.aload_n 0, 1) := by decide +kernel
theorem dX9_revoke_6 : decode cX9_revoke 6 = .ok (.getfield 19, 3) := by decide +kernel
theorem dX9_revoke_9 : decode cX9_revoke 9 = .ok (.getfield 135, 3) := by decide +kernel
theorem dX9_revoke_12 : decode cX9_revoke 12 = .ok (.iload_n 1, 1) := by decide +kernel
theorem dX9_revoke_13 : decode cX9_revoke 13 = .ok (.baload, 1) := by decide +kernel
theorem dX9_revoke_14 : decode cX9_revoke 14 = .ok (.ifCond .ne 7, 3) := by decide +kernel
theorem dX9_revoke_17 : decode cX9_revoke 17 = .ok (.iconst 1, 1) := by decide +kernel
theorem dX9_revoke_18 : decode cX9_revoke 18 = .ok (.goto 4, 3) := by decide +kernel
theorem dX9_revoke_21 : decode cX9_revoke 21 = .ok (.iconst 0, 1) := by decide +kernel
theorem dX9_revoke_22 : decode cX9_revoke 22 = .ok (.istore_n 2, 1) := by decide +kernel
theorem dX9_revoke_23 : decode cX9_revoke 23 = .ok (.aload_n 0, 1) := by decide +kernel
theorem dX9_revoke_24 : decode cX9_revoke 24 = .ok (.getfield 19, 3) := by decide +kernel
theorem dX9_revoke_27 : decode cX9_revoke 27 = .ok (.getfield 135, 3) := by decide +kernel
theorem dX9_revoke_30 : decode cX9_revoke 30 = .ok (.iload_n 1, 1) := by decide +kernel
theorem dX9_revoke_31 : decode cX9_revoke 31 = .ok (.iconst 1, 1) := by decide +kernel
theorem dX9_revoke_32 : decode cX9_revoke 32 = .ok (.bastore, 1) := by decide +kernel
theorem dX9_revoke_33 : decode cX9_revoke 33 = .ok (.iload_n 2, 1) := by decide +kernel
theorem dX9_revoke_34 : decode cX9_revoke 34 = .ok (.ireturn, 1) := by decide +kernel
theorem dX9_alter_0 : decode cX9_alter 0 = .ok (.aload_n 0, 1) := by decide +kernel
theorem dX9_alter_1 : decode cX9_alter 1 = .ok (.iload_n 1, 1) := by decide +kernel
theorem dX9_alter_2 : decode cX9_alter 2 = .ok (.invokevirtual 132, 3) := by decide +kernel
theorem dX9_alter_5 : decode cX9_alter 5 = .ok (.aload_n 0, 1) := by decide +kernel
theorem dX9_alter_6 : decode cX9_alter 6 = .ok (.getfield 19, 3) := by decide +kernel
theorem dX9_alter_9 : decode cX9_alter 9 = .ok (.getfield 139, 3) := by decide +kernel
theorem dX9_alter_12 : decode cX9_alter 12 = .ok (.iload_n 1, 1) := by decide +kernel
theorem dX9_alter_13 : decode cX9_alter 13 = .ok (.iaload, 1) := by decide +kernel
theorem dX9_alter_14 : decode cX9_alter 14 = .ok (.ifCond .ne 13, 3) := by decide +kernel
theorem dX9_alter_17 : decode cX9_alter 17 = .ok (.new 81, 3) := by decide +kernel
theorem dX9_alter_20 : decode cX9_alter 20 = .ok (.dup, 1) := by decide +kernel
theorem dX9_alter_21 : decode cX9_alter 21 = .ok (.ldc 142, 2) := by decide +kernel
theorem dX9_alter_23 : decode cX9_alter 23 = .ok (.invokespecial 85, 3) := by decide +kernel
theorem dX9_alter_26 : decode cX9_alter 26 = .ok (.athrow, 1) := by decide +kernel
theorem dX9_alter_27 : decode cX9_alter 27 = .ok (.iload_n 2, 1) := by decide +kernel
theorem dX9_alter_28 : decode cX9_alter 28 = .ok (.iconst 0, 1) := by decide +kernel
theorem dX9_alter_29 : decode cX9_alter 29 = .ok (.aload_n 0, 1) := by decide +kernel
theorem dX9_alter_30 : decode cX9_alter 30 = .ok (.getfield 19, 3) := by decide +kernel
theorem dX9_alter_33 : decode cX9_alter 33 = .ok (.getfield 139, 3) := by decide +kernel
theorem dX9_alter_36 : decode cX9_alter 36 = .ok (.iload_n 1, 1) := by decide +kernel
theorem dX9_alter_37 : decode cX9_alter 37 = .ok (.iaload, 1) := by decide +kernel
theorem dX9_alter_38 : decode cX9_alter 38 = .ok (.iconst 1, 1) := by decide +kernel
theorem dX9_alter_39 : decode cX9_alter 39 = .ok (.if_icmp .ne 8, 3) := by decide +kernel
theorem dX9_alter_42 : decode cX9_alter 42 = .ok (.bipush 8, 2) := by decide +kernel
theorem dX9_alter_44 : decode cX9_alter 44 = .ok (.goto 6, 3) := by decide +kernel
theorem dX9_alter_47 : decode cX9_alter 47 = .ok (.sipush 1023, 3) := by decide +kernel
theorem dX9_alter_50 : decode cX9_alter 50 = .ok (.invokestatic 104, 3) := by decide +kernel
theorem dX9_alter_53 : decode cX9_alter 53 = .ok (.aload_n 0, 1) := by decide +kernel
theorem dX9_alter_54 : decode cX9_alter 54 = .ok (.getfield 19, 3) := by decide +kernel
theorem dX9_alter_57 : decode cX9_alter 57 = .ok (.getfield 144, 3) := by decide +kernel
theorem dX9_alter_60 : decode cX9_alter 60 = .ok (.iload_n 1, 1) := by decide +kernel
theorem dX9_alter_61 : decode cX9_alter 61 = .ok (.iaload, 1) := by decide +kernel
theorem dX9_alter_62 : decode cX9_alter 62 = .ok (.istore_n 3, 1) := by decide +kernel
theorem dX9_alter_63 : decode cX9_alter 63 = .ok (.aload_n 0, 1) := by decide +kernel
theorem dX9_alter_64 : decode cX9_alter 64 = .ok (.getfield 19, 3) := by decide +kernel
theorem dX9_alter_67 : decode cX9_alter 67 = .ok (.getfield 144, 3) := by decide +kernel
theorem dX9_alter_70 : decode cX9_alter 70 = .ok (.iload_n 1, 1) := by decide +kernel
theorem dX9_alter_71 : decode cX9_alter 71 = .ok (.iload_n 2, 1) := by decide +kernel
theorem dX9_alter_72 : decode cX9_alter 72 = .ok (.iastore, 1) := by decide +kernel
theorem dX9_alter_73 : decode cX9_alter 73 = .ok (.iload_n 3, 1) := by decide +kernel
theorem dX9_alter_74 : decode cX9_alter 74 = .ok (.ireturn, 1) := by decide +kernel
theorem dX9_sign_0 : decode cX9_sign 0 = .ok (.aload_n 0, 1) := by decide +kernel
theorem dX9_sign_1 : decode cX9_sign 1 = .ok (.iload_n 1, 1) := by decide +kernel
theorem dX9_sign_2 : decode cX9_sign 2 = .ok (.invokevirtual 132, 3) := by decide +kernel
theorem dX9_sign_5 : decode cX9_sign 5 = .ok (.aload_n 0, 1) := by decide +kernel
theorem dX9_sign_6 : decode cX9_sign 6 = .ok (.iload_n 1, 1) := by decide +kernel
theorem dX9_sign_7 : decode cX9_sign 7 = .ok (.invokevirtual 147, 3) := by decide +kernel
theorem dX9_sign_10 : decode cX9_sign 10 = .ok (.ireturn, 1) := by decide +kernel
theorem dX9_hop_0 : decode cX9_hop 0 = .ok (.iload_n 1, 1) := by decide +kernel
theorem dX9_hop_1 : decode cX9_hop 1 = .ok (.invokestatic 92, 3) := by decide +kernel
theorem dX9_hop_4 : decode cX9_hop 4 = .ok (.aload_n 0, 1) := by decide +kernel
theorem dX9_hop_5 : decode cX9_hop 5 = .ok (.getfield 35, 3) := by decide +kernel
theorem dX9_hop_8 : decode cX9_hop 8 = .ok (.getfield 150, 3) := by decide +kernel
theorem dX9_hop_11 : decode cX9_hop 11 = .ok (.bipush 6, 2) := by decide +kernel
theorem dX9_hop_13 : decode cX9_hop 13 = .ok (.if_icmp .lt 13, 3) := by decide +kernel
theorem dX9_hop_16 : decode cX9_hop 16 = .ok (.new 81, 3) := by decide +kernel
theorem dX9_hop_19 : decode cX9_hop 19 = .ok (.dup, 1) := by decide +kernel
theorem dX9_hop_20 : decode cX9_hop 20 = .ok (.ldc 153, 2) := by decide +kernel
theorem dX9_hop_22 : decode cX9_hop 22 = .ok (.invokespecial 85, 3) := by decide +kernel
theorem dX9_hop_25 : decode cX9_hop 25 = .ok (.athrow, 1) := by decide +kernel
theorem dX9_hop_26 : decode cX9_hop 26 = .ok (.aload_n 0, 1) := by decide +kernel
theorem dX9_hop_27 : decode cX9_hop 27 = .ok (.getfield 35, 3) := by decide +kernel
theorem dX9_hop_30 : decode cX9_hop 30 = .ok (.getfield 155, 3) := by decide +kernel
theorem dX9_hop_33 : decode cX9_hop 33 = .ok (.aload_n 0, 1) := by decide +kernel
theorem dX9_hop_34 : decode cX9_hop 34 = .ok (.getfield 35, 3) := by decide +kernel
theorem dX9_hop_37 : decode cX9_hop 37 = .ok (.getfield 150, 3) := by decide +kernel
theorem dX9_hop_40 : decode cX9_hop 40 = .ok (.iload_n 1, 1) := by decide +kernel
theorem dX9_hop_41 : decode cX9_hop 41 = .ok (.iastore, 1) := by decide +kernel
theorem dX9_hop_42 : decode cX9_hop 42 = .ok (.aload_n 0, 1) := by decide +kernel
theorem dX9_hop_43 : decode cX9_hop 43 = .ok (.getfield 35, 3) := by decide +kernel
theorem dX9_hop_46 : decode cX9_hop 46 = .ok (.dup, 1) := by decide +kernel
theorem dX9_hop_47 : decode cX9_hop 47 = .ok (.getfield 150, 3) := by decide +kernel
theorem dX9_hop_50 : decode cX9_hop 50 = .ok (.iconst 1, 1) := by decide +kernel
theorem dX9_hop_51 : decode cX9_hop 51 = .ok (.iadd, 1) := by decide +kernel
theorem dX9_hop_52 : decode cX9_hop 52 = .ok (.putfield 150, 3) := by decide +kernel
theorem dX9_hop_55 : decode cX9_hop 55 = .ok (.aload_n 0, 1) := by decide +kernel
theorem dX9_hop_56 : decode cX9_hop 56 = .ok (.getfield 35, 3) := by decide +kernel
theorem dX9_hop_59 : decode cX9_hop 59 = .ok (.getfield 150, 3) := by decide +kernel
theorem dX9_hop_62 : decode cX9_hop 62 = .ok (.ireturn, 1) := by decide +kernel
theorem dX9_hear_0 : decode cX9_hear 0 = .ok (.iload_n 1, 1) := by decide +kernel
theorem dX9_hear_1 : decode cX9_hear 1 = .ok (.iload_n 2, 1) := by decide +kernel
theorem dX9_hear_2 : decode cX9_hear 2 = .ok (.invokestatic 119, 3) := by decide +kernel
theorem dX9_hear_5 : decode cX9_hear 5 = .ok (.aload_n 0, 1) := by decide +kernel
theorem dX9_hear_6 : decode cX9_hear 6 = .ok (.getfield 35, 3) := by decide +kernel
theorem dX9_hear_9 : decode cX9_hear 9 = .ok (.getfield 150, 3) := by decide +kernel
theorem dX9_hear_12 : decode cX9_hear 12 = .ok (.ifCond .eq 15, 3) := by decide +kernel
theorem dX9_hear_15 : decode cX9_hear 15 = .ok (.aload_n 0, 1) := by decide +kernel
theorem dX9_hear_16 : decode cX9_hear 16 = .ok (.getfield 35, 3) := by decide +kernel
theorem dX9_hear_19 : decode cX9_hear 19 = .ok (.getfield 158, 3) := by decide +kernel
theorem dX9_hear_22 : decode cX9_hear 22 = .ok (.bipush 24, 2) := by decide +kernel
theorem dX9_hear_24 : decode cX9_hear 24 = .ok (.if_icmp .lt 13, 3) := by decide +kernel
theorem dX9_hear_27 : decode cX9_hear 27 = .ok (.new 81, 3) := by decide +kernel
theorem dX9_hear_30 : decode cX9_hear 30 = .ok (.dup, 1) := by decide +kernel
theorem dX9_hear_31 : decode cX9_hear 31 = .ok (.ldc 159, 2) := by decide +kernel
theorem dX9_hear_33 : decode cX9_hear 33 = .ok (.invokespecial 85, 3) := by decide +kernel
theorem dX9_hear_36 : decode cX9_hear 36 = .ok (.athrow, 1) := by decide +kernel
theorem dX9_hear_37 : decode cX9_hear 37 = .ok (.aload_n 0, 1) := by decide +kernel
theorem dX9_hear_38 : decode cX9_hear 38 = .ok (.getfield 35, 3) := by decide +kernel
theorem dX9_hear_41 : decode cX9_hear 41 = .ok (.iload_n 1, 1) := by decide +kernel
theorem dX9_hear_42 : decode cX9_hear 42 = .ok (.iload_n 2, 1) := by decide +kernel
theorem dX9_hear_43 : decode cX9_hear 43 = .ok (.invokevirtual 161, 3) := by decide +kernel
theorem dX9_hear_46 : decode cX9_hear 46 = .ok (.ireturn, 1) := by decide +kernel
theorem dX9_withdraw_0 : decode cX9_withdraw 0 = .ok (.iload_n 1, 1) := by decide +kernel
theorem dX9_withdraw_1 : decode cX9_withdraw 1 = .ok (.ifCond .lt 14, 3) := by decide +kernel
theorem dX9_withdraw_4 : decode cX9_withdraw 4 = .ok (.iload_n 1, 1) := by decide +kernel
theorem dX9_withdraw_5 : decode cX9_withdraw 5 = .ok (.aload_n 0, 1) := by decide +kernel
theorem dX9_withdraw_6 : decode cX9_withdraw 6 = .ok (.getfield 35, 3) := by decide +kernel
theorem dX9_withdraw_9 : decode cX9_withdraw 9 = .ok (.getfield 158, 3) := by decide +kernel
theorem dX9_withdraw_12 : decode cX9_withdraw 12 = .ok (.if_icmp .lt 13, 3) := by decide +kernel
theorem dX9_withdraw_15 : decode cX9_withdraw 15 = .ok (.new 165, 3) := by decide +kernel
theorem dX9_withdraw_18 : decode cX9_withdraw 18 = .ok (.dup, 1) := by decide +kernel
theorem dX9_withdraw_19 : decode cX9_withdraw 19 = .ok (.ldc 167, 2) := by decide +kernel
theorem dX9_withdraw_21 : decode cX9_withdraw 21 = .ok (.invokespecial 169, 3) := by decide +kernel
theorem dX9_withdraw_24 : decode cX9_withdraw 24 = .ok (.athrow, 1) := by decide +kernel
theorem dX9_withdraw_25 : decode cX9_withdraw 25 = .ok (.aload_n 0, 1) := by decide +kernel
theorem dX9_withdraw_26 : decode cX9_withdraw 26 = .ok (.getfield 35, 3) := by decide +kernel
theorem dX9_withdraw_29 : decode cX9_withdraw 29 = .ok (.getfield 170, 3) := by decide +kernel
theorem dX9_withdraw_32 : decode cX9_withdraw 32 = .ok (.iload_n 1, 1) := by decide +kernel
theorem dX9_withdraw_33 : decode cX9_withdraw 33 = .ok (.baload, 1) := by decide +kernel
theorem dX9_withdraw_34 : decode cX9_withdraw 34 = .ok (.ifCond .eq 13, 3) := by decide +kernel
theorem dX9_withdraw_37 : decode cX9_withdraw 37 = .ok (.new 81, 3) := by decide +kernel
theorem dX9_withdraw_40 : decode cX9_withdraw 40 = .ok (.dup, 1) := by decide +kernel
theorem dX9_withdraw_41 : decode cX9_withdraw 41 = .ok (.ldc 173, 2) := by decide +kernel
theorem dX9_withdraw_43 : decode cX9_withdraw 43 = .ok (.invokespecial 85, 3) := by decide +kernel
theorem dX9_withdraw_46 : decode cX9_withdraw 46 = .ok (.athrow, 1) := by decide +kernel
theorem dX9_withdraw_47 : decode cX9_withdraw 47 = .ok (.aload_n 0, 1) := by decide +kernel
theorem dX9_withdraw_48 : decode cX9_withdraw 48 = .ok (.getfield 35, 3) := by decide +kernel
theorem dX9_withdraw_51 : decode cX9_withdraw 51 = .ok (.getfield 170, 3) := by decide +kernel
theorem dX9_withdraw_54 : decode cX9_withdraw 54 = .ok (.iload_n 1, 1) := by decide +kernel
theorem dX9_withdraw_55 : decode cX9_withdraw 55 = .ok (.iconst 1, 1) := by decide +kernel
theorem dX9_withdraw_56 : decode cX9_withdraw 56 = .ok (.bastore, 1) := by decide +kernel
theorem dX9_withdraw_57 : decode cX9_withdraw 57 = .ok (.aload_n 0, 1) := by decide +kernel
theorem dX9_withdraw_58 : decode cX9_withdraw 58 = .ok (.getfield 35, 3) := by decide +kernel
theorem dX9_withdraw_61 : decode cX9_withdraw 61 = .ok (.dup, 1) := by decide +kernel
theorem dX9_withdraw_62 : decode cX9_withdraw 62 = .ok (.getfield 175, 3) := by decide +kernel
theorem dX9_withdraw_65 : decode cX9_withdraw 65 = .ok (.iconst 1, 1) := by decide +kernel
theorem dX9_withdraw_66 : decode cX9_withdraw 66 = .ok (.isub, 1) := by decide +kernel
theorem dX9_withdraw_67 : decode cX9_withdraw 67 = .ok (.putfield 175, 3) := by decide +kernel
theorem dX9_withdraw_70 : decode cX9_withdraw 70 = .ok (.aload_n 0, 1) := by decide +kernel
theorem dX9_withdraw_71 : decode cX9_withdraw 71 = .ok (.getfield 35, 3) := by decide +kernel
theorem dX9_withdraw_74 : decode cX9_withdraw 74 = .ok (.getfield 175, 3) := by decide +kernel
theorem dX9_withdraw_77 : decode cX9_withdraw 77 = .ok (.ireturn, 1) := by decide +kernel
theorem dX9_tie_0 : decode cX9_tie 0 = .ok (.iload_n 1, 1) := by decide +kernel
theorem dX9_tie_1 : decode cX9_tie 1 = .ok (.invokestatic 92, 3) := by decide +kernel
theorem dX9_tie_4 : decode cX9_tie 4 = .ok (.iload_n 2, 1) := by decide +kernel
theorem dX9_tie_5 : decode cX9_tie 5 = .ok (.invokestatic 92, 3) := by decide +kernel
theorem dX9_tie_8 : decode cX9_tie 8 = .ok (.iload_n 1, 1) := by decide +kernel
theorem dX9_tie_9 : decode cX9_tie 9 = .ok (.iload_n 2, 1) := by decide +kernel
theorem dX9_tie_10 : decode cX9_tie 10 = .ok (.if_icmp .ne 13, 3) := by decide +kernel
theorem dX9_tie_13 : decode cX9_tie 13 = .ok (.new 178, 3) := by decide +kernel
theorem dX9_tie_16 : decode cX9_tie 16 = .ok (.dup, 1) := by decide +kernel
theorem dX9_tie_17 : decode cX9_tie 17 = .ok (.ldc 180, 2) := by decide +kernel
theorem dX9_tie_19 : decode cX9_tie 19 = .ok (.invokespecial 182, 3) := by decide +kernel
theorem dX9_tie_22 : decode cX9_tie 22 = .ok (.athrow, 1) := by decide +kernel
theorem dX9_tie_23 : decode cX9_tie 23 = .ok (.iload_n 3, 1) := by decide +kernel
theorem dX9_tie_24 : decode cX9_tie 24 = .ok (.iconst 0, 1) := by decide +kernel
theorem dX9_tie_25 : decode cX9_tie 25 = .ok (.iconst 3, 1) := by decide +kernel
theorem dX9_tie_26 : decode cX9_tie 26 = .ok (.invokestatic 104, 3) := by decide +kernel
theorem dX9_tie_29 : decode cX9_tie 29 = .ok (.aload_n 0, 1) := by decide +kernel
theorem dX9_tie_30 : decode cX9_tie 30 = .ok (.getfield 42, 3) := by decide +kernel
theorem dX9_tie_33 : decode cX9_tie 33 = .ok (.iload_n 1, 1) := by decide +kernel
theorem dX9_tie_34 : decode cX9_tie 34 = .ok (.iload_n 2, 1) := by decide +kernel
theorem dX9_tie_35 : decode cX9_tie 35 = .ok (.invokevirtual 183, 3) := by decide +kernel
theorem dX9_tie_38 : decode cX9_tie 38 = .ok (.istore 4, 2) := by decide +kernel
theorem dX9_tie_40 : decode cX9_tie 40 = .ok (.aload_n 0, 1) := by decide +kernel
theorem dX9_tie_41 : decode cX9_tie 41 = .ok (.getfield 42, 3) := by decide +kernel
theorem dX9_tie_44 : decode cX9_tie 44 = .ok (.iload_n 1, 1) := by decide +kernel
theorem dX9_tie_45 : decode cX9_tie 45 = .ok (.iload_n 2, 1) := by decide +kernel
theorem dX9_tie_46 : decode cX9_tie 46 = .ok (.iload_n 3, 1) := by decide +kernel
theorem dX9_tie_47 : decode cX9_tie 47 = .ok (.invokevirtual 186, 3) := by decide +kernel
theorem dX9_tie_50 : decode cX9_tie 50 = .ok (.iload 4, 2) := by decide +kernel
theorem dX9_tie_52 : decode cX9_tie 52 = .ok (.ireturn, 1) := by decide +kernel
theorem dX9_today_0 : decode cX9_today 0 = .ok (.aload_n 0, 1) := by decide +kernel
theorem dX9_today_1 : decode cX9_today 1 = .ok (.getfield 10, 3) := by decide +kernel
theorem dX9_today_4 : decode cX9_today 4 = .ok (.getfield 111, 3) := by decide +kernel
theorem dX9_today_7 : decode cX9_today 7 = .ok (.ireturn, 1) := by decide +kernel
theorem dX9_objects_0 : decode cX9_objects 0 = .ok (.aload_n 0, 1) := by decide +kernel
theorem dX9_objects_1 : decode cX9_objects 1 = .ok (.getfield 19, 3) := by decide +kernel
theorem dX9_objects_4 : decode cX9_objects 4 = .ok (.getfield 189, 3) := by decide +kernel
theorem dX9_objects_7 : decode cX9_objects 7 = .ok (.ireturn, 1) := by decide +kernel
theorem dX9_judged_0 : decode cX9_judged 0 = .ok (.aload_n 0, 1) := by decide +kernel
theorem dX9_judged_1 : decode cX9_judged 1 = .ok (.iload_n 1, 1) := by decide +kernel
theorem dX9_judged_2 : decode cX9_judged 2 = .ok (.invokevirtual 132, 3) := by decide +kernel
theorem dX9_judged_5 : decode cX9_judged 5 = .ok (.aload_n 0, 1) := by decide +kernel
theorem dX9_judged_6 : decode cX9_judged 6 = .ok (.getfield 28, 3) := by decide +kernel
theorem dX9_judged_9 : decode cX9_judged 9 = .ok (.invokevirtual 190, 3) := by decide +kernel
theorem dX9_judged_12 : decode cX9_judged 12 = .ok (.aload_n 0, 1) := by decide +kernel
theorem dX9_judged_13 : decode cX9_judged 13 = .ok (.getfield 28, 3) := by decide +kernel
theorem dX9_judged_16 : decode cX9_judged 16 = .ok (.getfield 193, 3) := by decide +kernel
theorem dX9_judged_19 : decode cX9_judged 19 = .ok (.iload_n 1, 1) := by decide +kernel
theorem dX9_judged_20 : decode cX9_judged 20 = .ok (.iaload, 1) := by decide +kernel
theorem dX9_judged_21 : decode cX9_judged 21 = .ok (.ireturn, 1) := by decide +kernel
theorem dX9_has_0 : decode cX9_has 0 = .ok (.aload_n 0, 1) := by decide +kernel
theorem dX9_has_1 : decode cX9_has 1 = .ok (.iload_n 1, 1) := by decide +kernel
theorem dX9_has_2 : decode cX9_has 2 = .ok (.invokevirtual 73, 3) := by decide +kernel
theorem dX9_has_5 : decode cX9_has 5 = .ok (.iload_n 2, 1) := by decide +kernel
theorem dX9_has_6 : decode cX9_has 6 = .ok (.iload_n 3, 1) := by decide +kernel
theorem dX9_has_7 : decode cX9_has 7 = .ok (.invokestatic 119, 3) := by decide +kernel
theorem dX9_has_10 : decode cX9_has 10 = .ok (.aload_n 0, 1) := by decide +kernel
theorem dX9_has_11 : decode cX9_has 11 = .ok (.getfield 28, 3) := by decide +kernel
theorem dX9_has_14 : decode cX9_has 14 = .ok (.invokevirtual 190, 3) := by decide +kernel
theorem dX9_has_17 : decode cX9_has 17 = .ok (.aload_n 0, 1) := by decide +kernel
theorem dX9_has_18 : decode cX9_has 18 = .ok (.getfield 28, 3) := by decide +kernel
theorem dX9_has_21 : decode cX9_has 21 = .ok (.iload_n 1, 1) := by decide +kernel
theorem dX9_has_22 : decode cX9_has 22 = .ok (.iload_n 2, 1) := by decide +kernel
theorem dX9_has_23 : decode cX9_has 23 = .ok (.iload_n 3, 1) := by decide +kernel
theorem dX9_has_24 : decode cX9_has 24 = .ok (.invokevirtual 196, 3) := by decide +kernel
theorem dX9_has_27 : decode cX9_has 27 = .ok (.ireturn, 1) := by decide +kernel
theorem dX9_hasByChains_0 : decode cX9_hasByChains 0 = .ok (.aload_n 0, 1) := by decide +kernel
theorem dX9_hasByChains_1 : decode cX9_hasByChains 1 = .ok (.iload_n 1, 1) := by decide +kernel
theorem dX9_hasByChains_2 : decode cX9_hasByChains 2 = .ok (.invokevirtual 73, 3) := by decide +kernel
theorem dX9_hasByChains_5 : decode cX9_hasByChains 5 = .ok (.iload_n 2, 1) := by decide +kernel
theorem dX9_hasByChains_6 : decode cX9_hasByChains 6 = .ok (.iload_n 3, 1) := by decide +kernel
theorem dX9_hasByChains_7 : decode cX9_hasByChains 7 = .ok (.invokestatic 119, 3) := by decide +kernel
theorem dX9_hasByChains_10 : decode cX9_hasByChains 10 = .ok (.aload_n 0, 1) := by decide +kernel
theorem dX9_hasByChains_11 : decode cX9_hasByChains 11 = .ok (.getfield 28, 3) := by decide +kernel
theorem dX9_hasByChains_14 : decode cX9_hasByChains 14 = .ok (.iload_n 1, 1) := by decide +kernel
theorem dX9_hasByChains_15 : decode cX9_hasByChains 15 = .ok (.iload_n 2, 1) := by decide +kernel
theorem dX9_hasByChains_16 : decode cX9_hasByChains 16 = .ok (.iload_n 3, 1) := by decide +kernel
theorem dX9_hasByChains_17 : decode cX9_hasByChains 17 = .ok (.invokevirtual 200, 3) := by decide +kernel
theorem dX9_hasByChains_20 : decode cX9_hasByChains 20 = .ok (.ireturn, 1) := by decide +kernel
theorem dX9_state_0 : decode cX9_state 0 = .ok (.iload_n 1, 1) := by decide +kernel
theorem dX9_state_1 : decode cX9_state 1 = .ok (.invokestatic 92, 3) := by decide +kernel
theorem dX9_state_4 : decode cX9_state 4 = .ok (.iload_n 2, 1) := by decide +kernel
theorem dX9_state_5 : decode cX9_state 5 = .ok (.iload_n 3, 1) := by decide +kernel
theorem dX9_state_6 : decode cX9_state 6 = .ok (.invokestatic 119, 3) := by decide +kernel
theorem dX9_state_9 : decode cX9_state 9 = .ok (.aload_n 0, 1) := by decide +kernel
theorem dX9_state_10 : decode cX9_state 10 = .ok (.getfield 28, 3) := by decide +kernel
theorem dX9_state_13 : decode cX9_state 13 = .ok (.invokevirtual 190, 3) := by decide +kernel
theorem dX9_state_16 : decode cX9_state 16 = .ok (.aload_n 0, 1) := by decide +kernel
theorem dX9_state_17 : decode cX9_state 17 = .ok (.getfield 28, 3) := by decide +kernel
theorem dX9_state_20 : decode cX9_state 20 = .ok (.iload_n 1, 1) := by decide +kernel
theorem dX9_state_21 : decode cX9_state 21 = .ok (.iload_n 2, 1) := by decide +kernel
theorem dX9_state_22 : decode cX9_state 22 = .ok (.iload_n 3, 1) := by decide +kernel
theorem dX9_state_23 : decode cX9_state 23 = .ok (.invokevirtual 203, 3) := by decide +kernel
theorem dX9_state_26 : decode cX9_state 26 = .ok (.ireturn, 1) := by decide +kernel
theorem dX9_routes_0 : decode cX9_routes 0 = .ok (.aload_n 0, 1) := by decide +kernel
theorem dX9_routes_1 : decode cX9_routes 1 = .ok (.getfield 35, 3) := by decide +kernel
theorem dX9_routes_4 : decode cX9_routes 4 = .ok (.getfield 158, 3) := by decide +kernel
theorem dX9_routes_7 : decode cX9_routes 7 = .ok (.ireturn, 1) := by decide +kernel
theorem dX9_path_0 : decode cX9_path 0 = .ok (.aload_n 0, 1) := by decide +kernel
theorem dX9_path_1 : decode cX9_path 1 = .ok (.iload_n 1, 1) := by decide +kernel
theorem dX9_path_2 : decode cX9_path 2 = .ok (.invokevirtual 207, 3) := by decide +kernel
theorem dX9_path_5 : decode cX9_path 5 = .ok (.aload_n 0, 1) := by decide +kernel
theorem dX9_path_6 : decode cX9_path 6 = .ok (.invokevirtual 210, 3) := by decide +kernel
theorem dX9_path_9 : decode cX9_path 9 = .ok (.aload_n 0, 1) := by decide +kernel
theorem dX9_path_10 : decode cX9_path 10 = .ok (.getfield 35, 3) := by decide +kernel
theorem dX9_path_13 : decode cX9_path 13 = .ok (.getfield 213, 3) := by decide +kernel
theorem dX9_path_16 : decode cX9_path 16 = .ok (.iload_n 1, 1) := by decide +kernel
theorem dX9_path_17 : decode cX9_path 17 = .ok (.aaload, 1) := by decide +kernel
theorem dX9_path_18 : decode cX9_path 18 = .ok (.astore_n 3, 1) := by decide +kernel
theorem dX9_path_19 : decode cX9_path 19 = .ok (.aload_n 0, 1) := by decide +kernel
theorem dX9_path_20 : decode cX9_path 20 = .ok (.getfield 35, 3) := by decide +kernel
theorem dX9_path_23 : decode cX9_path 23 = .ok (.getfield 217, 3) := by decide +kernel
theorem dX9_path_26 : decode cX9_path 26 = .ok (.iload_n 1, 1) := by decide +kernel
theorem dX9_path_27 : decode cX9_path 27 = .ok (.iaload, 1) := by decide +kernel
theorem dX9_path_28 : decode cX9_path 28 = .ok (.istore 4, 2) := by decide +kernel
theorem dX9_path_30 : decode cX9_path 30 = .ok (.iload_n 2, 1) := by decide +kernel
theorem dX9_path_31 : decode cX9_path 31 = .ok (.ifCond .eq 16, 3) := by decide +kernel
theorem dX9_path_34 : decode cX9_path 34 = .ok (.aload_n 0, 1) := by decide +kernel
theorem dX9_path_35 : decode cX9_path 35 = .ok (.getfield 51, 3) := by decide +kernel
theorem dX9_path_38 : decode cX9_path 38 = .ok (.aload_n 3, 1) := by decide +kernel
theorem dX9_path_39 : decode cX9_path 39 = .ok (.iload 4, 2) := by decide +kernel
theorem dX9_path_41 : decode cX9_path 41 = .ok (.invokevirtual 220, 3) := by decide +kernel
theorem dX9_path_44 : decode cX9_path 44 = .ok (.goto 13, 3) := by decide +kernel
theorem dX9_path_47 : decode cX9_path 47 = .ok (.aload_n 0, 1) := by decide +kernel
theorem dX9_path_48 : decode cX9_path 48 = .ok (.getfield 51, 3) := by decide +kernel
theorem dX9_path_51 : decode cX9_path 51 = .ok (.aload_n 3, 1) := by decide +kernel
theorem dX9_path_52 : decode cX9_path 52 = .ok (.iload 4, 2) := by decide +kernel
theorem dX9_path_54 : decode cX9_path 54 = .ok (.invokevirtual 224, 3) := by decide +kernel
theorem dX9_path_57 : decode cX9_path 57 = .ok (.ireturn, 1) := by decide +kernel
theorem dX9_leak_0 : decode cX9_leak 0 = .ok (.aload_n 0, 1) := by decide +kernel
theorem dX9_leak_1 : decode cX9_leak 1 = .ok (.iload_n 1, 1) := by decide +kernel
theorem dX9_leak_2 : decode cX9_leak 2 = .ok (.invokevirtual 207, 3) := by decide +kernel
theorem dX9_leak_5 : decode cX9_leak 5 = .ok (.aload_n 0, 1) := by decide +kernel
theorem dX9_leak_6 : decode cX9_leak 6 = .ok (.getfield 35, 3) := by decide +kernel
theorem dX9_leak_9 : decode cX9_leak 9 = .ok (.getfield 213, 3) := by decide +kernel
theorem dX9_leak_12 : decode cX9_leak 12 = .ok (.iload_n 1, 1) := by decide +kernel
theorem dX9_leak_13 : decode cX9_leak 13 = .ok (.aaload, 1) := by decide +kernel
theorem dX9_leak_14 : decode cX9_leak 14 = .ok (.astore_n 2, 1) := by decide +kernel
theorem dX9_leak_15 : decode cX9_leak 15 = .ok (.iconst 1, 1) := by decide +kernel
theorem dX9_leak_16 : decode cX9_leak 16 = .ok (.istore_n 3, 1) := by decide +kernel
theorem dX9_leak_17 : decode cX9_leak 17 = .ok (.iload_n 3, 1) := by decide +kernel
theorem dX9_leak_18 : decode cX9_leak 18 = .ok (.aload_n 0, 1) := by decide +kernel
theorem dX9_leak_19 : decode cX9_leak 19 = .ok (.getfield 35, 3) := by decide +kernel
theorem dX9_leak_22 : decode cX9_leak 22 = .ok (.getfield 217, 3) := by decide +kernel
theorem dX9_leak_25 : decode cX9_leak 25 = .ok (.iload_n 1, 1) := by decide +kernel
theorem dX9_leak_26 : decode cX9_leak 26 = .ok (.iaload, 1) := by decide +kernel
theorem dX9_leak_27 : decode cX9_leak 27 = .ok (.iconst 1, 1) := by decide +kernel
theorem dX9_leak_28 : decode cX9_leak 28 = .ok (.isub, 1) := by decide +kernel
theorem dX9_leak_29 : decode cX9_leak 29 = .ok (.if_icmp .ge 36, 3) := by decide +kernel
theorem dX9_leak_32 : decode cX9_leak 32 = .ok (.aload_n 0, 1) := by decide +kernel
theorem dX9_leak_33 : decode cX9_leak 33 = .ok (.getfield 42, 3) := by decide +kernel
theorem dX9_leak_36 : decode cX9_leak 36 = .ok (.aload_n 2, 1) := by decide +kernel
theorem dX9_leak_37 : decode cX9_leak 37 = .ok (.iload_n 3, 1) := by decide +kernel
theorem dX9_leak_38 : decode cX9_leak 38 = .ok (.iconst 1, 1) := by decide +kernel
theorem dX9_leak_39 : decode cX9_leak 39 = .ok (.isub, 1) := by decide +kernel
theorem dX9_leak_40 : decode cX9_leak 40 = .ok (.iaload, 1) := by decide +kernel
theorem dX9_leak_41 : decode cX9_leak 41 = .ok (.aload_n 2, 1) := by decide +kernel
theorem dX9_leak_42 : decode cX9_leak 42 = .ok (.iload_n 3, 1) := by decide +kernel
theorem dX9_leak_43 : decode cX9_leak 43 = .ok (.iaload, 1) := by decide +kernel
theorem dX9_leak_44 : decode cX9_leak 44 = .ok (.aload_n 2, 1) := by decide +kernel
theorem dX9_leak_45 : decode cX9_leak 45 = .ok (.iload_n 3, 1) := by decide +kernel
theorem dX9_leak_46 : decode cX9_leak 46 = .ok (.iconst 1, 1) := by decide +kernel
theorem dX9_leak_47 : decode cX9_leak 47 = .ok (.iadd, 1) := by decide +kernel
theorem dX9_leak_48 : decode cX9_leak 48 = .ok (.iaload, 1) := by decide +kernel
theorem dX9_leak_49 : decode cX9_leak 49 = .ok (.invokevirtual 227, 3) := by decide +kernel
theorem dX9_leak_52 : decode cX9_leak 52 = .ok (.ifCond .eq 7, 3) := by decide +kernel
theorem dX9_leak_55 : decode cX9_leak 55 = .ok (.aload_n 2, 1) := by decide +kernel
theorem dX9_leak_56 : decode cX9_leak 56 = .ok (.iload_n 3, 1) := by decide +kernel
theorem dX9_leak_57 : decode cX9_leak 57 = .ok (.iaload, 1) := by decide +kernel
theorem dX9_leak_58 : decode cX9_leak 58 = .ok (.ireturn, 1) := by decide +kernel
theorem dX9_leak_59 : decode cX9_leak 59 = .ok (.iinc 3 1, 3) := by decide +kernel
theorem dX9_leak_62 : decode cX9_leak 62 = .ok (.goto (-45), 3) := by decide +kernel
theorem dX9_leak_65 : decode cX9_leak 65 = .ok (.iconst (-1), 1) := by decide +kernel
theorem dX9_leak_66 : decode cX9_leak 66 = .ok (.ireturn, 1) := by decide +kernel
theorem dX9_stopped_0 : decode cX9_stopped 0 = .ok (.aload_n 0, 1) := by decide +kernel
theorem dX9_stopped_1 : decode cX9_stopped 1 = .ok (.iload_n 1, 1) := by decide +kernel
theorem dX9_stopped_2 : decode cX9_stopped 2 = .ok (.invokevirtual 207, 3) := by decide +kernel
theorem dX9_stopped_5 : decode cX9_stopped 5 = .ok (.iload_n 2, 1) := by decide +kernel
theorem dX9_stopped_6 : decode cX9_stopped 6 = .ok (.iconst 0, 1) := by decide +kernel
theorem dX9_stopped_7 : decode cX9_stopped 7 = .ok (.sipush 1023, 3) := by decide +kernel
theorem dX9_stopped_10 : decode cX9_stopped 10 = .ok (.invokestatic 104, 3) := by decide +kernel
theorem dX9_stopped_13 : decode cX9_stopped 13 = .ok (.aload_n 0, 1) := by decide +kernel
theorem dX9_stopped_14 : decode cX9_stopped 14 = .ok (.invokevirtual 210, 3) := by decide +kernel
theorem dX9_stopped_17 : decode cX9_stopped 17 = .ok (.aload_n 0, 1) := by decide +kernel
theorem dX9_stopped_18 : decode cX9_stopped 18 = .ok (.getfield 35, 3) := by decide +kernel
theorem dX9_stopped_21 : decode cX9_stopped 21 = .ok (.getfield 213, 3) := by decide +kernel
theorem dX9_stopped_24 : decode cX9_stopped 24 = .ok (.iload_n 1, 1) := by decide +kernel
theorem dX9_stopped_25 : decode cX9_stopped 25 = .ok (.aaload, 1) := by decide +kernel
theorem dX9_stopped_26 : decode cX9_stopped 26 = .ok (.astore_n 3, 1) := by decide +kernel
theorem dX9_stopped_27 : decode cX9_stopped 27 = .ok (.aload_n 0, 1) := by decide +kernel
theorem dX9_stopped_28 : decode cX9_stopped 28 = .ok (.getfield 28, 3) := by decide +kernel
theorem dX9_stopped_31 : decode cX9_stopped 31 = .ok (.aload_n 3, 1) := by decide +kernel
theorem dX9_stopped_32 : decode cX9_stopped 32 = .ok (.iconst 0, 1) := by decide +kernel
theorem dX9_stopped_33 : decode cX9_stopped 33 = .ok (.iaload, 1) := by decide +kernel
theorem dX9_stopped_34 : decode cX9_stopped 34 = .ok (.aload_n 0, 1) := by decide +kernel
theorem dX9_stopped_35 : decode cX9_stopped 35 = .ok (.getfield 35, 3) := by decide +kernel
theorem dX9_stopped_38 : decode cX9_stopped 38 = .ok (.getfield 230, 3) := by decide +kernel
theorem dX9_stopped_41 : decode cX9_stopped 41 = .ok (.iload_n 1, 1) := by decide +kernel
theorem dX9_stopped_42 : decode cX9_stopped 42 = .ok (.iaload, 1) := by decide +kernel
theorem dX9_stopped_43 : decode cX9_stopped 43 = .ok (.aload_n 0, 1) := by decide +kernel
theorem dX9_stopped_44 : decode cX9_stopped 44 = .ok (.getfield 35, 3) := by decide +kernel
theorem dX9_stopped_47 : decode cX9_stopped 47 = .ok (.getfield 233, 3) := by decide +kernel
theorem dX9_stopped_50 : decode cX9_stopped 50 = .ok (.iload_n 1, 1) := by decide +kernel
theorem dX9_stopped_51 : decode cX9_stopped 51 = .ok (.iaload, 1) := by decide +kernel
theorem dX9_stopped_52 : decode cX9_stopped 52 = .ok (.invokevirtual 203, 3) := by decide +kernel
theorem dX9_stopped_55 : decode cX9_stopped 55 = .ok (.iconst 2, 1) := by decide +kernel
theorem dX9_stopped_56 : decode cX9_stopped 56 = .ok (.if_icmp .ne 7, 3) := by decide +kernel
theorem dX9_stopped_59 : decode cX9_stopped 59 = .ok (.iconst 1, 1) := by decide +kernel
theorem dX9_stopped_60 : decode cX9_stopped 60 = .ok (.goto 4, 3) := by decide +kernel
theorem dX9_stopped_63 : decode cX9_stopped 63 = .ok (.iconst 0, 1) := by decide +kernel
theorem dX9_stopped_64 : decode cX9_stopped 64 = .ok (.istore 4, 2) := by decide +kernel
theorem dX9_stopped_66 : decode cX9_stopped 66 = .ok (.iconst 1, 1) := by decide +kernel
theorem dX9_stopped_67 : decode cX9_stopped 67 = .ok (.istore 5, 2) := by decide +kernel
theorem dX9_stopped_69 : decode cX9_stopped 69 = .ok (.iload 5, 2) := by decide +kernel
theorem dX9_stopped_71 : decode cX9_stopped 71 = .ok (.aload_n 0, 1) := by decide +kernel
theorem dX9_stopped_72 : decode cX9_stopped 72 = .ok (.getfield 35, 3) := by decide +kernel
theorem dX9_stopped_75 : decode cX9_stopped 75 = .ok (.getfield 217, 3) := by decide +kernel
theorem dX9_stopped_78 : decode cX9_stopped 78 = .ok (.iload_n 1, 1) := by decide +kernel
theorem dX9_stopped_79 : decode cX9_stopped 79 = .ok (.iaload, 1) := by decide +kernel
theorem dX9_stopped_80 : decode cX9_stopped 80 = .ok (.if_icmp .ge 43, 3) := by decide +kernel
end
section
theorem dX9_stopped_83 : decode cX9_stopped 83 = .ok (.iload_n 2, 1) := by decide +kernel
theorem dX9_stopped_84 : decode cX9_stopped 84 = .ok (.aload_n 3, 1) := by decide +kernel
theorem dX9_stopped_85 : decode cX9_stopped 85 = .ok (.iload 5, 2) := by decide +kernel
theorem dX9_stopped_87 : decode cX9_stopped 87 = .ok (.iaload, 1) := by decide +kernel
theorem dX9_stopped_88 : decode cX9_stopped 88 = .ok (.invokestatic 236, 3) := by decide +kernel
theorem dX9_stopped_91 : decode cX9_stopped 91 = .ok (.ifCond .eq 26, 3) := by decide +kernel
theorem dX9_stopped_94 : decode cX9_stopped 94 = .ok (.iload 4, 2) := by decide +kernel
theorem dX9_stopped_96 : decode cX9_stopped 96 = .ok (.ifCond .ne 16, 3) := by decide +kernel
theorem dX9_stopped_99 : decode cX9_stopped 99 = .ok (.aload_n 0, 1) := by decide +kernel
theorem dX9_stopped_100 : decode cX9_stopped 100 = .ok (.getfield 51, 3) := by decide +kernel
theorem dX9_stopped_103 : decode cX9_stopped 103 = .ok (.aload_n 3, 1) := by decide +kernel
theorem dX9_stopped_104 : decode cX9_stopped 104 = .ok (.iload 5, 2) := by decide +kernel
theorem dX9_stopped_106 : decode cX9_stopped 106 = .ok (.invokevirtual 240, 3) := by decide +kernel
theorem dX9_stopped_109 : decode cX9_stopped 109 = .ok (.ifCond .eq 8, 3) := by decide +kernel
theorem dX9_stopped_112 : decode cX9_stopped 112 = .ok (.aload_n 3, 1) := by decide +kernel
theorem dX9_stopped_113 : decode cX9_stopped 113 = .ok (.iload 5, 2) := by decide +kernel
theorem dX9_stopped_115 : decode cX9_stopped 115 = .ok (.iaload, 1) := by decide +kernel
theorem dX9_stopped_116 : decode cX9_stopped 116 = .ok (.ireturn, 1) := by decide +kernel
theorem dX9_stopped_117 : decode cX9_stopped 117 = .ok (.iinc 5 1, 3) := by decide +kernel
theorem dX9_stopped_120 : decode cX9_stopped 120 = .ok (.goto (-51), 3) := by decide +kernel
theorem dX9_stopped_123 : decode cX9_stopped 123 = .ok (.iconst (-1), 1) := by decide +kernel
theorem dX9_stopped_124 : decode cX9_stopped 124 = .ok (.ireturn, 1) := by decide +kernel
theorem dX9_allowed_0 : decode cX9_allowed 0 = .ok (.iload_n 1, 1) := by decide +kernel
theorem dX9_allowed_1 : decode cX9_allowed 1 = .ok (.invokestatic 92, 3) := by decide +kernel
theorem dX9_allowed_4 : decode cX9_allowed 4 = .ok (.iload_n 2, 1) := by decide +kernel
theorem dX9_allowed_5 : decode cX9_allowed 5 = .ok (.invokestatic 92, 3) := by decide +kernel
theorem dX9_allowed_8 : decode cX9_allowed 8 = .ok (.iload_n 1, 1) := by decide +kernel
theorem dX9_allowed_9 : decode cX9_allowed 9 = .ok (.iload_n 2, 1) := by decide +kernel
theorem dX9_allowed_10 : decode cX9_allowed 10 = .ok (.if_icmp .ne 7, 3) := by decide +kernel
theorem dX9_allowed_13 : decode cX9_allowed 13 = .ok (.iconst 0, 1) := by decide +kernel
theorem dX9_allowed_14 : decode cX9_allowed 14 = .ok (.goto 12, 3) := by decide +kernel
theorem dX9_allowed_17 : decode cX9_allowed 17 = .ok (.aload_n 0, 1) := by decide +kernel
theorem dX9_allowed_18 : decode cX9_allowed 18 = .ok (.getfield 60, 3) := by decide +kernel
theorem dX9_allowed_21 : decode cX9_allowed 21 = .ok (.iload_n 1, 1) := by decide +kernel
theorem dX9_allowed_22 : decode cX9_allowed 22 = .ok (.iload_n 2, 1) := by decide +kernel
theorem dX9_allowed_23 : decode cX9_allowed 23 = .ok (.invokevirtual 244, 3) := by decide +kernel
theorem dX9_allowed_26 : decode cX9_allowed 26 = .ok (.ireturn, 1) := by decide +kernel
theorem dX9_falseAlarms_0 : decode cX9_falseAlarms 0 = .ok (.aload_n 0, 1) := by decide +kernel
theorem dX9_falseAlarms_1 : decode cX9_falseAlarms 1 = .ok (.invokevirtual 210, 3) := by decide +kernel
theorem dX9_falseAlarms_4 : decode cX9_falseAlarms 4 = .ok (.aload_n 0, 1) := by decide +kernel
theorem dX9_falseAlarms_5 : decode cX9_falseAlarms 5 = .ok (.getfield 60, 3) := by decide +kernel
theorem dX9_falseAlarms_8 : decode cX9_falseAlarms 8 = .ok (.invokevirtual 247, 3) := by decide +kernel
theorem dX9_falseAlarms_11 : decode cX9_falseAlarms 11 = .ok (.ireturn, 1) := by decide +kernel
theorem dX9_clique_0 : decode cX9_clique 0 = .ok (.aload_n 0, 1) := by decide +kernel
theorem dX9_clique_1 : decode cX9_clique 1 = .ok (.getfield 69, 3) := by decide +kernel
theorem dX9_clique_4 : decode cX9_clique 4 = .ok (.invokevirtual 251, 3) := by decide +kernel
theorem dX9_clique_7 : decode cX9_clique 7 = .ok (.aload_n 0, 1) := by decide +kernel
theorem dX9_clique_8 : decode cX9_clique 8 = .ok (.getfield 69, 3) := by decide +kernel
theorem dX9_clique_11 : decode cX9_clique 11 = .ok (.getfield 254, 3) := by decide +kernel
theorem dX9_clique_14 : decode cX9_clique 14 = .ok (.ireturn, 1) := by decide +kernel
theorem dX9_inferred_0 : decode cX9_inferred 0 = .ok (.iload_n 1, 1) := by decide +kernel
theorem dX9_inferred_1 : decode cX9_inferred 1 = .ok (.invokestatic 92, 3) := by decide +kernel
theorem dX9_inferred_4 : decode cX9_inferred 4 = .ok (.iload_n 2, 1) := by decide +kernel
theorem dX9_inferred_5 : decode cX9_inferred 5 = .ok (.invokestatic 92, 3) := by decide +kernel
theorem dX9_inferred_8 : decode cX9_inferred 8 = .ok (.iload_n 3, 1) := by decide +kernel
theorem dX9_inferred_9 : decode cX9_inferred 9 = .ok (.ifCond .lt 8, 3) := by decide +kernel
theorem dX9_inferred_12 : decode cX9_inferred 12 = .ok (.iload_n 3, 1) := by decide +kernel
theorem dX9_inferred_13 : decode cX9_inferred 13 = .ok (.iconst 3, 1) := by decide +kernel
theorem dX9_inferred_14 : decode cX9_inferred 14 = .ok (.if_icmp .lt 14, 3) := by decide +kernel
theorem dX9_inferred_17 : decode cX9_inferred 17 = .ok (.new 165, 3) := by decide +kernel
theorem dX9_inferred_20 : decode cX9_inferred 20 = .ok (.dup, 1) := by decide +kernel
theorem dX9_inferred_21 : decode cX9_inferred 21 = .ok (.ldc_w 257, 3) := by decide +kernel
theorem dX9_inferred_24 : decode cX9_inferred 24 = .ok (.invokespecial 169, 3) := by decide +kernel
theorem dX9_inferred_27 : decode cX9_inferred 27 = .ok (.athrow, 1) := by decide +kernel
theorem dX9_inferred_28 : decode cX9_inferred 28 = .ok (.aload_n 0, 1) := by decide +kernel
theorem dX9_inferred_29 : decode cX9_inferred 29 = .ok (.getfield 69, 3) := by decide +kernel
theorem dX9_inferred_32 : decode cX9_inferred 32 = .ok (.invokevirtual 251, 3) := by decide +kernel
theorem dX9_inferred_35 : decode cX9_inferred 35 = .ok (.aload_n 0, 1) := by decide +kernel
theorem dX9_inferred_36 : decode cX9_inferred 36 = .ok (.getfield 69, 3) := by decide +kernel
theorem dX9_inferred_39 : decode cX9_inferred 39 = .ok (.iload_n 1, 1) := by decide +kernel
theorem dX9_inferred_40 : decode cX9_inferred 40 = .ok (.iload_n 2, 1) := by decide +kernel
theorem dX9_inferred_41 : decode cX9_inferred 41 = .ok (.iload_n 3, 1) := by decide +kernel
theorem dX9_inferred_42 : decode cX9_inferred 42 = .ok (.invokevirtual 259, 3) := by decide +kernel
theorem dX9_inferred_45 : decode cX9_inferred 45 = .ok (.ireturn, 1) := by decide +kernel
theorem dX9_cone_0 : decode cX9_cone 0 = .ok (.iload_n 1, 1) := by decide +kernel
theorem dX9_cone_1 : decode cX9_cone 1 = .ok (.invokestatic 92, 3) := by decide +kernel
theorem dX9_cone_4 : decode cX9_cone 4 = .ok (.aload_n 0, 1) := by decide +kernel
theorem dX9_cone_5 : decode cX9_cone 5 = .ok (.getfield 69, 3) := by decide +kernel
theorem dX9_cone_8 : decode cX9_cone 8 = .ok (.invokevirtual 251, 3) := by decide +kernel
theorem dX9_cone_11 : decode cX9_cone 11 = .ok (.aload_n 0, 1) := by decide +kernel
theorem dX9_cone_12 : decode cX9_cone 12 = .ok (.getfield 69, 3) := by decide +kernel
theorem dX9_cone_15 : decode cX9_cone 15 = .ok (.iload_n 1, 1) := by decide +kernel
theorem dX9_cone_16 : decode cX9_cone 16 = .ok (.invokevirtual 261, 3) := by decide +kernel
theorem dX9_cone_19 : decode cX9_cone 19 = .ok (.ireturn, 1) := by decide +kernel
theorem dX9_coneByPaths_0 : decode cX9_coneByPaths 0 = .ok (.iload_n 1, 1) := by decide +kernel
theorem dX9_coneByPaths_1 : decode cX9_coneByPaths 1 = .ok (.invokestatic 92, 3) := by decide +kernel
theorem dX9_coneByPaths_4 : decode cX9_coneByPaths 4 = .ok (.aload_n 0, 1) := by decide +kernel
theorem dX9_coneByPaths_5 : decode cX9_coneByPaths 5 = .ok (.getfield 69, 3) := by decide +kernel
theorem dX9_coneByPaths_8 : decode cX9_coneByPaths 8 = .ok (.invokevirtual 251, 3) := by decide +kernel
theorem dX9_coneByPaths_11 : decode cX9_coneByPaths 11 = .ok (.aload_n 0, 1) := by decide +kernel
theorem dX9_coneByPaths_12 : decode cX9_coneByPaths 12 = .ok (.getfield 69, 3) := by decide +kernel
theorem dX9_coneByPaths_15 : decode cX9_coneByPaths 15 = .ok (.iload_n 1, 1) := by decide +kernel
theorem dX9_coneByPaths_16 : decode cX9_coneByPaths 16 = .ok (.invokevirtual 264, 3) := by decide +kernel
theorem dX9_coneByPaths_19 : decode cX9_coneByPaths 19 = .ok (.ireturn, 1) := by decide +kernel
theorem dX9_addresses_0 : decode cX9_addresses 0 = .ok (.iload_n 1, 1) := by decide +kernel
theorem dX9_addresses_1 : decode cX9_addresses 1 = .ok (.invokestatic 92, 3) := by decide +kernel
theorem dX9_addresses_4 : decode cX9_addresses 4 = .ok (.aload_n 0, 1) := by decide +kernel
theorem dX9_addresses_5 : decode cX9_addresses 5 = .ok (.getfield 69, 3) := by decide +kernel
theorem dX9_addresses_8 : decode cX9_addresses 8 = .ok (.invokevirtual 251, 3) := by decide +kernel
theorem dX9_addresses_11 : decode cX9_addresses 11 = .ok (.aload_n 0, 1) := by decide +kernel
theorem dX9_addresses_12 : decode cX9_addresses 12 = .ok (.getfield 35, 3) := by decide +kernel
theorem dX9_addresses_15 : decode cX9_addresses 15 = .ok (.aload_n 0, 1) := by decide +kernel
theorem dX9_addresses_16 : decode cX9_addresses 16 = .ok (.getfield 69, 3) := by decide +kernel
theorem dX9_addresses_19 : decode cX9_addresses 19 = .ok (.iload_n 1, 1) := by decide +kernel
theorem dX9_addresses_20 : decode cX9_addresses 20 = .ok (.invokevirtual 261, 3) := by decide +kernel
theorem dX9_addresses_23 : decode cX9_addresses 23 = .ok (.invokevirtual 267, 3) := by decide +kernel
theorem dX9_addresses_26 : decode cX9_addresses 26 = .ok (.ireturn, 1) := by decide +kernel
theorem dX9_needHolder_0 : decode cX9_needHolder 0 = .ok (.iload_n 1, 1) := by decide +kernel
theorem dX9_needHolder_1 : decode cX9_needHolder 1 = .ok (.ifCond .lt 14, 3) := by decide +kernel
theorem dX9_needHolder_4 : decode cX9_needHolder 4 = .ok (.iload_n 1, 1) := by decide +kernel
theorem dX9_needHolder_5 : decode cX9_needHolder 5 = .ok (.aload_n 0, 1) := by decide +kernel
theorem dX9_needHolder_6 : decode cX9_needHolder 6 = .ok (.getfield 10, 3) := by decide +kernel
theorem dX9_needHolder_9 : decode cX9_needHolder 9 = .ok (.getfield 77, 3) := by decide +kernel
theorem dX9_needHolder_12 : decode cX9_needHolder 12 = .ok (.if_icmp .lt 14, 3) := by decide +kernel
theorem dX9_needHolder_15 : decode cX9_needHolder 15 = .ok (.new 165, 3) := by decide +kernel
theorem dX9_needHolder_18 : decode cX9_needHolder 18 = .ok (.dup, 1) := by decide +kernel
theorem dX9_needHolder_19 : decode cX9_needHolder 19 = .ok (.ldc_w 270, 3) := by decide +kernel
theorem dX9_needHolder_22 : decode cX9_needHolder 22 = .ok (.invokespecial 169, 3) := by decide +kernel
theorem dX9_needHolder_25 : decode cX9_needHolder 25 = .ok (.athrow, 1) := by decide +kernel
theorem dX9_needHolder_26 : decode cX9_needHolder 26 = .ok (.return_, 1) := by decide +kernel
theorem dX9_needNet_0 : decode cX9_needNet 0 = .ok (.iload_n 0, 1) := by decide +kernel
theorem dX9_needNet_1 : decode cX9_needNet 1 = .ok (.ifCond .lt 9, 3) := by decide +kernel
theorem dX9_needNet_4 : decode cX9_needNet 4 = .ok (.iload_n 0, 1) := by decide +kernel
theorem dX9_needNet_5 : decode cX9_needNet 5 = .ok (.bipush 10, 2) := by decide +kernel
theorem dX9_needNet_7 : decode cX9_needNet 7 = .ok (.if_icmp .lt 14, 3) := by decide +kernel
theorem dX9_needNet_10 : decode cX9_needNet 10 = .ok (.new 165, 3) := by decide +kernel
theorem dX9_needNet_13 : decode cX9_needNet 13 = .ok (.dup, 1) := by decide +kernel
theorem dX9_needNet_14 : decode cX9_needNet 14 = .ok (.ldc_w 272, 3) := by decide +kernel
theorem dX9_needNet_17 : decode cX9_needNet 17 = .ok (.invokespecial 169, 3) := by decide +kernel
theorem dX9_needNet_20 : decode cX9_needNet 20 = .ok (.athrow, 1) := by decide +kernel
theorem dX9_needNet_21 : decode cX9_needNet 21 = .ok (.return_, 1) := by decide +kernel
theorem dX9_needObject_0 : decode cX9_needObject 0 = .ok (.iload_n 1, 1) := by decide +kernel
theorem dX9_needObject_1 : decode cX9_needObject 1 = .ok (.ifCond .lt 14, 3) := by decide +kernel
theorem dX9_needObject_4 : decode cX9_needObject 4 = .ok (.iload_n 1, 1) := by decide +kernel
theorem dX9_needObject_5 : decode cX9_needObject 5 = .ok (.aload_n 0, 1) := by decide +kernel
theorem dX9_needObject_6 : decode cX9_needObject 6 = .ok (.getfield 19, 3) := by decide +kernel
theorem dX9_needObject_9 : decode cX9_needObject 9 = .ok (.getfield 189, 3) := by decide +kernel
theorem dX9_needObject_12 : decode cX9_needObject 12 = .ok (.if_icmp .lt 14, 3) := by decide +kernel
theorem dX9_needObject_15 : decode cX9_needObject 15 = .ok (.new 165, 3) := by decide +kernel
theorem dX9_needObject_18 : decode cX9_needObject 18 = .ok (.dup, 1) := by decide +kernel
theorem dX9_needObject_19 : decode cX9_needObject 19 = .ok (.ldc_w 274, 3) := by decide +kernel
theorem dX9_needObject_22 : decode cX9_needObject 22 = .ok (.invokespecial 169, 3) := by decide +kernel
theorem dX9_needObject_25 : decode cX9_needObject 25 = .ok (.athrow, 1) := by decide +kernel
theorem dX9_needObject_26 : decode cX9_needObject 26 = .ok (.return_, 1) := by decide +kernel
theorem dX9_needRouteThere_0 : decode cX9_needRouteThere 0 = .ok (.iload_n 1, 1) := by decide +kernel
theorem dX9_needRouteThere_1 : decode cX9_needRouteThere 1 = .ok (.ifCond .lt 26, 3) := by decide +kernel
theorem dX9_needRouteThere_4 : decode cX9_needRouteThere 4 = .ok (.iload_n 1, 1) := by decide +kernel
theorem dX9_needRouteThere_5 : decode cX9_needRouteThere 5 = .ok (.aload_n 0, 1) := by decide +kernel
theorem dX9_needRouteThere_6 : decode cX9_needRouteThere 6 = .ok (.getfield 35, 3) := by decide +kernel
theorem dX9_needRouteThere_9 : decode cX9_needRouteThere 9 = .ok (.getfield 158, 3) := by decide +kernel
theorem dX9_needRouteThere_12 : decode cX9_needRouteThere 12 = .ok (.if_icmp .ge 15, 3) := by decide +kernel
theorem dX9_needRouteThere_15 : decode cX9_needRouteThere 15 = .ok (.aload_n 0, 1) := by decide +kernel
theorem dX9_needRouteThere_16 : decode cX9_needRouteThere 16 = .ok (.getfield 35, 3) := by decide +kernel
theorem dX9_needRouteThere_19 : decode cX9_needRouteThere 19 = .ok (.getfield 170, 3) := by decide +kernel
theorem dX9_needRouteThere_22 : decode cX9_needRouteThere 22 = .ok (.iload_n 1, 1) := by decide +kernel
theorem dX9_needRouteThere_23 : decode cX9_needRouteThere 23 = .ok (.baload, 1) := by decide +kernel
theorem dX9_needRouteThere_24 : decode cX9_needRouteThere 24 = .ok (.ifCond .eq 14, 3) := by decide +kernel
theorem dX9_needRouteThere_27 : decode cX9_needRouteThere 27 = .ok (.new 165, 3) := by decide +kernel
theorem dX9_needRouteThere_30 : decode cX9_needRouteThere 30 = .ok (.dup, 1) := by decide +kernel
theorem dX9_needRouteThere_31 : decode cX9_needRouteThere 31 = .ok (.ldc_w 276, 3) := by decide +kernel
theorem dX9_needRouteThere_34 : decode cX9_needRouteThere 34 = .ok (.invokespecial 169, 3) := by decide +kernel
theorem dX9_needRouteThere_37 : decode cX9_needRouteThere 37 = .ok (.athrow, 1) := by decide +kernel
theorem dX9_needRouteThere_38 : decode cX9_needRouteThere 38 = .ok (.return_, 1) := by decide +kernel
theorem dX9_needRange_0 : decode cX9_needRange 0 = .ok (.iload_n 0, 1) := by decide +kernel
theorem dX9_needRange_1 : decode cX9_needRange 1 = .ok (.iload_n 1, 1) := by decide +kernel
theorem dX9_needRange_2 : decode cX9_needRange 2 = .ok (.if_icmp .lt 8, 3) := by decide +kernel
theorem dX9_needRange_5 : decode cX9_needRange 5 = .ok (.iload_n 0, 1) := by decide +kernel
theorem dX9_needRange_6 : decode cX9_needRange 6 = .ok (.iload_n 2, 1) := by decide +kernel
theorem dX9_needRange_7 : decode cX9_needRange 7 = .ok (.if_icmp .le 14, 3) := by decide +kernel
theorem dX9_needRange_10 : decode cX9_needRange 10 = .ok (.new 178, 3) := by decide +kernel
theorem dX9_needRange_13 : decode cX9_needRange 13 = .ok (.dup, 1) := by decide +kernel
theorem dX9_needRange_14 : decode cX9_needRange 14 = .ok (.ldc_w 278, 3) := by decide +kernel
theorem dX9_needRange_17 : decode cX9_needRange 17 = .ok (.invokespecial 182, 3) := by decide +kernel
theorem dX9_needRange_20 : decode cX9_needRange 20 = .ok (.athrow, 1) := by decide +kernel
theorem dX9_needRange_21 : decode cX9_needRange 21 = .ok (.return_, 1) := by decide +kernel
theorem dX9_needBlock_0 : decode cX9_needBlock 0 = .ok (.iload_n 0, 1) := by decide +kernel
theorem dX9_needBlock_1 : decode cX9_needBlock 1 = .ok (.iconst 0, 1) := by decide +kernel
theorem dX9_needBlock_2 : decode cX9_needBlock 2 = .ok (.sipush 255, 3) := by decide +kernel
theorem dX9_needBlock_5 : decode cX9_needBlock 5 = .ok (.invokestatic 104, 3) := by decide +kernel
theorem dX9_needBlock_8 : decode cX9_needBlock 8 = .ok (.iload_n 1, 1) := by decide +kernel
theorem dX9_needBlock_9 : decode cX9_needBlock 9 = .ok (.iconst 0, 1) := by decide +kernel
theorem dX9_needBlock_10 : decode cX9_needBlock 10 = .ok (.bipush 8, 2) := by decide +kernel
theorem dX9_needBlock_12 : decode cX9_needBlock 12 = .ok (.invokestatic 104, 3) := by decide +kernel
theorem dX9_needBlock_15 : decode cX9_needBlock 15 = .ok (.iload_n 0, 1) := by decide +kernel
theorem dX9_needBlock_16 : decode cX9_needBlock 16 = .ok (.iload_n 1, 1) := by decide +kernel
theorem dX9_needBlock_17 : decode cX9_needBlock 17 = .ok (.invokestatic 280, 3) := by decide +kernel
theorem dX9_needBlock_20 : decode cX9_needBlock 20 = .ok (.bipush 8, 2) := by decide +kernel
theorem dX9_needBlock_22 : decode cX9_needBlock 22 = .ok (.iload_n 1, 1) := by decide +kernel
theorem dX9_needBlock_23 : decode cX9_needBlock 23 = .ok (.isub, 1) := by decide +kernel
theorem dX9_needBlock_24 : decode cX9_needBlock 24 = .ok (.ishl, 1) := by decide +kernel
theorem dX9_needBlock_25 : decode cX9_needBlock 25 = .ok (.iload_n 0, 1) := by decide +kernel
theorem dX9_needBlock_26 : decode cX9_needBlock 26 = .ok (.if_icmp .eq 14, 3) := by decide +kernel
theorem dX9_needBlock_29 : decode cX9_needBlock 29 = .ok (.new 178, 3) := by decide +kernel
theorem dX9_needBlock_32 : decode cX9_needBlock 32 = .ok (.dup, 1) := by decide +kernel
theorem dX9_needBlock_33 : decode cX9_needBlock 33 = .ok (.ldc_w 285, 3) := by decide +kernel
theorem dX9_needBlock_36 : decode cX9_needBlock 36 = .ok (.invokespecial 182, 3) := by decide +kernel
theorem dX9_needBlock_39 : decode cX9_needBlock 39 = .ok (.athrow, 1) := by decide +kernel
theorem dX9_needBlock_40 : decode cX9_needBlock 40 = .ok (.return_, 1) := by decide +kernel
theorem dX9_needRoomForObject_0 : decode cX9_needRoomForObject 0 = .ok (.aload_n 0, 1) := by decide +kernel
theorem dX9_needRoomForObject_1 : decode cX9_needRoomForObject 1 = .ok (.getfield 19, 3) := by decide +kernel
theorem dX9_needRoomForObject_4 : decode cX9_needRoomForObject 4 = .ok (.getfield 189, 3) := by decide +kernel
theorem dX9_needRoomForObject_7 : decode cX9_needRoomForObject 7 = .ok (.bipush 50, 2) := by decide +kernel
theorem dX9_needRoomForObject_9 : decode cX9_needRoomForObject 9 = .ok (.if_icmp .lt 14, 3) := by decide +kernel
theorem dX9_needRoomForObject_12 : decode cX9_needRoomForObject 12 = .ok (.new 81, 3) := by decide +kernel
theorem dX9_needRoomForObject_15 : decode cX9_needRoomForObject 15 = .ok (.dup, 1) := by decide +kernel
theorem dX9_needRoomForObject_16 : decode cX9_needRoomForObject 16 = .ok (.ldc_w 287, 3) := by decide +kernel
theorem dX9_needRoomForObject_19 : decode cX9_needRoomForObject 19 = .ok (.invokespecial 85, 3) := by decide +kernel
theorem dX9_needRoomForObject_22 : decode cX9_needRoomForObject 22 = .ok (.athrow, 1) := by decide +kernel
theorem dX9_needRoomForObject_23 : decode cX9_needRoomForObject 23 = .ok (.return_, 1) := by decide +kernel
theorem dX9_keep_0 : decode cX9_keep 0 = .ok (.aload_n 0, 1) := by decide +kernel
theorem dX9_keep_1 : decode cX9_keep 1 = .ok (.iload_n 1, 1) := by decide +kernel
theorem dX9_keep_2 : decode cX9_keep 2 = .ok (.invokevirtual 147, 3) := by decide +kernel
theorem dX9_keep_5 : decode cX9_keep 5 = .ok (.pop, 1) := by decide +kernel
theorem dX9_keep_6 : decode cX9_keep 6 = .ok (.iload_n 1, 1) := by decide +kernel
theorem dX9_keep_7 : decode cX9_keep 7 = .ok (.ireturn, 1) := by decide +kernel
theorem dX9_putSignature_0 : decode cX9_putSignature 0 = .ok (.aload_n 0, 1) := by decide +kernel
theorem dX9_putSignature_1 : decode cX9_putSignature 1 = .ok (.getfield 19, 3) := by decide +kernel
theorem dX9_putSignature_4 : decode cX9_putSignature 4 = .ok (.iload_n 1, 1) := by decide +kernel
theorem dX9_putSignature_5 : decode cX9_putSignature 5 = .ok (.aload_n 0, 1) := by decide +kernel
theorem dX9_putSignature_6 : decode cX9_putSignature 6 = .ok (.getfield 10, 3) := by decide +kernel
theorem dX9_putSignature_9 : decode cX9_putSignature 9 = .ok (.getfield 99, 3) := by decide +kernel
theorem dX9_putSignature_12 : decode cX9_putSignature 12 = .ok (.aload_n 0, 1) := by decide +kernel
theorem dX9_putSignature_13 : decode cX9_putSignature 13 = .ok (.getfield 19, 3) := by decide +kernel
theorem dX9_putSignature_16 : decode cX9_putSignature 16 = .ok (.getfield 289, 3) := by decide +kernel
theorem dX9_putSignature_19 : decode cX9_putSignature 19 = .ok (.iload_n 1, 1) := by decide +kernel
theorem dX9_putSignature_20 : decode cX9_putSignature 20 = .ok (.iaload, 1) := by decide +kernel
theorem dX9_putSignature_21 : decode cX9_putSignature 21 = .ok (.iaload, 1) := by decide +kernel
theorem dX9_putSignature_22 : decode cX9_putSignature 22 = .ok (.invokevirtual 292, 3) := by decide +kernel
theorem dX9_putSignature_25 : decode cX9_putSignature 25 = .ok (.istore_n 2, 1) := by decide +kernel
theorem dX9_putSignature_26 : decode cX9_putSignature 26 = .ok (.aload_n 0, 1) := by decide +kernel
theorem dX9_putSignature_27 : decode cX9_putSignature 27 = .ok (.getfield 19, 3) := by decide +kernel
theorem dX9_putSignature_30 : decode cX9_putSignature 30 = .ok (.getfield 295, 3) := by decide +kernel
theorem dX9_putSignature_33 : decode cX9_putSignature 33 = .ok (.iload_n 1, 1) := by decide +kernel
theorem dX9_putSignature_34 : decode cX9_putSignature 34 = .ok (.iload_n 2, 1) := by decide +kernel
theorem dX9_putSignature_35 : decode cX9_putSignature 35 = .ok (.iastore, 1) := by decide +kernel
theorem dX9_putSignature_36 : decode cX9_putSignature 36 = .ok (.iload_n 2, 1) := by decide +kernel
theorem dX9_putSignature_37 : decode cX9_putSignature 37 = .ok (.ireturn, 1) := by decide +kernel
theorem dX9_readVouchers_0 : decode cX9_readVouchers 0 = .ok (.aload_n 0, 1) := by decide +kernel
theorem dX9_readVouchers_1 : decode cX9_readVouchers 1 = .ok (.getfield 28, 3) := by decide +kernel
theorem dX9_readVouchers_4 : decode cX9_readVouchers 4 = .ok (.invokevirtual 190, 3) := by decide +kernel
theorem dX9_readVouchers_7 : decode cX9_readVouchers 7 = .ok (.aload_n 0, 1) := by decide +kernel
theorem dX9_readVouchers_8 : decode cX9_readVouchers 8 = .ok (.getfield 51, 3) := by decide +kernel
theorem dX9_readVouchers_11 : decode cX9_readVouchers 11 = .ok (.invokevirtual 298, 3) := by decide +kernel
theorem dX9_readVouchers_14 : decode cX9_readVouchers 14 = .ok (.iconst 0, 1) := by decide +kernel
theorem dX9_readVouchers_15 : decode cX9_readVouchers 15 = .ok (.istore_n 1, 1) := by decide +kernel
theorem dX9_readVouchers_16 : decode cX9_readVouchers 16 = .ok (.iload_n 1, 1) := by decide +kernel
theorem dX9_readVouchers_17 : decode cX9_readVouchers 17 = .ok (.aload_n 0, 1) := by decide +kernel
theorem dX9_readVouchers_18 : decode cX9_readVouchers 18 = .ok (.getfield 19, 3) := by decide +kernel
theorem dX9_readVouchers_21 : decode cX9_readVouchers 21 = .ok (.getfield 189, 3) := by decide +kernel
theorem dX9_readVouchers_24 : decode cX9_readVouchers 24 = .ok (.if_icmp .ge 59, 3) := by decide +kernel
theorem dX9_readVouchers_27 : decode cX9_readVouchers 27 = .ok (.aload_n 0, 1) := by decide +kernel
theorem dX9_readVouchers_28 : decode cX9_readVouchers 28 = .ok (.getfield 19, 3) := by decide +kernel
theorem dX9_readVouchers_31 : decode cX9_readVouchers 31 = .ok (.getfield 139, 3) := by decide +kernel
theorem dX9_readVouchers_34 : decode cX9_readVouchers 34 = .ok (.iload_n 1, 1) := by decide +kernel
theorem dX9_readVouchers_35 : decode cX9_readVouchers 35 = .ok (.iaload, 1) := by decide +kernel
theorem dX9_readVouchers_36 : decode cX9_readVouchers 36 = .ok (.iconst 2, 1) := by decide +kernel
theorem dX9_readVouchers_37 : decode cX9_readVouchers 37 = .ok (.if_icmp .ne 40, 3) := by decide +kernel
theorem dX9_readVouchers_40 : decode cX9_readVouchers 40 = .ok (.aload_n 0, 1) := by decide +kernel
theorem dX9_readVouchers_41 : decode cX9_readVouchers 41 = .ok (.getfield 28, 3) := by decide +kernel
theorem dX9_readVouchers_44 : decode cX9_readVouchers 44 = .ok (.getfield 193, 3) := by decide +kernel
theorem dX9_readVouchers_47 : decode cX9_readVouchers 47 = .ok (.iload_n 1, 1) := by decide +kernel
theorem dX9_readVouchers_48 : decode cX9_readVouchers 48 = .ok (.iaload, 1) := by decide +kernel
theorem dX9_readVouchers_49 : decode cX9_readVouchers 49 = .ok (.ifCond .ne 28, 3) := by decide +kernel
theorem dX9_readVouchers_52 : decode cX9_readVouchers 52 = .ok (.aload_n 0, 1) := by decide +kernel
theorem dX9_readVouchers_53 : decode cX9_readVouchers 53 = .ok (.getfield 51, 3) := by decide +kernel
theorem dX9_readVouchers_56 : decode cX9_readVouchers 56 = .ok (.aload_n 0, 1) := by decide +kernel
theorem dX9_readVouchers_57 : decode cX9_readVouchers 57 = .ok (.getfield 19, 3) := by decide +kernel
theorem dX9_readVouchers_60 : decode cX9_readVouchers 60 = .ok (.getfield 301, 3) := by decide +kernel
theorem dX9_readVouchers_63 : decode cX9_readVouchers 63 = .ok (.iload_n 1, 1) := by decide +kernel
theorem dX9_readVouchers_64 : decode cX9_readVouchers 64 = .ok (.iaload, 1) := by decide +kernel
theorem dX9_readVouchers_65 : decode cX9_readVouchers 65 = .ok (.aload_n 0, 1) := by decide +kernel
theorem dX9_readVouchers_66 : decode cX9_readVouchers 66 = .ok (.getfield 19, 3) := by decide +kernel
theorem dX9_readVouchers_69 : decode cX9_readVouchers 69 = .ok (.getfield 144, 3) := by decide +kernel
theorem dX9_readVouchers_72 : decode cX9_readVouchers 72 = .ok (.iload_n 1, 1) := by decide +kernel
theorem dX9_readVouchers_73 : decode cX9_readVouchers 73 = .ok (.iaload, 1) := by decide +kernel
theorem dX9_readVouchers_74 : decode cX9_readVouchers 74 = .ok (.invokevirtual 304, 3) := by decide +kernel
theorem dX9_readVouchers_77 : decode cX9_readVouchers 77 = .ok (.iinc 1 1, 3) := by decide +kernel
theorem dX9_readVouchers_80 : decode cX9_readVouchers 80 = .ok (.goto (-64), 3) := by decide +kernel
theorem dX9_readVouchers_83 : decode cX9_readVouchers 83 = .ok (.return_, 1) := by decide +kernel
theorem dX9_isIn_0 : decode cX9_isIn 0 = .ok (.iload_n 0, 1) := by decide +kernel
theorem dX9_isIn_1 : decode cX9_isIn 1 = .ok (.iload_n 1, 1) := by decide +kernel
theorem dX9_isIn_2 : decode cX9_isIn 2 = .ok (.ishr, 1) := by decide +kernel
theorem dX9_isIn_3 : decode cX9_isIn 3 = .ok (.iconst 1, 1) := by decide +kernel
theorem dX9_isIn_4 : decode cX9_isIn 4 = .ok (.iand, 1) := by decide +kernel
theorem dX9_isIn_5 : decode cX9_isIn 5 = .ok (.iconst 1, 1) := by decide +kernel
theorem dX9_isIn_6 : decode cX9_isIn 6 = .ok (.if_icmp .ne 7, 3) := by decide +kernel
theorem dX9_isIn_9 : decode cX9_isIn 9 = .ok (.iconst 1, 1) := by decide +kernel
theorem dX9_isIn_10 : decode cX9_isIn 10 = .ok (.goto 4, 3) := by decide +kernel
theorem dX9_isIn_13 : decode cX9_isIn 13 = .ok (.iconst 0, 1) := by decide +kernel
theorem dX9_isIn_14 : decode cX9_isIn 14 = .ok (.ireturn, 1) := by decide +kernel
theorem dX10_init_0 : decode cX10_init 0 = .ok (.aload_n 0, 1) := by decide +kernel
theorem dX10_init_1 : decode cX10_init 1 = .ok (.invokespecial 1, 3) := by decide +kernel
theorem dX10_init_4 : decode cX10_init 4 = .ok (.aload_n 0, 1) := by decide +kernel
theorem dX10_init_5 : decode cX10_init 5 = .ok (.bipush 8, 2) := by decide +kernel
theorem dX10_init_7 : decode cX10_init 7 = .ok (.newarray .int, 2) := by decide +kernel
theorem dX10_init_9 : decode cX10_init 9 = .ok (.putfield 7, 3) := by decide +kernel
theorem dX10_init_12 : decode cX10_init 12 = .ok (.aload_n 0, 1) := by decide +kernel
theorem dX10_init_13 : decode cX10_init 13 = .ok (.bipush 8, 2) := by decide +kernel
theorem dX10_init_15 : decode cX10_init 15 = .ok (.newarray .int, 2) := by decide +kernel
theorem dX10_init_17 : decode cX10_init 17 = .ok (.putfield 13, 3) := by decide +kernel
theorem dX10_init_20 : decode cX10_init 20 = .ok (.aload_n 0, 1) := by decide +kernel
theorem dX10_init_21 : decode cX10_init 21 = .ok (.bipush 8, 2) := by decide +kernel
theorem dX10_init_23 : decode cX10_init 23 = .ok (.newarray .int, 2) := by decide +kernel
theorem dX10_init_25 : decode cX10_init 25 = .ok (.putfield 16, 3) := by decide +kernel
theorem dX10_init_28 : decode cX10_init 28 = .ok (.aload_n 0, 1) := by decide +kernel
theorem dX10_init_29 : decode cX10_init 29 = .ok (.iconst 1, 1) := by decide +kernel
theorem dX10_init_30 : decode cX10_init 30 = .ok (.putfield 19, 3) := by decide +kernel
theorem dX10_init_33 : decode cX10_init 33 = .ok (.aload_n 0, 1) := by decide +kernel
theorem dX10_init_34 : decode cX10_init 34 = .ok (.bipush 10, 2) := by decide +kernel
theorem dX10_init_36 : decode cX10_init 36 = .ok (.newarray .int, 2) := by decide +kernel
theorem dX10_init_38 : decode cX10_init 38 = .ok (.putfield 23, 3) := by decide +kernel
theorem dX10_init_41 : decode cX10_init 41 = .ok (.aload_n 0, 1) := by decide +kernel
theorem dX10_init_42 : decode cX10_init 42 = .ok (.bipush 50, 2) := by decide +kernel
theorem dX10_init_44 : decode cX10_init 44 = .ok (.newarray .int, 2) := by decide +kernel
theorem dX10_init_46 : decode cX10_init 46 = .ok (.putfield 26, 3) := by decide +kernel
theorem dX10_init_49 : decode cX10_init 49 = .ok (.aload_n 0, 1) := by decide +kernel
theorem dX10_init_50 : decode cX10_init 50 = .ok (.bipush 50, 2) := by decide +kernel
theorem dX10_init_52 : decode cX10_init 52 = .ok (.newarray .int, 2) := by decide +kernel
theorem dX10_init_54 : decode cX10_init 54 = .ok (.putfield 29, 3) := by decide +kernel
theorem dX10_init_57 : decode cX10_init 57 = .ok (.aload_n 0, 1) := by decide +kernel
theorem dX10_init_58 : decode cX10_init 58 = .ok (.bipush 50, 2) := by decide +kernel
theorem dX10_init_60 : decode cX10_init 60 = .ok (.newarray .int, 2) := by decide +kernel
theorem dX10_init_62 : decode cX10_init 62 = .ok (.putfield 32, 3) := by decide +kernel
theorem dX10_init_65 : decode cX10_init 65 = .ok (.aload_n 0, 1) := by decide +kernel
theorem dX10_init_66 : decode cX10_init 66 = .ok (.bipush 50, 2) := by decide +kernel
theorem dX10_init_68 : decode cX10_init 68 = .ok (.newarray .int, 2) := by decide +kernel
theorem dX10_init_70 : decode cX10_init 70 = .ok (.putfield 35, 3) := by decide +kernel
theorem dX10_init_73 : decode cX10_init 73 = .ok (.aload_n 0, 1) := by decide +kernel
theorem dX10_init_74 : decode cX10_init 74 = .ok (.bipush 50, 2) := by decide +kernel
theorem dX10_init_76 : decode cX10_init 76 = .ok (.newarray .int, 2) := by decide +kernel
theorem dX10_init_78 : decode cX10_init 78 = .ok (.putfield 38, 3) := by decide +kernel
theorem dX10_init_81 : decode cX10_init 81 = .ok (.aload_n 0, 1) := by decide +kernel
theorem dX10_init_82 : decode cX10_init 82 = .ok (.bipush 50, 2) := by decide +kernel
theorem dX10_init_84 : decode cX10_init 84 = .ok (.newarray .int, 2) := by decide +kernel
theorem dX10_init_86 : decode cX10_init 86 = .ok (.putfield 41, 3) := by decide +kernel
theorem dX10_init_89 : decode cX10_init 89 = .ok (.aload_n 0, 1) := by decide +kernel
theorem dX10_init_90 : decode cX10_init 90 = .ok (.bipush 50, 2) := by decide +kernel
theorem dX10_init_92 : decode cX10_init 92 = .ok (.newarray .int, 2) := by decide +kernel
theorem dX10_init_94 : decode cX10_init 94 = .ok (.putfield 44, 3) := by decide +kernel
theorem dX10_init_97 : decode cX10_init 97 = .ok (.aload_n 0, 1) := by decide +kernel
theorem dX10_init_98 : decode cX10_init 98 = .ok (.bipush 50, 2) := by decide +kernel
theorem dX10_init_100 : decode cX10_init 100 = .ok (.newarray .int, 2) := by decide +kernel
theorem dX10_init_102 : decode cX10_init 102 = .ok (.putfield 47, 3) := by decide +kernel
theorem dX10_init_105 : decode cX10_init 105 = .ok (.aload_n 0, 1) := by decide +kernel
theorem dX10_init_106 : decode cX10_init 106 = .ok (.bipush 50, 2) := by decide +kernel
theorem dX10_init_108 : decode cX10_init 108 = .ok (.newarray .boolean, 2) := by decide +kernel
theorem dX10_init_110 : decode cX10_init 110 = .ok (.putfield 50, 3) := by decide +kernel
theorem dX10_init_113 : decode cX10_init 113 = .ok (.aload_n 0, 1) := by decide +kernel
theorem dX10_init_114 : decode cX10_init 114 = .ok (.bipush 50, 2) := by decide +kernel
theorem dX10_init_116 : decode cX10_init 116 = .ok (.newarray .boolean, 2) := by decide +kernel
theorem dX10_init_118 : decode cX10_init 118 = .ok (.putfield 54, 3) := by decide +kernel
theorem dX10_init_121 : decode cX10_init 121 = .ok (.aload_n 0, 1) := by decide +kernel
theorem dX10_init_122 : decode cX10_init 122 = .ok (.bipush 6, 2) := by decide +kernel
theorem dX10_init_124 : decode cX10_init 124 = .ok (.newarray .int, 2) := by decide +kernel
theorem dX10_init_126 : decode cX10_init 126 = .ok (.putfield 57, 3) := by decide +kernel
theorem dX10_init_129 : decode cX10_init 129 = .ok (.aload_n 0, 1) := by decide +kernel
theorem dX10_init_130 : decode cX10_init 130 = .ok (.sipush 144, 3) := by decide +kernel
theorem dX10_init_133 : decode cX10_init 133 = .ok (.newarray .int, 2) := by decide +kernel
theorem dX10_init_135 : decode cX10_init 135 = .ok (.putfield 60, 3) := by decide +kernel
theorem dX10_init_138 : decode cX10_init 138 = .ok (.aload_n 0, 1) := by decide +kernel
theorem dX10_init_139 : decode cX10_init 139 = .ok (.bipush 24, 2) := by decide +kernel
theorem dX10_init_141 : decode cX10_init 141 = .ok (.newarray .int, 2) := by decide +kernel
theorem dX10_init_143 : decode cX10_init 143 = .ok (.putfield 63, 3) := by decide +kernel
theorem dX10_init_146 : decode cX10_init 146 = .ok (.aload_n 0, 1) := by decide +kernel
theorem dX10_init_147 : decode cX10_init 147 = .ok (.bipush 24, 2) := by decide +kernel
theorem dX10_init_149 : decode cX10_init 149 = .ok (.newarray .int, 2) := by decide +kernel
theorem dX10_init_151 : decode cX10_init 151 = .ok (.putfield 66, 3) := by decide +kernel
theorem dX10_init_154 : decode cX10_init 154 = .ok (.aload_n 0, 1) := by decide +kernel
theorem dX10_init_155 : decode cX10_init 155 = .ok (.bipush 24, 2) := by decide +kernel
theorem dX10_init_157 : decode cX10_init 157 = .ok (.newarray .int, 2) := by decide +kernel
theorem dX10_init_159 : decode cX10_init 159 = .ok (.putfield 69, 3) := by decide +kernel
theorem dX10_init_162 : decode cX10_init 162 = .ok (.aload_n 0, 1) := by decide +kernel
theorem dX10_init_163 : decode cX10_init 163 = .ok (.bipush 24, 2) := by decide +kernel
theorem dX10_init_165 : decode cX10_init 165 = .ok (.newarray .boolean, 2) := by decide +kernel
theorem dX10_init_167 : decode cX10_init 167 = .ok (.putfield 72, 3) := by decide +kernel
theorem dX10_init_170 : decode cX10_init 170 = .ok (.aload_n 0, 1) := by decide +kernel
theorem dX10_init_171 : decode cX10_init 171 = .ok (.bipush 100, 2) := by decide +kernel
theorem dX10_init_173 : decode cX10_init 173 = .ok (.newarray .int, 2) := by decide +kernel
theorem dX10_init_175 : decode cX10_init 175 = .ok (.putfield 75, 3) := by decide +kernel
theorem dX10_init_178 : decode cX10_init 178 = .ok (.aload_n 0, 1) := by decide +kernel
theorem dX10_init_179 : decode cX10_init 179 = .ok (.bipush 50, 2) := by decide +kernel
theorem dX10_init_181 : decode cX10_init 181 = .ok (.newarray .int, 2) := by decide +kernel
theorem dX10_init_183 : decode cX10_init 183 = .ok (.putfield 78, 3) := by decide +kernel
theorem dX10_init_186 : decode cX10_init 186 = .ok (.aload_n 0, 1) := by decide +kernel
theorem dX10_init_187 : decode cX10_init 187 = .ok (.bipush 10, 2) := by decide +kernel
theorem dX10_init_189 : decode cX10_init 189 = .ok (.newarray .int, 2) := by decide +kernel
theorem dX10_init_191 : decode cX10_init 191 = .ok (.putfield 81, 3) := by decide +kernel
theorem dX10_init_194 : decode cX10_init 194 = .ok (.aload_n 0, 1) := by decide +kernel
theorem dX10_init_195 : decode cX10_init 195 = .ok (.bipush 10, 2) := by decide +kernel
theorem dX10_init_197 : decode cX10_init 197 = .ok (.newarray .boolean, 2) := by decide +kernel
theorem dX10_init_199 : decode cX10_init 199 = .ok (.putfield 84, 3) := by decide +kernel
theorem dX10_init_202 : decode cX10_init 202 = .ok (.aload_n 0, 1) := by decide +kernel
theorem dX10_init_203 : decode cX10_init 203 = .ok (.bipush 6, 2) := by decide +kernel
theorem dX10_init_205 : decode cX10_init 205 = .ok (.newarray .int, 2) := by decide +kernel
theorem dX10_init_207 : decode cX10_init 207 = .ok (.putfield 87, 3) := by decide +kernel
theorem dX10_init_210 : decode cX10_init 210 = .ok (.aload_n 0, 1) := by decide +kernel
theorem dX10_init_211 : decode cX10_init 211 = .ok (.bipush 10, 2) := by decide +kernel
theorem dX10_init_213 : decode cX10_init 213 = .ok (.newarray .int, 2) := by decide +kernel
theorem dX10_init_215 : decode cX10_init 215 = .ok (.putfield 90, 3) := by decide +kernel
theorem dX10_init_218 : decode cX10_init 218 = .ok (.aload_n 0, 1) := by decide +kernel
theorem dX10_init_219 : decode cX10_init 219 = .ok (.bipush 100, 2) := by decide +kernel
theorem dX10_init_221 : decode cX10_init 221 = .ok (.newarray .int, 2) := by decide +kernel
theorem dX10_init_223 : decode cX10_init 223 = .ok (.putfield 93, 3) := by decide +kernel
theorem dX10_init_226 : decode cX10_init 226 = .ok (.aload_n 0, 1) := by decide +kernel
theorem dX10_init_227 : decode cX10_init 227 = .ok (.bipush 100, 2) := by decide +kernel
theorem dX10_init_229 : decode cX10_init 229 = .ok (.newarray .int, 2) := by decide +kernel
theorem dX10_init_231 : decode cX10_init 231 = .ok (.putfield 96, 3) := by decide +kernel
theorem dX10_init_234 : decode cX10_init 234 = .ok (.aload_n 0, 1) := by decide +kernel
theorem dX10_init_235 : decode cX10_init 235 = .ok (.bipush 10, 2) := by decide +kernel
theorem dX10_init_237 : decode cX10_init 237 = .ok (.newarray .int, 2) := by decide +kernel
theorem dX10_init_239 : decode cX10_init 239 = .ok (.putfield 99, 3) := by decide +kernel
theorem dX10_init_242 : decode cX10_init 242 = .ok (.aload_n 0, 1) := by decide +kernel
theorem dX10_init_243 : decode cX10_init 243 = .ok (.sipush 256, 3) := by decide +kernel
theorem dX10_init_246 : decode cX10_init 246 = .ok (.newarray .boolean, 2) := by decide +kernel
theorem dX10_init_248 : decode cX10_init 248 = .ok (.putfield 102, 3) := by decide +kernel
theorem dX10_init_251 : decode cX10_init 251 = .ok (.aload_n 0, 1) := by decide +kernel
theorem dX10_init_252 : decode cX10_init 252 = .ok (.getfield 7, 3) := by decide +kernel
theorem dX10_init_255 : decode cX10_init 255 = .ok (.iconst 0, 1) := by decide +kernel
theorem dX10_init_256 : decode cX10_init 256 = .ok (.iconst (-1), 1) := by decide +kernel
theorem dX10_init_257 : decode cX10_init 257 = .ok (.iastore, 1) := by decide +kernel
theorem dX10_init_258 : decode cX10_init 258 = .ok (.aload_n 0, 1) := by decide +kernel
theorem dX10_init_259 : decode cX10_init 259 = .ok (.getfield 16, 3) := by decide +kernel
theorem dX10_init_262 : decode cX10_init 262 = .ok (.iconst 0, 1) := by decide +kernel
theorem dX10_init_263 : decode cX10_init 263 = .ok (.bipush 30, 2) := by decide +kernel
theorem dX10_init_265 : decode cX10_init 265 = .ok (.iastore, 1) := by decide +kernel
theorem dX10_init_266 : decode cX10_init 266 = .ok (.return_, 1) := by decide +kernel
theorem dX10_thrown_0 : decode cX10_thrown 0 = .ok (.aload_n 0, 1) := by decide +kernel
theorem dX10_thrown_1 : decode cX10_thrown 1 = .ok (.getfield 105, 3) := by decide +kernel
theorem dX10_thrown_4 : decode cX10_thrown 4 = .ok (.ireturn, 1) := by decide +kernel
theorem dX10_isFine_0 : decode cX10_isFine 0 = .ok (.aload_n 0, 1) := by decide +kernel
theorem dX10_isFine_1 : decode cX10_isFine 1 = .ok (.iload_n 1, 1) := by decide +kernel
theorem dX10_isFine_2 : decode cX10_isFine 2 = .ok (.putfield 105, 3) := by decide +kernel
theorem dX10_isFine_5 : decode cX10_isFine 5 = .ok (.iload_n 1, 1) := by decide +kernel
theorem dX10_isFine_6 : decode cX10_isFine 6 = .ok (.ifCond .ne 7, 3) := by decide +kernel
theorem dX10_isFine_9 : decode cX10_isFine 9 = .ok (.iconst 1, 1) := by decide +kernel
theorem dX10_isFine_10 : decode cX10_isFine 10 = .ok (.goto 4, 3) := by decide +kernel
theorem dX10_isFine_13 : decode cX10_isFine 13 = .ok (.iconst 0, 1) := by decide +kernel
theorem dX10_isFine_14 : decode cX10_isFine 14 = .ok (.ireturn, 1) := by decide +kernel
theorem dX10_isBetween_0 : decode cX10_isBetween 0 = .ok (.iload_n 0, 1) := by decide +kernel
theorem dX10_isBetween_1 : decode cX10_isBetween 1 = .ok (.iload_n 1, 1) := by decide +kernel
theorem dX10_isBetween_2 : decode cX10_isBetween 2 = .ok (.if_icmp .lt 12, 3) := by decide +kernel
theorem dX10_isBetween_5 : decode cX10_isBetween 5 = .ok (.iload_n 0, 1) := by decide +kernel
theorem dX10_isBetween_6 : decode cX10_isBetween 6 = .ok (.iload_n 2, 1) := by decide +kernel
theorem dX10_isBetween_7 : decode cX10_isBetween 7 = .ok (.if_icmp .gt 7, 3) := by decide +kernel
theorem dX10_isBetween_10 : decode cX10_isBetween 10 = .ok (.iconst 1, 1) := by decide +kernel
theorem dX10_isBetween_11 : decode cX10_isBetween 11 = .ok (.goto 4, 3) := by decide +kernel
theorem dX10_isBetween_14 : decode cX10_isBetween 14 = .ok (.iconst 0, 1) := by decide +kernel
theorem dX10_isBetween_15 : decode cX10_isBetween 15 = .ok (.ireturn, 1) := by decide +kernel
theorem dX10_isHolder_0 : decode cX10_isHolder 0 = .ok (.iload_n 1, 1) := by decide +kernel
theorem dX10_isHolder_1 : decode cX10_isHolder 1 = .ok (.iconst 0, 1) := by decide +kernel
theorem dX10_isHolder_2 : decode cX10_isHolder 2 = .ok (.aload_n 0, 1) := by decide +kernel
theorem dX10_isHolder_3 : decode cX10_isHolder 3 = .ok (.getfield 19, 3) := by decide +kernel
theorem dX10_isHolder_6 : decode cX10_isHolder 6 = .ok (.iconst 1, 1) := by decide +kernel
theorem dX10_isHolder_7 : decode cX10_isHolder 7 = .ok (.isub, 1) := by decide +kernel
theorem dX10_isHolder_8 : decode cX10_isHolder 8 = .ok (.invokestatic 108, 3) := by decide +kernel
theorem dX10_isHolder_11 : decode cX10_isHolder 11 = .ok (.ireturn, 1) := by decide +kernel
theorem dX10_isNet_0 : decode cX10_isNet 0 = .ok (.iload_n 0, 1) := by decide +kernel
theorem dX10_isNet_1 : decode cX10_isNet 1 = .ok (.iconst 0, 1) := by decide +kernel
theorem dX10_isNet_2 : decode cX10_isNet 2 = .ok (.bipush 9, 2) := by decide +kernel
theorem dX10_isNet_4 : decode cX10_isNet 4 = .ok (.invokestatic 108, 3) := by decide +kernel
theorem dX10_isNet_7 : decode cX10_isNet 7 = .ok (.ireturn, 1) := by decide +kernel
theorem dX10_isObject_0 : decode cX10_isObject 0 = .ok (.iload_n 1, 1) := by decide +kernel
theorem dX10_isObject_1 : decode cX10_isObject 1 = .ok (.iconst 0, 1) := by decide +kernel
theorem dX10_isObject_2 : decode cX10_isObject 2 = .ok (.aload_n 0, 1) := by decide +kernel
theorem dX10_isObject_3 : decode cX10_isObject 3 = .ok (.getfield 112, 3) := by decide +kernel
theorem dX10_isObject_6 : decode cX10_isObject 6 = .ok (.iconst 1, 1) := by decide +kernel
theorem dX10_isObject_7 : decode cX10_isObject 7 = .ok (.isub, 1) := by decide +kernel
theorem dX10_isObject_8 : decode cX10_isObject 8 = .ok (.invokestatic 108, 3) := by decide +kernel
theorem dX10_isObject_11 : decode cX10_isObject 11 = .ok (.ireturn, 1) := by decide +kernel
theorem dX10_isBlock_0 : decode cX10_isBlock 0 = .ok (.iload_n 0, 1) := by decide +kernel
theorem dX10_isBlock_1 : decode cX10_isBlock 1 = .ok (.iconst 0, 1) := by decide +kernel
theorem dX10_isBlock_2 : decode cX10_isBlock 2 = .ok (.sipush 255, 3) := by decide +kernel
theorem dX10_isBlock_5 : decode cX10_isBlock 5 = .ok (.invokestatic 108, 3) := by decide +kernel
theorem dX10_isBlock_8 : decode cX10_isBlock 8 = .ok (.ifCond .eq 30, 3) := by decide +kernel
theorem dX10_isBlock_11 : decode cX10_isBlock 11 = .ok (.iload_n 1, 1) := by decide +kernel
theorem dX10_isBlock_12 : decode cX10_isBlock 12 = .ok (.iconst 0, 1) := by decide +kernel
theorem dX10_isBlock_13 : decode cX10_isBlock 13 = .ok (.bipush 8, 2) := by decide +kernel
theorem dX10_isBlock_15 : decode cX10_isBlock 15 = .ok (.invokestatic 108, 3) := by decide +kernel
theorem dX10_isBlock_18 : decode cX10_isBlock 18 = .ok (.ifCond .eq 20, 3) := by decide +kernel
theorem dX10_isBlock_21 : decode cX10_isBlock 21 = .ok (.iload_n 0, 1) := by decide +kernel
theorem dX10_isBlock_22 : decode cX10_isBlock 22 = .ok (.iconst 1, 1) := by decide +kernel
theorem dX10_isBlock_23 : decode cX10_isBlock 23 = .ok (.bipush 8, 2) := by decide +kernel
theorem dX10_isBlock_25 : decode cX10_isBlock 25 = .ok (.iload_n 1, 1) := by decide +kernel
theorem dX10_isBlock_26 : decode cX10_isBlock 26 = .ok (.isub, 1) := by decide +kernel
theorem dX10_isBlock_27 : decode cX10_isBlock 27 = .ok (.ishl, 1) := by decide +kernel
theorem dX10_isBlock_28 : decode cX10_isBlock 28 = .ok (.iconst 1, 1) := by decide +kernel
theorem dX10_isBlock_29 : decode cX10_isBlock 29 = .ok (.isub, 1) := by decide +kernel
theorem dX10_isBlock_30 : decode cX10_isBlock 30 = .ok (.iand, 1) := by decide +kernel
theorem dX10_isBlock_31 : decode cX10_isBlock 31 = .ok (.ifCond .ne 7, 3) := by decide +kernel
theorem dX10_isBlock_34 : decode cX10_isBlock 34 = .ok (.iconst 1, 1) := by decide +kernel
theorem dX10_isBlock_35 : decode cX10_isBlock 35 = .ok (.goto 4, 3) := by decide +kernel
theorem dX10_isBlock_38 : decode cX10_isBlock 38 = .ok (.iconst 0, 1) := by decide +kernel
theorem dX10_isBlock_39 : decode cX10_isBlock 39 = .ok (.ireturn, 1) := by decide +kernel
theorem dX10_lies_0 : decode cX10_lies 0 = .ok (.iload_n 1, 1) := by decide +kernel
theorem dX10_lies_1 : decode cX10_lies 1 = .ok (.iload_n 3, 1) := by decide +kernel
theorem dX10_lies_2 : decode cX10_lies 2 = .ok (.if_icmp .lt 22, 3) := by decide +kernel
theorem dX10_lies_5 : decode cX10_lies 5 = .ok (.iload_n 0, 1) := by decide +kernel
theorem dX10_lies_6 : decode cX10_lies 6 = .ok (.bipush 8, 2) := by decide +kernel
theorem dX10_lies_8 : decode cX10_lies 8 = .ok (.iload_n 3, 1) := by decide +kernel
theorem dX10_lies_9 : decode cX10_lies 9 = .ok (.isub, 1) := by decide +kernel
theorem dX10_lies_10 : decode cX10_lies 10 = .ok (.ishr, 1) := by decide +kernel
theorem dX10_lies_11 : decode cX10_lies 11 = .ok (.iload_n 2, 1) := by decide +kernel
theorem dX10_lies_12 : decode cX10_lies 12 = .ok (.bipush 8, 2) := by decide +kernel
theorem dX10_lies_14 : decode cX10_lies 14 = .ok (.iload_n 3, 1) := by decide +kernel
theorem dX10_lies_15 : decode cX10_lies 15 = .ok (.isub, 1) := by decide +kernel
theorem dX10_lies_16 : decode cX10_lies 16 = .ok (.ishr, 1) := by decide +kernel
theorem dX10_lies_17 : decode cX10_lies 17 = .ok (.if_icmp .ne 7, 3) := by decide +kernel
theorem dX10_lies_20 : decode cX10_lies 20 = .ok (.iconst 1, 1) := by decide +kernel
theorem dX10_lies_21 : decode cX10_lies 21 = .ok (.goto 4, 3) := by decide +kernel
theorem dX10_lies_24 : decode cX10_lies 24 = .ok (.iconst 0, 1) := by decide +kernel
theorem dX10_lies_25 : decode cX10_lies 25 = .ok (.ireturn, 1) := by decide +kernel
theorem dX10_holder_0 : decode cX10_holder 0 = .ok (.aload_n 0, 1) := by decide +kernel
theorem dX10_holder_1 : decode cX10_holder 1 = .ok (.aload_n 0, 1) := by decide +kernel
theorem dX10_holder_2 : decode cX10_holder 2 = .ok (.iload_n 1, 1) := by decide +kernel
theorem dX10_holder_3 : decode cX10_holder 3 = .ok (.invokevirtual 115, 3) := by decide +kernel
theorem dX10_holder_6 : decode cX10_holder 6 = .ok (.ifCond .ne 7, 3) := by decide +kernel
theorem dX10_holder_9 : decode cX10_holder 9 = .ok (.iconst 1, 1) := by decide +kernel
theorem dX10_holder_10 : decode cX10_holder 10 = .ok (.goto 17, 3) := by decide +kernel
theorem dX10_holder_13 : decode cX10_holder 13 = .ok (.aload_n 0, 1) := by decide +kernel
theorem dX10_holder_14 : decode cX10_holder 14 = .ok (.getfield 19, 3) := by decide +kernel
theorem dX10_holder_17 : decode cX10_holder 17 = .ok (.bipush 8, 2) := by decide +kernel
theorem dX10_holder_19 : decode cX10_holder 19 = .ok (.if_icmp .ne 7, 3) := by decide +kernel
theorem dX10_holder_22 : decode cX10_holder 22 = .ok (.iconst 2, 1) := by decide +kernel
theorem dX10_holder_23 : decode cX10_holder 23 = .ok (.goto 4, 3) := by decide +kernel
theorem dX10_holder_26 : decode cX10_holder 26 = .ok (.iconst 0, 1) := by decide +kernel
theorem dX10_holder_27 : decode cX10_holder 27 = .ok (.invokevirtual 119, 3) := by decide +kernel
theorem dX10_holder_30 : decode cX10_holder 30 = .ok (.ifCond .ne 5, 3) := by decide +kernel
theorem dX10_holder_33 : decode cX10_holder 33 = .ok (.iconst 0, 1) := by decide +kernel
theorem dX10_holder_34 : decode cX10_holder 34 = .ok (.ireturn, 1) := by decide +kernel
theorem dX10_holder_35 : decode cX10_holder 35 = .ok (.aload_n 0, 1) := by decide +kernel
theorem dX10_holder_36 : decode cX10_holder 36 = .ok (.getfield 7, 3) := by decide +kernel
theorem dX10_holder_39 : decode cX10_holder 39 = .ok (.aload_n 0, 1) := by decide +kernel
theorem dX10_holder_40 : decode cX10_holder 40 = .ok (.getfield 19, 3) := by decide +kernel
theorem dX10_holder_43 : decode cX10_holder 43 = .ok (.iload_n 1, 1) := by decide +kernel
theorem dX10_holder_44 : decode cX10_holder 44 = .ok (.iastore, 1) := by decide +kernel
theorem dX10_holder_45 : decode cX10_holder 45 = .ok (.aload_n 0, 1) := by decide +kernel
theorem dX10_holder_46 : decode cX10_holder 46 = .ok (.getfield 16, 3) := by decide +kernel
theorem dX10_holder_49 : decode cX10_holder 49 = .ok (.aload_n 0, 1) := by decide +kernel
theorem dX10_holder_50 : decode cX10_holder 50 = .ok (.getfield 19, 3) := by decide +kernel
theorem dX10_holder_53 : decode cX10_holder 53 = .ok (.aload_n 0, 1) := by decide +kernel
theorem dX10_holder_54 : decode cX10_holder 54 = .ok (.getfield 122, 3) := by decide +kernel
theorem dX10_holder_57 : decode cX10_holder 57 = .ok (.bipush 30, 2) := by decide +kernel
theorem dX10_holder_59 : decode cX10_holder 59 = .ok (.iadd, 1) := by decide +kernel
theorem dX10_holder_60 : decode cX10_holder 60 = .ok (.iastore, 1) := by decide +kernel
theorem dX10_holder_61 : decode cX10_holder 61 = .ok (.aload_n 0, 1) := by decide +kernel
theorem dX10_holder_62 : decode cX10_holder 62 = .ok (.dup, 1) := by decide +kernel
theorem dX10_holder_63 : decode cX10_holder 63 = .ok (.getfield 19, 3) := by decide +kernel
theorem dX10_holder_66 : decode cX10_holder 66 = .ok (.iconst 1, 1) := by decide +kernel
theorem dX10_holder_67 : decode cX10_holder 67 = .ok (.iadd, 1) := by decide +kernel
theorem dX10_holder_68 : decode cX10_holder 68 = .ok (.putfield 19, 3) := by decide +kernel
theorem dX10_holder_71 : decode cX10_holder 71 = .ok (.aload_n 0, 1) := by decide +kernel
theorem dX10_holder_72 : decode cX10_holder 72 = .ok (.getfield 19, 3) := by decide +kernel
theorem dX10_holder_75 : decode cX10_holder 75 = .ok (.iconst 1, 1) := by decide +kernel
theorem dX10_holder_76 : decode cX10_holder 76 = .ok (.isub, 1) := by decide +kernel
theorem dX10_holder_77 : decode cX10_holder 77 = .ok (.ireturn, 1) := by decide +kernel
theorem dX10_belong_0 : decode cX10_belong 0 = .ok (.aload_n 0, 1) := by decide +kernel
theorem dX10_belong_1 : decode cX10_belong 1 = .ok (.iload_n 1, 1) := by decide +kernel
theorem dX10_belong_2 : decode cX10_belong 2 = .ok (.invokestatic 125, 3) := by decide +kernel
theorem dX10_belong_5 : decode cX10_belong 5 = .ok (.ifCond .eq 15, 3) := by decide +kernel
theorem dX10_belong_8 : decode cX10_belong 8 = .ok (.aload_n 0, 1) := by decide +kernel
theorem dX10_belong_9 : decode cX10_belong 9 = .ok (.iload_n 2, 1) := by decide +kernel
theorem dX10_belong_10 : decode cX10_belong 10 = .ok (.invokevirtual 115, 3) := by decide +kernel
theorem dX10_belong_13 : decode cX10_belong 13 = .ok (.ifCond .eq 7, 3) := by decide +kernel
theorem dX10_belong_16 : decode cX10_belong 16 = .ok (.iconst 0, 1) := by decide +kernel
theorem dX10_belong_17 : decode cX10_belong 17 = .ok (.goto 4, 3) := by decide +kernel
theorem dX10_belong_20 : decode cX10_belong 20 = .ok (.iconst 1, 1) := by decide +kernel
theorem dX10_belong_21 : decode cX10_belong 21 = .ok (.invokevirtual 119, 3) := by decide +kernel
theorem dX10_belong_24 : decode cX10_belong 24 = .ok (.ifCond .ne 5, 3) := by decide +kernel
theorem dX10_belong_27 : decode cX10_belong 27 = .ok (.iconst 0, 1) := by decide +kernel
theorem dX10_belong_28 : decode cX10_belong 28 = .ok (.ireturn, 1) := by decide +kernel
theorem dX10_belong_29 : decode cX10_belong 29 = .ok (.aload_n 0, 1) := by decide +kernel
theorem dX10_belong_30 : decode cX10_belong 30 = .ok (.getfield 23, 3) := by decide +kernel
theorem dX10_belong_33 : decode cX10_belong 33 = .ok (.iload_n 1, 1) := by decide +kernel
theorem dX10_belong_34 : decode cX10_belong 34 = .ok (.iaload, 1) := by decide +kernel
theorem dX10_belong_35 : decode cX10_belong 35 = .ok (.istore_n 3, 1) := by decide +kernel
theorem dX10_belong_36 : decode cX10_belong 36 = .ok (.aload_n 0, 1) := by decide +kernel
theorem dX10_belong_37 : decode cX10_belong 37 = .ok (.getfield 23, 3) := by decide +kernel
theorem dX10_belong_40 : decode cX10_belong 40 = .ok (.iload_n 1, 1) := by decide +kernel
theorem dX10_belong_41 : decode cX10_belong 41 = .ok (.iload_n 2, 1) := by decide +kernel
theorem dX10_belong_42 : decode cX10_belong 42 = .ok (.iastore, 1) := by decide +kernel
theorem dX10_belong_43 : decode cX10_belong 43 = .ok (.iload_n 3, 1) := by decide +kernel
theorem dX10_belong_44 : decode cX10_belong 44 = .ok (.ireturn, 1) := by decide +kernel
theorem dX10_roll_0 : decode cX10_roll 0 = .ok (.aload_n 0, 1) := by decide +kernel
theorem dX10_roll_1 : decode cX10_roll 1 = .ok (.iload_n 1, 1) := by decide +kernel
theorem dX10_roll_2 : decode cX10_roll 2 = .ok (.invokevirtual 115, 3) := by decide +kernel
theorem dX10_roll_5 : decode cX10_roll 5 = .ok (.istore_n 2, 1) := by decide +kernel
theorem dX10_roll_6 : decode cX10_roll 6 = .ok (.aload_n 0, 1) := by decide +kernel
theorem dX10_roll_7 : decode cX10_roll 7 = .ok (.iload_n 2, 1) := by decide +kernel
theorem dX10_roll_8 : decode cX10_roll 8 = .ok (.ifCond .ne 7, 3) := by decide +kernel
theorem dX10_roll_11 : decode cX10_roll 11 = .ok (.iconst 1, 1) := by decide +kernel
theorem dX10_roll_12 : decode cX10_roll 12 = .ok (.goto 19, 3) := by decide +kernel
theorem dX10_roll_15 : decode cX10_roll 15 = .ok (.aload_n 0, 1) := by decide +kernel
theorem dX10_roll_16 : decode cX10_roll 16 = .ok (.getfield 13, 3) := by decide +kernel
theorem dX10_roll_19 : decode cX10_roll 19 = .ok (.iload_n 1, 1) := by decide +kernel
theorem dX10_roll_20 : decode cX10_roll 20 = .ok (.iaload, 1) := by decide +kernel
theorem dX10_roll_21 : decode cX10_roll 21 = .ok (.bipush 100, 2) := by decide +kernel
theorem dX10_roll_23 : decode cX10_roll 23 = .ok (.if_icmp .ne 7, 3) := by decide +kernel
theorem dX10_roll_26 : decode cX10_roll 26 = .ok (.iconst 2, 1) := by decide +kernel
theorem dX10_roll_27 : decode cX10_roll 27 = .ok (.goto 4, 3) := by decide +kernel
theorem dX10_roll_30 : decode cX10_roll 30 = .ok (.iconst 0, 1) := by decide +kernel
theorem dX10_roll_31 : decode cX10_roll 31 = .ok (.invokevirtual 119, 3) := by decide +kernel
theorem dX10_roll_34 : decode cX10_roll 34 = .ok (.ifCond .ne 5, 3) := by decide +kernel
theorem dX10_roll_37 : decode cX10_roll 37 = .ok (.iconst 0, 1) := by decide +kernel
theorem dX10_roll_38 : decode cX10_roll 38 = .ok (.ireturn, 1) := by decide +kernel
theorem dX10_roll_39 : decode cX10_roll 39 = .ok (.aload_n 0, 1) := by decide +kernel
theorem dX10_roll_40 : decode cX10_roll 40 = .ok (.getfield 13, 3) := by decide +kernel
theorem dX10_roll_43 : decode cX10_roll 43 = .ok (.iload_n 1, 1) := by decide +kernel
theorem dX10_roll_44 : decode cX10_roll 44 = .ok (.dup2, 1) := by decide +kernel
theorem dX10_roll_45 : decode cX10_roll 45 = .ok (.iaload, 1) := by decide +kernel
theorem dX10_roll_46 : decode cX10_roll 46 = .ok (.iconst 1, 1) := by decide +kernel
theorem dX10_roll_47 : decode cX10_roll 47 = .ok (.iadd, 1) := by decide +kernel
theorem dX10_roll_48 : decode cX10_roll 48 = .ok (.iastore, 1) := by decide +kernel
theorem dX10_roll_49 : decode cX10_roll 49 = .ok (.aload_n 0, 1) := by decide +kernel
theorem dX10_roll_50 : decode cX10_roll 50 = .ok (.getfield 13, 3) := by decide +kernel
theorem dX10_roll_53 : decode cX10_roll 53 = .ok (.iload_n 1, 1) := by decide +kernel
theorem dX10_roll_54 : decode cX10_roll 54 = .ok (.iaload, 1) := by decide +kernel
theorem dX10_roll_55 : decode cX10_roll 55 = .ok (.ireturn, 1) := by decide +kernel
theorem dX10_publish_0 : decode cX10_publish 0 = .ok (.aload_n 0, 1) := by decide +kernel
theorem dX10_publish_1 : decode cX10_publish 1 = .ok (.aload_n 0, 1) := by decide +kernel
theorem dX10_publish_2 : decode cX10_publish 2 = .ok (.iload_n 1, 1) := by decide +kernel
theorem dX10_publish_3 : decode cX10_publish 3 = .ok (.invokevirtual 115, 3) := by decide +kernel
theorem dX10_publish_6 : decode cX10_publish 6 = .ok (.ifCond .ne 7, 3) := by decide +kernel
theorem dX10_publish_9 : decode cX10_publish 9 = .ok (.iconst 1, 1) := by decide +kernel
theorem dX10_publish_10 : decode cX10_publish 10 = .ok (.goto 18, 3) := by decide +kernel
theorem dX10_publish_13 : decode cX10_publish 13 = .ok (.iload_n 2, 1) := by decide +kernel
theorem dX10_publish_14 : decode cX10_publish 14 = .ok (.iconst 0, 1) := by decide +kernel
theorem dX10_publish_15 : decode cX10_publish 15 = .ok (.bipush 100, 2) := by decide +kernel
theorem dX10_publish_17 : decode cX10_publish 17 = .ok (.invokestatic 108, 3) := by decide +kernel
theorem dX10_publish_20 : decode cX10_publish 20 = .ok (.ifCond .ne 7, 3) := by decide +kernel
theorem dX10_publish_23 : decode cX10_publish 23 = .ok (.iconst 2, 1) := by decide +kernel
theorem dX10_publish_24 : decode cX10_publish 24 = .ok (.goto 4, 3) := by decide +kernel
theorem dX10_publish_27 : decode cX10_publish 27 = .ok (.iconst 0, 1) := by decide +kernel
theorem dX10_publish_28 : decode cX10_publish 28 = .ok (.invokevirtual 119, 3) := by decide +kernel
theorem dX10_publish_31 : decode cX10_publish 31 = .ok (.ifCond .ne 5, 3) := by decide +kernel
theorem dX10_publish_34 : decode cX10_publish 34 = .ok (.iconst 0, 1) := by decide +kernel
theorem dX10_publish_35 : decode cX10_publish 35 = .ok (.ireturn, 1) := by decide +kernel
theorem dX10_publish_36 : decode cX10_publish 36 = .ok (.iconst 0, 1) := by decide +kernel
theorem dX10_publish_37 : decode cX10_publish 37 = .ok (.istore_n 3, 1) := by decide +kernel
theorem dX10_publish_38 : decode cX10_publish 38 = .ok (.iconst 0, 1) := by decide +kernel
theorem dX10_publish_39 : decode cX10_publish 39 = .ok (.istore 4, 2) := by decide +kernel
theorem dX10_publish_41 : decode cX10_publish 41 = .ok (.iload 4, 2) := by decide +kernel
theorem dX10_publish_43 : decode cX10_publish 43 = .ok (.aload_n 0, 1) := by decide +kernel
theorem dX10_publish_44 : decode cX10_publish 44 = .ok (.getfield 112, 3) := by decide +kernel
theorem dX10_publish_47 : decode cX10_publish 47 = .ok (.if_icmp .ge 81, 3) := by decide +kernel
theorem dX10_publish_50 : decode cX10_publish 50 = .ok (.aload_n 0, 1) := by decide +kernel
theorem dX10_publish_51 : decode cX10_publish 51 = .ok (.getfield 54, 3) := by decide +kernel
theorem dX10_publish_54 : decode cX10_publish 54 = .ok (.iload 4, 2) := by decide +kernel
theorem dX10_publish_56 : decode cX10_publish 56 = .ok (.aload_n 0, 1) := by decide +kernel
theorem dX10_publish_57 : decode cX10_publish 57 = .ok (.getfield 54, 3) := by decide +kernel
theorem dX10_publish_60 : decode cX10_publish 60 = .ok (.iload 4, 2) := by decide +kernel
theorem dX10_publish_62 : decode cX10_publish 62 = .ok (.baload, 1) := by decide +kernel
theorem dX10_publish_63 : decode cX10_publish 63 = .ok (.ifCond .ne 24, 3) := by decide +kernel
theorem dX10_publish_66 : decode cX10_publish 66 = .ok (.aload_n 0, 1) := by decide +kernel
theorem dX10_publish_67 : decode cX10_publish 67 = .ok (.getfield 50, 3) := by decide +kernel
theorem dX10_publish_70 : decode cX10_publish 70 = .ok (.iload 4, 2) := by decide +kernel
theorem dX10_publish_72 : decode cX10_publish 72 = .ok (.baload, 1) := by decide +kernel
theorem dX10_publish_73 : decode cX10_publish 73 = .ok (.ifCond .eq 18, 3) := by decide +kernel
theorem dX10_publish_76 : decode cX10_publish 76 = .ok (.aload_n 0, 1) := by decide +kernel
theorem dX10_publish_77 : decode cX10_publish 77 = .ok (.getfield 29, 3) := by decide +kernel
theorem dX10_publish_80 : decode cX10_publish 80 = .ok (.iload 4, 2) := by decide +kernel
theorem dX10_publish_82 : decode cX10_publish 82 = .ok (.iaload, 1) := by decide +kernel
theorem dX10_publish_83 : decode cX10_publish 83 = .ok (.iload_n 1, 1) := by decide +kernel
theorem dX10_publish_84 : decode cX10_publish 84 = .ok (.if_icmp .ne 7, 3) := by decide +kernel
theorem dX10_publish_87 : decode cX10_publish 87 = .ok (.iconst 1, 1) := by decide +kernel
theorem dX10_publish_88 : decode cX10_publish 88 = .ok (.goto 4, 3) := by decide +kernel
theorem dX10_publish_91 : decode cX10_publish 91 = .ok (.iconst 0, 1) := by decide +kernel
theorem dX10_publish_92 : decode cX10_publish 92 = .ok (.bastore, 1) := by decide +kernel
theorem dX10_publish_93 : decode cX10_publish 93 = .ok (.iload_n 3, 1) := by decide +kernel
theorem dX10_publish_94 : decode cX10_publish 94 = .ok (.aload_n 0, 1) := by decide +kernel
theorem dX10_publish_95 : decode cX10_publish 95 = .ok (.getfield 54, 3) := by decide +kernel
theorem dX10_publish_98 : decode cX10_publish 98 = .ok (.iload 4, 2) := by decide +kernel
theorem dX10_publish_100 : decode cX10_publish 100 = .ok (.baload, 1) := by decide +kernel
theorem dX10_publish_101 : decode cX10_publish 101 = .ok (.ifCond .eq 18, 3) := by decide +kernel
theorem dX10_publish_104 : decode cX10_publish 104 = .ok (.aload_n 0, 1) := by decide +kernel
theorem dX10_publish_105 : decode cX10_publish 105 = .ok (.getfield 29, 3) := by decide +kernel
theorem dX10_publish_108 : decode cX10_publish 108 = .ok (.iload 4, 2) := by decide +kernel
theorem dX10_publish_110 : decode cX10_publish 110 = .ok (.iaload, 1) := by decide +kernel
theorem dX10_publish_111 : decode cX10_publish 111 = .ok (.iload_n 1, 1) := by decide +kernel
theorem dX10_publish_112 : decode cX10_publish 112 = .ok (.if_icmp .ne 7, 3) := by decide +kernel
theorem dX10_publish_115 : decode cX10_publish 115 = .ok (.iconst 1, 1) := by decide +kernel
theorem dX10_publish_116 : decode cX10_publish 116 = .ok (.goto 4, 3) := by decide +kernel
theorem dX10_publish_119 : decode cX10_publish 119 = .ok (.iconst 0, 1) := by decide +kernel
theorem dX10_publish_120 : decode cX10_publish 120 = .ok (.iadd, 1) := by decide +kernel
theorem dX10_publish_121 : decode cX10_publish 121 = .ok (.istore_n 3, 1) := by decide +kernel
theorem dX10_publish_122 : decode cX10_publish 122 = .ok (.iinc 4 1, 3) := by decide +kernel
theorem dX10_publish_125 : decode cX10_publish 125 = .ok (.goto (-84), 3) := by decide +kernel
theorem dX10_publish_128 : decode cX10_publish 128 = .ok (.aload_n 0, 1) := by decide +kernel
theorem dX10_publish_129 : decode cX10_publish 129 = .ok (.getfield 16, 3) := by decide +kernel
theorem dX10_publish_132 : decode cX10_publish 132 = .ok (.iload_n 1, 1) := by decide +kernel
theorem dX10_publish_133 : decode cX10_publish 133 = .ok (.aload_n 0, 1) := by decide +kernel
theorem dX10_publish_134 : decode cX10_publish 134 = .ok (.getfield 122, 3) := by decide +kernel
theorem dX10_publish_137 : decode cX10_publish 137 = .ok (.iload_n 2, 1) := by decide +kernel
theorem dX10_publish_138 : decode cX10_publish 138 = .ok (.iadd, 1) := by decide +kernel
theorem dX10_publish_139 : decode cX10_publish 139 = .ok (.iastore, 1) := by decide +kernel
theorem dX10_publish_140 : decode cX10_publish 140 = .ok (.iload_n 3, 1) := by decide +kernel
theorem dX10_publish_141 : decode cX10_publish 141 = .ok (.ireturn, 1) := by decide +kernel
theorem dX10_pass_0 : decode cX10_pass 0 = .ok (.aload_n 0, 1) := by decide +kernel
theorem dX10_pass_1 : decode cX10_pass 1 = .ok (.iload_n 1, 1) := by decide +kernel
theorem dX10_pass_2 : decode cX10_pass 2 = .ok (.iconst 1, 1) := by decide +kernel
theorem dX10_pass_3 : decode cX10_pass 3 = .ok (.bipush 100, 2) := by decide +kernel
theorem dX10_pass_5 : decode cX10_pass 5 = .ok (.invokestatic 108, 3) := by decide +kernel
theorem dX10_pass_8 : decode cX10_pass 8 = .ok (.ifCond .ne 7, 3) := by decide +kernel
theorem dX10_pass_11 : decode cX10_pass 11 = .ok (.iconst 1, 1) := by decide +kernel
theorem dX10_pass_12 : decode cX10_pass 12 = .ok (.goto 20, 3) := by decide +kernel
theorem dX10_pass_15 : decode cX10_pass 15 = .ok (.aload_n 0, 1) := by decide +kernel
theorem dX10_pass_16 : decode cX10_pass 16 = .ok (.getfield 122, 3) := by decide +kernel
theorem dX10_pass_19 : decode cX10_pass 19 = .ok (.iload_n 1, 1) := by decide +kernel
theorem dX10_pass_20 : decode cX10_pass 20 = .ok (.iadd, 1) := by decide +kernel
theorem dX10_pass_21 : decode cX10_pass 21 = .ok (.sipush 10000, 3) := by decide +kernel
theorem dX10_pass_24 : decode cX10_pass 24 = .ok (.if_icmp .le 7, 3) := by decide +kernel
theorem dX10_pass_27 : decode cX10_pass 27 = .ok (.iconst 2, 1) := by decide +kernel
theorem dX10_pass_28 : decode cX10_pass 28 = .ok (.goto 4, 3) := by decide +kernel
theorem dX10_pass_31 : decode cX10_pass 31 = .ok (.iconst 0, 1) := by decide +kernel
theorem dX10_pass_32 : decode cX10_pass 32 = .ok (.invokevirtual 119, 3) := by decide +kernel
theorem dX10_pass_35 : decode cX10_pass 35 = .ok (.ifCond .ne 5, 3) := by decide +kernel
theorem dX10_pass_38 : decode cX10_pass 38 = .ok (.iconst 0, 1) := by decide +kernel
theorem dX10_pass_39 : decode cX10_pass 39 = .ok (.ireturn, 1) := by decide +kernel
theorem dX10_pass_40 : decode cX10_pass 40 = .ok (.aload_n 0, 1) := by decide +kernel
theorem dX10_pass_41 : decode cX10_pass 41 = .ok (.dup, 1) := by decide +kernel
theorem dX10_pass_42 : decode cX10_pass 42 = .ok (.getfield 122, 3) := by decide +kernel
theorem dX10_pass_45 : decode cX10_pass 45 = .ok (.iload_n 1, 1) := by decide +kernel
theorem dX10_pass_46 : decode cX10_pass 46 = .ok (.iadd, 1) := by decide +kernel
theorem dX10_pass_47 : decode cX10_pass 47 = .ok (.putfield 122, 3) := by decide +kernel
theorem dX10_pass_50 : decode cX10_pass 50 = .ok (.aload_n 0, 1) := by decide +kernel
theorem dX10_pass_51 : decode cX10_pass 51 = .ok (.getfield 122, 3) := by decide +kernel
theorem dX10_pass_54 : decode cX10_pass 54 = .ok (.ireturn, 1) := by decide +kernel
theorem dX10_mixes_0 : decode cX10_mixes 0 = .ok (.sipush 263, 3) := by decide +kernel
theorem dX10_mixes_3 : decode cX10_mixes 3 = .ok (.iload_n 0, 1) := by decide +kernel
theorem dX10_mixes_4 : decode cX10_mixes 4 = .ok (.imul, 1) := by decide +kernel
theorem dX10_mixes_5 : decode cX10_mixes 5 = .ok (.iload_n 1, 1) := by decide +kernel
theorem dX10_mixes_6 : decode cX10_mixes 6 = .ok (.iadd, 1) := by decide +kernel
theorem dX10_mixes_7 : decode cX10_mixes 7 = .ok (.iconst 1, 1) := by decide +kernel
theorem dX10_mixes_8 : decode cX10_mixes 8 = .ok (.iadd, 1) := by decide +kernel
theorem dX10_mixes_9 : decode cX10_mixes 9 = .ok (.ldc 128, 2) := by decide +kernel
theorem dX10_mixes_11 : decode cX10_mixes 11 = .ok (.irem, 1) := by decide +kernel
theorem dX10_mixes_12 : decode cX10_mixes 12 = .ok (.ireturn, 1) := by decide +kernel
theorem dX10_signs_0 : decode cX10_signs 0 = .ok (.iconst 0, 1) := by decide +kernel
theorem dX10_signs_1 : decode cX10_signs 1 = .ok (.aload_n 0, 1) := by decide +kernel
theorem dX10_signs_2 : decode cX10_signs 2 = .ok (.getfield 26, 3) := by decide +kernel
theorem dX10_signs_5 : decode cX10_signs 5 = .ok (.iload_n 1, 1) := by decide +kernel
theorem dX10_signs_6 : decode cX10_signs 6 = .ok (.iaload, 1) := by decide +kernel
theorem dX10_signs_7 : decode cX10_signs 7 = .ok (.invokestatic 129, 3) := by decide +kernel
theorem dX10_signs_10 : decode cX10_signs 10 = .ok (.aload_n 0, 1) := by decide +kernel
theorem dX10_signs_11 : decode cX10_signs 11 = .ok (.getfield 29, 3) := by decide +kernel
theorem dX10_signs_14 : decode cX10_signs 14 = .ok (.iload_n 1, 1) := by decide +kernel
theorem dX10_signs_15 : decode cX10_signs 15 = .ok (.iaload, 1) := by decide +kernel
theorem dX10_signs_16 : decode cX10_signs 16 = .ok (.invokestatic 129, 3) := by decide +kernel
theorem dX10_signs_19 : decode cX10_signs 19 = .ok (.aload_n 0, 1) := by decide +kernel
theorem dX10_signs_20 : decode cX10_signs 20 = .ok (.getfield 32, 3) := by decide +kernel
theorem dX10_signs_23 : decode cX10_signs 23 = .ok (.iload_n 1, 1) := by decide +kernel
theorem dX10_signs_24 : decode cX10_signs 24 = .ok (.iaload, 1) := by decide +kernel
theorem dX10_signs_25 : decode cX10_signs 25 = .ok (.invokestatic 129, 3) := by decide +kernel
theorem dX10_signs_28 : decode cX10_signs 28 = .ok (.istore_n 2, 1) := by decide +kernel
theorem dX10_signs_29 : decode cX10_signs 29 = .ok (.iload_n 2, 1) := by decide +kernel
theorem dX10_signs_30 : decode cX10_signs 30 = .ok (.aload_n 0, 1) := by decide +kernel
theorem dX10_signs_31 : decode cX10_signs 31 = .ok (.getfield 35, 3) := by decide +kernel
theorem dX10_signs_34 : decode cX10_signs 34 = .ok (.iload_n 1, 1) := by decide +kernel
theorem dX10_signs_35 : decode cX10_signs 35 = .ok (.iaload, 1) := by decide +kernel
theorem dX10_signs_36 : decode cX10_signs 36 = .ok (.invokestatic 129, 3) := by decide +kernel
theorem dX10_signs_39 : decode cX10_signs 39 = .ok (.aload_n 0, 1) := by decide +kernel
theorem dX10_signs_40 : decode cX10_signs 40 = .ok (.getfield 38, 3) := by decide +kernel
theorem dX10_signs_43 : decode cX10_signs 43 = .ok (.iload_n 1, 1) := by decide +kernel
theorem dX10_signs_44 : decode cX10_signs 44 = .ok (.iaload, 1) := by decide +kernel
theorem dX10_signs_45 : decode cX10_signs 45 = .ok (.invokestatic 129, 3) := by decide +kernel
theorem dX10_signs_48 : decode cX10_signs 48 = .ok (.aload_n 0, 1) := by decide +kernel
theorem dX10_signs_49 : decode cX10_signs 49 = .ok (.getfield 41, 3) := by decide +kernel
theorem dX10_signs_52 : decode cX10_signs 52 = .ok (.iload_n 1, 1) := by decide +kernel
theorem dX10_signs_53 : decode cX10_signs 53 = .ok (.iaload, 1) := by decide +kernel
theorem dX10_signs_54 : decode cX10_signs 54 = .ok (.invokestatic 129, 3) := by decide +kernel
theorem dX10_signs_57 : decode cX10_signs 57 = .ok (.aload_n 0, 1) := by decide +kernel
theorem dX10_signs_58 : decode cX10_signs 58 = .ok (.getfield 44, 3) := by decide +kernel
theorem dX10_signs_61 : decode cX10_signs 61 = .ok (.iload_n 1, 1) := by decide +kernel
theorem dX10_signs_62 : decode cX10_signs 62 = .ok (.iaload, 1) := by decide +kernel
theorem dX10_signs_63 : decode cX10_signs 63 = .ok (.invokestatic 129, 3) := by decide +kernel
theorem dX10_signs_66 : decode cX10_signs 66 = .ok (.istore_n 2, 1) := by decide +kernel
theorem dX10_signs_67 : decode cX10_signs 67 = .ok (.bipush 31, 2) := by decide +kernel
theorem dX10_signs_69 : decode cX10_signs 69 = .ok (.iload_n 2, 1) := by decide +kernel
theorem dX10_signs_70 : decode cX10_signs 70 = .ok (.imul, 1) := by decide +kernel
theorem dX10_signs_71 : decode cX10_signs 71 = .ok (.sipush 7919, 3) := by decide +kernel
theorem dX10_signs_74 : decode cX10_signs 74 = .ok (.bipush 101, 2) := by decide +kernel
theorem dX10_signs_76 : decode cX10_signs 76 = .ok (.aload_n 0, 1) := by decide +kernel
theorem dX10_signs_77 : decode cX10_signs 77 = .ok (.getfield 29, 3) := by decide +kernel
theorem dX10_signs_80 : decode cX10_signs 80 = .ok (.iload_n 1, 1) := by decide +kernel
theorem dX10_signs_81 : decode cX10_signs 81 = .ok (.iaload, 1) := by decide +kernel
theorem dX10_signs_82 : decode cX10_signs 82 = .ok (.imul, 1) := by decide +kernel
theorem dX10_signs_83 : decode cX10_signs 83 = .ok (.bipush 17, 2) := by decide +kernel
theorem dX10_signs_85 : decode cX10_signs 85 = .ok (.aload_n 0, 1) := by decide +kernel
theorem dX10_signs_86 : decode cX10_signs 86 = .ok (.getfield 13, 3) := by decide +kernel
theorem dX10_signs_89 : decode cX10_signs 89 = .ok (.aload_n 0, 1) := by decide +kernel
theorem dX10_signs_90 : decode cX10_signs 90 = .ok (.getfield 29, 3) := by decide +kernel
theorem dX10_signs_93 : decode cX10_signs 93 = .ok (.iload_n 1, 1) := by decide +kernel
theorem dX10_signs_94 : decode cX10_signs 94 = .ok (.iaload, 1) := by decide +kernel
theorem dX10_signs_95 : decode cX10_signs 95 = .ok (.iaload, 1) := by decide +kernel
theorem dX10_signs_96 : decode cX10_signs 96 = .ok (.imul, 1) := by decide +kernel
theorem dX10_signs_97 : decode cX10_signs 97 = .ok (.iadd, 1) := by decide +kernel
theorem dX10_signs_98 : decode cX10_signs 98 = .ok (.imul, 1) := by decide +kernel
theorem dX10_signs_99 : decode cX10_signs 99 = .ok (.iadd, 1) := by decide +kernel
theorem dX10_signs_100 : decode cX10_signs 100 = .ok (.ldc 128, 2) := by decide +kernel
theorem dX10_signs_102 : decode cX10_signs 102 = .ok (.irem, 1) := by decide +kernel
theorem dX10_signs_103 : decode cX10_signs 103 = .ok (.ireturn, 1) := by decide +kernel
theorem dX10_makes_0 : decode cX10_makes 0 = .ok (.aload_n 0, 1) := by decide +kernel
theorem dX10_makes_1 : decode cX10_makes 1 = .ok (.getfield 26, 3) := by decide +kernel
theorem dX10_makes_4 : decode cX10_makes 4 = .ok (.aload_n 0, 1) := by decide +kernel
theorem dX10_makes_5 : decode cX10_makes 5 = .ok (.getfield 112, 3) := by decide +kernel
theorem dX10_makes_8 : decode cX10_makes 8 = .ok (.iload_n 1, 1) := by decide +kernel
theorem dX10_makes_9 : decode cX10_makes 9 = .ok (.iastore, 1) := by decide +kernel
theorem dX10_makes_10 : decode cX10_makes 10 = .ok (.aload_n 0, 1) := by decide +kernel
theorem dX10_makes_11 : decode cX10_makes 11 = .ok (.getfield 29, 3) := by decide +kernel
theorem dX10_makes_14 : decode cX10_makes 14 = .ok (.aload_n 0, 1) := by decide +kernel
theorem dX10_makes_15 : decode cX10_makes 15 = .ok (.getfield 112, 3) := by decide +kernel
theorem dX10_makes_18 : decode cX10_makes 18 = .ok (.iload_n 2, 1) := by decide +kernel
theorem dX10_makes_19 : decode cX10_makes 19 = .ok (.iastore, 1) := by decide +kernel
theorem dX10_makes_20 : decode cX10_makes 20 = .ok (.aload_n 0, 1) := by decide +kernel
theorem dX10_makes_21 : decode cX10_makes 21 = .ok (.getfield 32, 3) := by decide +kernel
theorem dX10_makes_24 : decode cX10_makes 24 = .ok (.aload_n 0, 1) := by decide +kernel
theorem dX10_makes_25 : decode cX10_makes 25 = .ok (.getfield 112, 3) := by decide +kernel
theorem dX10_makes_28 : decode cX10_makes 28 = .ok (.iload_n 3, 1) := by decide +kernel
theorem dX10_makes_29 : decode cX10_makes 29 = .ok (.iastore, 1) := by decide +kernel
theorem dX10_makes_30 : decode cX10_makes 30 = .ok (.aload_n 0, 1) := by decide +kernel
theorem dX10_makes_31 : decode cX10_makes 31 = .ok (.getfield 35, 3) := by decide +kernel
theorem dX10_makes_34 : decode cX10_makes 34 = .ok (.aload_n 0, 1) := by decide +kernel
theorem dX10_makes_35 : decode cX10_makes 35 = .ok (.getfield 112, 3) := by decide +kernel
theorem dX10_makes_38 : decode cX10_makes 38 = .ok (.iload 4, 2) := by decide +kernel
theorem dX10_makes_40 : decode cX10_makes 40 = .ok (.iastore, 1) := by decide +kernel
theorem dX10_makes_41 : decode cX10_makes 41 = .ok (.aload_n 0, 1) := by decide +kernel
theorem dX10_makes_42 : decode cX10_makes 42 = .ok (.getfield 38, 3) := by decide +kernel
theorem dX10_makes_45 : decode cX10_makes 45 = .ok (.aload_n 0, 1) := by decide +kernel
theorem dX10_makes_46 : decode cX10_makes 46 = .ok (.getfield 112, 3) := by decide +kernel
theorem dX10_makes_49 : decode cX10_makes 49 = .ok (.iload 5, 2) := by decide +kernel
theorem dX10_makes_51 : decode cX10_makes 51 = .ok (.iastore, 1) := by decide +kernel
theorem dX10_makes_52 : decode cX10_makes 52 = .ok (.aload_n 0, 1) := by decide +kernel
theorem dX10_makes_53 : decode cX10_makes 53 = .ok (.getfield 41, 3) := by decide +kernel
theorem dX10_makes_56 : decode cX10_makes 56 = .ok (.aload_n 0, 1) := by decide +kernel
theorem dX10_makes_57 : decode cX10_makes 57 = .ok (.getfield 112, 3) := by decide +kernel
theorem dX10_makes_60 : decode cX10_makes 60 = .ok (.iload 6, 2) := by decide +kernel
theorem dX10_makes_62 : decode cX10_makes 62 = .ok (.iastore, 1) := by decide +kernel
theorem dX10_makes_63 : decode cX10_makes 63 = .ok (.aload_n 0, 1) := by decide +kernel
theorem dX10_makes_64 : decode cX10_makes 64 = .ok (.getfield 44, 3) := by decide +kernel
theorem dX10_makes_67 : decode cX10_makes 67 = .ok (.aload_n 0, 1) := by decide +kernel
theorem dX10_makes_68 : decode cX10_makes 68 = .ok (.getfield 112, 3) := by decide +kernel
theorem dX10_makes_71 : decode cX10_makes 71 = .ok (.aload_n 0, 1) := by decide +kernel
theorem dX10_makes_72 : decode cX10_makes 72 = .ok (.getfield 122, 3) := by decide +kernel
theorem dX10_makes_75 : decode cX10_makes 75 = .ok (.iload 7, 2) := by decide +kernel
theorem dX10_makes_77 : decode cX10_makes 77 = .ok (.iadd, 1) := by decide +kernel
theorem dX10_makes_78 : decode cX10_makes 78 = .ok (.iastore, 1) := by decide +kernel
theorem dX10_makes_79 : decode cX10_makes 79 = .ok (.aload_n 0, 1) := by decide +kernel
theorem dX10_makes_80 : decode cX10_makes 80 = .ok (.getfield 47, 3) := by decide +kernel
theorem dX10_makes_83 : decode cX10_makes 83 = .ok (.aload_n 0, 1) := by decide +kernel
theorem dX10_makes_84 : decode cX10_makes 84 = .ok (.getfield 112, 3) := by decide +kernel
theorem dX10_makes_87 : decode cX10_makes 87 = .ok (.aload_n 0, 1) := by decide +kernel
theorem dX10_makes_88 : decode cX10_makes 88 = .ok (.aload_n 0, 1) := by decide +kernel
theorem dX10_makes_89 : decode cX10_makes 89 = .ok (.getfield 112, 3) := by decide +kernel
theorem dX10_makes_92 : decode cX10_makes 92 = .ok (.invokevirtual 133, 3) := by decide +kernel
theorem dX10_makes_95 : decode cX10_makes 95 = .ok (.iastore, 1) := by decide +kernel
theorem dX10_makes_96 : decode cX10_makes 96 = .ok (.aload_n 0, 1) := by decide +kernel
theorem dX10_makes_97 : decode cX10_makes 97 = .ok (.dup, 1) := by decide +kernel
theorem dX10_makes_98 : decode cX10_makes 98 = .ok (.getfield 112, 3) := by decide +kernel
theorem dX10_makes_101 : decode cX10_makes 101 = .ok (.iconst 1, 1) := by decide +kernel
theorem dX10_makes_102 : decode cX10_makes 102 = .ok (.iadd, 1) := by decide +kernel
theorem dX10_makes_103 : decode cX10_makes 103 = .ok (.putfield 112, 3) := by decide +kernel
theorem dX10_makes_106 : decode cX10_makes 106 = .ok (.aload_n 0, 1) := by decide +kernel
theorem dX10_makes_107 : decode cX10_makes 107 = .ok (.getfield 112, 3) := by decide +kernel
theorem dX10_makes_110 : decode cX10_makes 110 = .ok (.iconst 1, 1) := by decide +kernel
theorem dX10_makes_111 : decode cX10_makes 111 = .ok (.isub, 1) := by decide +kernel
theorem dX10_makes_112 : decode cX10_makes 112 = .ok (.ireturn, 1) := by decide +kernel
theorem dX10_areDays_0 : decode cX10_areDays 0 = .ok (.iload_n 0, 1) := by decide +kernel
theorem dX10_areDays_1 : decode cX10_areDays 1 = .ok (.iconst 0, 1) := by decide +kernel
theorem dX10_areDays_2 : decode cX10_areDays 2 = .ok (.sipush 1000, 3) := by decide +kernel
theorem dX10_areDays_5 : decode cX10_areDays 5 = .ok (.invokestatic 108, 3) := by decide +kernel
theorem dX10_areDays_8 : decode cX10_areDays 8 = .ok (.ireturn, 1) := by decide +kernel
theorem dX10_grant_0 : decode cX10_grant 0 = .ok (.aload_n 0, 1) := by decide +kernel
theorem dX10_grant_1 : decode cX10_grant 1 = .ok (.iload_n 1, 1) := by decide +kernel
theorem dX10_grant_2 : decode cX10_grant 2 = .ok (.invokevirtual 115, 3) := by decide +kernel
theorem dX10_grant_5 : decode cX10_grant 5 = .ok (.ifCond .eq 15, 3) := by decide +kernel
theorem dX10_grant_8 : decode cX10_grant 8 = .ok (.aload_n 0, 1) := by decide +kernel
theorem dX10_grant_9 : decode cX10_grant 9 = .ok (.iload_n 2, 1) := by decide +kernel
theorem dX10_grant_10 : decode cX10_grant 10 = .ok (.invokevirtual 115, 3) := by decide +kernel
theorem dX10_grant_13 : decode cX10_grant 13 = .ok (.ifCond .eq 7, 3) := by decide +kernel
theorem dX10_grant_16 : decode cX10_grant 16 = .ok (.iconst 1, 1) := by decide +kernel
theorem dX10_grant_17 : decode cX10_grant 17 = .ok (.goto 4, 3) := by decide +kernel
theorem dX10_grant_20 : decode cX10_grant 20 = .ok (.iconst 0, 1) := by decide +kernel
theorem dX10_grant_21 : decode cX10_grant 21 = .ok (.istore 6, 2) := by decide +kernel
theorem dX10_grant_23 : decode cX10_grant 23 = .ok (.iload_n 3, 1) := by decide +kernel
theorem dX10_grant_24 : decode cX10_grant 24 = .ok (.iload 4, 2) := by decide +kernel
theorem dX10_grant_26 : decode cX10_grant 26 = .ok (.invokestatic 137, 3) := by decide +kernel
theorem dX10_grant_29 : decode cX10_grant 29 = .ok (.ifCond .eq 15, 3) := by decide +kernel
theorem dX10_grant_32 : decode cX10_grant 32 = .ok (.iload 5, 2) := by decide +kernel
theorem dX10_grant_34 : decode cX10_grant 34 = .ok (.invokestatic 141, 3) := by decide +kernel
theorem dX10_grant_37 : decode cX10_grant 37 = .ok (.ifCond .eq 7, 3) := by decide +kernel
theorem dX10_grant_40 : decode cX10_grant 40 = .ok (.iconst 1, 1) := by decide +kernel
theorem dX10_grant_41 : decode cX10_grant 41 = .ok (.goto 4, 3) := by decide +kernel
theorem dX10_grant_44 : decode cX10_grant 44 = .ok (.iconst 0, 1) := by decide +kernel
theorem dX10_grant_45 : decode cX10_grant 45 = .ok (.istore 7, 2) := by decide +kernel
theorem dX10_grant_47 : decode cX10_grant 47 = .ok (.aload_n 0, 1) := by decide +kernel
theorem dX10_grant_48 : decode cX10_grant 48 = .ok (.iload 6, 2) := by decide +kernel
theorem dX10_grant_50 : decode cX10_grant 50 = .ok (.ifCond .ne 7, 3) := by decide +kernel
theorem dX10_grant_53 : decode cX10_grant 53 = .ok (.iconst 1, 1) := by decide +kernel
theorem dX10_grant_54 : decode cX10_grant 54 = .ok (.goto 26, 3) := by decide +kernel
theorem dX10_grant_57 : decode cX10_grant 57 = .ok (.iload 7, 2) := by decide +kernel
theorem dX10_grant_59 : decode cX10_grant 59 = .ok (.ifCond .ne 7, 3) := by decide +kernel
theorem dX10_grant_62 : decode cX10_grant 62 = .ok (.iconst 2, 1) := by decide +kernel
theorem dX10_grant_63 : decode cX10_grant 63 = .ok (.goto 17, 3) := by decide +kernel
theorem dX10_grant_66 : decode cX10_grant 66 = .ok (.aload_n 0, 1) := by decide +kernel
theorem dX10_grant_67 : decode cX10_grant 67 = .ok (.getfield 112, 3) := by decide +kernel
theorem dX10_grant_70 : decode cX10_grant 70 = .ok (.bipush 50, 2) := by decide +kernel
theorem dX10_grant_72 : decode cX10_grant 72 = .ok (.if_icmp .ne 7, 3) := by decide +kernel
theorem dX10_grant_75 : decode cX10_grant 75 = .ok (.iconst 3, 1) := by decide +kernel
theorem dX10_grant_76 : decode cX10_grant 76 = .ok (.goto 4, 3) := by decide +kernel
theorem dX10_grant_79 : decode cX10_grant 79 = .ok (.iconst 0, 1) := by decide +kernel
theorem dX10_grant_80 : decode cX10_grant 80 = .ok (.invokevirtual 119, 3) := by decide +kernel
theorem dX10_grant_83 : decode cX10_grant 83 = .ok (.ifCond .eq 19, 3) := by decide +kernel
theorem dX10_grant_86 : decode cX10_grant 86 = .ok (.aload_n 0, 1) := by decide +kernel
theorem dX10_grant_87 : decode cX10_grant 87 = .ok (.iconst 0, 1) := by decide +kernel
theorem dX10_grant_88 : decode cX10_grant 88 = .ok (.iload_n 1, 1) := by decide +kernel
theorem dX10_grant_89 : decode cX10_grant 89 = .ok (.iload_n 2, 1) := by decide +kernel
theorem dX10_grant_90 : decode cX10_grant 90 = .ok (.iload_n 3, 1) := by decide +kernel
theorem dX10_grant_91 : decode cX10_grant 91 = .ok (.iload 4, 2) := by decide +kernel
theorem dX10_grant_93 : decode cX10_grant 93 = .ok (.iconst 0, 1) := by decide +kernel
theorem dX10_grant_94 : decode cX10_grant 94 = .ok (.iload 5, 2) := by decide +kernel
theorem dX10_grant_96 : decode cX10_grant 96 = .ok (.invokevirtual 144, 3) := by decide +kernel
theorem dX10_grant_99 : decode cX10_grant 99 = .ok (.goto 4, 3) := by decide +kernel
theorem dX10_grant_102 : decode cX10_grant 102 = .ok (.iconst 0, 1) := by decide +kernel
theorem dX10_grant_103 : decode cX10_grant 103 = .ok (.ireturn, 1) := by decide +kernel
theorem dX10_origin_0 : decode cX10_origin 0 = .ok (.aload_n 0, 1) := by decide +kernel
theorem dX10_origin_1 : decode cX10_origin 1 = .ok (.iload_n 1, 1) := by decide +kernel
theorem dX10_origin_2 : decode cX10_origin 2 = .ok (.invokevirtual 115, 3) := by decide +kernel
theorem dX10_origin_5 : decode cX10_origin 5 = .ok (.ifCond .eq 14, 3) := by decide +kernel
theorem dX10_origin_8 : decode cX10_origin 8 = .ok (.iload_n 2, 1) := by decide +kernel
theorem dX10_origin_9 : decode cX10_origin 9 = .ok (.invokestatic 125, 3) := by decide +kernel
theorem dX10_origin_12 : decode cX10_origin 12 = .ok (.ifCond .eq 7, 3) := by decide +kernel
theorem dX10_origin_15 : decode cX10_origin 15 = .ok (.iconst 1, 1) := by decide +kernel
theorem dX10_origin_16 : decode cX10_origin 16 = .ok (.goto 4, 3) := by decide +kernel
theorem dX10_origin_19 : decode cX10_origin 19 = .ok (.iconst 0, 1) := by decide +kernel
theorem dX10_origin_20 : decode cX10_origin 20 = .ok (.istore 7, 2) := by decide +kernel
theorem dX10_origin_22 : decode cX10_origin 22 = .ok (.iload_n 3, 1) := by decide +kernel
theorem dX10_origin_23 : decode cX10_origin 23 = .ok (.iload 4, 2) := by decide +kernel
theorem dX10_origin_25 : decode cX10_origin 25 = .ok (.invokestatic 137, 3) := by decide +kernel
theorem dX10_origin_28 : decode cX10_origin 28 = .ok (.ifCond .eq 26, 3) := by decide +kernel
theorem dX10_origin_31 : decode cX10_origin 31 = .ok (.iload 5, 2) := by decide +kernel
theorem dX10_origin_33 : decode cX10_origin 33 = .ok (.iconst 0, 1) := by decide +kernel
theorem dX10_origin_34 : decode cX10_origin 34 = .ok (.bipush 8, 2) := by decide +kernel
theorem dX10_origin_36 : decode cX10_origin 36 = .ok (.invokestatic 108, 3) := by decide +kernel
theorem dX10_origin_39 : decode cX10_origin 39 = .ok (.ifCond .eq 15, 3) := by decide +kernel
theorem dX10_origin_42 : decode cX10_origin 42 = .ok (.iload 6, 2) := by decide +kernel
theorem dX10_origin_44 : decode cX10_origin 44 = .ok (.invokestatic 141, 3) := by decide +kernel
theorem dX10_origin_47 : decode cX10_origin 47 = .ok (.ifCond .eq 7, 3) := by decide +kernel
theorem dX10_origin_50 : decode cX10_origin 50 = .ok (.iconst 1, 1) := by decide +kernel
theorem dX10_origin_51 : decode cX10_origin 51 = .ok (.goto 4, 3) := by decide +kernel
theorem dX10_origin_54 : decode cX10_origin 54 = .ok (.iconst 0, 1) := by decide +kernel
theorem dX10_origin_55 : decode cX10_origin 55 = .ok (.istore 8, 2) := by decide +kernel
theorem dX10_origin_57 : decode cX10_origin 57 = .ok (.aload_n 0, 1) := by decide +kernel
theorem dX10_origin_58 : decode cX10_origin 58 = .ok (.iload 7, 2) := by decide +kernel
theorem dX10_origin_60 : decode cX10_origin 60 = .ok (.ifCond .ne 7, 3) := by decide +kernel
theorem dX10_origin_63 : decode cX10_origin 63 = .ok (.iconst 1, 1) := by decide +kernel
theorem dX10_origin_64 : decode cX10_origin 64 = .ok (.goto 26, 3) := by decide +kernel
theorem dX10_origin_67 : decode cX10_origin 67 = .ok (.iload 8, 2) := by decide +kernel
theorem dX10_origin_69 : decode cX10_origin 69 = .ok (.ifCond .ne 7, 3) := by decide +kernel
theorem dX10_origin_72 : decode cX10_origin 72 = .ok (.iconst 2, 1) := by decide +kernel
theorem dX10_origin_73 : decode cX10_origin 73 = .ok (.goto 17, 3) := by decide +kernel
theorem dX10_origin_76 : decode cX10_origin 76 = .ok (.aload_n 0, 1) := by decide +kernel
theorem dX10_origin_77 : decode cX10_origin 77 = .ok (.getfield 112, 3) := by decide +kernel
theorem dX10_origin_80 : decode cX10_origin 80 = .ok (.bipush 50, 2) := by decide +kernel
theorem dX10_origin_82 : decode cX10_origin 82 = .ok (.if_icmp .ne 7, 3) := by decide +kernel
theorem dX10_origin_85 : decode cX10_origin 85 = .ok (.iconst 3, 1) := by decide +kernel
theorem dX10_origin_86 : decode cX10_origin 86 = .ok (.goto 4, 3) := by decide +kernel
theorem dX10_origin_89 : decode cX10_origin 89 = .ok (.iconst 0, 1) := by decide +kernel
theorem dX10_origin_90 : decode cX10_origin 90 = .ok (.invokevirtual 119, 3) := by decide +kernel
theorem dX10_origin_93 : decode cX10_origin 93 = .ok (.ifCond .eq 20, 3) := by decide +kernel
theorem dX10_origin_96 : decode cX10_origin 96 = .ok (.aload_n 0, 1) := by decide +kernel
theorem dX10_origin_97 : decode cX10_origin 97 = .ok (.iconst 1, 1) := by decide +kernel
theorem dX10_origin_98 : decode cX10_origin 98 = .ok (.iload_n 1, 1) := by decide +kernel
theorem dX10_origin_99 : decode cX10_origin 99 = .ok (.iload_n 2, 1) := by decide +kernel
theorem dX10_origin_100 : decode cX10_origin 100 = .ok (.iload_n 3, 1) := by decide +kernel
theorem dX10_origin_101 : decode cX10_origin 101 = .ok (.iload 4, 2) := by decide +kernel
theorem dX10_origin_103 : decode cX10_origin 103 = .ok (.iload 5, 2) := by decide +kernel
theorem dX10_origin_105 : decode cX10_origin 105 = .ok (.iload 6, 2) := by decide +kernel
theorem dX10_origin_107 : decode cX10_origin 107 = .ok (.invokevirtual 144, 3) := by decide +kernel
theorem dX10_origin_110 : decode cX10_origin 110 = .ok (.goto 4, 3) := by decide +kernel
theorem dX10_origin_113 : decode cX10_origin 113 = .ok (.iconst 0, 1) := by decide +kernel
theorem dX10_origin_114 : decode cX10_origin 114 = .ok (.ireturn, 1) := by decide +kernel
theorem dX10_vouch_0 : decode cX10_vouch 0 = .ok (.aload_n 0, 1) := by decide +kernel
theorem dX10_vouch_1 : decode cX10_vouch 1 = .ok (.iload_n 1, 1) := by decide +kernel
theorem dX10_vouch_2 : decode cX10_vouch 2 = .ok (.invokevirtual 115, 3) := by decide +kernel
theorem dX10_vouch_5 : decode cX10_vouch 5 = .ok (.ifCond .eq 14, 3) := by decide +kernel
theorem dX10_vouch_8 : decode cX10_vouch 8 = .ok (.iload_n 2, 1) := by decide +kernel
theorem dX10_vouch_9 : decode cX10_vouch 9 = .ok (.invokestatic 125, 3) := by decide +kernel
theorem dX10_vouch_12 : decode cX10_vouch 12 = .ok (.ifCond .eq 7, 3) := by decide +kernel
theorem dX10_vouch_15 : decode cX10_vouch 15 = .ok (.iconst 1, 1) := by decide +kernel
theorem dX10_vouch_16 : decode cX10_vouch 16 = .ok (.goto 4, 3) := by decide +kernel
theorem dX10_vouch_19 : decode cX10_vouch 19 = .ok (.iconst 0, 1) := by decide +kernel
theorem dX10_vouch_20 : decode cX10_vouch 20 = .ok (.istore 5, 2) := by decide +kernel
theorem dX10_vouch_22 : decode cX10_vouch 22 = .ok (.iload_n 3, 1) := by decide +kernel
theorem dX10_vouch_23 : decode cX10_vouch 23 = .ok (.iconst 0, 1) := by decide +kernel
theorem dX10_vouch_24 : decode cX10_vouch 24 = .ok (.sipush 1023, 3) := by decide +kernel
theorem dX10_vouch_27 : decode cX10_vouch 27 = .ok (.invokestatic 108, 3) := by decide +kernel
theorem dX10_vouch_30 : decode cX10_vouch 30 = .ok (.ifCond .eq 15, 3) := by decide +kernel
theorem dX10_vouch_33 : decode cX10_vouch 33 = .ok (.iload 4, 2) := by decide +kernel
theorem dX10_vouch_35 : decode cX10_vouch 35 = .ok (.invokestatic 141, 3) := by decide +kernel
theorem dX10_vouch_38 : decode cX10_vouch 38 = .ok (.ifCond .eq 7, 3) := by decide +kernel
theorem dX10_vouch_41 : decode cX10_vouch 41 = .ok (.iconst 1, 1) := by decide +kernel
theorem dX10_vouch_42 : decode cX10_vouch 42 = .ok (.goto 4, 3) := by decide +kernel
theorem dX10_vouch_45 : decode cX10_vouch 45 = .ok (.iconst 0, 1) := by decide +kernel
theorem dX10_vouch_46 : decode cX10_vouch 46 = .ok (.istore 6, 2) := by decide +kernel
theorem dX10_vouch_48 : decode cX10_vouch 48 = .ok (.aload_n 0, 1) := by decide +kernel
theorem dX10_vouch_49 : decode cX10_vouch 49 = .ok (.iload 5, 2) := by decide +kernel
theorem dX10_vouch_51 : decode cX10_vouch 51 = .ok (.ifCond .ne 7, 3) := by decide +kernel
theorem dX10_vouch_54 : decode cX10_vouch 54 = .ok (.iconst 1, 1) := by decide +kernel
theorem dX10_vouch_55 : decode cX10_vouch 55 = .ok (.goto 26, 3) := by decide +kernel
theorem dX10_vouch_58 : decode cX10_vouch 58 = .ok (.iload 6, 2) := by decide +kernel
theorem dX10_vouch_60 : decode cX10_vouch 60 = .ok (.ifCond .ne 7, 3) := by decide +kernel
theorem dX10_vouch_63 : decode cX10_vouch 63 = .ok (.iconst 2, 1) := by decide +kernel
theorem dX10_vouch_64 : decode cX10_vouch 64 = .ok (.goto 17, 3) := by decide +kernel
theorem dX10_vouch_67 : decode cX10_vouch 67 = .ok (.aload_n 0, 1) := by decide +kernel
theorem dX10_vouch_68 : decode cX10_vouch 68 = .ok (.getfield 112, 3) := by decide +kernel
theorem dX10_vouch_71 : decode cX10_vouch 71 = .ok (.bipush 50, 2) := by decide +kernel
theorem dX10_vouch_73 : decode cX10_vouch 73 = .ok (.if_icmp .ne 7, 3) := by decide +kernel
theorem dX10_vouch_76 : decode cX10_vouch 76 = .ok (.iconst 3, 1) := by decide +kernel
theorem dX10_vouch_77 : decode cX10_vouch 77 = .ok (.goto 4, 3) := by decide +kernel
theorem dX10_vouch_80 : decode cX10_vouch 80 = .ok (.iconst 0, 1) := by decide +kernel
theorem dX10_vouch_81 : decode cX10_vouch 81 = .ok (.invokevirtual 119, 3) := by decide +kernel
theorem dX10_vouch_84 : decode cX10_vouch 84 = .ok (.ifCond .eq 18, 3) := by decide +kernel
theorem dX10_vouch_87 : decode cX10_vouch 87 = .ok (.aload_n 0, 1) := by decide +kernel
theorem dX10_vouch_88 : decode cX10_vouch 88 = .ok (.iconst 2, 1) := by decide +kernel
theorem dX10_vouch_89 : decode cX10_vouch 89 = .ok (.iload_n 1, 1) := by decide +kernel
theorem dX10_vouch_90 : decode cX10_vouch 90 = .ok (.iload_n 2, 1) := by decide +kernel
theorem dX10_vouch_91 : decode cX10_vouch 91 = .ok (.iconst 0, 1) := by decide +kernel
theorem dX10_vouch_92 : decode cX10_vouch 92 = .ok (.iconst 0, 1) := by decide +kernel
theorem dX10_vouch_93 : decode cX10_vouch 93 = .ok (.iload_n 3, 1) := by decide +kernel
theorem dX10_vouch_94 : decode cX10_vouch 94 = .ok (.iload 4, 2) := by decide +kernel
theorem dX10_vouch_96 : decode cX10_vouch 96 = .ok (.invokevirtual 144, 3) := by decide +kernel
theorem dX10_vouch_99 : decode cX10_vouch 99 = .ok (.goto 4, 3) := by decide +kernel
theorem dX10_vouch_102 : decode cX10_vouch 102 = .ok (.iconst 0, 1) := by decide +kernel
theorem dX10_vouch_103 : decode cX10_vouch 103 = .ok (.ireturn, 1) := by decide +kernel
theorem dX10_revoke_0 : decode cX10_revoke 0 = .ok (.aload_n 0, 1) := by decide +kernel
theorem dX10_revoke_1 : decode cX10_revoke 1 = .ok (.aload_n 0, 1) := by decide +kernel
theorem dX10_revoke_2 : decode cX10_revoke 2 = .ok (.iload_n 1, 1) := by decide +kernel
theorem dX10_revoke_3 : decode cX10_revoke 3 = .ok (.invokevirtual 148, 3) := by decide +kernel
theorem dX10_revoke_6 : decode cX10_revoke 6 = .ok (.ifCond .eq 7, 3) := by decide +kernel
theorem dX10_revoke_9 : decode cX10_revoke 9 = .ok (.iconst 0, 1) := by decide +kernel
theorem dX10_revoke_10 : decode cX10_revoke 10 = .ok (.goto 4, 3) := by decide +kernel
theorem dX10_revoke_13 : decode cX10_revoke 13 = .ok (.iconst 1, 1) := by decide +kernel
theorem dX10_revoke_14 : decode cX10_revoke 14 = .ok (.invokevirtual 119, 3) := by decide +kernel
theorem dX10_revoke_17 : decode cX10_revoke 17 = .ok (.ifCond .eq 12, 3) := by decide +kernel
theorem dX10_revoke_20 : decode cX10_revoke 20 = .ok (.aload_n 0, 1) := by decide +kernel
theorem dX10_revoke_21 : decode cX10_revoke 21 = .ok (.getfield 50, 3) := by decide +kernel
theorem dX10_revoke_24 : decode cX10_revoke 24 = .ok (.iload_n 1, 1) := by decide +kernel
theorem dX10_revoke_25 : decode cX10_revoke 25 = .ok (.baload, 1) := by decide +kernel
theorem dX10_revoke_26 : decode cX10_revoke 26 = .ok (.ifCond .eq 5, 3) := by decide +kernel
theorem dX10_revoke_29 : decode cX10_revoke 29 = .ok (.iconst 0, 1) := by decide +kernel
theorem dX10_revoke_30 : decode cX10_revoke 30 = .ok (.ireturn, 1) := by decide +kernel
theorem dX10_revoke_31 : decode cX10_revoke 31 = .ok (.aload_n 0, 1) := by decide +kernel
theorem dX10_revoke_32 : decode cX10_revoke 32 = .ok (.getfield 50, 3) := by decide +kernel
theorem dX10_revoke_35 : decode cX10_revoke 35 = .ok (.iload_n 1, 1) := by decide +kernel
theorem dX10_revoke_36 : decode cX10_revoke 36 = .ok (.iconst 1, 1) := by decide +kernel
theorem dX10_revoke_37 : decode cX10_revoke 37 = .ok (.bastore, 1) := by decide +kernel
theorem dX10_revoke_38 : decode cX10_revoke 38 = .ok (.iconst 1, 1) := by decide +kernel
theorem dX10_revoke_39 : decode cX10_revoke 39 = .ok (.ireturn, 1) := by decide +kernel
theorem dX10_alter_0 : decode cX10_alter 0 = .ok (.aload_n 0, 1) := by decide +kernel
theorem dX10_alter_1 : decode cX10_alter 1 = .ok (.iload_n 1, 1) := by decide +kernel
theorem dX10_alter_2 : decode cX10_alter 2 = .ok (.invokevirtual 148, 3) := by decide +kernel
theorem dX10_alter_5 : decode cX10_alter 5 = .ok (.istore_n 3, 1) := by decide +kernel
theorem dX10_alter_6 : decode cX10_alter 6 = .ok (.iload_n 3, 1) := by decide +kernel
theorem dX10_alter_7 : decode cX10_alter 7 = .ok (.ifCond .eq 16, 3) := by decide +kernel
theorem dX10_alter_10 : decode cX10_alter 10 = .ok (.aload_n 0, 1) := by decide +kernel
theorem dX10_alter_11 : decode cX10_alter 11 = .ok (.getfield 26, 3) := by decide +kernel
theorem dX10_alter_14 : decode cX10_alter 14 = .ok (.iload_n 1, 1) := by decide +kernel
theorem dX10_alter_15 : decode cX10_alter 15 = .ok (.iaload, 1) := by decide +kernel
theorem dX10_alter_16 : decode cX10_alter 16 = .ok (.ifCond .ne 7, 3) := by decide +kernel
theorem dX10_alter_19 : decode cX10_alter 19 = .ok (.iconst 1, 1) := by decide +kernel
theorem dX10_alter_20 : decode cX10_alter 20 = .ok (.goto 4, 3) := by decide +kernel
theorem dX10_alter_23 : decode cX10_alter 23 = .ok (.iconst 0, 1) := by decide +kernel
theorem dX10_alter_24 : decode cX10_alter 24 = .ok (.istore 4, 2) := by decide +kernel
theorem dX10_alter_26 : decode cX10_alter 26 = .ok (.iload_n 3, 1) := by decide +kernel
theorem dX10_alter_27 : decode cX10_alter 27 = .ok (.ifCond .eq 33, 3) := by decide +kernel
theorem dX10_alter_30 : decode cX10_alter 30 = .ok (.iload_n 2, 1) := by decide +kernel
theorem dX10_alter_31 : decode cX10_alter 31 = .ok (.iconst 0, 1) := by decide +kernel
theorem dX10_alter_32 : decode cX10_alter 32 = .ok (.aload_n 0, 1) := by decide +kernel
theorem dX10_alter_33 : decode cX10_alter 33 = .ok (.getfield 26, 3) := by decide +kernel
theorem dX10_alter_36 : decode cX10_alter 36 = .ok (.iload_n 1, 1) := by decide +kernel
theorem dX10_alter_37 : decode cX10_alter 37 = .ok (.iaload, 1) := by decide +kernel
theorem dX10_alter_38 : decode cX10_alter 38 = .ok (.iconst 1, 1) := by decide +kernel
theorem dX10_alter_39 : decode cX10_alter 39 = .ok (.if_icmp .ne 8, 3) := by decide +kernel
theorem dX10_alter_42 : decode cX10_alter 42 = .ok (.bipush 8, 2) := by decide +kernel
theorem dX10_alter_44 : decode cX10_alter 44 = .ok (.goto 6, 3) := by decide +kernel
theorem dX10_alter_47 : decode cX10_alter 47 = .ok (.sipush 1023, 3) := by decide +kernel
theorem dX10_alter_50 : decode cX10_alter 50 = .ok (.invokestatic 108, 3) := by decide +kernel
theorem dX10_alter_53 : decode cX10_alter 53 = .ok (.ifCond .eq 7, 3) := by decide +kernel
theorem dX10_alter_56 : decode cX10_alter 56 = .ok (.iconst 1, 1) := by decide +kernel
theorem dX10_alter_57 : decode cX10_alter 57 = .ok (.goto 4, 3) := by decide +kernel
theorem dX10_alter_60 : decode cX10_alter 60 = .ok (.iconst 0, 1) := by decide +kernel
theorem dX10_alter_61 : decode cX10_alter 61 = .ok (.istore 5, 2) := by decide +kernel
theorem dX10_alter_63 : decode cX10_alter 63 = .ok (.aload_n 0, 1) := by decide +kernel
theorem dX10_alter_64 : decode cX10_alter 64 = .ok (.iload_n 3, 1) := by decide +kernel
theorem dX10_alter_65 : decode cX10_alter 65 = .ok (.ifCond .ne 7, 3) := by decide +kernel
theorem dX10_alter_68 : decode cX10_alter 68 = .ok (.iconst 1, 1) := by decide +kernel
theorem dX10_alter_69 : decode cX10_alter 69 = .ok (.goto 22, 3) := by decide +kernel
theorem dX10_alter_72 : decode cX10_alter 72 = .ok (.iload 4, 2) := by decide +kernel
theorem dX10_alter_74 : decode cX10_alter 74 = .ok (.ifCond .eq 7, 3) := by decide +kernel
theorem dX10_alter_77 : decode cX10_alter 77 = .ok (.iconst 2, 1) := by decide +kernel
theorem dX10_alter_78 : decode cX10_alter 78 = .ok (.goto 13, 3) := by decide +kernel
theorem dX10_alter_81 : decode cX10_alter 81 = .ok (.iload 5, 2) := by decide +kernel
theorem dX10_alter_83 : decode cX10_alter 83 = .ok (.ifCond .ne 7, 3) := by decide +kernel
theorem dX10_alter_86 : decode cX10_alter 86 = .ok (.iconst 3, 1) := by decide +kernel
theorem dX10_alter_87 : decode cX10_alter 87 = .ok (.goto 4, 3) := by decide +kernel
theorem dX10_alter_90 : decode cX10_alter 90 = .ok (.iconst 0, 1) := by decide +kernel
theorem dX10_alter_91 : decode cX10_alter 91 = .ok (.invokevirtual 119, 3) := by decide +kernel
theorem dX10_alter_94 : decode cX10_alter 94 = .ok (.ifCond .ne 5, 3) := by decide +kernel
theorem dX10_alter_97 : decode cX10_alter 97 = .ok (.iconst 0, 1) := by decide +kernel
theorem dX10_alter_98 : decode cX10_alter 98 = .ok (.ireturn, 1) := by decide +kernel
theorem dX10_alter_99 : decode cX10_alter 99 = .ok (.aload_n 0, 1) := by decide +kernel
theorem dX10_alter_100 : decode cX10_alter 100 = .ok (.getfield 41, 3) := by decide +kernel
theorem dX10_alter_103 : decode cX10_alter 103 = .ok (.iload_n 1, 1) := by decide +kernel
theorem dX10_alter_104 : decode cX10_alter 104 = .ok (.iaload, 1) := by decide +kernel
theorem dX10_alter_105 : decode cX10_alter 105 = .ok (.istore 6, 2) := by decide +kernel
theorem dX10_alter_107 : decode cX10_alter 107 = .ok (.aload_n 0, 1) := by decide +kernel
theorem dX10_alter_108 : decode cX10_alter 108 = .ok (.getfield 41, 3) := by decide +kernel
theorem dX10_alter_111 : decode cX10_alter 111 = .ok (.iload_n 1, 1) := by decide +kernel
theorem dX10_alter_112 : decode cX10_alter 112 = .ok (.iload_n 2, 1) := by decide +kernel
theorem dX10_alter_113 : decode cX10_alter 113 = .ok (.iastore, 1) := by decide +kernel
theorem dX10_alter_114 : decode cX10_alter 114 = .ok (.iload 6, 2) := by decide +kernel
theorem dX10_alter_116 : decode cX10_alter 116 = .ok (.ireturn, 1) := by decide +kernel
theorem dX10_sign_0 : decode cX10_sign 0 = .ok (.aload_n 0, 1) := by decide +kernel
theorem dX10_sign_1 : decode cX10_sign 1 = .ok (.aload_n 0, 1) := by decide +kernel
theorem dX10_sign_2 : decode cX10_sign 2 = .ok (.iload_n 1, 1) := by decide +kernel
theorem dX10_sign_3 : decode cX10_sign 3 = .ok (.invokevirtual 148, 3) := by decide +kernel
theorem dX10_sign_6 : decode cX10_sign 6 = .ok (.ifCond .eq 7, 3) := by decide +kernel
theorem dX10_sign_9 : decode cX10_sign 9 = .ok (.iconst 0, 1) := by decide +kernel
theorem dX10_sign_10 : decode cX10_sign 10 = .ok (.goto 4, 3) := by decide +kernel
theorem dX10_sign_13 : decode cX10_sign 13 = .ok (.iconst 1, 1) := by decide +kernel
theorem dX10_sign_14 : decode cX10_sign 14 = .ok (.invokevirtual 119, 3) := by decide +kernel
theorem dX10_sign_17 : decode cX10_sign 17 = .ok (.ifCond .ne 5, 3) := by decide +kernel
theorem dX10_sign_20 : decode cX10_sign 20 = .ok (.iconst 0, 1) := by decide +kernel
theorem dX10_sign_21 : decode cX10_sign 21 = .ok (.ireturn, 1) := by decide +kernel
theorem dX10_sign_22 : decode cX10_sign 22 = .ok (.aload_n 0, 1) := by decide +kernel
theorem dX10_sign_23 : decode cX10_sign 23 = .ok (.getfield 47, 3) := by decide +kernel
theorem dX10_sign_26 : decode cX10_sign 26 = .ok (.iload_n 1, 1) := by decide +kernel
theorem dX10_sign_27 : decode cX10_sign 27 = .ok (.aload_n 0, 1) := by decide +kernel
theorem dX10_sign_28 : decode cX10_sign 28 = .ok (.iload_n 1, 1) := by decide +kernel
theorem dX10_sign_29 : decode cX10_sign 29 = .ok (.invokevirtual 133, 3) := by decide +kernel
theorem dX10_sign_32 : decode cX10_sign 32 = .ok (.iastore, 1) := by decide +kernel
theorem dX10_sign_33 : decode cX10_sign 33 = .ok (.aload_n 0, 1) := by decide +kernel
theorem dX10_sign_34 : decode cX10_sign 34 = .ok (.getfield 47, 3) := by decide +kernel
theorem dX10_sign_37 : decode cX10_sign 37 = .ok (.iload_n 1, 1) := by decide +kernel
theorem dX10_sign_38 : decode cX10_sign 38 = .ok (.iaload, 1) := by decide +kernel
theorem dX10_sign_39 : decode cX10_sign 39 = .ok (.ireturn, 1) := by decide +kernel
theorem dX10_hop_0 : decode cX10_hop 0 = .ok (.aload_n 0, 1) := by decide +kernel
theorem dX10_hop_1 : decode cX10_hop 1 = .ok (.iload_n 1, 1) := by decide +kernel
theorem dX10_hop_2 : decode cX10_hop 2 = .ok (.invokestatic 125, 3) := by decide +kernel
theorem dX10_hop_5 : decode cX10_hop 5 = .ok (.ifCond .ne 7, 3) := by decide +kernel
theorem dX10_hop_8 : decode cX10_hop 8 = .ok (.iconst 1, 1) := by decide +kernel
theorem dX10_hop_9 : decode cX10_hop 9 = .ok (.goto 17, 3) := by decide +kernel
theorem dX10_hop_12 : decode cX10_hop 12 = .ok (.aload_n 0, 1) := by decide +kernel
theorem dX10_hop_13 : decode cX10_hop 13 = .ok (.getfield 151, 3) := by decide +kernel
theorem dX10_hop_16 : decode cX10_hop 16 = .ok (.bipush 6, 2) := by decide +kernel
theorem dX10_hop_18 : decode cX10_hop 18 = .ok (.if_icmp .ne 7, 3) := by decide +kernel
theorem dX10_hop_21 : decode cX10_hop 21 = .ok (.iconst 2, 1) := by decide +kernel
theorem dX10_hop_22 : decode cX10_hop 22 = .ok (.goto 4, 3) := by decide +kernel
theorem dX10_hop_25 : decode cX10_hop 25 = .ok (.iconst 0, 1) := by decide +kernel
theorem dX10_hop_26 : decode cX10_hop 26 = .ok (.invokevirtual 119, 3) := by decide +kernel
theorem dX10_hop_29 : decode cX10_hop 29 = .ok (.ifCond .ne 5, 3) := by decide +kernel
theorem dX10_hop_32 : decode cX10_hop 32 = .ok (.iconst 0, 1) := by decide +kernel
theorem dX10_hop_33 : decode cX10_hop 33 = .ok (.ireturn, 1) := by decide +kernel
theorem dX10_hop_34 : decode cX10_hop 34 = .ok (.aload_n 0, 1) := by decide +kernel
theorem dX10_hop_35 : decode cX10_hop 35 = .ok (.getfield 57, 3) := by decide +kernel
theorem dX10_hop_38 : decode cX10_hop 38 = .ok (.aload_n 0, 1) := by decide +kernel
theorem dX10_hop_39 : decode cX10_hop 39 = .ok (.getfield 151, 3) := by decide +kernel
theorem dX10_hop_42 : decode cX10_hop 42 = .ok (.iload_n 1, 1) := by decide +kernel
theorem dX10_hop_43 : decode cX10_hop 43 = .ok (.iastore, 1) := by decide +kernel
theorem dX10_hop_44 : decode cX10_hop 44 = .ok (.aload_n 0, 1) := by decide +kernel
theorem dX10_hop_45 : decode cX10_hop 45 = .ok (.dup, 1) := by decide +kernel
theorem dX10_hop_46 : decode cX10_hop 46 = .ok (.getfield 151, 3) := by decide +kernel
theorem dX10_hop_49 : decode cX10_hop 49 = .ok (.iconst 1, 1) := by decide +kernel
theorem dX10_hop_50 : decode cX10_hop 50 = .ok (.iadd, 1) := by decide +kernel
theorem dX10_hop_51 : decode cX10_hop 51 = .ok (.putfield 151, 3) := by decide +kernel
theorem dX10_hop_54 : decode cX10_hop 54 = .ok (.aload_n 0, 1) := by decide +kernel
theorem dX10_hop_55 : decode cX10_hop 55 = .ok (.getfield 151, 3) := by decide +kernel
theorem dX10_hop_58 : decode cX10_hop 58 = .ok (.ireturn, 1) := by decide +kernel
theorem dX10_hear_0 : decode cX10_hear 0 = .ok (.aload_n 0, 1) := by decide +kernel
theorem dX10_hear_1 : decode cX10_hear 1 = .ok (.iload_n 1, 1) := by decide +kernel
theorem dX10_hear_2 : decode cX10_hear 2 = .ok (.iload_n 2, 1) := by decide +kernel
theorem dX10_hear_3 : decode cX10_hear 3 = .ok (.invokestatic 137, 3) := by decide +kernel
theorem dX10_hear_6 : decode cX10_hear 6 = .ok (.ifCond .ne 7, 3) := by decide +kernel
theorem dX10_hear_9 : decode cX10_hear 9 = .ok (.iconst 1, 1) := by decide +kernel
theorem dX10_hear_10 : decode cX10_hear 10 = .ok (.goto 24, 3) := by decide +kernel
theorem dX10_hear_13 : decode cX10_hear 13 = .ok (.aload_n 0, 1) := by decide +kernel
theorem dX10_hear_14 : decode cX10_hear 14 = .ok (.getfield 151, 3) := by decide +kernel
theorem dX10_hear_17 : decode cX10_hear 17 = .ok (.ifCond .eq 12, 3) := by decide +kernel
theorem dX10_hear_20 : decode cX10_hear 20 = .ok (.aload_n 0, 1) := by decide +kernel
theorem dX10_hear_21 : decode cX10_hear 21 = .ok (.getfield 154, 3) := by decide +kernel
theorem dX10_hear_24 : decode cX10_hear 24 = .ok (.bipush 24, 2) := by decide +kernel
theorem dX10_hear_26 : decode cX10_hear 26 = .ok (.if_icmp .ne 7, 3) := by decide +kernel
theorem dX10_hear_29 : decode cX10_hear 29 = .ok (.iconst 2, 1) := by decide +kernel
theorem dX10_hear_30 : decode cX10_hear 30 = .ok (.goto 4, 3) := by decide +kernel
theorem dX10_hear_33 : decode cX10_hear 33 = .ok (.iconst 0, 1) := by decide +kernel
theorem dX10_hear_34 : decode cX10_hear 34 = .ok (.invokevirtual 119, 3) := by decide +kernel
theorem dX10_hear_37 : decode cX10_hear 37 = .ok (.ifCond .ne 5, 3) := by decide +kernel
theorem dX10_hear_40 : decode cX10_hear 40 = .ok (.iconst 0, 1) := by decide +kernel
theorem dX10_hear_41 : decode cX10_hear 41 = .ok (.ireturn, 1) := by decide +kernel
theorem dX10_hear_42 : decode cX10_hear 42 = .ok (.iconst 0, 1) := by decide +kernel
theorem dX10_hear_43 : decode cX10_hear 43 = .ok (.istore_n 3, 1) := by decide +kernel
theorem dX10_hear_44 : decode cX10_hear 44 = .ok (.iconst 0, 1) := by decide +kernel
theorem dX10_hear_45 : decode cX10_hear 45 = .ok (.istore 4, 2) := by decide +kernel
theorem dX10_hear_47 : decode cX10_hear 47 = .ok (.iload 4, 2) := by decide +kernel
theorem dX10_hear_49 : decode cX10_hear 49 = .ok (.aload_n 0, 1) := by decide +kernel
theorem dX10_hear_50 : decode cX10_hear 50 = .ok (.getfield 151, 3) := by decide +kernel
theorem dX10_hear_53 : decode cX10_hear 53 = .ok (.if_icmp .ge 63, 3) := by decide +kernel
theorem dX10_hear_56 : decode cX10_hear 56 = .ok (.iload_n 3, 1) := by decide +kernel
theorem dX10_hear_57 : decode cX10_hear 57 = .ok (.ifCond .eq 29, 3) := by decide +kernel
theorem dX10_hear_60 : decode cX10_hear 60 = .ok (.aload_n 0, 1) := by decide +kernel
theorem dX10_hear_61 : decode cX10_hear 61 = .ok (.getfield 60, 3) := by decide +kernel
theorem dX10_hear_64 : decode cX10_hear 64 = .ok (.bipush 6, 2) := by decide +kernel
theorem dX10_hear_66 : decode cX10_hear 66 = .ok (.aload_n 0, 1) := by decide +kernel
theorem dX10_hear_67 : decode cX10_hear 67 = .ok (.getfield 154, 3) := by decide +kernel
theorem dX10_hear_70 : decode cX10_hear 70 = .ok (.imul, 1) := by decide +kernel
theorem dX10_hear_71 : decode cX10_hear 71 = .ok (.iload_n 3, 1) := by decide +kernel
theorem dX10_hear_72 : decode cX10_hear 72 = .ok (.iadd, 1) := by decide +kernel
theorem dX10_hear_73 : decode cX10_hear 73 = .ok (.iconst 1, 1) := by decide +kernel
theorem dX10_hear_74 : decode cX10_hear 74 = .ok (.isub, 1) := by decide +kernel
theorem dX10_hear_75 : decode cX10_hear 75 = .ok (.iaload, 1) := by decide +kernel
theorem dX10_hear_76 : decode cX10_hear 76 = .ok (.aload_n 0, 1) := by decide +kernel
theorem dX10_hear_77 : decode cX10_hear 77 = .ok (.getfield 57, 3) := by decide +kernel
theorem dX10_hear_80 : decode cX10_hear 80 = .ok (.iload 4, 2) := by decide +kernel
theorem dX10_hear_82 : decode cX10_hear 82 = .ok (.iaload, 1) := by decide +kernel
theorem dX10_hear_83 : decode cX10_hear 83 = .ok (.if_icmp .eq 27, 3) := by decide +kernel
theorem dX10_hear_86 : decode cX10_hear 86 = .ok (.aload_n 0, 1) := by decide +kernel
theorem dX10_hear_87 : decode cX10_hear 87 = .ok (.getfield 60, 3) := by decide +kernel
theorem dX10_hear_90 : decode cX10_hear 90 = .ok (.bipush 6, 2) := by decide +kernel
theorem dX10_hear_92 : decode cX10_hear 92 = .ok (.aload_n 0, 1) := by decide +kernel
theorem dX10_hear_93 : decode cX10_hear 93 = .ok (.getfield 154, 3) := by decide +kernel
theorem dX10_hear_96 : decode cX10_hear 96 = .ok (.imul, 1) := by decide +kernel
theorem dX10_hear_97 : decode cX10_hear 97 = .ok (.iload_n 3, 1) := by decide +kernel
theorem dX10_hear_98 : decode cX10_hear 98 = .ok (.iadd, 1) := by decide +kernel
theorem dX10_hear_99 : decode cX10_hear 99 = .ok (.aload_n 0, 1) := by decide +kernel
theorem dX10_hear_100 : decode cX10_hear 100 = .ok (.getfield 57, 3) := by decide +kernel
theorem dX10_hear_103 : decode cX10_hear 103 = .ok (.iload 4, 2) := by decide +kernel
theorem dX10_hear_105 : decode cX10_hear 105 = .ok (.iaload, 1) := by decide +kernel
theorem dX10_hear_106 : decode cX10_hear 106 = .ok (.iastore, 1) := by decide +kernel
theorem dX10_hear_107 : decode cX10_hear 107 = .ok (.iinc 3 1, 3) := by decide +kernel
theorem dX10_hear_110 : decode cX10_hear 110 = .ok (.iinc 4 1, 3) := by decide +kernel
theorem dX10_hear_113 : decode cX10_hear 113 = .ok (.goto (-66), 3) := by decide +kernel
theorem dX10_hear_116 : decode cX10_hear 116 = .ok (.aload_n 0, 1) := by decide +kernel
theorem dX10_hear_117 : decode cX10_hear 117 = .ok (.getfield 63, 3) := by decide +kernel
theorem dX10_hear_120 : decode cX10_hear 120 = .ok (.aload_n 0, 1) := by decide +kernel
theorem dX10_hear_121 : decode cX10_hear 121 = .ok (.getfield 154, 3) := by decide +kernel
theorem dX10_hear_124 : decode cX10_hear 124 = .ok (.iload_n 3, 1) := by decide +kernel
theorem dX10_hear_125 : decode cX10_hear 125 = .ok (.iastore, 1) := by decide +kernel
theorem dX10_hear_126 : decode cX10_hear 126 = .ok (.aload_n 0, 1) := by decide +kernel
theorem dX10_hear_127 : decode cX10_hear 127 = .ok (.getfield 66, 3) := by decide +kernel
theorem dX10_hear_130 : decode cX10_hear 130 = .ok (.aload_n 0, 1) := by decide +kernel
theorem dX10_hear_131 : decode cX10_hear 131 = .ok (.getfield 154, 3) := by decide +kernel
theorem dX10_hear_134 : decode cX10_hear 134 = .ok (.iload_n 1, 1) := by decide +kernel
theorem dX10_hear_135 : decode cX10_hear 135 = .ok (.iastore, 1) := by decide +kernel
theorem dX10_hear_136 : decode cX10_hear 136 = .ok (.aload_n 0, 1) := by decide +kernel
theorem dX10_hear_137 : decode cX10_hear 137 = .ok (.getfield 69, 3) := by decide +kernel
theorem dX10_hear_140 : decode cX10_hear 140 = .ok (.aload_n 0, 1) := by decide +kernel
theorem dX10_hear_141 : decode cX10_hear 141 = .ok (.getfield 154, 3) := by decide +kernel
theorem dX10_hear_144 : decode cX10_hear 144 = .ok (.iload_n 2, 1) := by decide +kernel
theorem dX10_hear_145 : decode cX10_hear 145 = .ok (.iastore, 1) := by decide +kernel
theorem dX10_hear_146 : decode cX10_hear 146 = .ok (.aload_n 0, 1) := by decide +kernel
theorem dX10_hear_147 : decode cX10_hear 147 = .ok (.getfield 72, 3) := by decide +kernel
theorem dX10_hear_150 : decode cX10_hear 150 = .ok (.aload_n 0, 1) := by decide +kernel
theorem dX10_hear_151 : decode cX10_hear 151 = .ok (.getfield 154, 3) := by decide +kernel
theorem dX10_hear_154 : decode cX10_hear 154 = .ok (.iconst 1, 1) := by decide +kernel
theorem dX10_hear_155 : decode cX10_hear 155 = .ok (.bastore, 1) := by decide +kernel
theorem dX10_hear_156 : decode cX10_hear 156 = .ok (.aload_n 0, 1) := by decide +kernel
theorem dX10_hear_157 : decode cX10_hear 157 = .ok (.dup, 1) := by decide +kernel
theorem dX10_hear_158 : decode cX10_hear 158 = .ok (.getfield 154, 3) := by decide +kernel
theorem dX10_hear_161 : decode cX10_hear 161 = .ok (.iconst 1, 1) := by decide +kernel
theorem dX10_hear_162 : decode cX10_hear 162 = .ok (.iadd, 1) := by decide +kernel
theorem dX10_hear_163 : decode cX10_hear 163 = .ok (.putfield 154, 3) := by decide +kernel
theorem dX10_hear_166 : decode cX10_hear 166 = .ok (.aload_n 0, 1) := by decide +kernel
theorem dX10_hear_167 : decode cX10_hear 167 = .ok (.iconst 0, 1) := by decide +kernel
theorem dX10_hear_168 : decode cX10_hear 168 = .ok (.putfield 151, 3) := by decide +kernel
theorem dX10_hear_171 : decode cX10_hear 171 = .ok (.aload_n 0, 1) := by decide +kernel
theorem dX10_hear_172 : decode cX10_hear 172 = .ok (.getfield 154, 3) := by decide +kernel
theorem dX10_hear_175 : decode cX10_hear 175 = .ok (.iconst 1, 1) := by decide +kernel
theorem dX10_hear_176 : decode cX10_hear 176 = .ok (.isub, 1) := by decide +kernel
theorem dX10_hear_177 : decode cX10_hear 177 = .ok (.ireturn, 1) := by decide +kernel
theorem dX10_withdraw_0 : decode cX10_withdraw 0 = .ok (.iload_n 1, 1) := by decide +kernel
theorem dX10_withdraw_1 : decode cX10_withdraw 1 = .ok (.iconst 0, 1) := by decide +kernel
theorem dX10_withdraw_2 : decode cX10_withdraw 2 = .ok (.aload_n 0, 1) := by decide +kernel
theorem dX10_withdraw_3 : decode cX10_withdraw 3 = .ok (.getfield 154, 3) := by decide +kernel
theorem dX10_withdraw_6 : decode cX10_withdraw 6 = .ok (.iconst 1, 1) := by decide +kernel
theorem dX10_withdraw_7 : decode cX10_withdraw 7 = .ok (.isub, 1) := by decide +kernel
theorem dX10_withdraw_8 : decode cX10_withdraw 8 = .ok (.invokestatic 108, 3) := by decide +kernel
theorem dX10_withdraw_11 : decode cX10_withdraw 11 = .ok (.istore_n 2, 1) := by decide +kernel
theorem dX10_withdraw_12 : decode cX10_withdraw 12 = .ok (.aload_n 0, 1) := by decide +kernel
theorem dX10_withdraw_13 : decode cX10_withdraw 13 = .ok (.iload_n 2, 1) := by decide +kernel
theorem dX10_withdraw_14 : decode cX10_withdraw 14 = .ok (.ifCond .ne 7, 3) := by decide +kernel
theorem dX10_withdraw_17 : decode cX10_withdraw 17 = .ok (.iconst 1, 1) := by decide +kernel
theorem dX10_withdraw_18 : decode cX10_withdraw 18 = .ok (.goto 17, 3) := by decide +kernel
theorem dX10_withdraw_21 : decode cX10_withdraw 21 = .ok (.aload_n 0, 1) := by decide +kernel
theorem dX10_withdraw_22 : decode cX10_withdraw 22 = .ok (.getfield 72, 3) := by decide +kernel
theorem dX10_withdraw_25 : decode cX10_withdraw 25 = .ok (.iload_n 1, 1) := by decide +kernel
theorem dX10_withdraw_26 : decode cX10_withdraw 26 = .ok (.baload, 1) := by decide +kernel
theorem dX10_withdraw_27 : decode cX10_withdraw 27 = .ok (.ifCond .ne 7, 3) := by decide +kernel
theorem dX10_withdraw_30 : decode cX10_withdraw 30 = .ok (.iconst 2, 1) := by decide +kernel
theorem dX10_withdraw_31 : decode cX10_withdraw 31 = .ok (.goto 4, 3) := by decide +kernel
theorem dX10_withdraw_34 : decode cX10_withdraw 34 = .ok (.iconst 0, 1) := by decide +kernel
theorem dX10_withdraw_35 : decode cX10_withdraw 35 = .ok (.invokevirtual 119, 3) := by decide +kernel
end
section
theorem dX10_withdraw_38 : decode cX10_withdraw 38 = .ok (.ifCond .ne 5, 3) := by decide +kernel
theorem dX10_withdraw_41 : decode cX10_withdraw 41 = .ok (.iconst 0, 1) := by decide +kernel
theorem dX10_withdraw_42 : decode cX10_withdraw 42 = .ok (.ireturn, 1) := by decide +kernel
theorem dX10_withdraw_43 : decode cX10_withdraw 43 = .ok (.aload_n 0, 1) := by decide +kernel
theorem dX10_withdraw_44 : decode cX10_withdraw 44 = .ok (.getfield 72, 3) := by decide +kernel
theorem dX10_withdraw_47 : decode cX10_withdraw 47 = .ok (.iload_n 1, 1) := by decide +kernel
theorem dX10_withdraw_48 : decode cX10_withdraw 48 = .ok (.iconst 0, 1) := by decide +kernel
theorem dX10_withdraw_49 : decode cX10_withdraw 49 = .ok (.bastore, 1) := by decide +kernel
theorem dX10_withdraw_50 : decode cX10_withdraw 50 = .ok (.iconst 0, 1) := by decide +kernel
theorem dX10_withdraw_51 : decode cX10_withdraw 51 = .ok (.istore_n 3, 1) := by decide +kernel
theorem dX10_withdraw_52 : decode cX10_withdraw 52 = .ok (.iconst 0, 1) := by decide +kernel
theorem dX10_withdraw_53 : decode cX10_withdraw 53 = .ok (.istore 4, 2) := by decide +kernel
theorem dX10_withdraw_55 : decode cX10_withdraw 55 = .ok (.iload 4, 2) := by decide +kernel
theorem dX10_withdraw_57 : decode cX10_withdraw 57 = .ok (.aload_n 0, 1) := by decide +kernel
theorem dX10_withdraw_58 : decode cX10_withdraw 58 = .ok (.getfield 154, 3) := by decide +kernel
theorem dX10_withdraw_61 : decode cX10_withdraw 61 = .ok (.if_icmp .ge 27, 3) := by decide +kernel
theorem dX10_withdraw_64 : decode cX10_withdraw 64 = .ok (.iload_n 3, 1) := by decide +kernel
theorem dX10_withdraw_65 : decode cX10_withdraw 65 = .ok (.aload_n 0, 1) := by decide +kernel
theorem dX10_withdraw_66 : decode cX10_withdraw 66 = .ok (.getfield 72, 3) := by decide +kernel
theorem dX10_withdraw_69 : decode cX10_withdraw 69 = .ok (.iload 4, 2) := by decide +kernel
theorem dX10_withdraw_71 : decode cX10_withdraw 71 = .ok (.baload, 1) := by decide +kernel
theorem dX10_withdraw_72 : decode cX10_withdraw 72 = .ok (.ifCond .eq 7, 3) := by decide +kernel
theorem dX10_withdraw_75 : decode cX10_withdraw 75 = .ok (.iconst 1, 1) := by decide +kernel
theorem dX10_withdraw_76 : decode cX10_withdraw 76 = .ok (.goto 4, 3) := by decide +kernel
theorem dX10_withdraw_79 : decode cX10_withdraw 79 = .ok (.iconst 0, 1) := by decide +kernel
theorem dX10_withdraw_80 : decode cX10_withdraw 80 = .ok (.iadd, 1) := by decide +kernel
theorem dX10_withdraw_81 : decode cX10_withdraw 81 = .ok (.istore_n 3, 1) := by decide +kernel
theorem dX10_withdraw_82 : decode cX10_withdraw 82 = .ok (.iinc 4 1, 3) := by decide +kernel
theorem dX10_withdraw_85 : decode cX10_withdraw 85 = .ok (.goto (-30), 3) := by decide +kernel
theorem dX10_withdraw_88 : decode cX10_withdraw 88 = .ok (.iload_n 3, 1) := by decide +kernel
theorem dX10_withdraw_89 : decode cX10_withdraw 89 = .ok (.ireturn, 1) := by decide +kernel
theorem dX10_turned_0 : decode cX10_turned 0 = .ok (.iload_n 0, 1) := by decide +kernel
theorem dX10_turned_1 : decode cX10_turned 1 = .ok (.iconst 1, 1) := by decide +kernel
theorem dX10_turned_2 : decode cX10_turned 2 = .ok (.if_icmp .ne 7, 3) := by decide +kernel
theorem dX10_turned_5 : decode cX10_turned 5 = .ok (.iconst 2, 1) := by decide +kernel
theorem dX10_turned_6 : decode cX10_turned 6 = .ok (.goto 13, 3) := by decide +kernel
theorem dX10_turned_9 : decode cX10_turned 9 = .ok (.iload_n 0, 1) := by decide +kernel
theorem dX10_turned_10 : decode cX10_turned 10 = .ok (.iconst 2, 1) := by decide +kernel
theorem dX10_turned_11 : decode cX10_turned 11 = .ok (.if_icmp .ne 7, 3) := by decide +kernel
theorem dX10_turned_14 : decode cX10_turned 14 = .ok (.iconst 1, 1) := by decide +kernel
theorem dX10_turned_15 : decode cX10_turned 15 = .ok (.goto 4, 3) := by decide +kernel
theorem dX10_turned_18 : decode cX10_turned 18 = .ok (.iload_n 0, 1) := by decide +kernel
theorem dX10_turned_19 : decode cX10_turned 19 = .ok (.ireturn, 1) := by decide +kernel
theorem dX10_tie_0 : decode cX10_tie 0 = .ok (.iload_n 1, 1) := by decide +kernel
theorem dX10_tie_1 : decode cX10_tie 1 = .ok (.invokestatic 125, 3) := by decide +kernel
theorem dX10_tie_4 : decode cX10_tie 4 = .ok (.ifCond .eq 14, 3) := by decide +kernel
theorem dX10_tie_7 : decode cX10_tie 7 = .ok (.iload_n 2, 1) := by decide +kernel
theorem dX10_tie_8 : decode cX10_tie 8 = .ok (.invokestatic 125, 3) := by decide +kernel
theorem dX10_tie_11 : decode cX10_tie 11 = .ok (.ifCond .eq 7, 3) := by decide +kernel
theorem dX10_tie_14 : decode cX10_tie 14 = .ok (.iconst 1, 1) := by decide +kernel
theorem dX10_tie_15 : decode cX10_tie 15 = .ok (.goto 4, 3) := by decide +kernel
theorem dX10_tie_18 : decode cX10_tie 18 = .ok (.iconst 0, 1) := by decide +kernel
theorem dX10_tie_19 : decode cX10_tie 19 = .ok (.istore 4, 2) := by decide +kernel
theorem dX10_tie_21 : decode cX10_tie 21 = .ok (.aload_n 0, 1) := by decide +kernel
theorem dX10_tie_22 : decode cX10_tie 22 = .ok (.iload 4, 2) := by decide +kernel
theorem dX10_tie_24 : decode cX10_tie 24 = .ok (.ifCond .ne 7, 3) := by decide +kernel
theorem dX10_tie_27 : decode cX10_tie 27 = .ok (.iconst 1, 1) := by decide +kernel
theorem dX10_tie_28 : decode cX10_tie 28 = .ok (.goto 22, 3) := by decide +kernel
theorem dX10_tie_31 : decode cX10_tie 31 = .ok (.iload_n 1, 1) := by decide +kernel
theorem dX10_tie_32 : decode cX10_tie 32 = .ok (.iload_n 2, 1) := by decide +kernel
theorem dX10_tie_33 : decode cX10_tie 33 = .ok (.if_icmp .eq 12, 3) := by decide +kernel
theorem dX10_tie_36 : decode cX10_tie 36 = .ok (.iload_n 3, 1) := by decide +kernel
theorem dX10_tie_37 : decode cX10_tie 37 = .ok (.iconst 0, 1) := by decide +kernel
theorem dX10_tie_38 : decode cX10_tie 38 = .ok (.iconst 3, 1) := by decide +kernel
theorem dX10_tie_39 : decode cX10_tie 39 = .ok (.invokestatic 108, 3) := by decide +kernel
theorem dX10_tie_42 : decode cX10_tie 42 = .ok (.ifCond .ne 7, 3) := by decide +kernel
theorem dX10_tie_45 : decode cX10_tie 45 = .ok (.iconst 2, 1) := by decide +kernel
theorem dX10_tie_46 : decode cX10_tie 46 = .ok (.goto 4, 3) := by decide +kernel
theorem dX10_tie_49 : decode cX10_tie 49 = .ok (.iconst 0, 1) := by decide +kernel
theorem dX10_tie_50 : decode cX10_tie 50 = .ok (.invokevirtual 119, 3) := by decide +kernel
theorem dX10_tie_53 : decode cX10_tie 53 = .ok (.ifCond .ne 5, 3) := by decide +kernel
theorem dX10_tie_56 : decode cX10_tie 56 = .ok (.iconst 0, 1) := by decide +kernel
theorem dX10_tie_57 : decode cX10_tie 57 = .ok (.ireturn, 1) := by decide +kernel
theorem dX10_tie_58 : decode cX10_tie 58 = .ok (.aload_n 0, 1) := by decide +kernel
theorem dX10_tie_59 : decode cX10_tie 59 = .ok (.getfield 75, 3) := by decide +kernel
theorem dX10_tie_62 : decode cX10_tie 62 = .ok (.bipush 10, 2) := by decide +kernel
theorem dX10_tie_64 : decode cX10_tie 64 = .ok (.iload_n 1, 1) := by decide +kernel
theorem dX10_tie_65 : decode cX10_tie 65 = .ok (.imul, 1) := by decide +kernel
theorem dX10_tie_66 : decode cX10_tie 66 = .ok (.iload_n 2, 1) := by decide +kernel
theorem dX10_tie_67 : decode cX10_tie 67 = .ok (.iadd, 1) := by decide +kernel
theorem dX10_tie_68 : decode cX10_tie 68 = .ok (.iaload, 1) := by decide +kernel
theorem dX10_tie_69 : decode cX10_tie 69 = .ok (.istore 5, 2) := by decide +kernel
theorem dX10_tie_71 : decode cX10_tie 71 = .ok (.aload_n 0, 1) := by decide +kernel
theorem dX10_tie_72 : decode cX10_tie 72 = .ok (.getfield 75, 3) := by decide +kernel
theorem dX10_tie_75 : decode cX10_tie 75 = .ok (.bipush 10, 2) := by decide +kernel
theorem dX10_tie_77 : decode cX10_tie 77 = .ok (.iload_n 1, 1) := by decide +kernel
theorem dX10_tie_78 : decode cX10_tie 78 = .ok (.imul, 1) := by decide +kernel
theorem dX10_tie_79 : decode cX10_tie 79 = .ok (.iload_n 2, 1) := by decide +kernel
theorem dX10_tie_80 : decode cX10_tie 80 = .ok (.iadd, 1) := by decide +kernel
theorem dX10_tie_81 : decode cX10_tie 81 = .ok (.iload_n 3, 1) := by decide +kernel
theorem dX10_tie_82 : decode cX10_tie 82 = .ok (.iastore, 1) := by decide +kernel
theorem dX10_tie_83 : decode cX10_tie 83 = .ok (.aload_n 0, 1) := by decide +kernel
theorem dX10_tie_84 : decode cX10_tie 84 = .ok (.getfield 75, 3) := by decide +kernel
theorem dX10_tie_87 : decode cX10_tie 87 = .ok (.bipush 10, 2) := by decide +kernel
theorem dX10_tie_89 : decode cX10_tie 89 = .ok (.iload_n 2, 1) := by decide +kernel
theorem dX10_tie_90 : decode cX10_tie 90 = .ok (.imul, 1) := by decide +kernel
theorem dX10_tie_91 : decode cX10_tie 91 = .ok (.iload_n 1, 1) := by decide +kernel
theorem dX10_tie_92 : decode cX10_tie 92 = .ok (.iadd, 1) := by decide +kernel
theorem dX10_tie_93 : decode cX10_tie 93 = .ok (.iload_n 3, 1) := by decide +kernel
theorem dX10_tie_94 : decode cX10_tie 94 = .ok (.invokestatic 157, 3) := by decide +kernel
theorem dX10_tie_97 : decode cX10_tie 97 = .ok (.iastore, 1) := by decide +kernel
theorem dX10_tie_98 : decode cX10_tie 98 = .ok (.iload 5, 2) := by decide +kernel
theorem dX10_tie_100 : decode cX10_tie 100 = .ok (.ireturn, 1) := by decide +kernel
theorem dX10_today_0 : decode cX10_today 0 = .ok (.aload_n 0, 1) := by decide +kernel
theorem dX10_today_1 : decode cX10_today 1 = .ok (.iconst 0, 1) := by decide +kernel
theorem dX10_today_2 : decode cX10_today 2 = .ok (.putfield 105, 3) := by decide +kernel
theorem dX10_today_5 : decode cX10_today 5 = .ok (.aload_n 0, 1) := by decide +kernel
theorem dX10_today_6 : decode cX10_today 6 = .ok (.getfield 122, 3) := by decide +kernel
theorem dX10_today_9 : decode cX10_today 9 = .ok (.ireturn, 1) := by decide +kernel
theorem dX10_objects_0 : decode cX10_objects 0 = .ok (.aload_n 0, 1) := by decide +kernel
theorem dX10_objects_1 : decode cX10_objects 1 = .ok (.iconst 0, 1) := by decide +kernel
theorem dX10_objects_2 : decode cX10_objects 2 = .ok (.putfield 105, 3) := by decide +kernel
theorem dX10_objects_5 : decode cX10_objects 5 = .ok (.aload_n 0, 1) := by decide +kernel
theorem dX10_objects_6 : decode cX10_objects 6 = .ok (.getfield 112, 3) := by decide +kernel
theorem dX10_objects_9 : decode cX10_objects 9 = .ok (.ireturn, 1) := by decide +kernel
theorem dX10_simply_0 : decode cX10_simply 0 = .ok (.aload_n 0, 1) := by decide +kernel
theorem dX10_simply_1 : decode cX10_simply 1 = .ok (.getfield 122, 3) := by decide +kernel
theorem dX10_simply_4 : decode cX10_simply 4 = .ok (.aload_n 0, 1) := by decide +kernel
theorem dX10_simply_5 : decode cX10_simply 5 = .ok (.getfield 44, 3) := by decide +kernel
theorem dX10_simply_8 : decode cX10_simply 8 = .ok (.iload_n 1, 1) := by decide +kernel
theorem dX10_simply_9 : decode cX10_simply 9 = .ok (.iaload, 1) := by decide +kernel
theorem dX10_simply_10 : decode cX10_simply 10 = .ok (.if_icmp .le 5, 3) := by decide +kernel
theorem dX10_simply_13 : decode cX10_simply 13 = .ok (.iconst 1, 1) := by decide +kernel
theorem dX10_simply_14 : decode cX10_simply 14 = .ok (.ireturn, 1) := by decide +kernel
theorem dX10_simply_15 : decode cX10_simply 15 = .ok (.aload_n 0, 1) := by decide +kernel
theorem dX10_simply_16 : decode cX10_simply 16 = .ok (.getfield 54, 3) := by decide +kernel
theorem dX10_simply_19 : decode cX10_simply 19 = .ok (.iload_n 1, 1) := by decide +kernel
theorem dX10_simply_20 : decode cX10_simply 20 = .ok (.baload, 1) := by decide +kernel
theorem dX10_simply_21 : decode cX10_simply 21 = .ok (.ifCond .eq 7, 3) := by decide +kernel
theorem dX10_simply_24 : decode cX10_simply 24 = .ok (.iconst 2, 1) := by decide +kernel
theorem dX10_simply_25 : decode cX10_simply 25 = .ok (.goto 44, 3) := by decide +kernel
theorem dX10_simply_28 : decode cX10_simply 28 = .ok (.aload_n 0, 1) := by decide +kernel
theorem dX10_simply_29 : decode cX10_simply 29 = .ok (.getfield 122, 3) := by decide +kernel
theorem dX10_simply_32 : decode cX10_simply 32 = .ok (.aload_n 0, 1) := by decide +kernel
theorem dX10_simply_33 : decode cX10_simply 33 = .ok (.getfield 16, 3) := by decide +kernel
theorem dX10_simply_36 : decode cX10_simply 36 = .ok (.aload_n 0, 1) := by decide +kernel
theorem dX10_simply_37 : decode cX10_simply 37 = .ok (.getfield 29, 3) := by decide +kernel
theorem dX10_simply_40 : decode cX10_simply 40 = .ok (.iload_n 1, 1) := by decide +kernel
theorem dX10_simply_41 : decode cX10_simply 41 = .ok (.iaload, 1) := by decide +kernel
theorem dX10_simply_42 : decode cX10_simply 42 = .ok (.iaload, 1) := by decide +kernel
theorem dX10_simply_43 : decode cX10_simply 43 = .ok (.if_icmp .le 7, 3) := by decide +kernel
theorem dX10_simply_46 : decode cX10_simply 46 = .ok (.iconst 3, 1) := by decide +kernel
theorem dX10_simply_47 : decode cX10_simply 47 = .ok (.goto 22, 3) := by decide +kernel
theorem dX10_simply_50 : decode cX10_simply 50 = .ok (.aload_n 0, 1) := by decide +kernel
theorem dX10_simply_51 : decode cX10_simply 51 = .ok (.getfield 47, 3) := by decide +kernel
theorem dX10_simply_54 : decode cX10_simply 54 = .ok (.iload_n 1, 1) := by decide +kernel
theorem dX10_simply_55 : decode cX10_simply 55 = .ok (.iaload, 1) := by decide +kernel
theorem dX10_simply_56 : decode cX10_simply 56 = .ok (.aload_n 0, 1) := by decide +kernel
theorem dX10_simply_57 : decode cX10_simply 57 = .ok (.iload_n 1, 1) := by decide +kernel
theorem dX10_simply_58 : decode cX10_simply 58 = .ok (.invokevirtual 133, 3) := by decide +kernel
theorem dX10_simply_61 : decode cX10_simply 61 = .ok (.if_icmp .eq 7, 3) := by decide +kernel
theorem dX10_simply_64 : decode cX10_simply 64 = .ok (.iconst 4, 1) := by decide +kernel
theorem dX10_simply_65 : decode cX10_simply 65 = .ok (.goto 4, 3) := by decide +kernel
theorem dX10_simply_68 : decode cX10_simply 68 = .ok (.iconst 0, 1) := by decide +kernel
theorem dX10_simply_69 : decode cX10_simply 69 = .ok (.ireturn, 1) := by decide +kernel
theorem dX10_has0_0 : decode cX10_has0 0 = .ok (.iload_n 1, 1) := by decide +kernel
theorem dX10_has0_1 : decode cX10_has0 1 = .ok (.ifCond .ne 7, 3) := by decide +kernel
theorem dX10_has0_4 : decode cX10_has0 4 = .ok (.iconst 1, 1) := by decide +kernel
theorem dX10_has0_5 : decode cX10_has0 5 = .ok (.goto 4, 3) := by decide +kernel
theorem dX10_has0_8 : decode cX10_has0 8 = .ok (.iconst 0, 1) := by decide +kernel
theorem dX10_has0_9 : decode cX10_has0 9 = .ok (.istore 4, 2) := by decide +kernel
theorem dX10_has0_11 : decode cX10_has0 11 = .ok (.iconst 0, 1) := by decide +kernel
theorem dX10_has0_12 : decode cX10_has0 12 = .ok (.istore 5, 2) := by decide +kernel
theorem dX10_has0_14 : decode cX10_has0 14 = .ok (.iload 5, 2) := by decide +kernel
theorem dX10_has0_16 : decode cX10_has0 16 = .ok (.aload_n 0, 1) := by decide +kernel
theorem dX10_has0_17 : decode cX10_has0 17 = .ok (.getfield 112, 3) := by decide +kernel
theorem dX10_has0_20 : decode cX10_has0 20 = .ok (.if_icmp .ge 74, 3) := by decide +kernel
theorem dX10_has0_23 : decode cX10_has0 23 = .ok (.iload 4, 2) := by decide +kernel
theorem dX10_has0_25 : decode cX10_has0 25 = .ok (.ifCond .ne 56, 3) := by decide +kernel
theorem dX10_has0_28 : decode cX10_has0 28 = .ok (.aload_n 0, 1) := by decide +kernel
theorem dX10_has0_29 : decode cX10_has0 29 = .ok (.getfield 26, 3) := by decide +kernel
theorem dX10_has0_32 : decode cX10_has0 32 = .ok (.iload 5, 2) := by decide +kernel
theorem dX10_has0_34 : decode cX10_has0 34 = .ok (.iaload, 1) := by decide +kernel
theorem dX10_has0_35 : decode cX10_has0 35 = .ok (.ifCond .ne 50, 3) := by decide +kernel
theorem dX10_has0_38 : decode cX10_has0 38 = .ok (.aload_n 0, 1) := by decide +kernel
theorem dX10_has0_39 : decode cX10_has0 39 = .ok (.getfield 32, 3) := by decide +kernel
theorem dX10_has0_42 : decode cX10_has0 42 = .ok (.iload 5, 2) := by decide +kernel
theorem dX10_has0_44 : decode cX10_has0 44 = .ok (.iaload, 1) := by decide +kernel
theorem dX10_has0_45 : decode cX10_has0 45 = .ok (.iload_n 1, 1) := by decide +kernel
theorem dX10_has0_46 : decode cX10_has0 46 = .ok (.if_icmp .ne 39, 3) := by decide +kernel
theorem dX10_has0_49 : decode cX10_has0 49 = .ok (.aload_n 0, 1) := by decide +kernel
theorem dX10_has0_50 : decode cX10_has0 50 = .ok (.getfield 78, 3) := by decide +kernel
theorem dX10_has0_53 : decode cX10_has0 53 = .ok (.iload 5, 2) := by decide +kernel
theorem dX10_has0_55 : decode cX10_has0 55 = .ok (.iaload, 1) := by decide +kernel
theorem dX10_has0_56 : decode cX10_has0 56 = .ok (.ifCond .ne 29, 3) := by decide +kernel
theorem dX10_has0_59 : decode cX10_has0 59 = .ok (.iload_n 2, 1) := by decide +kernel
theorem dX10_has0_60 : decode cX10_has0 60 = .ok (.iload_n 3, 1) := by decide +kernel
theorem dX10_has0_61 : decode cX10_has0 61 = .ok (.aload_n 0, 1) := by decide +kernel
theorem dX10_has0_62 : decode cX10_has0 62 = .ok (.getfield 35, 3) := by decide +kernel
theorem dX10_has0_65 : decode cX10_has0 65 = .ok (.iload 5, 2) := by decide +kernel
theorem dX10_has0_67 : decode cX10_has0 67 = .ok (.iaload, 1) := by decide +kernel
theorem dX10_has0_68 : decode cX10_has0 68 = .ok (.aload_n 0, 1) := by decide +kernel
theorem dX10_has0_69 : decode cX10_has0 69 = .ok (.getfield 38, 3) := by decide +kernel
theorem dX10_has0_72 : decode cX10_has0 72 = .ok (.iload 5, 2) := by decide +kernel
theorem dX10_has0_74 : decode cX10_has0 74 = .ok (.iaload, 1) := by decide +kernel
theorem dX10_has0_75 : decode cX10_has0 75 = .ok (.invokestatic 160, 3) := by decide +kernel
theorem dX10_has0_78 : decode cX10_has0 78 = .ok (.ifCond .eq 7, 3) := by decide +kernel
theorem dX10_has0_81 : decode cX10_has0 81 = .ok (.iconst 1, 1) := by decide +kernel
theorem dX10_has0_82 : decode cX10_has0 82 = .ok (.goto 4, 3) := by decide +kernel
theorem dX10_has0_85 : decode cX10_has0 85 = .ok (.iconst 0, 1) := by decide +kernel
theorem dX10_has0_86 : decode cX10_has0 86 = .ok (.istore 4, 2) := by decide +kernel
theorem dX10_has0_88 : decode cX10_has0 88 = .ok (.iinc 5 1, 3) := by decide +kernel
theorem dX10_has0_91 : decode cX10_has0 91 = .ok (.goto (-77), 3) := by decide +kernel
theorem dX10_has0_94 : decode cX10_has0 94 = .ok (.iload 4, 2) := by decide +kernel
theorem dX10_has0_96 : decode cX10_has0 96 = .ok (.ireturn, 1) := by decide +kernel
theorem dX10_hasAny_0 : decode cX10_hasAny 0 = .ok (.iload_n 1, 1) := by decide +kernel
theorem dX10_hasAny_1 : decode cX10_hasAny 1 = .ok (.ifCond .ne 7, 3) := by decide +kernel
theorem dX10_hasAny_4 : decode cX10_hasAny 4 = .ok (.iconst 1, 1) := by decide +kernel
theorem dX10_hasAny_5 : decode cX10_hasAny 5 = .ok (.goto 4, 3) := by decide +kernel
theorem dX10_hasAny_8 : decode cX10_hasAny 8 = .ok (.iconst 0, 1) := by decide +kernel
theorem dX10_hasAny_9 : decode cX10_hasAny 9 = .ok (.istore_n 2, 1) := by decide +kernel
theorem dX10_hasAny_10 : decode cX10_hasAny 10 = .ok (.iconst 0, 1) := by decide +kernel
theorem dX10_hasAny_11 : decode cX10_hasAny 11 = .ok (.istore_n 3, 1) := by decide +kernel
theorem dX10_hasAny_12 : decode cX10_hasAny 12 = .ok (.iload_n 3, 1) := by decide +kernel
theorem dX10_hasAny_13 : decode cX10_hasAny 13 = .ok (.aload_n 0, 1) := by decide +kernel
theorem dX10_hasAny_14 : decode cX10_hasAny 14 = .ok (.getfield 112, 3) := by decide +kernel
theorem dX10_hasAny_17 : decode cX10_hasAny 17 = .ok (.if_icmp .ge 47, 3) := by decide +kernel
theorem dX10_hasAny_20 : decode cX10_hasAny 20 = .ok (.iload_n 2, 1) := by decide +kernel
theorem dX10_hasAny_21 : decode cX10_hasAny 21 = .ok (.ifCond .ne 31, 3) := by decide +kernel
theorem dX10_hasAny_24 : decode cX10_hasAny 24 = .ok (.aload_n 0, 1) := by decide +kernel
theorem dX10_hasAny_25 : decode cX10_hasAny 25 = .ok (.getfield 26, 3) := by decide +kernel
theorem dX10_hasAny_28 : decode cX10_hasAny 28 = .ok (.iload_n 3, 1) := by decide +kernel
theorem dX10_hasAny_29 : decode cX10_hasAny 29 = .ok (.iaload, 1) := by decide +kernel
theorem dX10_hasAny_30 : decode cX10_hasAny 30 = .ok (.ifCond .ne 26, 3) := by decide +kernel
theorem dX10_hasAny_33 : decode cX10_hasAny 33 = .ok (.aload_n 0, 1) := by decide +kernel
theorem dX10_hasAny_34 : decode cX10_hasAny 34 = .ok (.getfield 32, 3) := by decide +kernel
theorem dX10_hasAny_37 : decode cX10_hasAny 37 = .ok (.iload_n 3, 1) := by decide +kernel
theorem dX10_hasAny_38 : decode cX10_hasAny 38 = .ok (.iaload, 1) := by decide +kernel
theorem dX10_hasAny_39 : decode cX10_hasAny 39 = .ok (.iload_n 1, 1) := by decide +kernel
theorem dX10_hasAny_40 : decode cX10_hasAny 40 = .ok (.if_icmp .ne 16, 3) := by decide +kernel
theorem dX10_hasAny_43 : decode cX10_hasAny 43 = .ok (.aload_n 0, 1) := by decide +kernel
theorem dX10_hasAny_44 : decode cX10_hasAny 44 = .ok (.getfield 78, 3) := by decide +kernel
theorem dX10_hasAny_47 : decode cX10_hasAny 47 = .ok (.iload_n 3, 1) := by decide +kernel
theorem dX10_hasAny_48 : decode cX10_hasAny 48 = .ok (.iaload, 1) := by decide +kernel
theorem dX10_hasAny_49 : decode cX10_hasAny 49 = .ok (.ifCond .ne 7, 3) := by decide +kernel
theorem dX10_hasAny_52 : decode cX10_hasAny 52 = .ok (.iconst 1, 1) := by decide +kernel
theorem dX10_hasAny_53 : decode cX10_hasAny 53 = .ok (.goto 4, 3) := by decide +kernel
theorem dX10_hasAny_56 : decode cX10_hasAny 56 = .ok (.iconst 0, 1) := by decide +kernel
theorem dX10_hasAny_57 : decode cX10_hasAny 57 = .ok (.istore_n 2, 1) := by decide +kernel
theorem dX10_hasAny_58 : decode cX10_hasAny 58 = .ok (.iinc 3 1, 3) := by decide +kernel
theorem dX10_hasAny_61 : decode cX10_hasAny 61 = .ok (.goto (-49), 3) := by decide +kernel
theorem dX10_hasAny_64 : decode cX10_hasAny 64 = .ok (.iload_n 2, 1) := by decide +kernel
theorem dX10_hasAny_65 : decode cX10_hasAny 65 = .ok (.ireturn, 1) := by decide +kernel
theorem dX10_isOutside_0 : decode cX10_isOutside 0 = .ok (.aload_n 0, 1) := by decide +kernel
theorem dX10_isOutside_1 : decode cX10_isOutside 1 = .ok (.getfield 26, 3) := by decide +kernel
theorem dX10_isOutside_4 : decode cX10_isOutside 4 = .ok (.iload_n 1, 1) := by decide +kernel
theorem dX10_isOutside_5 : decode cX10_isOutside 5 = .ok (.iaload, 1) := by decide +kernel
theorem dX10_isOutside_6 : decode cX10_isOutside 6 = .ok (.iconst 2, 1) := by decide +kernel
theorem dX10_isOutside_7 : decode cX10_isOutside 7 = .ok (.if_icmp .ne 42, 3) := by decide +kernel
theorem dX10_isOutside_10 : decode cX10_isOutside 10 = .ok (.aload_n 0, 1) := by decide +kernel
theorem dX10_isOutside_11 : decode cX10_isOutside 11 = .ok (.getfield 23, 3) := by decide +kernel
theorem dX10_isOutside_14 : decode cX10_isOutside 14 = .ok (.aload_n 0, 1) := by decide +kernel
theorem dX10_isOutside_15 : decode cX10_isOutside 15 = .ok (.getfield 32, 3) := by decide +kernel
theorem dX10_isOutside_18 : decode cX10_isOutside 18 = .ok (.iload_n 1, 1) := by decide +kernel
theorem dX10_isOutside_19 : decode cX10_isOutside 19 = .ok (.iaload, 1) := by decide +kernel
theorem dX10_isOutside_20 : decode cX10_isOutside 20 = .ok (.iaload, 1) := by decide +kernel
theorem dX10_isOutside_21 : decode cX10_isOutside 21 = .ok (.aload_n 0, 1) := by decide +kernel
theorem dX10_isOutside_22 : decode cX10_isOutside 22 = .ok (.getfield 29, 3) := by decide +kernel
theorem dX10_isOutside_25 : decode cX10_isOutside 25 = .ok (.iload_n 1, 1) := by decide +kernel
theorem dX10_isOutside_26 : decode cX10_isOutside 26 = .ok (.iaload, 1) := by decide +kernel
theorem dX10_isOutside_27 : decode cX10_isOutside 27 = .ok (.if_icmp .ne 16, 3) := by decide +kernel
theorem dX10_isOutside_30 : decode cX10_isOutside 30 = .ok (.aload_n 0, 1) := by decide +kernel
theorem dX10_isOutside_31 : decode cX10_isOutside 31 = .ok (.aload_n 0, 1) := by decide +kernel
theorem dX10_isOutside_32 : decode cX10_isOutside 32 = .ok (.getfield 29, 3) := by decide +kernel
theorem dX10_isOutside_35 : decode cX10_isOutside 35 = .ok (.iload_n 1, 1) := by decide +kernel
theorem dX10_isOutside_36 : decode cX10_isOutside 36 = .ok (.iaload, 1) := by decide +kernel
theorem dX10_isOutside_37 : decode cX10_isOutside 37 = .ok (.invokevirtual 164, 3) := by decide +kernel
theorem dX10_isOutside_40 : decode cX10_isOutside 40 = .ok (.ifCond .ne 7, 3) := by decide +kernel
theorem dX10_isOutside_43 : decode cX10_isOutside 43 = .ok (.iconst 1, 1) := by decide +kernel
theorem dX10_isOutside_44 : decode cX10_isOutside 44 = .ok (.goto 4, 3) := by decide +kernel
theorem dX10_isOutside_47 : decode cX10_isOutside 47 = .ok (.iconst 0, 1) := by decide +kernel
theorem dX10_isOutside_48 : decode cX10_isOutside 48 = .ok (.ireturn, 1) := by decide +kernel
theorem dX10_isOutside_49 : decode cX10_isOutside 49 = .ok (.aload_n 0, 1) := by decide +kernel
theorem dX10_isOutside_50 : decode cX10_isOutside 50 = .ok (.getfield 26, 3) := by decide +kernel
theorem dX10_isOutside_53 : decode cX10_isOutside 53 = .ok (.iload_n 1, 1) := by decide +kernel
theorem dX10_isOutside_54 : decode cX10_isOutside 54 = .ok (.iaload, 1) := by decide +kernel
theorem dX10_isOutside_55 : decode cX10_isOutside 55 = .ok (.ifCond .ne 23, 3) := by decide +kernel
theorem dX10_isOutside_58 : decode cX10_isOutside 58 = .ok (.aload_n 0, 1) := by decide +kernel
theorem dX10_isOutside_59 : decode cX10_isOutside 59 = .ok (.getfield 7, 3) := by decide +kernel
theorem dX10_isOutside_62 : decode cX10_isOutside 62 = .ok (.aload_n 0, 1) := by decide +kernel
theorem dX10_isOutside_63 : decode cX10_isOutside 63 = .ok (.getfield 32, 3) := by decide +kernel
theorem dX10_isOutside_66 : decode cX10_isOutside 66 = .ok (.iload_n 1, 1) := by decide +kernel
theorem dX10_isOutside_67 : decode cX10_isOutside 67 = .ok (.iaload, 1) := by decide +kernel
theorem dX10_isOutside_68 : decode cX10_isOutside 68 = .ok (.iaload, 1) := by decide +kernel
theorem dX10_isOutside_69 : decode cX10_isOutside 69 = .ok (.aload_n 0, 1) := by decide +kernel
theorem dX10_isOutside_70 : decode cX10_isOutside 70 = .ok (.getfield 29, 3) := by decide +kernel
theorem dX10_isOutside_73 : decode cX10_isOutside 73 = .ok (.iload_n 1, 1) := by decide +kernel
theorem dX10_isOutside_74 : decode cX10_isOutside 74 = .ok (.iaload, 1) := by decide +kernel
theorem dX10_isOutside_75 : decode cX10_isOutside 75 = .ok (.if_icmp .ne 28, 3) := by decide +kernel
theorem dX10_isOutside_78 : decode cX10_isOutside 78 = .ok (.aload_n 0, 1) := by decide +kernel
theorem dX10_isOutside_79 : decode cX10_isOutside 79 = .ok (.aload_n 0, 1) := by decide +kernel
theorem dX10_isOutside_80 : decode cX10_isOutside 80 = .ok (.getfield 29, 3) := by decide +kernel
theorem dX10_isOutside_83 : decode cX10_isOutside 83 = .ok (.iload_n 1, 1) := by decide +kernel
theorem dX10_isOutside_84 : decode cX10_isOutside 84 = .ok (.iaload, 1) := by decide +kernel
theorem dX10_isOutside_85 : decode cX10_isOutside 85 = .ok (.aload_n 0, 1) := by decide +kernel
theorem dX10_isOutside_86 : decode cX10_isOutside 86 = .ok (.getfield 35, 3) := by decide +kernel
theorem dX10_isOutside_89 : decode cX10_isOutside 89 = .ok (.iload_n 1, 1) := by decide +kernel
theorem dX10_isOutside_90 : decode cX10_isOutside 90 = .ok (.iaload, 1) := by decide +kernel
theorem dX10_isOutside_91 : decode cX10_isOutside 91 = .ok (.aload_n 0, 1) := by decide +kernel
theorem dX10_isOutside_92 : decode cX10_isOutside 92 = .ok (.getfield 38, 3) := by decide +kernel
theorem dX10_isOutside_95 : decode cX10_isOutside 95 = .ok (.iload_n 1, 1) := by decide +kernel
theorem dX10_isOutside_96 : decode cX10_isOutside 96 = .ok (.iaload, 1) := by decide +kernel
theorem dX10_isOutside_97 : decode cX10_isOutside 97 = .ok (.invokevirtual 167, 3) := by decide +kernel
theorem dX10_isOutside_100 : decode cX10_isOutside 100 = .ok (.ifCond .ne 7, 3) := by decide +kernel
theorem dX10_isOutside_103 : decode cX10_isOutside 103 = .ok (.iconst 1, 1) := by decide +kernel
theorem dX10_isOutside_104 : decode cX10_isOutside 104 = .ok (.goto 4, 3) := by decide +kernel
theorem dX10_isOutside_107 : decode cX10_isOutside 107 = .ok (.iconst 0, 1) := by decide +kernel
theorem dX10_isOutside_108 : decode cX10_isOutside 108 = .ok (.ireturn, 1) := by decide +kernel
theorem dX10_judges_0 : decode cX10_judges 0 = .ok (.iconst 0, 1) := by decide +kernel
theorem dX10_judges_1 : decode cX10_judges 1 = .ok (.istore_n 1, 1) := by decide +kernel
theorem dX10_judges_2 : decode cX10_judges 2 = .ok (.iload_n 1, 1) := by decide +kernel
theorem dX10_judges_3 : decode cX10_judges 3 = .ok (.aload_n 0, 1) := by decide +kernel
theorem dX10_judges_4 : decode cX10_judges 4 = .ok (.getfield 112, 3) := by decide +kernel
theorem dX10_judges_7 : decode cX10_judges 7 = .ok (.if_icmp .ge 33, 3) := by decide +kernel
theorem dX10_judges_10 : decode cX10_judges 10 = .ok (.aload_n 0, 1) := by decide +kernel
theorem dX10_judges_11 : decode cX10_judges 11 = .ok (.getfield 78, 3) := by decide +kernel
theorem dX10_judges_14 : decode cX10_judges 14 = .ok (.iload_n 1, 1) := by decide +kernel
theorem dX10_judges_15 : decode cX10_judges 15 = .ok (.aload_n 0, 1) := by decide +kernel
theorem dX10_judges_16 : decode cX10_judges 16 = .ok (.getfield 26, 3) := by decide +kernel
theorem dX10_judges_19 : decode cX10_judges 19 = .ok (.iload_n 1, 1) := by decide +kernel
theorem dX10_judges_20 : decode cX10_judges 20 = .ok (.iaload, 1) := by decide +kernel
theorem dX10_judges_21 : decode cX10_judges 21 = .ok (.ifCond .ne 7, 3) := by decide +kernel
theorem dX10_judges_24 : decode cX10_judges 24 = .ok (.iconst 5, 1) := by decide +kernel
theorem dX10_judges_25 : decode cX10_judges 25 = .ok (.goto 8, 3) := by decide +kernel
theorem dX10_judges_28 : decode cX10_judges 28 = .ok (.aload_n 0, 1) := by decide +kernel
theorem dX10_judges_29 : decode cX10_judges 29 = .ok (.iload_n 1, 1) := by decide +kernel
theorem dX10_judges_30 : decode cX10_judges 30 = .ok (.invokevirtual 170, 3) := by decide +kernel
theorem dX10_judges_33 : decode cX10_judges 33 = .ok (.iastore, 1) := by decide +kernel
theorem dX10_judges_34 : decode cX10_judges 34 = .ok (.iinc 1 1, 3) := by decide +kernel
theorem dX10_judges_37 : decode cX10_judges 37 = .ok (.goto (-35), 3) := by decide +kernel
theorem dX10_judges_40 : decode cX10_judges 40 = .ok (.iconst 0, 1) := by decide +kernel
theorem dX10_judges_41 : decode cX10_judges 41 = .ok (.istore_n 1, 1) := by decide +kernel
theorem dX10_judges_42 : decode cX10_judges 42 = .ok (.iload_n 1, 1) := by decide +kernel
theorem dX10_judges_43 : decode cX10_judges 43 = .ok (.aload_n 0, 1) := by decide +kernel
theorem dX10_judges_44 : decode cX10_judges 44 = .ok (.getfield 19, 3) := by decide +kernel
theorem dX10_judges_47 : decode cX10_judges 47 = .ok (.if_icmp .ge 73, 3) := by decide +kernel
theorem dX10_judges_50 : decode cX10_judges 50 = .ok (.iconst 0, 1) := by decide +kernel
theorem dX10_judges_51 : decode cX10_judges 51 = .ok (.istore_n 2, 1) := by decide +kernel
theorem dX10_judges_52 : decode cX10_judges 52 = .ok (.iload_n 2, 1) := by decide +kernel
theorem dX10_judges_53 : decode cX10_judges 53 = .ok (.aload_n 0, 1) := by decide +kernel
theorem dX10_judges_54 : decode cX10_judges 54 = .ok (.getfield 112, 3) := by decide +kernel
theorem dX10_judges_57 : decode cX10_judges 57 = .ok (.if_icmp .ge 57, 3) := by decide +kernel
theorem dX10_judges_60 : decode cX10_judges 60 = .ok (.aload_n 0, 1) := by decide +kernel
theorem dX10_judges_61 : decode cX10_judges 61 = .ok (.getfield 26, 3) := by decide +kernel
theorem dX10_judges_64 : decode cX10_judges 64 = .ok (.iload_n 2, 1) := by decide +kernel
theorem dX10_judges_65 : decode cX10_judges 65 = .ok (.iaload, 1) := by decide +kernel
theorem dX10_judges_66 : decode cX10_judges 66 = .ok (.ifCond .ne 42, 3) := by decide +kernel
theorem dX10_judges_69 : decode cX10_judges 69 = .ok (.aload_n 0, 1) := by decide +kernel
theorem dX10_judges_70 : decode cX10_judges 70 = .ok (.getfield 32, 3) := by decide +kernel
theorem dX10_judges_73 : decode cX10_judges 73 = .ok (.iload_n 2, 1) := by decide +kernel
theorem dX10_judges_74 : decode cX10_judges 74 = .ok (.iaload, 1) := by decide +kernel
theorem dX10_judges_75 : decode cX10_judges 75 = .ok (.iload_n 1, 1) := by decide +kernel
theorem dX10_judges_76 : decode cX10_judges 76 = .ok (.if_icmp .ne 32, 3) := by decide +kernel
theorem dX10_judges_79 : decode cX10_judges 79 = .ok (.aload_n 0, 1) := by decide +kernel
theorem dX10_judges_80 : decode cX10_judges 80 = .ok (.iload_n 2, 1) := by decide +kernel
theorem dX10_judges_81 : decode cX10_judges 81 = .ok (.invokevirtual 170, 3) := by decide +kernel
theorem dX10_judges_84 : decode cX10_judges 84 = .ok (.istore_n 3, 1) := by decide +kernel
theorem dX10_judges_85 : decode cX10_judges 85 = .ok (.aload_n 0, 1) := by decide +kernel
theorem dX10_judges_86 : decode cX10_judges 86 = .ok (.getfield 78, 3) := by decide +kernel
theorem dX10_judges_89 : decode cX10_judges 89 = .ok (.iload_n 2, 1) := by decide +kernel
theorem dX10_judges_90 : decode cX10_judges 90 = .ok (.iload_n 3, 1) := by decide +kernel
theorem dX10_judges_91 : decode cX10_judges 91 = .ok (.ifCond .ne 15, 3) := by decide +kernel
theorem dX10_judges_94 : decode cX10_judges 94 = .ok (.aload_n 0, 1) := by decide +kernel
theorem dX10_judges_95 : decode cX10_judges 95 = .ok (.iload_n 2, 1) := by decide +kernel
theorem dX10_judges_96 : decode cX10_judges 96 = .ok (.invokevirtual 173, 3) := by decide +kernel
theorem dX10_judges_99 : decode cX10_judges 99 = .ok (.ifCond .eq 7, 3) := by decide +kernel
theorem dX10_judges_102 : decode cX10_judges 102 = .ok (.iconst 5, 1) := by decide +kernel
theorem dX10_judges_103 : decode cX10_judges 103 = .ok (.goto 4, 3) := by decide +kernel
theorem dX10_judges_106 : decode cX10_judges 106 = .ok (.iload_n 3, 1) := by decide +kernel
theorem dX10_judges_107 : decode cX10_judges 107 = .ok (.iastore, 1) := by decide +kernel
theorem dX10_judges_108 : decode cX10_judges 108 = .ok (.iinc 2 1, 3) := by decide +kernel
theorem dX10_judges_111 : decode cX10_judges 111 = .ok (.goto (-59), 3) := by decide +kernel
theorem dX10_judges_114 : decode cX10_judges 114 = .ok (.iinc 1 1, 3) := by decide +kernel
theorem dX10_judges_117 : decode cX10_judges 117 = .ok (.goto (-75), 3) := by decide +kernel
theorem dX10_judges_120 : decode cX10_judges 120 = .ok (.iconst 0, 1) := by decide +kernel
theorem dX10_judges_121 : decode cX10_judges 121 = .ok (.istore_n 1, 1) := by decide +kernel
theorem dX10_judges_122 : decode cX10_judges 122 = .ok (.iload_n 1, 1) := by decide +kernel
theorem dX10_judges_123 : decode cX10_judges 123 = .ok (.aload_n 0, 1) := by decide +kernel
theorem dX10_judges_124 : decode cX10_judges 124 = .ok (.getfield 112, 3) := by decide +kernel
theorem dX10_judges_127 : decode cX10_judges 127 = .ok (.if_icmp .ge 51, 3) := by decide +kernel
theorem dX10_judges_130 : decode cX10_judges 130 = .ok (.aload_n 0, 1) := by decide +kernel
theorem dX10_judges_131 : decode cX10_judges 131 = .ok (.getfield 78, 3) := by decide +kernel
theorem dX10_judges_134 : decode cX10_judges 134 = .ok (.iload_n 1, 1) := by decide +kernel
theorem dX10_judges_135 : decode cX10_judges 135 = .ok (.aload_n 0, 1) := by decide +kernel
theorem dX10_judges_136 : decode cX10_judges 136 = .ok (.getfield 78, 3) := by decide +kernel
theorem dX10_judges_139 : decode cX10_judges 139 = .ok (.iload_n 1, 1) := by decide +kernel
theorem dX10_judges_140 : decode cX10_judges 140 = .ok (.iaload, 1) := by decide +kernel
theorem dX10_judges_141 : decode cX10_judges 141 = .ok (.ifCond .ne 24, 3) := by decide +kernel
theorem dX10_judges_144 : decode cX10_judges 144 = .ok (.aload_n 0, 1) := by decide +kernel
theorem dX10_judges_145 : decode cX10_judges 145 = .ok (.getfield 26, 3) := by decide +kernel
theorem dX10_judges_148 : decode cX10_judges 148 = .ok (.iload_n 1, 1) := by decide +kernel
theorem dX10_judges_149 : decode cX10_judges 149 = .ok (.iaload, 1) := by decide +kernel
theorem dX10_judges_150 : decode cX10_judges 150 = .ok (.ifCond .eq 15, 3) := by decide +kernel
theorem dX10_judges_153 : decode cX10_judges 153 = .ok (.aload_n 0, 1) := by decide +kernel
theorem dX10_judges_154 : decode cX10_judges 154 = .ok (.iload_n 1, 1) := by decide +kernel
theorem dX10_judges_155 : decode cX10_judges 155 = .ok (.invokevirtual 173, 3) := by decide +kernel
theorem dX10_judges_158 : decode cX10_judges 158 = .ok (.ifCond .eq 7, 3) := by decide +kernel
theorem dX10_judges_161 : decode cX10_judges 161 = .ok (.iconst 5, 1) := by decide +kernel
theorem dX10_judges_162 : decode cX10_judges 162 = .ok (.goto 9, 3) := by decide +kernel
theorem dX10_judges_165 : decode cX10_judges 165 = .ok (.aload_n 0, 1) := by decide +kernel
theorem dX10_judges_166 : decode cX10_judges 166 = .ok (.getfield 78, 3) := by decide +kernel
theorem dX10_judges_169 : decode cX10_judges 169 = .ok (.iload_n 1, 1) := by decide +kernel
theorem dX10_judges_170 : decode cX10_judges 170 = .ok (.iaload, 1) := by decide +kernel
theorem dX10_judges_171 : decode cX10_judges 171 = .ok (.iastore, 1) := by decide +kernel
theorem dX10_judges_172 : decode cX10_judges 172 = .ok (.iinc 1 1, 3) := by decide +kernel
theorem dX10_judges_175 : decode cX10_judges 175 = .ok (.goto (-53), 3) := by decide +kernel
theorem dX10_judges_178 : decode cX10_judges 178 = .ok (.return_, 1) := by decide +kernel
theorem dX10_judged_0 : decode cX10_judged 0 = .ok (.aload_n 0, 1) := by decide +kernel
theorem dX10_judged_1 : decode cX10_judged 1 = .ok (.aload_n 0, 1) := by decide +kernel
theorem dX10_judged_2 : decode cX10_judged 2 = .ok (.iload_n 1, 1) := by decide +kernel
theorem dX10_judged_3 : decode cX10_judged 3 = .ok (.invokevirtual 148, 3) := by decide +kernel
theorem dX10_judged_6 : decode cX10_judged 6 = .ok (.ifCond .eq 7, 3) := by decide +kernel
theorem dX10_judged_9 : decode cX10_judged 9 = .ok (.iconst 0, 1) := by decide +kernel
theorem dX10_judged_10 : decode cX10_judged 10 = .ok (.goto 4, 3) := by decide +kernel
theorem dX10_judged_13 : decode cX10_judged 13 = .ok (.iconst 1, 1) := by decide +kernel
theorem dX10_judged_14 : decode cX10_judged 14 = .ok (.invokevirtual 119, 3) := by decide +kernel
theorem dX10_judged_17 : decode cX10_judged 17 = .ok (.ifCond .ne 5, 3) := by decide +kernel
theorem dX10_judged_20 : decode cX10_judged 20 = .ok (.iconst 0, 1) := by decide +kernel
theorem dX10_judged_21 : decode cX10_judged 21 = .ok (.ireturn, 1) := by decide +kernel
theorem dX10_judged_22 : decode cX10_judged 22 = .ok (.aload_n 0, 1) := by decide +kernel
theorem dX10_judged_23 : decode cX10_judged 23 = .ok (.invokevirtual 176, 3) := by decide +kernel
theorem dX10_judged_26 : decode cX10_judged 26 = .ok (.aload_n 0, 1) := by decide +kernel
theorem dX10_judged_27 : decode cX10_judged 27 = .ok (.getfield 78, 3) := by decide +kernel
theorem dX10_judged_30 : decode cX10_judged 30 = .ok (.iload_n 1, 1) := by decide +kernel
theorem dX10_judged_31 : decode cX10_judged 31 = .ok (.iaload, 1) := by decide +kernel
theorem dX10_judged_32 : decode cX10_judged 32 = .ok (.ireturn, 1) := by decide +kernel
theorem dX10_hasNow_0 : decode cX10_hasNow 0 = .ok (.aload_n 0, 1) := by decide +kernel
theorem dX10_hasNow_1 : decode cX10_hasNow 1 = .ok (.aload_n 0, 1) := by decide +kernel
theorem dX10_hasNow_2 : decode cX10_hasNow 2 = .ok (.iload_n 1, 1) := by decide +kernel
theorem dX10_hasNow_3 : decode cX10_hasNow 3 = .ok (.invokevirtual 115, 3) := by decide +kernel
theorem dX10_hasNow_6 : decode cX10_hasNow 6 = .ok (.ifCond .ne 7, 3) := by decide +kernel
theorem dX10_hasNow_9 : decode cX10_hasNow 9 = .ok (.iconst 1, 1) := by decide +kernel
theorem dX10_hasNow_10 : decode cX10_hasNow 10 = .ok (.goto 16, 3) := by decide +kernel
theorem dX10_hasNow_13 : decode cX10_hasNow 13 = .ok (.iload_n 2, 1) := by decide +kernel
theorem dX10_hasNow_14 : decode cX10_hasNow 14 = .ok (.iload_n 3, 1) := by decide +kernel
theorem dX10_hasNow_15 : decode cX10_hasNow 15 = .ok (.invokestatic 137, 3) := by decide +kernel
theorem dX10_hasNow_18 : decode cX10_hasNow 18 = .ok (.ifCond .ne 7, 3) := by decide +kernel
theorem dX10_hasNow_21 : decode cX10_hasNow 21 = .ok (.iconst 2, 1) := by decide +kernel
theorem dX10_hasNow_22 : decode cX10_hasNow 22 = .ok (.goto 4, 3) := by decide +kernel
theorem dX10_hasNow_25 : decode cX10_hasNow 25 = .ok (.iconst 0, 1) := by decide +kernel
theorem dX10_hasNow_26 : decode cX10_hasNow 26 = .ok (.invokevirtual 119, 3) := by decide +kernel
theorem dX10_hasNow_29 : decode cX10_hasNow 29 = .ok (.ifCond .ne 5, 3) := by decide +kernel
theorem dX10_hasNow_32 : decode cX10_hasNow 32 = .ok (.iconst 0, 1) := by decide +kernel
theorem dX10_hasNow_33 : decode cX10_hasNow 33 = .ok (.ireturn, 1) := by decide +kernel
theorem dX10_hasNow_34 : decode cX10_hasNow 34 = .ok (.aload_n 0, 1) := by decide +kernel
theorem dX10_hasNow_35 : decode cX10_hasNow 35 = .ok (.invokevirtual 176, 3) := by decide +kernel
theorem dX10_hasNow_38 : decode cX10_hasNow 38 = .ok (.aload_n 0, 1) := by decide +kernel
theorem dX10_hasNow_39 : decode cX10_hasNow 39 = .ok (.iload_n 1, 1) := by decide +kernel
theorem dX10_hasNow_40 : decode cX10_hasNow 40 = .ok (.iload_n 2, 1) := by decide +kernel
theorem dX10_hasNow_41 : decode cX10_hasNow 41 = .ok (.iload_n 3, 1) := by decide +kernel
theorem dX10_hasNow_42 : decode cX10_hasNow 42 = .ok (.invokevirtual 167, 3) := by decide +kernel
theorem dX10_hasNow_45 : decode cX10_hasNow 45 = .ok (.ireturn, 1) := by decide +kernel
theorem dX10_has_0 : decode cX10_has 0 = .ok (.aload_n 0, 1) := by decide +kernel
theorem dX10_has_1 : decode cX10_has 1 = .ok (.iload_n 1, 1) := by decide +kernel
theorem dX10_has_2 : decode cX10_has 2 = .ok (.iload_n 2, 1) := by decide +kernel
theorem dX10_has_3 : decode cX10_has 3 = .ok (.iload_n 3, 1) := by decide +kernel
theorem dX10_has_4 : decode cX10_has 4 = .ok (.invokevirtual 179, 3) := by decide +kernel
theorem dX10_has_7 : decode cX10_has 7 = .ok (.ireturn, 1) := by decide +kernel
theorem dX10_hasByChains_0 : decode cX10_hasByChains 0 = .ok (.aload_n 0, 1) := by decide +kernel
theorem dX10_hasByChains_1 : decode cX10_hasByChains 1 = .ok (.iload_n 1, 1) := by decide +kernel
theorem dX10_hasByChains_2 : decode cX10_hasByChains 2 = .ok (.iload_n 2, 1) := by decide +kernel
theorem dX10_hasByChains_3 : decode cX10_hasByChains 3 = .ok (.iload_n 3, 1) := by decide +kernel
theorem dX10_hasByChains_4 : decode cX10_hasByChains 4 = .ok (.invokevirtual 179, 3) := by decide +kernel
theorem dX10_hasByChains_7 : decode cX10_hasByChains 7 = .ok (.ireturn, 1) := by decide +kernel
theorem dX10_stands_0 : decode cX10_stands 0 = .ok (.iconst 0, 1) := by decide +kernel
theorem dX10_stands_1 : decode cX10_stands 1 = .ok (.istore 4, 2) := by decide +kernel
theorem dX10_stands_3 : decode cX10_stands 3 = .ok (.iconst 0, 1) := by decide +kernel
theorem dX10_stands_4 : decode cX10_stands 4 = .ok (.istore 5, 2) := by decide +kernel
theorem dX10_stands_6 : decode cX10_stands 6 = .ok (.iload 5, 2) := by decide +kernel
theorem dX10_stands_8 : decode cX10_stands 8 = .ok (.aload_n 0, 1) := by decide +kernel
theorem dX10_stands_9 : decode cX10_stands 9 = .ok (.getfield 112, 3) := by decide +kernel
theorem dX10_stands_12 : decode cX10_stands 12 = .ok (.if_icmp .ge 87, 3) := by decide +kernel
theorem dX10_stands_15 : decode cX10_stands 15 = .ok (.iload 4, 2) := by decide +kernel
theorem dX10_stands_17 : decode cX10_stands 17 = .ok (.iconst 1, 1) := by decide +kernel
theorem dX10_stands_18 : decode cX10_stands 18 = .ok (.if_icmp .eq 81, 3) := by decide +kernel
theorem dX10_stands_21 : decode cX10_stands 21 = .ok (.aload_n 0, 1) := by decide +kernel
theorem dX10_stands_22 : decode cX10_stands 22 = .ok (.getfield 26, 3) := by decide +kernel
theorem dX10_stands_25 : decode cX10_stands 25 = .ok (.iload 5, 2) := by decide +kernel
theorem dX10_stands_27 : decode cX10_stands 27 = .ok (.iaload, 1) := by decide +kernel
theorem dX10_stands_28 : decode cX10_stands 28 = .ok (.iconst 1, 1) := by decide +kernel
theorem dX10_stands_29 : decode cX10_stands 29 = .ok (.if_icmp .ne 64, 3) := by decide +kernel
theorem dX10_stands_32 : decode cX10_stands 32 = .ok (.aload_n 0, 1) := by decide +kernel
theorem dX10_stands_33 : decode cX10_stands 33 = .ok (.getfield 78, 3) := by decide +kernel
theorem dX10_stands_36 : decode cX10_stands 36 = .ok (.iload 5, 2) := by decide +kernel
theorem dX10_stands_38 : decode cX10_stands 38 = .ok (.iaload, 1) := by decide +kernel
theorem dX10_stands_39 : decode cX10_stands 39 = .ok (.ifCond .ne 54, 3) := by decide +kernel
theorem dX10_stands_42 : decode cX10_stands 42 = .ok (.iload_n 2, 1) := by decide +kernel
theorem dX10_stands_43 : decode cX10_stands 43 = .ok (.iload_n 3, 1) := by decide +kernel
theorem dX10_stands_44 : decode cX10_stands 44 = .ok (.aload_n 0, 1) := by decide +kernel
theorem dX10_stands_45 : decode cX10_stands 45 = .ok (.getfield 35, 3) := by decide +kernel
theorem dX10_stands_48 : decode cX10_stands 48 = .ok (.iload 5, 2) := by decide +kernel
theorem dX10_stands_50 : decode cX10_stands 50 = .ok (.iaload, 1) := by decide +kernel
theorem dX10_stands_51 : decode cX10_stands 51 = .ok (.aload_n 0, 1) := by decide +kernel
theorem dX10_stands_52 : decode cX10_stands 52 = .ok (.getfield 38, 3) := by decide +kernel
theorem dX10_stands_55 : decode cX10_stands 55 = .ok (.iload 5, 2) := by decide +kernel
theorem dX10_stands_57 : decode cX10_stands 57 = .ok (.iaload, 1) := by decide +kernel
theorem dX10_stands_58 : decode cX10_stands 58 = .ok (.invokestatic 160, 3) := by decide +kernel
theorem dX10_stands_61 : decode cX10_stands 61 = .ok (.ifCond .eq 32, 3) := by decide +kernel
theorem dX10_stands_64 : decode cX10_stands 64 = .ok (.aload_n 0, 1) := by decide +kernel
theorem dX10_stands_65 : decode cX10_stands 65 = .ok (.getfield 32, 3) := by decide +kernel
theorem dX10_stands_68 : decode cX10_stands 68 = .ok (.iload 5, 2) := by decide +kernel
theorem dX10_stands_70 : decode cX10_stands 70 = .ok (.iaload, 1) := by decide +kernel
theorem dX10_stands_71 : decode cX10_stands 71 = .ok (.iload_n 1, 1) := by decide +kernel
theorem dX10_stands_72 : decode cX10_stands 72 = .ok (.if_icmp .ne 18, 3) := by decide +kernel
theorem dX10_stands_75 : decode cX10_stands 75 = .ok (.iload_n 3, 1) := by decide +kernel
theorem dX10_stands_76 : decode cX10_stands 76 = .ok (.aload_n 0, 1) := by decide +kernel
theorem dX10_stands_77 : decode cX10_stands 77 = .ok (.getfield 41, 3) := by decide +kernel
theorem dX10_stands_80 : decode cX10_stands 80 = .ok (.iload 5, 2) := by decide +kernel
theorem dX10_stands_82 : decode cX10_stands 82 = .ok (.iaload, 1) := by decide +kernel
theorem dX10_stands_83 : decode cX10_stands 83 = .ok (.if_icmp .gt 7, 3) := by decide +kernel
theorem dX10_stands_86 : decode cX10_stands 86 = .ok (.iconst 1, 1) := by decide +kernel
theorem dX10_stands_87 : decode cX10_stands 87 = .ok (.goto 4, 3) := by decide +kernel
theorem dX10_stands_90 : decode cX10_stands 90 = .ok (.iconst 2, 1) := by decide +kernel
theorem dX10_stands_91 : decode cX10_stands 91 = .ok (.istore 4, 2) := by decide +kernel
theorem dX10_stands_93 : decode cX10_stands 93 = .ok (.iinc 5 1, 3) := by decide +kernel
theorem dX10_stands_96 : decode cX10_stands 96 = .ok (.goto (-90), 3) := by decide +kernel
theorem dX10_stands_99 : decode cX10_stands 99 = .ok (.iload 4, 2) := by decide +kernel
theorem dX10_stands_101 : decode cX10_stands 101 = .ok (.ireturn, 1) := by decide +kernel
theorem dX10_state_0 : decode cX10_state 0 = .ok (.aload_n 0, 1) := by decide +kernel
theorem dX10_state_1 : decode cX10_state 1 = .ok (.iload_n 1, 1) := by decide +kernel
theorem dX10_state_2 : decode cX10_state 2 = .ok (.invokestatic 125, 3) := by decide +kernel
theorem dX10_state_5 : decode cX10_state 5 = .ok (.ifCond .ne 7, 3) := by decide +kernel
theorem dX10_state_8 : decode cX10_state 8 = .ok (.iconst 1, 1) := by decide +kernel
theorem dX10_state_9 : decode cX10_state 9 = .ok (.goto 16, 3) := by decide +kernel
theorem dX10_state_12 : decode cX10_state 12 = .ok (.iload_n 2, 1) := by decide +kernel
theorem dX10_state_13 : decode cX10_state 13 = .ok (.iload_n 3, 1) := by decide +kernel
theorem dX10_state_14 : decode cX10_state 14 = .ok (.invokestatic 137, 3) := by decide +kernel
theorem dX10_state_17 : decode cX10_state 17 = .ok (.ifCond .ne 7, 3) := by decide +kernel
theorem dX10_state_20 : decode cX10_state 20 = .ok (.iconst 2, 1) := by decide +kernel
theorem dX10_state_21 : decode cX10_state 21 = .ok (.goto 4, 3) := by decide +kernel
theorem dX10_state_24 : decode cX10_state 24 = .ok (.iconst 0, 1) := by decide +kernel
theorem dX10_state_25 : decode cX10_state 25 = .ok (.invokevirtual 119, 3) := by decide +kernel
theorem dX10_state_28 : decode cX10_state 28 = .ok (.ifCond .ne 5, 3) := by decide +kernel
theorem dX10_state_31 : decode cX10_state 31 = .ok (.iconst 0, 1) := by decide +kernel
theorem dX10_state_32 : decode cX10_state 32 = .ok (.ireturn, 1) := by decide +kernel
theorem dX10_state_33 : decode cX10_state 33 = .ok (.aload_n 0, 1) := by decide +kernel
theorem dX10_state_34 : decode cX10_state 34 = .ok (.invokevirtual 176, 3) := by decide +kernel
theorem dX10_state_37 : decode cX10_state 37 = .ok (.aload_n 0, 1) := by decide +kernel
theorem dX10_state_38 : decode cX10_state 38 = .ok (.iload_n 1, 1) := by decide +kernel
theorem dX10_state_39 : decode cX10_state 39 = .ok (.iload_n 2, 1) := by decide +kernel
theorem dX10_state_40 : decode cX10_state 40 = .ok (.iload_n 3, 1) := by decide +kernel
theorem dX10_state_41 : decode cX10_state 41 = .ok (.invokevirtual 182, 3) := by decide +kernel
theorem dX10_state_44 : decode cX10_state 44 = .ok (.ireturn, 1) := by decide +kernel
theorem dX10_vouches_0 : decode cX10_vouches 0 = .ok (.aload_n 0, 1) := by decide +kernel
theorem dX10_vouches_1 : decode cX10_vouches 1 = .ok (.invokevirtual 176, 3) := by decide +kernel
theorem dX10_vouches_4 : decode cX10_vouches 4 = .ok (.iconst 0, 1) := by decide +kernel
theorem dX10_vouches_5 : decode cX10_vouches 5 = .ok (.istore_n 1, 1) := by decide +kernel
theorem dX10_vouches_6 : decode cX10_vouches 6 = .ok (.iload_n 1, 1) := by decide +kernel
theorem dX10_vouches_7 : decode cX10_vouches 7 = .ok (.bipush 10, 2) := by decide +kernel
theorem dX10_vouches_9 : decode cX10_vouches 9 = .ok (.if_icmp .ge 23, 3) := by decide +kernel
theorem dX10_vouches_12 : decode cX10_vouches 12 = .ok (.aload_n 0, 1) := by decide +kernel
theorem dX10_vouches_13 : decode cX10_vouches 13 = .ok (.getfield 81, 3) := by decide +kernel
theorem dX10_vouches_16 : decode cX10_vouches 16 = .ok (.iload_n 1, 1) := by decide +kernel
theorem dX10_vouches_17 : decode cX10_vouches 17 = .ok (.iconst 0, 1) := by decide +kernel
theorem dX10_vouches_18 : decode cX10_vouches 18 = .ok (.iastore, 1) := by decide +kernel
theorem dX10_vouches_19 : decode cX10_vouches 19 = .ok (.aload_n 0, 1) := by decide +kernel
theorem dX10_vouches_20 : decode cX10_vouches 20 = .ok (.getfield 84, 3) := by decide +kernel
theorem dX10_vouches_23 : decode cX10_vouches 23 = .ok (.iload_n 1, 1) := by decide +kernel
theorem dX10_vouches_24 : decode cX10_vouches 24 = .ok (.iconst 0, 1) := by decide +kernel
theorem dX10_vouches_25 : decode cX10_vouches 25 = .ok (.bastore, 1) := by decide +kernel
theorem dX10_vouches_26 : decode cX10_vouches 26 = .ok (.iinc 1 1, 3) := by decide +kernel
theorem dX10_vouches_29 : decode cX10_vouches 29 = .ok (.goto (-23), 3) := by decide +kernel
theorem dX10_vouches_32 : decode cX10_vouches 32 = .ok (.iconst 0, 1) := by decide +kernel
theorem dX10_vouches_33 : decode cX10_vouches 33 = .ok (.istore_n 1, 1) := by decide +kernel
theorem dX10_vouches_34 : decode cX10_vouches 34 = .ok (.iload_n 1, 1) := by decide +kernel
theorem dX10_vouches_35 : decode cX10_vouches 35 = .ok (.aload_n 0, 1) := by decide +kernel
theorem dX10_vouches_36 : decode cX10_vouches 36 = .ok (.getfield 112, 3) := by decide +kernel
theorem dX10_vouches_39 : decode cX10_vouches 39 = .ok (.if_icmp .ge 60, 3) := by decide +kernel
theorem dX10_vouches_42 : decode cX10_vouches 42 = .ok (.aload_n 0, 1) := by decide +kernel
theorem dX10_vouches_43 : decode cX10_vouches 43 = .ok (.getfield 26, 3) := by decide +kernel
theorem dX10_vouches_46 : decode cX10_vouches 46 = .ok (.iload_n 1, 1) := by decide +kernel
theorem dX10_vouches_47 : decode cX10_vouches 47 = .ok (.iaload, 1) := by decide +kernel
theorem dX10_vouches_48 : decode cX10_vouches 48 = .ok (.iconst 2, 1) := by decide +kernel
theorem dX10_vouches_49 : decode cX10_vouches 49 = .ok (.if_icmp .ne 44, 3) := by decide +kernel
theorem dX10_vouches_52 : decode cX10_vouches 52 = .ok (.aload_n 0, 1) := by decide +kernel
theorem dX10_vouches_53 : decode cX10_vouches 53 = .ok (.getfield 78, 3) := by decide +kernel
theorem dX10_vouches_56 : decode cX10_vouches 56 = .ok (.iload_n 1, 1) := by decide +kernel
theorem dX10_vouches_57 : decode cX10_vouches 57 = .ok (.iaload, 1) := by decide +kernel
theorem dX10_vouches_58 : decode cX10_vouches 58 = .ok (.ifCond .ne 35, 3) := by decide +kernel
theorem dX10_vouches_61 : decode cX10_vouches 61 = .ok (.aload_n 0, 1) := by decide +kernel
theorem dX10_vouches_62 : decode cX10_vouches 62 = .ok (.getfield 81, 3) := by decide +kernel
theorem dX10_vouches_65 : decode cX10_vouches 65 = .ok (.aload_n 0, 1) := by decide +kernel
theorem dX10_vouches_66 : decode cX10_vouches 66 = .ok (.getfield 32, 3) := by decide +kernel
theorem dX10_vouches_69 : decode cX10_vouches 69 = .ok (.iload_n 1, 1) := by decide +kernel
theorem dX10_vouches_70 : decode cX10_vouches 70 = .ok (.iaload, 1) := by decide +kernel
theorem dX10_vouches_71 : decode cX10_vouches 71 = .ok (.dup2, 1) := by decide +kernel
theorem dX10_vouches_72 : decode cX10_vouches 72 = .ok (.iaload, 1) := by decide +kernel
theorem dX10_vouches_73 : decode cX10_vouches 73 = .ok (.aload_n 0, 1) := by decide +kernel
theorem dX10_vouches_74 : decode cX10_vouches 74 = .ok (.getfield 41, 3) := by decide +kernel
theorem dX10_vouches_77 : decode cX10_vouches 77 = .ok (.iload_n 1, 1) := by decide +kernel
theorem dX10_vouches_78 : decode cX10_vouches 78 = .ok (.iaload, 1) := by decide +kernel
theorem dX10_vouches_79 : decode cX10_vouches 79 = .ok (.ior, 1) := by decide +kernel
theorem dX10_vouches_80 : decode cX10_vouches 80 = .ok (.iastore, 1) := by decide +kernel
theorem dX10_vouches_81 : decode cX10_vouches 81 = .ok (.aload_n 0, 1) := by decide +kernel
theorem dX10_vouches_82 : decode cX10_vouches 82 = .ok (.getfield 84, 3) := by decide +kernel
theorem dX10_vouches_85 : decode cX10_vouches 85 = .ok (.aload_n 0, 1) := by decide +kernel
theorem dX10_vouches_86 : decode cX10_vouches 86 = .ok (.getfield 32, 3) := by decide +kernel
theorem dX10_vouches_89 : decode cX10_vouches 89 = .ok (.iload_n 1, 1) := by decide +kernel
theorem dX10_vouches_90 : decode cX10_vouches 90 = .ok (.iaload, 1) := by decide +kernel
theorem dX10_vouches_91 : decode cX10_vouches 91 = .ok (.iconst 1, 1) := by decide +kernel
theorem dX10_vouches_92 : decode cX10_vouches 92 = .ok (.bastore, 1) := by decide +kernel
theorem dX10_vouches_93 : decode cX10_vouches 93 = .ok (.iinc 1 1, 3) := by decide +kernel
theorem dX10_vouches_96 : decode cX10_vouches 96 = .ok (.goto (-62), 3) := by decide +kernel
theorem dX10_vouches_99 : decode cX10_vouches 99 = .ok (.return_, 1) := by decide +kernel
theorem dX10_isFor_0 : decode cX10_isFor 0 = .ok (.aload_n 0, 1) := by decide +kernel
theorem dX10_isFor_1 : decode cX10_isFor 1 = .ok (.getfield 81, 3) := by decide +kernel
theorem dX10_isFor_4 : decode cX10_isFor 4 = .ok (.iload_n 1, 1) := by decide +kernel
theorem dX10_isFor_5 : decode cX10_isFor 5 = .ok (.iaload, 1) := by decide +kernel
theorem dX10_isFor_6 : decode cX10_isFor 6 = .ok (.iload_n 2, 1) := by decide +kernel
theorem dX10_isFor_7 : decode cX10_isFor 7 = .ok (.ishr, 1) := by decide +kernel
theorem dX10_isFor_8 : decode cX10_isFor 8 = .ok (.iconst 1, 1) := by decide +kernel
theorem dX10_isFor_9 : decode cX10_isFor 9 = .ok (.iand, 1) := by decide +kernel
theorem dX10_isFor_10 : decode cX10_isFor 10 = .ok (.iconst 1, 1) := by decide +kernel
theorem dX10_isFor_11 : decode cX10_isFor 11 = .ok (.if_icmp .ne 7, 3) := by decide +kernel
theorem dX10_isFor_14 : decode cX10_isFor 14 = .ok (.iconst 1, 1) := by decide +kernel
theorem dX10_isFor_15 : decode cX10_isFor 15 = .ok (.goto 4, 3) := by decide +kernel
theorem dX10_isFor_18 : decode cX10_isFor 18 = .ok (.iconst 0, 1) := by decide +kernel
theorem dX10_isFor_19 : decode cX10_isFor 19 = .ok (.ireturn, 1) := by decide +kernel
theorem dX10_denies_0 : decode cX10_denies 0 = .ok (.aload_n 0, 1) := by decide +kernel
theorem dX10_denies_1 : decode cX10_denies 1 = .ok (.getfield 84, 3) := by decide +kernel
theorem dX10_denies_4 : decode cX10_denies 4 = .ok (.iload_n 1, 1) := by decide +kernel
theorem dX10_denies_5 : decode cX10_denies 5 = .ok (.baload, 1) := by decide +kernel
theorem dX10_denies_6 : decode cX10_denies 6 = .ok (.ifCond .eq 16, 3) := by decide +kernel
theorem dX10_denies_9 : decode cX10_denies 9 = .ok (.aload_n 0, 1) := by decide +kernel
theorem dX10_denies_10 : decode cX10_denies 10 = .ok (.iload_n 1, 1) := by decide +kernel
theorem dX10_denies_11 : decode cX10_denies 11 = .ok (.iload_n 2, 1) := by decide +kernel
theorem dX10_denies_12 : decode cX10_denies 12 = .ok (.invokevirtual 186, 3) := by decide +kernel
theorem dX10_denies_15 : decode cX10_denies 15 = .ok (.ifCond .ne 7, 3) := by decide +kernel
theorem dX10_denies_18 : decode cX10_denies 18 = .ok (.iconst 1, 1) := by decide +kernel
theorem dX10_denies_19 : decode cX10_denies 19 = .ok (.goto 4, 3) := by decide +kernel
theorem dX10_denies_22 : decode cX10_denies 22 = .ok (.iconst 0, 1) := by decide +kernel
theorem dX10_denies_23 : decode cX10_denies 23 = .ok (.ireturn, 1) := by decide +kernel
theorem dX10_runsRound_0 : decode cX10_runsRound 0 = .ok (.iconst 0, 1) := by decide +kernel
theorem dX10_runsRound_1 : decode cX10_runsRound 1 = .ok (.istore_n 3, 1) := by decide +kernel
theorem dX10_runsRound_2 : decode cX10_runsRound 2 = .ok (.iconst 0, 1) := by decide +kernel
theorem dX10_runsRound_3 : decode cX10_runsRound 3 = .ok (.istore 4, 2) := by decide +kernel
theorem dX10_runsRound_5 : decode cX10_runsRound 5 = .ok (.iload_n 1, 1) := by decide +kernel
theorem dX10_runsRound_6 : decode cX10_runsRound 6 = .ok (.istore 5, 2) := by decide +kernel
theorem dX10_runsRound_8 : decode cX10_runsRound 8 = .ok (.iload 5, 2) := by decide +kernel
theorem dX10_runsRound_10 : decode cX10_runsRound 10 = .ok (.iload_n 1, 1) := by decide +kernel
theorem dX10_runsRound_11 : decode cX10_runsRound 11 = .ok (.iload_n 2, 1) := by decide +kernel
theorem dX10_runsRound_12 : decode cX10_runsRound 12 = .ok (.iadd, 1) := by decide +kernel
theorem dX10_runsRound_13 : decode cX10_runsRound 13 = .ok (.if_icmp .ge 42, 3) := by decide +kernel
theorem dX10_runsRound_16 : decode cX10_runsRound 16 = .ok (.iload 4, 2) := by decide +kernel
theorem dX10_runsRound_18 : decode cX10_runsRound 18 = .ok (.ifCond .ne 15, 3) := by decide +kernel
theorem dX10_runsRound_21 : decode cX10_runsRound 21 = .ok (.iload_n 3, 1) := by decide +kernel
theorem dX10_runsRound_22 : decode cX10_runsRound 22 = .ok (.aload_n 0, 1) := by decide +kernel
theorem dX10_runsRound_23 : decode cX10_runsRound 23 = .ok (.iload 5, 2) := by decide +kernel
theorem dX10_runsRound_25 : decode cX10_runsRound 25 = .ok (.iaload, 1) := by decide +kernel
theorem dX10_runsRound_26 : decode cX10_runsRound 26 = .ok (.ishr, 1) := by decide +kernel
theorem dX10_runsRound_27 : decode cX10_runsRound 27 = .ok (.iconst 1, 1) := by decide +kernel
theorem dX10_runsRound_28 : decode cX10_runsRound 28 = .ok (.iand, 1) := by decide +kernel
theorem dX10_runsRound_29 : decode cX10_runsRound 29 = .ok (.iconst 1, 1) := by decide +kernel
theorem dX10_runsRound_30 : decode cX10_runsRound 30 = .ok (.if_icmp .ne 7, 3) := by decide +kernel
theorem dX10_runsRound_33 : decode cX10_runsRound 33 = .ok (.iconst 1, 1) := by decide +kernel
theorem dX10_runsRound_34 : decode cX10_runsRound 34 = .ok (.goto 4, 3) := by decide +kernel
theorem dX10_runsRound_37 : decode cX10_runsRound 37 = .ok (.iconst 0, 1) := by decide +kernel
theorem dX10_runsRound_38 : decode cX10_runsRound 38 = .ok (.istore 4, 2) := by decide +kernel
theorem dX10_runsRound_40 : decode cX10_runsRound 40 = .ok (.iload_n 3, 1) := by decide +kernel
theorem dX10_runsRound_41 : decode cX10_runsRound 41 = .ok (.iconst 1, 1) := by decide +kernel
theorem dX10_runsRound_42 : decode cX10_runsRound 42 = .ok (.aload_n 0, 1) := by decide +kernel
theorem dX10_runsRound_43 : decode cX10_runsRound 43 = .ok (.iload 5, 2) := by decide +kernel
theorem dX10_runsRound_45 : decode cX10_runsRound 45 = .ok (.iaload, 1) := by decide +kernel
theorem dX10_runsRound_46 : decode cX10_runsRound 46 = .ok (.ishl, 1) := by decide +kernel
theorem dX10_runsRound_47 : decode cX10_runsRound 47 = .ok (.ior, 1) := by decide +kernel
theorem dX10_runsRound_48 : decode cX10_runsRound 48 = .ok (.istore_n 3, 1) := by decide +kernel
theorem dX10_runsRound_49 : decode cX10_runsRound 49 = .ok (.iinc 5 1, 3) := by decide +kernel
theorem dX10_runsRound_52 : decode cX10_runsRound 52 = .ok (.goto (-44), 3) := by decide +kernel
theorem dX10_runsRound_55 : decode cX10_runsRound 55 = .ok (.iload 4, 2) := by decide +kernel
theorem dX10_runsRound_57 : decode cX10_runsRound 57 = .ok (.ireturn, 1) := by decide +kernel
theorem dX10_counts_0 : decode cX10_counts 0 = .ok (.iconst 1, 1) := by decide +kernel
theorem dX10_counts_1 : decode cX10_counts 1 = .ok (.istore 6, 2) := by decide +kernel
theorem dX10_counts_3 : decode cX10_counts 3 = .ok (.iconst 1, 1) := by decide +kernel
theorem dX10_counts_4 : decode cX10_counts 4 = .ok (.istore 7, 2) := by decide +kernel
theorem dX10_counts_6 : decode cX10_counts 6 = .ok (.iload 7, 2) := by decide +kernel
theorem dX10_counts_8 : decode cX10_counts 8 = .ok (.ifCond .eq 113, 3) := by decide +kernel
theorem dX10_counts_11 : decode cX10_counts 11 = .ok (.iload 6, 2) := by decide +kernel
theorem dX10_counts_13 : decode cX10_counts 13 = .ok (.iload_n 3, 1) := by decide +kernel
theorem dX10_counts_14 : decode cX10_counts 14 = .ok (.if_icmp .ge 107, 3) := by decide +kernel
theorem dX10_counts_17 : decode cX10_counts 17 = .ok (.iload 4, 2) := by decide +kernel
theorem dX10_counts_19 : decode cX10_counts 19 = .ok (.ifCond .eq 14, 3) := by decide +kernel
theorem dX10_counts_22 : decode cX10_counts 22 = .ok (.aload_n 1, 1) := by decide +kernel
theorem dX10_counts_23 : decode cX10_counts 23 = .ok (.iload_n 2, 1) := by decide +kernel
theorem dX10_counts_24 : decode cX10_counts 24 = .ok (.iload_n 3, 1) := by decide +kernel
theorem dX10_counts_25 : decode cX10_counts 25 = .ok (.iadd, 1) := by decide +kernel
theorem dX10_counts_26 : decode cX10_counts 26 = .ok (.iload 6, 2) := by decide +kernel
theorem dX10_counts_28 : decode cX10_counts 28 = .ok (.isub, 1) := by decide +kernel
theorem dX10_counts_29 : decode cX10_counts 29 = .ok (.iaload, 1) := by decide +kernel
theorem dX10_counts_30 : decode cX10_counts 30 = .ok (.goto 11, 3) := by decide +kernel
theorem dX10_counts_33 : decode cX10_counts 33 = .ok (.aload_n 1, 1) := by decide +kernel
theorem dX10_counts_34 : decode cX10_counts 34 = .ok (.iload_n 2, 1) := by decide +kernel
theorem dX10_counts_35 : decode cX10_counts 35 = .ok (.iload 6, 2) := by decide +kernel
theorem dX10_counts_37 : decode cX10_counts 37 = .ok (.iadd, 1) := by decide +kernel
theorem dX10_counts_38 : decode cX10_counts 38 = .ok (.iconst 1, 1) := by decide +kernel
theorem dX10_counts_39 : decode cX10_counts 39 = .ok (.isub, 1) := by decide +kernel
theorem dX10_counts_40 : decode cX10_counts 40 = .ok (.iaload, 1) := by decide +kernel
theorem dX10_counts_41 : decode cX10_counts 41 = .ok (.istore 8, 2) := by decide +kernel
theorem dX10_counts_43 : decode cX10_counts 43 = .ok (.iload 4, 2) := by decide +kernel
theorem dX10_counts_45 : decode cX10_counts 45 = .ok (.ifCond .eq 16, 3) := by decide +kernel
theorem dX10_counts_48 : decode cX10_counts 48 = .ok (.aload_n 1, 1) := by decide +kernel
theorem dX10_counts_49 : decode cX10_counts 49 = .ok (.iload_n 2, 1) := by decide +kernel
theorem dX10_counts_50 : decode cX10_counts 50 = .ok (.iload_n 3, 1) := by decide +kernel
theorem dX10_counts_51 : decode cX10_counts 51 = .ok (.iadd, 1) := by decide +kernel
theorem dX10_counts_52 : decode cX10_counts 52 = .ok (.iload 6, 2) := by decide +kernel
theorem dX10_counts_54 : decode cX10_counts 54 = .ok (.isub, 1) := by decide +kernel
theorem dX10_counts_55 : decode cX10_counts 55 = .ok (.iconst 1, 1) := by decide +kernel
theorem dX10_counts_56 : decode cX10_counts 56 = .ok (.isub, 1) := by decide +kernel
theorem dX10_counts_57 : decode cX10_counts 57 = .ok (.iaload, 1) := by decide +kernel
theorem dX10_counts_58 : decode cX10_counts 58 = .ok (.goto 9, 3) := by decide +kernel
theorem dX10_counts_61 : decode cX10_counts 61 = .ok (.aload_n 1, 1) := by decide +kernel
theorem dX10_counts_62 : decode cX10_counts 62 = .ok (.iload_n 2, 1) := by decide +kernel
theorem dX10_counts_63 : decode cX10_counts 63 = .ok (.iload 6, 2) := by decide +kernel
theorem dX10_counts_65 : decode cX10_counts 65 = .ok (.iadd, 1) := by decide +kernel
theorem dX10_counts_66 : decode cX10_counts 66 = .ok (.iaload, 1) := by decide +kernel
theorem dX10_counts_67 : decode cX10_counts 67 = .ok (.istore 9, 2) := by decide +kernel
theorem dX10_counts_69 : decode cX10_counts 69 = .ok (.iload 5, 2) := by decide +kernel
theorem dX10_counts_71 : decode cX10_counts 71 = .ok (.ifCond .eq 14, 3) := by decide +kernel
theorem dX10_counts_74 : decode cX10_counts 74 = .ok (.aload_n 0, 1) := by decide +kernel
theorem dX10_counts_75 : decode cX10_counts 75 = .ok (.iload 8, 2) := by decide +kernel
theorem dX10_counts_77 : decode cX10_counts 77 = .ok (.iload 9, 2) := by decide +kernel
theorem dX10_counts_79 : decode cX10_counts 79 = .ok (.invokevirtual 186, 3) := by decide +kernel
theorem dX10_counts_82 : decode cX10_counts 82 = .ok (.goto 19, 3) := by decide +kernel
theorem dX10_counts_85 : decode cX10_counts 85 = .ok (.aload_n 0, 1) := by decide +kernel
theorem dX10_counts_86 : decode cX10_counts 86 = .ok (.iload 8, 2) := by decide +kernel
theorem dX10_counts_88 : decode cX10_counts 88 = .ok (.iload 9, 2) := by decide +kernel
theorem dX10_counts_90 : decode cX10_counts 90 = .ok (.invokevirtual 189, 3) := by decide +kernel
theorem dX10_counts_93 : decode cX10_counts 93 = .ok (.ifCond .ne 7, 3) := by decide +kernel
theorem dX10_counts_96 : decode cX10_counts 96 = .ok (.iconst 1, 1) := by decide +kernel
theorem dX10_counts_97 : decode cX10_counts 97 = .ok (.goto 4, 3) := by decide +kernel
theorem dX10_counts_100 : decode cX10_counts 100 = .ok (.iconst 0, 1) := by decide +kernel
theorem dX10_counts_101 : decode cX10_counts 101 = .ok (.istore 7, 2) := by decide +kernel
theorem dX10_counts_103 : decode cX10_counts 103 = .ok (.iload 6, 2) := by decide +kernel
theorem dX10_counts_105 : decode cX10_counts 105 = .ok (.iload 7, 2) := by decide +kernel
theorem dX10_counts_107 : decode cX10_counts 107 = .ok (.ifCond .eq 7, 3) := by decide +kernel
theorem dX10_counts_110 : decode cX10_counts 110 = .ok (.iconst 1, 1) := by decide +kernel
theorem dX10_counts_111 : decode cX10_counts 111 = .ok (.goto 4, 3) := by decide +kernel
theorem dX10_counts_114 : decode cX10_counts 114 = .ok (.iconst 0, 1) := by decide +kernel
theorem dX10_counts_115 : decode cX10_counts 115 = .ok (.iadd, 1) := by decide +kernel
theorem dX10_counts_116 : decode cX10_counts 116 = .ok (.istore 6, 2) := by decide +kernel
theorem dX10_counts_118 : decode cX10_counts 118 = .ok (.goto (-112), 3) := by decide +kernel
theorem dX10_counts_121 : decode cX10_counts 121 = .ok (.iload 6, 2) := by decide +kernel
theorem dX10_counts_123 : decode cX10_counts 123 = .ok (.ireturn, 1) := by decide +kernel
theorem dX10_judge_0 : decode cX10_judge 0 = .ok (.aload_n 1, 1) := by decide +kernel
theorem dX10_judge_1 : decode cX10_judge 1 = .ok (.iload_n 2, 1) := by decide +kernel
theorem dX10_judge_2 : decode cX10_judge 2 = .ok (.iload_n 3, 1) := by decide +kernel
theorem dX10_judge_3 : decode cX10_judge 3 = .ok (.invokestatic 192, 3) := by decide +kernel
theorem dX10_judge_6 : decode cX10_judge 6 = .ok (.ifCond .eq 5, 3) := by decide +kernel
theorem dX10_judge_9 : decode cX10_judge 9 = .ok (.iconst 2, 1) := by decide +kernel
theorem dX10_judge_10 : decode cX10_judge 10 = .ok (.ireturn, 1) := by decide +kernel
theorem dX10_judge_11 : decode cX10_judge 11 = .ok (.aload_n 0, 1) := by decide +kernel
theorem dX10_judge_12 : decode cX10_judge 12 = .ok (.aload_n 1, 1) := by decide +kernel
theorem dX10_judge_13 : decode cX10_judge 13 = .ok (.iload_n 2, 1) := by decide +kernel
theorem dX10_judge_14 : decode cX10_judge 14 = .ok (.iload_n 3, 1) := by decide +kernel
theorem dX10_judge_15 : decode cX10_judge 15 = .ok (.iconst 0, 1) := by decide +kernel
theorem dX10_judge_16 : decode cX10_judge 16 = .ok (.iconst 0, 1) := by decide +kernel
theorem dX10_judge_17 : decode cX10_judge 17 = .ok (.invokevirtual 196, 3) := by decide +kernel
theorem dX10_judge_20 : decode cX10_judge 20 = .ok (.iload 4, 2) := by decide +kernel
theorem dX10_judge_22 : decode cX10_judge 22 = .ok (.ifCond .eq 7, 3) := by decide +kernel
theorem dX10_judge_25 : decode cX10_judge 25 = .ok (.iconst 0, 1) := by decide +kernel
theorem dX10_judge_26 : decode cX10_judge 26 = .ok (.goto 12, 3) := by decide +kernel
theorem dX10_judge_29 : decode cX10_judge 29 = .ok (.aload_n 0, 1) := by decide +kernel
theorem dX10_judge_30 : decode cX10_judge 30 = .ok (.aload_n 1, 1) := by decide +kernel
theorem dX10_judge_31 : decode cX10_judge 31 = .ok (.iload_n 2, 1) := by decide +kernel
theorem dX10_judge_32 : decode cX10_judge 32 = .ok (.iload_n 3, 1) := by decide +kernel
theorem dX10_judge_33 : decode cX10_judge 33 = .ok (.iconst 1, 1) := by decide +kernel
theorem dX10_judge_34 : decode cX10_judge 34 = .ok (.iconst 0, 1) := by decide +kernel
theorem dX10_judge_35 : decode cX10_judge 35 = .ok (.invokevirtual 196, 3) := by decide +kernel
theorem dX10_judge_38 : decode cX10_judge 38 = .ok (.iadd, 1) := by decide +kernel
theorem dX10_judge_39 : decode cX10_judge 39 = .ok (.istore 5, 2) := by decide +kernel
theorem dX10_judge_41 : decode cX10_judge 41 = .ok (.aload_n 0, 1) := by decide +kernel
theorem dX10_judge_42 : decode cX10_judge 42 = .ok (.aload_n 1, 1) := by decide +kernel
theorem dX10_judge_43 : decode cX10_judge 43 = .ok (.iload_n 2, 1) := by decide +kernel
theorem dX10_judge_44 : decode cX10_judge 44 = .ok (.iload_n 3, 1) := by decide +kernel
theorem dX10_judge_45 : decode cX10_judge 45 = .ok (.iconst 0, 1) := by decide +kernel
theorem dX10_judge_46 : decode cX10_judge 46 = .ok (.iconst 1, 1) := by decide +kernel
theorem dX10_judge_47 : decode cX10_judge 47 = .ok (.invokevirtual 196, 3) := by decide +kernel
theorem dX10_judge_50 : decode cX10_judge 50 = .ok (.iload 4, 2) := by decide +kernel
theorem dX10_judge_52 : decode cX10_judge 52 = .ok (.ifCond .eq 7, 3) := by decide +kernel
theorem dX10_judge_55 : decode cX10_judge 55 = .ok (.iconst 0, 1) := by decide +kernel
theorem dX10_judge_56 : decode cX10_judge 56 = .ok (.goto 12, 3) := by decide +kernel
theorem dX10_judge_59 : decode cX10_judge 59 = .ok (.aload_n 0, 1) := by decide +kernel
theorem dX10_judge_60 : decode cX10_judge 60 = .ok (.aload_n 1, 1) := by decide +kernel
theorem dX10_judge_61 : decode cX10_judge 61 = .ok (.iload_n 2, 1) := by decide +kernel
theorem dX10_judge_62 : decode cX10_judge 62 = .ok (.iload_n 3, 1) := by decide +kernel
theorem dX10_judge_63 : decode cX10_judge 63 = .ok (.iconst 1, 1) := by decide +kernel
theorem dX10_judge_64 : decode cX10_judge 64 = .ok (.iconst 1, 1) := by decide +kernel
theorem dX10_judge_65 : decode cX10_judge 65 = .ok (.invokevirtual 196, 3) := by decide +kernel
theorem dX10_judge_68 : decode cX10_judge 68 = .ok (.iadd, 1) := by decide +kernel
theorem dX10_judge_69 : decode cX10_judge 69 = .ok (.istore 6, 2) := by decide +kernel
theorem dX10_judge_71 : decode cX10_judge 71 = .ok (.iload 5, 2) := by decide +kernel
theorem dX10_judge_73 : decode cX10_judge 73 = .ok (.iload_n 3, 1) := by decide +kernel
theorem dX10_judge_74 : decode cX10_judge 74 = .ok (.if_icmp .ge 7, 3) := by decide +kernel
theorem dX10_judge_77 : decode cX10_judge 77 = .ok (.iconst 2, 1) := by decide +kernel
theorem dX10_judge_78 : decode cX10_judge 78 = .ok (.goto 14, 3) := by decide +kernel
theorem dX10_judge_81 : decode cX10_judge 81 = .ok (.iload 6, 2) := by decide +kernel
theorem dX10_judge_83 : decode cX10_judge 83 = .ok (.iload_n 3, 1) := by decide +kernel
theorem dX10_judge_84 : decode cX10_judge 84 = .ok (.if_icmp .lt 7, 3) := by decide +kernel
theorem dX10_judge_87 : decode cX10_judge 87 = .ok (.iconst 1, 1) := by decide +kernel
theorem dX10_judge_88 : decode cX10_judge 88 = .ok (.goto 4, 3) := by decide +kernel
theorem dX10_judge_91 : decode cX10_judge 91 = .ok (.iconst 0, 1) := by decide +kernel
theorem dX10_judge_92 : decode cX10_judge 92 = .ok (.ireturn, 1) := by decide +kernel
theorem dX10_isRoute_0 : decode cX10_isRoute 0 = .ok (.iload_n 1, 1) := by decide +kernel
theorem dX10_isRoute_1 : decode cX10_isRoute 1 = .ok (.iconst 0, 1) := by decide +kernel
theorem dX10_isRoute_2 : decode cX10_isRoute 2 = .ok (.aload_n 0, 1) := by decide +kernel
theorem dX10_isRoute_3 : decode cX10_isRoute 3 = .ok (.getfield 154, 3) := by decide +kernel
theorem dX10_isRoute_6 : decode cX10_isRoute 6 = .ok (.iconst 1, 1) := by decide +kernel
theorem dX10_isRoute_7 : decode cX10_isRoute 7 = .ok (.isub, 1) := by decide +kernel
theorem dX10_isRoute_8 : decode cX10_isRoute 8 = .ok (.invokestatic 108, 3) := by decide +kernel
theorem dX10_isRoute_11 : decode cX10_isRoute 11 = .ok (.ifCond .eq 16, 3) := by decide +kernel
theorem dX10_isRoute_14 : decode cX10_isRoute 14 = .ok (.aload_n 0, 1) := by decide +kernel
theorem dX10_isRoute_15 : decode cX10_isRoute 15 = .ok (.getfield 72, 3) := by decide +kernel
theorem dX10_isRoute_18 : decode cX10_isRoute 18 = .ok (.iload_n 1, 1) := by decide +kernel
theorem dX10_isRoute_19 : decode cX10_isRoute 19 = .ok (.baload, 1) := by decide +kernel
theorem dX10_isRoute_20 : decode cX10_isRoute 20 = .ok (.ifCond .eq 7, 3) := by decide +kernel
theorem dX10_isRoute_23 : decode cX10_isRoute 23 = .ok (.iconst 1, 1) := by decide +kernel
theorem dX10_isRoute_24 : decode cX10_isRoute 24 = .ok (.goto 4, 3) := by decide +kernel
theorem dX10_isRoute_27 : decode cX10_isRoute 27 = .ok (.iconst 0, 1) := by decide +kernel
theorem dX10_isRoute_28 : decode cX10_isRoute 28 = .ok (.ireturn, 1) := by decide +kernel
theorem dX10_routes_0 : decode cX10_routes 0 = .ok (.aload_n 0, 1) := by decide +kernel
theorem dX10_routes_1 : decode cX10_routes 1 = .ok (.iconst 0, 1) := by decide +kernel
theorem dX10_routes_2 : decode cX10_routes 2 = .ok (.putfield 105, 3) := by decide +kernel
theorem dX10_routes_5 : decode cX10_routes 5 = .ok (.aload_n 0, 1) := by decide +kernel
theorem dX10_routes_6 : decode cX10_routes 6 = .ok (.getfield 154, 3) := by decide +kernel
theorem dX10_routes_9 : decode cX10_routes 9 = .ok (.ireturn, 1) := by decide +kernel
theorem dX10_path_0 : decode cX10_path 0 = .ok (.aload_n 0, 1) := by decide +kernel
theorem dX10_path_1 : decode cX10_path 1 = .ok (.aload_n 0, 1) := by decide +kernel
theorem dX10_path_2 : decode cX10_path 2 = .ok (.iload_n 1, 1) := by decide +kernel
theorem dX10_path_3 : decode cX10_path 3 = .ok (.invokevirtual 200, 3) := by decide +kernel
theorem dX10_path_6 : decode cX10_path 6 = .ok (.ifCond .eq 7, 3) := by decide +kernel
theorem dX10_path_9 : decode cX10_path 9 = .ok (.iconst 0, 1) := by decide +kernel
theorem dX10_path_10 : decode cX10_path 10 = .ok (.goto 4, 3) := by decide +kernel
theorem dX10_path_13 : decode cX10_path 13 = .ok (.iconst 1, 1) := by decide +kernel
theorem dX10_path_14 : decode cX10_path 14 = .ok (.invokevirtual 119, 3) := by decide +kernel
theorem dX10_path_17 : decode cX10_path 17 = .ok (.ifCond .ne 5, 3) := by decide +kernel
theorem dX10_path_20 : decode cX10_path 20 = .ok (.iconst 0, 1) := by decide +kernel
theorem dX10_path_21 : decode cX10_path 21 = .ok (.ireturn, 1) := by decide +kernel
theorem dX10_path_22 : decode cX10_path 22 = .ok (.aload_n 0, 1) := by decide +kernel
theorem dX10_path_23 : decode cX10_path 23 = .ok (.invokevirtual 203, 3) := by decide +kernel
theorem dX10_path_26 : decode cX10_path 26 = .ok (.aload_n 0, 1) := by decide +kernel
theorem dX10_path_27 : decode cX10_path 27 = .ok (.aload_n 0, 1) := by decide +kernel
theorem dX10_path_28 : decode cX10_path 28 = .ok (.getfield 60, 3) := by decide +kernel
theorem dX10_path_31 : decode cX10_path 31 = .ok (.bipush 6, 2) := by decide +kernel
theorem dX10_path_33 : decode cX10_path 33 = .ok (.iload_n 1, 1) := by decide +kernel
theorem dX10_path_34 : decode cX10_path 34 = .ok (.imul, 1) := by decide +kernel
theorem dX10_path_35 : decode cX10_path 35 = .ok (.aload_n 0, 1) := by decide +kernel
theorem dX10_path_36 : decode cX10_path 36 = .ok (.getfield 63, 3) := by decide +kernel
theorem dX10_path_39 : decode cX10_path 39 = .ok (.iload_n 1, 1) := by decide +kernel
theorem dX10_path_40 : decode cX10_path 40 = .ok (.iaload, 1) := by decide +kernel
theorem dX10_path_41 : decode cX10_path 41 = .ok (.iload_n 2, 1) := by decide +kernel
theorem dX10_path_42 : decode cX10_path 42 = .ok (.invokevirtual 206, 3) := by decide +kernel
theorem dX10_path_45 : decode cX10_path 45 = .ok (.ireturn, 1) := by decide +kernel
theorem dX10_leak_0 : decode cX10_leak 0 = .ok (.aload_n 0, 1) := by decide +kernel
theorem dX10_leak_1 : decode cX10_leak 1 = .ok (.aload_n 0, 1) := by decide +kernel
theorem dX10_leak_2 : decode cX10_leak 2 = .ok (.iload_n 1, 1) := by decide +kernel
theorem dX10_leak_3 : decode cX10_leak 3 = .ok (.invokevirtual 200, 3) := by decide +kernel
theorem dX10_leak_6 : decode cX10_leak 6 = .ok (.ifCond .eq 7, 3) := by decide +kernel
theorem dX10_leak_9 : decode cX10_leak 9 = .ok (.iconst 0, 1) := by decide +kernel
theorem dX10_leak_10 : decode cX10_leak 10 = .ok (.goto 4, 3) := by decide +kernel
theorem dX10_leak_13 : decode cX10_leak 13 = .ok (.iconst 1, 1) := by decide +kernel
theorem dX10_leak_14 : decode cX10_leak 14 = .ok (.invokevirtual 119, 3) := by decide +kernel
theorem dX10_leak_17 : decode cX10_leak 17 = .ok (.ifCond .ne 5, 3) := by decide +kernel
theorem dX10_leak_20 : decode cX10_leak 20 = .ok (.iconst 0, 1) := by decide +kernel
theorem dX10_leak_21 : decode cX10_leak 21 = .ok (.ireturn, 1) := by decide +kernel
theorem dX10_leak_22 : decode cX10_leak 22 = .ok (.iconst 1, 1) := by decide +kernel
theorem dX10_leak_23 : decode cX10_leak 23 = .ok (.istore_n 2, 1) := by decide +kernel
theorem dX10_leak_24 : decode cX10_leak 24 = .ok (.iload_n 2, 1) := by decide +kernel
theorem dX10_leak_25 : decode cX10_leak 25 = .ok (.iconst 1, 1) := by decide +kernel
theorem dX10_leak_26 : decode cX10_leak 26 = .ok (.iadd, 1) := by decide +kernel
theorem dX10_leak_27 : decode cX10_leak 27 = .ok (.aload_n 0, 1) := by decide +kernel
theorem dX10_leak_28 : decode cX10_leak 28 = .ok (.getfield 63, 3) := by decide +kernel
theorem dX10_leak_31 : decode cX10_leak 31 = .ok (.iload_n 1, 1) := by decide +kernel
theorem dX10_leak_32 : decode cX10_leak 32 = .ok (.iaload, 1) := by decide +kernel
theorem dX10_leak_33 : decode cX10_leak 33 = .ok (.if_icmp .ge 95, 3) := by decide +kernel
theorem dX10_leak_36 : decode cX10_leak 36 = .ok (.aload_n 0, 1) := by decide +kernel
theorem dX10_leak_37 : decode cX10_leak 37 = .ok (.getfield 60, 3) := by decide +kernel
theorem dX10_leak_40 : decode cX10_leak 40 = .ok (.bipush 6, 2) := by decide +kernel
theorem dX10_leak_42 : decode cX10_leak 42 = .ok (.iload_n 1, 1) := by decide +kernel
theorem dX10_leak_43 : decode cX10_leak 43 = .ok (.imul, 1) := by decide +kernel
theorem dX10_leak_44 : decode cX10_leak 44 = .ok (.iload_n 2, 1) := by decide +kernel
theorem dX10_leak_45 : decode cX10_leak 45 = .ok (.iadd, 1) := by decide +kernel
theorem dX10_leak_46 : decode cX10_leak 46 = .ok (.iaload, 1) := by decide +kernel
theorem dX10_leak_47 : decode cX10_leak 47 = .ok (.istore_n 3, 1) := by decide +kernel
theorem dX10_leak_48 : decode cX10_leak 48 = .ok (.aload_n 0, 1) := by decide +kernel
theorem dX10_leak_49 : decode cX10_leak 49 = .ok (.getfield 75, 3) := by decide +kernel
theorem dX10_leak_52 : decode cX10_leak 52 = .ok (.bipush 10, 2) := by decide +kernel
theorem dX10_leak_54 : decode cX10_leak 54 = .ok (.aload_n 0, 1) := by decide +kernel
theorem dX10_leak_55 : decode cX10_leak 55 = .ok (.getfield 60, 3) := by decide +kernel
theorem dX10_leak_58 : decode cX10_leak 58 = .ok (.bipush 6, 2) := by decide +kernel
theorem dX10_leak_60 : decode cX10_leak 60 = .ok (.iload_n 1, 1) := by decide +kernel
theorem dX10_leak_61 : decode cX10_leak 61 = .ok (.imul, 1) := by decide +kernel
theorem dX10_leak_62 : decode cX10_leak 62 = .ok (.iload_n 2, 1) := by decide +kernel
theorem dX10_leak_63 : decode cX10_leak 63 = .ok (.iadd, 1) := by decide +kernel
theorem dX10_leak_64 : decode cX10_leak 64 = .ok (.iconst 1, 1) := by decide +kernel
theorem dX10_leak_65 : decode cX10_leak 65 = .ok (.isub, 1) := by decide +kernel
theorem dX10_leak_66 : decode cX10_leak 66 = .ok (.iaload, 1) := by decide +kernel
theorem dX10_leak_67 : decode cX10_leak 67 = .ok (.imul, 1) := by decide +kernel
theorem dX10_leak_68 : decode cX10_leak 68 = .ok (.iload_n 3, 1) := by decide +kernel
theorem dX10_leak_69 : decode cX10_leak 69 = .ok (.iadd, 1) := by decide +kernel
theorem dX10_leak_70 : decode cX10_leak 70 = .ok (.iaload, 1) := by decide +kernel
theorem dX10_leak_71 : decode cX10_leak 71 = .ok (.istore 4, 2) := by decide +kernel
theorem dX10_leak_73 : decode cX10_leak 73 = .ok (.aload_n 0, 1) := by decide +kernel
theorem dX10_leak_74 : decode cX10_leak 74 = .ok (.getfield 75, 3) := by decide +kernel
theorem dX10_leak_77 : decode cX10_leak 77 = .ok (.bipush 10, 2) := by decide +kernel
theorem dX10_leak_79 : decode cX10_leak 79 = .ok (.aload_n 0, 1) := by decide +kernel
theorem dX10_leak_80 : decode cX10_leak 80 = .ok (.getfield 60, 3) := by decide +kernel
theorem dX10_leak_83 : decode cX10_leak 83 = .ok (.bipush 6, 2) := by decide +kernel
theorem dX10_leak_85 : decode cX10_leak 85 = .ok (.iload_n 1, 1) := by decide +kernel
theorem dX10_leak_86 : decode cX10_leak 86 = .ok (.imul, 1) := by decide +kernel
theorem dX10_leak_87 : decode cX10_leak 87 = .ok (.iload_n 2, 1) := by decide +kernel
theorem dX10_leak_88 : decode cX10_leak 88 = .ok (.iadd, 1) := by decide +kernel
theorem dX10_leak_89 : decode cX10_leak 89 = .ok (.iconst 1, 1) := by decide +kernel
theorem dX10_leak_90 : decode cX10_leak 90 = .ok (.iadd, 1) := by decide +kernel
theorem dX10_leak_91 : decode cX10_leak 91 = .ok (.iaload, 1) := by decide +kernel
theorem dX10_leak_92 : decode cX10_leak 92 = .ok (.imul, 1) := by decide +kernel
theorem dX10_leak_93 : decode cX10_leak 93 = .ok (.iload_n 3, 1) := by decide +kernel
theorem dX10_leak_94 : decode cX10_leak 94 = .ok (.iadd, 1) := by decide +kernel
theorem dX10_leak_95 : decode cX10_leak 95 = .ok (.iaload, 1) := by decide +kernel
theorem dX10_leak_96 : decode cX10_leak 96 = .ok (.istore 5, 2) := by decide +kernel
theorem dX10_leak_98 : decode cX10_leak 98 = .ok (.iload 4, 2) := by decide +kernel
theorem dX10_leak_100 : decode cX10_leak 100 = .ok (.ifCond .eq 22, 3) := by decide +kernel
theorem dX10_leak_103 : decode cX10_leak 103 = .ok (.iload 5, 2) := by decide +kernel
theorem dX10_leak_105 : decode cX10_leak 105 = .ok (.ifCond .eq 17, 3) := by decide +kernel
theorem dX10_leak_108 : decode cX10_leak 108 = .ok (.iload 4, 2) := by decide +kernel
theorem dX10_leak_110 : decode cX10_leak 110 = .ok (.iconst 1, 1) := by decide +kernel
theorem dX10_leak_111 : decode cX10_leak 111 = .ok (.if_icmp .eq 11, 3) := by decide +kernel
theorem dX10_leak_114 : decode cX10_leak 114 = .ok (.iload 5, 2) := by decide +kernel
theorem dX10_leak_116 : decode cX10_leak 116 = .ok (.iconst 1, 1) := by decide +kernel
theorem dX10_leak_117 : decode cX10_leak 117 = .ok (.if_icmp .eq 5, 3) := by decide +kernel
theorem dX10_leak_120 : decode cX10_leak 120 = .ok (.iload_n 3, 1) := by decide +kernel
theorem dX10_leak_121 : decode cX10_leak 121 = .ok (.ireturn, 1) := by decide +kernel
theorem dX10_leak_122 : decode cX10_leak 122 = .ok (.iinc 2 1, 3) := by decide +kernel
theorem dX10_leak_125 : decode cX10_leak 125 = .ok (.goto (-101), 3) := by decide +kernel
theorem dX10_leak_128 : decode cX10_leak 128 = .ok (.iconst (-1), 1) := by decide +kernel
theorem dX10_leak_129 : decode cX10_leak 129 = .ok (.ireturn, 1) := by decide +kernel
theorem dX10_refuses_0 : decode cX10_refuses 0 = .ok (.aload_n 0, 1) := by decide +kernel
theorem dX10_refuses_1 : decode cX10_refuses 1 = .ok (.getfield 75, 3) := by decide +kernel
theorem dX10_refuses_4 : decode cX10_refuses 4 = .ok (.bipush 10, 2) := by decide +kernel
theorem dX10_refuses_6 : decode cX10_refuses 6 = .ok (.aload_n 1, 1) := by decide +kernel
theorem dX10_refuses_7 : decode cX10_refuses 7 = .ok (.iload_n 2, 1) := by decide +kernel
theorem dX10_refuses_8 : decode cX10_refuses 8 = .ok (.iload_n 3, 1) := by decide +kernel
theorem dX10_refuses_9 : decode cX10_refuses 9 = .ok (.iadd, 1) := by decide +kernel
theorem dX10_refuses_10 : decode cX10_refuses 10 = .ok (.iconst 1, 1) := by decide +kernel
theorem dX10_refuses_11 : decode cX10_refuses 11 = .ok (.isub, 1) := by decide +kernel
theorem dX10_refuses_12 : decode cX10_refuses 12 = .ok (.iaload, 1) := by decide +kernel
theorem dX10_refuses_13 : decode cX10_refuses 13 = .ok (.imul, 1) := by decide +kernel
theorem dX10_refuses_14 : decode cX10_refuses 14 = .ok (.iload 4, 2) := by decide +kernel
theorem dX10_refuses_16 : decode cX10_refuses 16 = .ok (.iadd, 1) := by decide +kernel
theorem dX10_refuses_17 : decode cX10_refuses 17 = .ok (.iaload, 1) := by decide +kernel
theorem dX10_refuses_18 : decode cX10_refuses 18 = .ok (.iconst 2, 1) := by decide +kernel
theorem dX10_refuses_19 : decode cX10_refuses 19 = .ok (.if_icmp .ne 7, 3) := by decide +kernel
theorem dX10_refuses_22 : decode cX10_refuses 22 = .ok (.iconst 1, 1) := by decide +kernel
theorem dX10_refuses_23 : decode cX10_refuses 23 = .ok (.goto 4, 3) := by decide +kernel
theorem dX10_refuses_26 : decode cX10_refuses 26 = .ok (.iconst 0, 1) := by decide +kernel
theorem dX10_refuses_27 : decode cX10_refuses 27 = .ok (.istore 5, 2) := by decide +kernel
theorem dX10_refuses_29 : decode cX10_refuses 29 = .ok (.aload_n 0, 1) := by decide +kernel
theorem dX10_refuses_30 : decode cX10_refuses 30 = .ok (.aload_n 1, 1) := by decide +kernel
theorem dX10_refuses_31 : decode cX10_refuses 31 = .ok (.iload_n 2, 1) := by decide +kernel
theorem dX10_refuses_32 : decode cX10_refuses 32 = .ok (.iload_n 3, 1) := by decide +kernel
theorem dX10_refuses_33 : decode cX10_refuses 33 = .ok (.iload 5, 2) := by decide +kernel
theorem dX10_refuses_35 : decode cX10_refuses 35 = .ok (.ifCond .ne 7, 3) := by decide +kernel
theorem dX10_refuses_38 : decode cX10_refuses 38 = .ok (.iconst 1, 1) := by decide +kernel
theorem dX10_refuses_39 : decode cX10_refuses 39 = .ok (.goto 4, 3) := by decide +kernel
theorem dX10_refuses_42 : decode cX10_refuses 42 = .ok (.iconst 0, 1) := by decide +kernel
theorem dX10_refuses_43 : decode cX10_refuses 43 = .ok (.invokevirtual 206, 3) := by decide +kernel
theorem dX10_refuses_46 : decode cX10_refuses 46 = .ok (.iconst 2, 1) := by decide +kernel
theorem dX10_refuses_47 : decode cX10_refuses 47 = .ok (.if_icmp .ne 7, 3) := by decide +kernel
theorem dX10_refuses_50 : decode cX10_refuses 50 = .ok (.iconst 1, 1) := by decide +kernel
theorem dX10_refuses_51 : decode cX10_refuses 51 = .ok (.goto 4, 3) := by decide +kernel
theorem dX10_refuses_54 : decode cX10_refuses 54 = .ok (.iconst 0, 1) := by decide +kernel
theorem dX10_refuses_55 : decode cX10_refuses 55 = .ok (.ireturn, 1) := by decide +kernel
theorem dX10_stopped_0 : decode cX10_stopped 0 = .ok (.aload_n 0, 1) := by decide +kernel
theorem dX10_stopped_1 : decode cX10_stopped 1 = .ok (.aload_n 0, 1) := by decide +kernel
theorem dX10_stopped_2 : decode cX10_stopped 2 = .ok (.iload_n 1, 1) := by decide +kernel
theorem dX10_stopped_3 : decode cX10_stopped 3 = .ok (.invokevirtual 200, 3) := by decide +kernel
theorem dX10_stopped_6 : decode cX10_stopped 6 = .ok (.ifCond .ne 7, 3) := by decide +kernel
theorem dX10_stopped_9 : decode cX10_stopped 9 = .ok (.iconst 1, 1) := by decide +kernel
theorem dX10_stopped_10 : decode cX10_stopped 10 = .ok (.goto 19, 3) := by decide +kernel
theorem dX10_stopped_13 : decode cX10_stopped 13 = .ok (.iload_n 2, 1) := by decide +kernel
theorem dX10_stopped_14 : decode cX10_stopped 14 = .ok (.iconst 0, 1) := by decide +kernel
theorem dX10_stopped_15 : decode cX10_stopped 15 = .ok (.sipush 1023, 3) := by decide +kernel
theorem dX10_stopped_18 : decode cX10_stopped 18 = .ok (.invokestatic 108, 3) := by decide +kernel
theorem dX10_stopped_21 : decode cX10_stopped 21 = .ok (.ifCond .ne 7, 3) := by decide +kernel
theorem dX10_stopped_24 : decode cX10_stopped 24 = .ok (.iconst 2, 1) := by decide +kernel
theorem dX10_stopped_25 : decode cX10_stopped 25 = .ok (.goto 4, 3) := by decide +kernel
theorem dX10_stopped_28 : decode cX10_stopped 28 = .ok (.iconst 0, 1) := by decide +kernel
theorem dX10_stopped_29 : decode cX10_stopped 29 = .ok (.invokevirtual 119, 3) := by decide +kernel
theorem dX10_stopped_32 : decode cX10_stopped 32 = .ok (.ifCond .ne 5, 3) := by decide +kernel
theorem dX10_stopped_35 : decode cX10_stopped 35 = .ok (.iconst 0, 1) := by decide +kernel
theorem dX10_stopped_36 : decode cX10_stopped 36 = .ok (.ireturn, 1) := by decide +kernel
theorem dX10_stopped_37 : decode cX10_stopped 37 = .ok (.aload_n 0, 1) := by decide +kernel
theorem dX10_stopped_38 : decode cX10_stopped 38 = .ok (.invokevirtual 203, 3) := by decide +kernel
theorem dX10_stopped_41 : decode cX10_stopped 41 = .ok (.bipush 6, 2) := by decide +kernel
theorem dX10_stopped_43 : decode cX10_stopped 43 = .ok (.iload_n 1, 1) := by decide +kernel
theorem dX10_stopped_44 : decode cX10_stopped 44 = .ok (.imul, 1) := by decide +kernel
theorem dX10_stopped_45 : decode cX10_stopped 45 = .ok (.istore_n 3, 1) := by decide +kernel
theorem dX10_stopped_46 : decode cX10_stopped 46 = .ok (.aload_n 0, 1) := by decide +kernel
theorem dX10_stopped_47 : decode cX10_stopped 47 = .ok (.aload_n 0, 1) := by decide +kernel
theorem dX10_stopped_48 : decode cX10_stopped 48 = .ok (.getfield 60, 3) := by decide +kernel
theorem dX10_stopped_51 : decode cX10_stopped 51 = .ok (.iload_n 3, 1) := by decide +kernel
theorem dX10_stopped_52 : decode cX10_stopped 52 = .ok (.iaload, 1) := by decide +kernel
theorem dX10_stopped_53 : decode cX10_stopped 53 = .ok (.aload_n 0, 1) := by decide +kernel
theorem dX10_stopped_54 : decode cX10_stopped 54 = .ok (.getfield 66, 3) := by decide +kernel
theorem dX10_stopped_57 : decode cX10_stopped 57 = .ok (.iload_n 1, 1) := by decide +kernel
theorem dX10_stopped_58 : decode cX10_stopped 58 = .ok (.iaload, 1) := by decide +kernel
theorem dX10_stopped_59 : decode cX10_stopped 59 = .ok (.aload_n 0, 1) := by decide +kernel
theorem dX10_stopped_60 : decode cX10_stopped 60 = .ok (.getfield 69, 3) := by decide +kernel
theorem dX10_stopped_63 : decode cX10_stopped 63 = .ok (.iload_n 1, 1) := by decide +kernel
theorem dX10_stopped_64 : decode cX10_stopped 64 = .ok (.iaload, 1) := by decide +kernel
theorem dX10_stopped_65 : decode cX10_stopped 65 = .ok (.invokevirtual 182, 3) := by decide +kernel
theorem dX10_stopped_68 : decode cX10_stopped 68 = .ok (.iconst 2, 1) := by decide +kernel
theorem dX10_stopped_69 : decode cX10_stopped 69 = .ok (.if_icmp .ne 7, 3) := by decide +kernel
theorem dX10_stopped_72 : decode cX10_stopped 72 = .ok (.iconst 1, 1) := by decide +kernel
theorem dX10_stopped_73 : decode cX10_stopped 73 = .ok (.goto 4, 3) := by decide +kernel
theorem dX10_stopped_76 : decode cX10_stopped 76 = .ok (.iconst 0, 1) := by decide +kernel
theorem dX10_stopped_77 : decode cX10_stopped 77 = .ok (.istore 4, 2) := by decide +kernel
theorem dX10_stopped_79 : decode cX10_stopped 79 = .ok (.iconst 1, 1) := by decide +kernel
theorem dX10_stopped_80 : decode cX10_stopped 80 = .ok (.istore 5, 2) := by decide +kernel
theorem dX10_stopped_82 : decode cX10_stopped 82 = .ok (.iload 5, 2) := by decide +kernel
theorem dX10_stopped_84 : decode cX10_stopped 84 = .ok (.aload_n 0, 1) := by decide +kernel
theorem dX10_stopped_85 : decode cX10_stopped 85 = .ok (.getfield 63, 3) := by decide +kernel
theorem dX10_stopped_88 : decode cX10_stopped 88 = .ok (.iload_n 1, 1) := by decide +kernel
theorem dX10_stopped_89 : decode cX10_stopped 89 = .ok (.iaload, 1) := by decide +kernel
theorem dX10_stopped_90 : decode cX10_stopped 90 = .ok (.if_icmp .ge 54, 3) := by decide +kernel
theorem dX10_stopped_93 : decode cX10_stopped 93 = .ok (.aload_n 0, 1) := by decide +kernel
theorem dX10_stopped_94 : decode cX10_stopped 94 = .ok (.getfield 60, 3) := by decide +kernel
theorem dX10_stopped_97 : decode cX10_stopped 97 = .ok (.iload_n 3, 1) := by decide +kernel
theorem dX10_stopped_98 : decode cX10_stopped 98 = .ok (.iload 5, 2) := by decide +kernel
theorem dX10_stopped_100 : decode cX10_stopped 100 = .ok (.iadd, 1) := by decide +kernel
theorem dX10_stopped_101 : decode cX10_stopped 101 = .ok (.iaload, 1) := by decide +kernel
theorem dX10_stopped_102 : decode cX10_stopped 102 = .ok (.istore 6, 2) := by decide +kernel
theorem dX10_stopped_104 : decode cX10_stopped 104 = .ok (.iload_n 2, 1) := by decide +kernel
theorem dX10_stopped_105 : decode cX10_stopped 105 = .ok (.iload 6, 2) := by decide +kernel
theorem dX10_stopped_107 : decode cX10_stopped 107 = .ok (.ishr, 1) := by decide +kernel
theorem dX10_stopped_108 : decode cX10_stopped 108 = .ok (.iconst 1, 1) := by decide +kernel
theorem dX10_stopped_109 : decode cX10_stopped 109 = .ok (.iand, 1) := by decide +kernel
theorem dX10_stopped_110 : decode cX10_stopped 110 = .ok (.iconst 1, 1) := by decide +kernel
theorem dX10_stopped_111 : decode cX10_stopped 111 = .ok (.if_icmp .ne 27, 3) := by decide +kernel
theorem dX10_stopped_114 : decode cX10_stopped 114 = .ok (.iload 4, 2) := by decide +kernel
theorem dX10_stopped_116 : decode cX10_stopped 116 = .ok (.ifCond .ne 19, 3) := by decide +kernel
theorem dX10_stopped_119 : decode cX10_stopped 119 = .ok (.aload_n 0, 1) := by decide +kernel
theorem dX10_stopped_120 : decode cX10_stopped 120 = .ok (.aload_n 0, 1) := by decide +kernel
theorem dX10_stopped_121 : decode cX10_stopped 121 = .ok (.getfield 60, 3) := by decide +kernel
theorem dX10_stopped_124 : decode cX10_stopped 124 = .ok (.iload_n 3, 1) := by decide +kernel
theorem dX10_stopped_125 : decode cX10_stopped 125 = .ok (.iload 5, 2) := by decide +kernel
theorem dX10_stopped_127 : decode cX10_stopped 127 = .ok (.iload 6, 2) := by decide +kernel
theorem dX10_stopped_129 : decode cX10_stopped 129 = .ok (.invokevirtual 210, 3) := by decide +kernel
theorem dX10_stopped_132 : decode cX10_stopped 132 = .ok (.ifCond .eq 6, 3) := by decide +kernel
theorem dX10_stopped_135 : decode cX10_stopped 135 = .ok (.iload 6, 2) := by decide +kernel
theorem dX10_stopped_137 : decode cX10_stopped 137 = .ok (.ireturn, 1) := by decide +kernel
theorem dX10_stopped_138 : decode cX10_stopped 138 = .ok (.iinc 5 1, 3) := by decide +kernel
theorem dX10_stopped_141 : decode cX10_stopped 141 = .ok (.goto (-59), 3) := by decide +kernel
theorem dX10_stopped_144 : decode cX10_stopped 144 = .ok (.iconst (-1), 1) := by decide +kernel
theorem dX10_stopped_145 : decode cX10_stopped 145 = .ok (.ireturn, 1) := by decide +kernel
theorem dX10_isAllowed_0 : decode cX10_isAllowed 0 = .ok (.iload_n 1, 1) := by decide +kernel
theorem dX10_isAllowed_1 : decode cX10_isAllowed 1 = .ok (.istore_n 3, 1) := by decide +kernel
theorem dX10_isAllowed_2 : decode cX10_isAllowed 2 = .ok (.iconst 0, 1) := by decide +kernel
theorem dX10_isAllowed_3 : decode cX10_isAllowed 3 = .ok (.istore 4, 2) := by decide +kernel
theorem dX10_isAllowed_5 : decode cX10_isAllowed 5 = .ok (.iload 4, 2) := by decide +kernel
theorem dX10_isAllowed_7 : decode cX10_isAllowed 7 = .ok (.iload_n 2, 1) := by decide +kernel
theorem dX10_isAllowed_8 : decode cX10_isAllowed 8 = .ok (.if_icmp .ge 25, 3) := by decide +kernel
theorem dX10_isAllowed_11 : decode cX10_isAllowed 11 = .ok (.aload_n 0, 1) := by decide +kernel
theorem dX10_isAllowed_12 : decode cX10_isAllowed 12 = .ok (.getfield 87, 3) := by decide +kernel
theorem dX10_isAllowed_15 : decode cX10_isAllowed 15 = .ok (.iload 4, 2) := by decide +kernel
theorem dX10_isAllowed_17 : decode cX10_isAllowed 17 = .ok (.iload_n 3, 1) := by decide +kernel
theorem dX10_isAllowed_18 : decode cX10_isAllowed 18 = .ok (.bipush 10, 2) := by decide +kernel
theorem dX10_isAllowed_20 : decode cX10_isAllowed 20 = .ok (.irem, 1) := by decide +kernel
theorem dX10_isAllowed_21 : decode cX10_isAllowed 21 = .ok (.iastore, 1) := by decide +kernel
theorem dX10_isAllowed_22 : decode cX10_isAllowed 22 = .ok (.iload_n 3, 1) := by decide +kernel
theorem dX10_isAllowed_23 : decode cX10_isAllowed 23 = .ok (.bipush 10, 2) := by decide +kernel
theorem dX10_isAllowed_25 : decode cX10_isAllowed 25 = .ok (.idiv, 1) := by decide +kernel
theorem dX10_isAllowed_26 : decode cX10_isAllowed 26 = .ok (.istore_n 3, 1) := by decide +kernel
theorem dX10_isAllowed_27 : decode cX10_isAllowed 27 = .ok (.iinc 4 1, 3) := by decide +kernel
theorem dX10_isAllowed_30 : decode cX10_isAllowed 30 = .ok (.goto (-25), 3) := by decide +kernel
theorem dX10_isAllowed_33 : decode cX10_isAllowed 33 = .ok (.aload_n 0, 1) := by decide +kernel
theorem dX10_isAllowed_34 : decode cX10_isAllowed 34 = .ok (.getfield 87, 3) := by decide +kernel
theorem dX10_isAllowed_37 : decode cX10_isAllowed 37 = .ok (.iconst 0, 1) := by decide +kernel
theorem dX10_isAllowed_38 : decode cX10_isAllowed 38 = .ok (.iload_n 2, 1) := by decide +kernel
theorem dX10_isAllowed_39 : decode cX10_isAllowed 39 = .ok (.invokestatic 192, 3) := by decide +kernel
theorem dX10_isAllowed_42 : decode cX10_isAllowed 42 = .ok (.ifCond .ne 7, 3) := by decide +kernel
theorem dX10_isAllowed_45 : decode cX10_isAllowed 45 = .ok (.iconst 1, 1) := by decide +kernel
theorem dX10_isAllowed_46 : decode cX10_isAllowed 46 = .ok (.goto 4, 3) := by decide +kernel
theorem dX10_isAllowed_49 : decode cX10_isAllowed 49 = .ok (.iconst 0, 1) := by decide +kernel
theorem dX10_isAllowed_50 : decode cX10_isAllowed 50 = .ok (.istore 4, 2) := by decide +kernel
theorem dX10_isAllowed_52 : decode cX10_isAllowed 52 = .ok (.iconst 0, 1) := by decide +kernel
theorem dX10_isAllowed_53 : decode cX10_isAllowed 53 = .ok (.istore 5, 2) := by decide +kernel
theorem dX10_isAllowed_55 : decode cX10_isAllowed 55 = .ok (.iload 5, 2) := by decide +kernel
theorem dX10_isAllowed_57 : decode cX10_isAllowed 57 = .ok (.iconst 1, 1) := by decide +kernel
theorem dX10_isAllowed_58 : decode cX10_isAllowed 58 = .ok (.iadd, 1) := by decide +kernel
theorem dX10_isAllowed_59 : decode cX10_isAllowed 59 = .ok (.iload_n 2, 1) := by decide +kernel
theorem dX10_isAllowed_60 : decode cX10_isAllowed 60 = .ok (.if_icmp .ge 136, 3) := by decide +kernel
theorem dX10_isAllowed_63 : decode cX10_isAllowed 63 = .ok (.iload 4, 2) := by decide +kernel
theorem dX10_isAllowed_65 : decode cX10_isAllowed 65 = .ok (.ifCond .eq 131, 3) := by decide +kernel
theorem dX10_isAllowed_68 : decode cX10_isAllowed 68 = .ok (.aload_n 0, 1) := by decide +kernel
theorem dX10_isAllowed_69 : decode cX10_isAllowed 69 = .ok (.getfield 75, 3) := by decide +kernel
theorem dX10_isAllowed_72 : decode cX10_isAllowed 72 = .ok (.bipush 10, 2) := by decide +kernel
theorem dX10_isAllowed_74 : decode cX10_isAllowed 74 = .ok (.aload_n 0, 1) := by decide +kernel
theorem dX10_isAllowed_75 : decode cX10_isAllowed 75 = .ok (.getfield 87, 3) := by decide +kernel
theorem dX10_isAllowed_78 : decode cX10_isAllowed 78 = .ok (.iload 5, 2) := by decide +kernel
theorem dX10_isAllowed_80 : decode cX10_isAllowed 80 = .ok (.iaload, 1) := by decide +kernel
theorem dX10_isAllowed_81 : decode cX10_isAllowed 81 = .ok (.imul, 1) := by decide +kernel
theorem dX10_isAllowed_82 : decode cX10_isAllowed 82 = .ok (.aload_n 0, 1) := by decide +kernel
theorem dX10_isAllowed_83 : decode cX10_isAllowed 83 = .ok (.getfield 87, 3) := by decide +kernel
theorem dX10_isAllowed_86 : decode cX10_isAllowed 86 = .ok (.iload 5, 2) := by decide +kernel
theorem dX10_isAllowed_88 : decode cX10_isAllowed 88 = .ok (.iconst 1, 1) := by decide +kernel
theorem dX10_isAllowed_89 : decode cX10_isAllowed 89 = .ok (.iadd, 1) := by decide +kernel
theorem dX10_isAllowed_90 : decode cX10_isAllowed 90 = .ok (.iaload, 1) := by decide +kernel
theorem dX10_isAllowed_91 : decode cX10_isAllowed 91 = .ok (.iadd, 1) := by decide +kernel
theorem dX10_isAllowed_92 : decode cX10_isAllowed 92 = .ok (.iaload, 1) := by decide +kernel
theorem dX10_isAllowed_93 : decode cX10_isAllowed 93 = .ok (.ifCond .eq 7, 3) := by decide +kernel
theorem dX10_isAllowed_96 : decode cX10_isAllowed 96 = .ok (.iconst 1, 1) := by decide +kernel
theorem dX10_isAllowed_97 : decode cX10_isAllowed 97 = .ok (.goto 4, 3) := by decide +kernel
theorem dX10_isAllowed_100 : decode cX10_isAllowed 100 = .ok (.iconst 0, 1) := by decide +kernel
theorem dX10_isAllowed_101 : decode cX10_isAllowed 101 = .ok (.istore 4, 2) := by decide +kernel
theorem dX10_isAllowed_103 : decode cX10_isAllowed 103 = .ok (.iload 5, 2) := by decide +kernel
theorem dX10_isAllowed_105 : decode cX10_isAllowed 105 = .ok (.ifCond .eq 61, 3) := by decide +kernel
theorem dX10_isAllowed_108 : decode cX10_isAllowed 108 = .ok (.aload_n 0, 1) := by decide +kernel
theorem dX10_isAllowed_109 : decode cX10_isAllowed 109 = .ok (.getfield 75, 3) := by decide +kernel
theorem dX10_isAllowed_112 : decode cX10_isAllowed 112 = .ok (.bipush 10, 2) := by decide +kernel
theorem dX10_isAllowed_114 : decode cX10_isAllowed 114 = .ok (.aload_n 0, 1) := by decide +kernel
theorem dX10_isAllowed_115 : decode cX10_isAllowed 115 = .ok (.getfield 87, 3) := by decide +kernel
theorem dX10_isAllowed_118 : decode cX10_isAllowed 118 = .ok (.iload 5, 2) := by decide +kernel
theorem dX10_isAllowed_120 : decode cX10_isAllowed 120 = .ok (.iconst 1, 1) := by decide +kernel
theorem dX10_isAllowed_121 : decode cX10_isAllowed 121 = .ok (.isub, 1) := by decide +kernel
theorem dX10_isAllowed_122 : decode cX10_isAllowed 122 = .ok (.iaload, 1) := by decide +kernel
theorem dX10_isAllowed_123 : decode cX10_isAllowed 123 = .ok (.imul, 1) := by decide +kernel
theorem dX10_isAllowed_124 : decode cX10_isAllowed 124 = .ok (.aload_n 0, 1) := by decide +kernel
theorem dX10_isAllowed_125 : decode cX10_isAllowed 125 = .ok (.getfield 87, 3) := by decide +kernel
theorem dX10_isAllowed_128 : decode cX10_isAllowed 128 = .ok (.iload 5, 2) := by decide +kernel
theorem dX10_isAllowed_130 : decode cX10_isAllowed 130 = .ok (.iaload, 1) := by decide +kernel
theorem dX10_isAllowed_131 : decode cX10_isAllowed 131 = .ok (.iadd, 1) := by decide +kernel
theorem dX10_isAllowed_132 : decode cX10_isAllowed 132 = .ok (.iaload, 1) := by decide +kernel
theorem dX10_isAllowed_133 : decode cX10_isAllowed 133 = .ok (.iconst 1, 1) := by decide +kernel
theorem dX10_isAllowed_134 : decode cX10_isAllowed 134 = .ok (.if_icmp .eq 32, 3) := by decide +kernel
theorem dX10_isAllowed_137 : decode cX10_isAllowed 137 = .ok (.aload_n 0, 1) := by decide +kernel
theorem dX10_isAllowed_138 : decode cX10_isAllowed 138 = .ok (.getfield 75, 3) := by decide +kernel
theorem dX10_isAllowed_141 : decode cX10_isAllowed 141 = .ok (.bipush 10, 2) := by decide +kernel
theorem dX10_isAllowed_143 : decode cX10_isAllowed 143 = .ok (.aload_n 0, 1) := by decide +kernel
theorem dX10_isAllowed_144 : decode cX10_isAllowed 144 = .ok (.getfield 87, 3) := by decide +kernel
theorem dX10_isAllowed_147 : decode cX10_isAllowed 147 = .ok (.iload 5, 2) := by decide +kernel
theorem dX10_isAllowed_149 : decode cX10_isAllowed 149 = .ok (.iconst 1, 1) := by decide +kernel
theorem dX10_isAllowed_150 : decode cX10_isAllowed 150 = .ok (.iadd, 1) := by decide +kernel
theorem dX10_isAllowed_151 : decode cX10_isAllowed 151 = .ok (.iaload, 1) := by decide +kernel
theorem dX10_isAllowed_152 : decode cX10_isAllowed 152 = .ok (.imul, 1) := by decide +kernel
theorem dX10_isAllowed_153 : decode cX10_isAllowed 153 = .ok (.aload_n 0, 1) := by decide +kernel
theorem dX10_isAllowed_154 : decode cX10_isAllowed 154 = .ok (.getfield 87, 3) := by decide +kernel
theorem dX10_isAllowed_157 : decode cX10_isAllowed 157 = .ok (.iload 5, 2) := by decide +kernel
theorem dX10_isAllowed_159 : decode cX10_isAllowed 159 = .ok (.iaload, 1) := by decide +kernel
theorem dX10_isAllowed_160 : decode cX10_isAllowed 160 = .ok (.iadd, 1) := by decide +kernel
theorem dX10_isAllowed_161 : decode cX10_isAllowed 161 = .ok (.iaload, 1) := by decide +kernel
theorem dX10_isAllowed_162 : decode cX10_isAllowed 162 = .ok (.iconst 1, 1) := by decide +kernel
theorem dX10_isAllowed_163 : decode cX10_isAllowed 163 = .ok (.if_icmp .ne 7, 3) := by decide +kernel
theorem dX10_isAllowed_166 : decode cX10_isAllowed 166 = .ok (.iconst 1, 1) := by decide +kernel
theorem dX10_isAllowed_167 : decode cX10_isAllowed 167 = .ok (.goto 4, 3) := by decide +kernel
theorem dX10_isAllowed_170 : decode cX10_isAllowed 170 = .ok (.iconst 0, 1) := by decide +kernel
theorem dX10_isAllowed_171 : decode cX10_isAllowed 171 = .ok (.istore 6, 2) := by decide +kernel
theorem dX10_isAllowed_173 : decode cX10_isAllowed 173 = .ok (.iload 4, 2) := by decide +kernel
theorem dX10_isAllowed_175 : decode cX10_isAllowed 175 = .ok (.ifCond .eq 12, 3) := by decide +kernel
theorem dX10_isAllowed_178 : decode cX10_isAllowed 178 = .ok (.iload 6, 2) := by decide +kernel
theorem dX10_isAllowed_180 : decode cX10_isAllowed 180 = .ok (.ifCond .eq 7, 3) := by decide +kernel
theorem dX10_isAllowed_183 : decode cX10_isAllowed 183 = .ok (.iconst 1, 1) := by decide +kernel
theorem dX10_isAllowed_184 : decode cX10_isAllowed 184 = .ok (.goto 4, 3) := by decide +kernel
theorem dX10_isAllowed_187 : decode cX10_isAllowed 187 = .ok (.iconst 0, 1) := by decide +kernel
theorem dX10_isAllowed_188 : decode cX10_isAllowed 188 = .ok (.istore 4, 2) := by decide +kernel
theorem dX10_isAllowed_190 : decode cX10_isAllowed 190 = .ok (.iinc 5 1, 3) := by decide +kernel
theorem dX10_isAllowed_193 : decode cX10_isAllowed 193 = .ok (.goto (-138), 3) := by decide +kernel
theorem dX10_isAllowed_196 : decode cX10_isAllowed 196 = .ok (.iload 4, 2) := by decide +kernel
theorem dX10_isAllowed_198 : decode cX10_isAllowed 198 = .ok (.ireturn, 1) := by decide +kernel
theorem dX10_power_0 : decode cX10_power 0 = .ok (.iconst 1, 1) := by decide +kernel
theorem dX10_power_1 : decode cX10_power 1 = .ok (.istore_n 1, 1) := by decide +kernel
theorem dX10_power_2 : decode cX10_power 2 = .ok (.iconst 0, 1) := by decide +kernel
theorem dX10_power_3 : decode cX10_power 3 = .ok (.istore_n 2, 1) := by decide +kernel
theorem dX10_power_4 : decode cX10_power 4 = .ok (.iload_n 2, 1) := by decide +kernel
theorem dX10_power_5 : decode cX10_power 5 = .ok (.iload_n 0, 1) := by decide +kernel
theorem dX10_power_6 : decode cX10_power 6 = .ok (.if_icmp .ge 14, 3) := by decide +kernel
theorem dX10_power_9 : decode cX10_power 9 = .ok (.iload_n 1, 1) := by decide +kernel
theorem dX10_power_10 : decode cX10_power 10 = .ok (.bipush 10, 2) := by decide +kernel
theorem dX10_power_12 : decode cX10_power 12 = .ok (.imul, 1) := by decide +kernel
theorem dX10_power_13 : decode cX10_power 13 = .ok (.istore_n 1, 1) := by decide +kernel
theorem dX10_power_14 : decode cX10_power 14 = .ok (.iinc 2 1, 3) := by decide +kernel
theorem dX10_power_17 : decode cX10_power 17 = .ok (.goto (-13), 3) := by decide +kernel
theorem dX10_power_20 : decode cX10_power 20 = .ok (.iload_n 1, 1) := by decide +kernel
theorem dX10_power_21 : decode cX10_power 21 = .ok (.ireturn, 1) := by decide +kernel
theorem dX10_allowed_0 : decode cX10_allowed 0 = .ok (.aload_n 0, 1) := by decide +kernel
theorem dX10_allowed_1 : decode cX10_allowed 1 = .ok (.iload_n 1, 1) := by decide +kernel
theorem dX10_allowed_2 : decode cX10_allowed 2 = .ok (.invokestatic 125, 3) := by decide +kernel
theorem dX10_allowed_5 : decode cX10_allowed 5 = .ok (.ifCond .eq 14, 3) := by decide +kernel
theorem dX10_allowed_8 : decode cX10_allowed 8 = .ok (.iload_n 2, 1) := by decide +kernel
theorem dX10_allowed_9 : decode cX10_allowed 9 = .ok (.invokestatic 125, 3) := by decide +kernel
theorem dX10_allowed_12 : decode cX10_allowed 12 = .ok (.ifCond .eq 7, 3) := by decide +kernel
theorem dX10_allowed_15 : decode cX10_allowed 15 = .ok (.iconst 0, 1) := by decide +kernel
theorem dX10_allowed_16 : decode cX10_allowed 16 = .ok (.goto 4, 3) := by decide +kernel
theorem dX10_allowed_19 : decode cX10_allowed 19 = .ok (.iconst 1, 1) := by decide +kernel
theorem dX10_allowed_20 : decode cX10_allowed 20 = .ok (.invokevirtual 119, 3) := by decide +kernel
theorem dX10_allowed_23 : decode cX10_allowed 23 = .ok (.ifCond .ne 5, 3) := by decide +kernel
theorem dX10_allowed_26 : decode cX10_allowed 26 = .ok (.iconst 0, 1) := by decide +kernel
theorem dX10_allowed_27 : decode cX10_allowed 27 = .ok (.ireturn, 1) := by decide +kernel
theorem dX10_allowed_28 : decode cX10_allowed 28 = .ok (.iconst 0, 1) := by decide +kernel
theorem dX10_allowed_29 : decode cX10_allowed 29 = .ok (.istore_n 3, 1) := by decide +kernel
theorem dX10_allowed_30 : decode cX10_allowed 30 = .ok (.iconst 2, 1) := by decide +kernel
theorem dX10_allowed_31 : decode cX10_allowed 31 = .ok (.istore 4, 2) := by decide +kernel
theorem dX10_allowed_33 : decode cX10_allowed 33 = .ok (.iload 4, 2) := by decide +kernel
theorem dX10_allowed_35 : decode cX10_allowed 35 = .ok (.bipush 6, 2) := by decide +kernel
theorem dX10_allowed_37 : decode cX10_allowed 37 = .ok (.if_icmp .ge 64, 3) := by decide +kernel
theorem dX10_allowed_40 : decode cX10_allowed 40 = .ok (.iconst 0, 1) := by decide +kernel
theorem dX10_allowed_41 : decode cX10_allowed 41 = .ok (.istore 5, 2) := by decide +kernel
theorem dX10_allowed_43 : decode cX10_allowed 43 = .ok (.iload 5, 2) := by decide +kernel
theorem dX10_allowed_45 : decode cX10_allowed 45 = .ok (.iload 4, 2) := by decide +kernel
theorem dX10_allowed_47 : decode cX10_allowed 47 = .ok (.iconst 2, 1) := by decide +kernel
theorem dX10_allowed_48 : decode cX10_allowed 48 = .ok (.isub, 1) := by decide +kernel
theorem dX10_allowed_49 : decode cX10_allowed 49 = .ok (.invokestatic 214, 3) := by decide +kernel
theorem dX10_allowed_52 : decode cX10_allowed 52 = .ok (.if_icmp .ge 43, 3) := by decide +kernel
theorem dX10_allowed_55 : decode cX10_allowed 55 = .ok (.iload_n 3, 1) := by decide +kernel
theorem dX10_allowed_56 : decode cX10_allowed 56 = .ok (.aload_n 0, 1) := by decide +kernel
theorem dX10_allowed_57 : decode cX10_allowed 57 = .ok (.iload_n 1, 1) := by decide +kernel
theorem dX10_allowed_58 : decode cX10_allowed 58 = .ok (.bipush 10, 2) := by decide +kernel
theorem dX10_allowed_60 : decode cX10_allowed 60 = .ok (.iload 5, 2) := by decide +kernel
theorem dX10_allowed_62 : decode cX10_allowed 62 = .ok (.imul, 1) := by decide +kernel
theorem dX10_allowed_63 : decode cX10_allowed 63 = .ok (.iadd, 1) := by decide +kernel
theorem dX10_allowed_64 : decode cX10_allowed 64 = .ok (.iload 4, 2) := by decide +kernel
theorem dX10_allowed_66 : decode cX10_allowed 66 = .ok (.iconst 1, 1) := by decide +kernel
theorem dX10_allowed_67 : decode cX10_allowed 67 = .ok (.isub, 1) := by decide +kernel
theorem dX10_allowed_68 : decode cX10_allowed 68 = .ok (.invokestatic 214, 3) := by decide +kernel
theorem dX10_allowed_71 : decode cX10_allowed 71 = .ok (.iload_n 2, 1) := by decide +kernel
theorem dX10_allowed_72 : decode cX10_allowed 72 = .ok (.imul, 1) := by decide +kernel
theorem dX10_allowed_73 : decode cX10_allowed 73 = .ok (.iadd, 1) := by decide +kernel
theorem dX10_allowed_74 : decode cX10_allowed 74 = .ok (.iload 4, 2) := by decide +kernel
theorem dX10_allowed_76 : decode cX10_allowed 76 = .ok (.invokevirtual 217, 3) := by decide +kernel
theorem dX10_allowed_79 : decode cX10_allowed 79 = .ok (.ifCond .eq 7, 3) := by decide +kernel
theorem dX10_allowed_82 : decode cX10_allowed 82 = .ok (.iconst 1, 1) := by decide +kernel
theorem dX10_allowed_83 : decode cX10_allowed 83 = .ok (.goto 4, 3) := by decide +kernel
theorem dX10_allowed_86 : decode cX10_allowed 86 = .ok (.iconst 0, 1) := by decide +kernel
theorem dX10_allowed_87 : decode cX10_allowed 87 = .ok (.iadd, 1) := by decide +kernel
theorem dX10_allowed_88 : decode cX10_allowed 88 = .ok (.istore_n 3, 1) := by decide +kernel
theorem dX10_allowed_89 : decode cX10_allowed 89 = .ok (.iinc 5 1, 3) := by decide +kernel
theorem dX10_allowed_92 : decode cX10_allowed 92 = .ok (.goto (-49), 3) := by decide +kernel
theorem dX10_allowed_95 : decode cX10_allowed 95 = .ok (.iinc 4 1, 3) := by decide +kernel
theorem dX10_allowed_98 : decode cX10_allowed 98 = .ok (.goto (-65), 3) := by decide +kernel
theorem dX10_allowed_101 : decode cX10_allowed 101 = .ok (.iload_n 3, 1) := by decide +kernel
theorem dX10_allowed_102 : decode cX10_allowed 102 = .ok (.ireturn, 1) := by decide +kernel
theorem dX10_falseAlarms_0 : decode cX10_falseAlarms 0 = .ok (.aload_n 0, 1) := by decide +kernel
theorem dX10_falseAlarms_1 : decode cX10_falseAlarms 1 = .ok (.iconst 0, 1) := by decide +kernel
theorem dX10_falseAlarms_2 : decode cX10_falseAlarms 2 = .ok (.putfield 105, 3) := by decide +kernel
theorem dX10_falseAlarms_5 : decode cX10_falseAlarms 5 = .ok (.aload_n 0, 1) := by decide +kernel
theorem dX10_falseAlarms_6 : decode cX10_falseAlarms 6 = .ok (.invokevirtual 203, 3) := by decide +kernel
theorem dX10_falseAlarms_9 : decode cX10_falseAlarms 9 = .ok (.iconst 0, 1) := by decide +kernel
theorem dX10_falseAlarms_10 : decode cX10_falseAlarms 10 = .ok (.istore_n 1, 1) := by decide +kernel
theorem dX10_falseAlarms_11 : decode cX10_falseAlarms 11 = .ok (.iconst 2, 1) := by decide +kernel
theorem dX10_falseAlarms_12 : decode cX10_falseAlarms 12 = .ok (.istore_n 2, 1) := by decide +kernel
theorem dX10_falseAlarms_13 : decode cX10_falseAlarms 13 = .ok (.iload_n 2, 1) := by decide +kernel
theorem dX10_falseAlarms_14 : decode cX10_falseAlarms 14 = .ok (.bipush 6, 2) := by decide +kernel
theorem dX10_falseAlarms_16 : decode cX10_falseAlarms 16 = .ok (.if_icmp .ge 65, 3) := by decide +kernel
theorem dX10_falseAlarms_19 : decode cX10_falseAlarms 19 = .ok (.iconst 0, 1) := by decide +kernel
theorem dX10_falseAlarms_20 : decode cX10_falseAlarms 20 = .ok (.istore_n 3, 1) := by decide +kernel
theorem dX10_falseAlarms_21 : decode cX10_falseAlarms 21 = .ok (.iload_n 3, 1) := by decide +kernel
theorem dX10_falseAlarms_22 : decode cX10_falseAlarms 22 = .ok (.iload_n 2, 1) := by decide +kernel
theorem dX10_falseAlarms_23 : decode cX10_falseAlarms 23 = .ok (.invokestatic 214, 3) := by decide +kernel
theorem dX10_falseAlarms_26 : decode cX10_falseAlarms 26 = .ok (.if_icmp .ge 49, 3) := by decide +kernel
theorem dX10_falseAlarms_29 : decode cX10_falseAlarms 29 = .ok (.iload_n 1, 1) := by decide +kernel
theorem dX10_falseAlarms_30 : decode cX10_falseAlarms 30 = .ok (.aload_n 0, 1) := by decide +kernel
theorem dX10_falseAlarms_31 : decode cX10_falseAlarms 31 = .ok (.iload_n 3, 1) := by decide +kernel
theorem dX10_falseAlarms_32 : decode cX10_falseAlarms 32 = .ok (.iload_n 2, 1) := by decide +kernel
theorem dX10_falseAlarms_33 : decode cX10_falseAlarms 33 = .ok (.invokevirtual 217, 3) := by decide +kernel
theorem dX10_falseAlarms_36 : decode cX10_falseAlarms 36 = .ok (.ifCond .eq 30, 3) := by decide +kernel
theorem dX10_falseAlarms_39 : decode cX10_falseAlarms 39 = .ok (.aload_n 0, 1) := by decide +kernel
theorem dX10_falseAlarms_40 : decode cX10_falseAlarms 40 = .ok (.aload_n 0, 1) := by decide +kernel
theorem dX10_falseAlarms_41 : decode cX10_falseAlarms 41 = .ok (.getfield 87, 3) := by decide +kernel
theorem dX10_falseAlarms_44 : decode cX10_falseAlarms 44 = .ok (.iconst 0, 1) := by decide +kernel
theorem dX10_falseAlarms_45 : decode cX10_falseAlarms 45 = .ok (.iload_n 2, 1) := by decide +kernel
theorem dX10_falseAlarms_46 : decode cX10_falseAlarms 46 = .ok (.iconst 1, 1) := by decide +kernel
theorem dX10_falseAlarms_47 : decode cX10_falseAlarms 47 = .ok (.isub, 1) := by decide +kernel
theorem dX10_falseAlarms_48 : decode cX10_falseAlarms 48 = .ok (.aload_n 0, 1) := by decide +kernel
theorem dX10_falseAlarms_49 : decode cX10_falseAlarms 49 = .ok (.getfield 87, 3) := by decide +kernel
theorem dX10_falseAlarms_52 : decode cX10_falseAlarms 52 = .ok (.iload_n 2, 1) := by decide +kernel
theorem dX10_falseAlarms_53 : decode cX10_falseAlarms 53 = .ok (.iconst 1, 1) := by decide +kernel
theorem dX10_falseAlarms_54 : decode cX10_falseAlarms 54 = .ok (.isub, 1) := by decide +kernel
theorem dX10_falseAlarms_55 : decode cX10_falseAlarms 55 = .ok (.iaload, 1) := by decide +kernel
theorem dX10_falseAlarms_56 : decode cX10_falseAlarms 56 = .ok (.invokevirtual 210, 3) := by decide +kernel
theorem dX10_falseAlarms_59 : decode cX10_falseAlarms 59 = .ok (.ifCond .eq 7, 3) := by decide +kernel
theorem dX10_falseAlarms_62 : decode cX10_falseAlarms 62 = .ok (.iconst 1, 1) := by decide +kernel
theorem dX10_falseAlarms_63 : decode cX10_falseAlarms 63 = .ok (.goto 4, 3) := by decide +kernel
theorem dX10_falseAlarms_66 : decode cX10_falseAlarms 66 = .ok (.iconst 0, 1) := by decide +kernel
theorem dX10_falseAlarms_67 : decode cX10_falseAlarms 67 = .ok (.iadd, 1) := by decide +kernel
theorem dX10_falseAlarms_68 : decode cX10_falseAlarms 68 = .ok (.istore_n 1, 1) := by decide +kernel
theorem dX10_falseAlarms_69 : decode cX10_falseAlarms 69 = .ok (.iinc 3 1, 3) := by decide +kernel
theorem dX10_falseAlarms_72 : decode cX10_falseAlarms 72 = .ok (.goto (-51), 3) := by decide +kernel
theorem dX10_falseAlarms_75 : decode cX10_falseAlarms 75 = .ok (.iinc 2 1, 3) := by decide +kernel
theorem dX10_falseAlarms_78 : decode cX10_falseAlarms 78 = .ok (.goto (-65), 3) := by decide +kernel
theorem dX10_falseAlarms_81 : decode cX10_falseAlarms 81 = .ok (.iload_n 1, 1) := by decide +kernel
theorem dX10_falseAlarms_82 : decode cX10_falseAlarms 82 = .ok (.ireturn, 1) := by decide +kernel
theorem dX10_count_0 : decode cX10_count 0 = .ok (.iconst 0, 1) := by decide +kernel
theorem dX10_count_1 : decode cX10_count 1 = .ok (.istore_n 1, 1) := by decide +kernel
theorem dX10_count_2 : decode cX10_count 2 = .ok (.iconst 0, 1) := by decide +kernel
theorem dX10_count_3 : decode cX10_count 3 = .ok (.istore_n 2, 1) := by decide +kernel
theorem dX10_count_4 : decode cX10_count 4 = .ok (.iload_n 2, 1) := by decide +kernel
theorem dX10_count_5 : decode cX10_count 5 = .ok (.bipush 10, 2) := by decide +kernel
theorem dX10_count_7 : decode cX10_count 7 = .ok (.if_icmp .ge 17, 3) := by decide +kernel
theorem dX10_count_10 : decode cX10_count 10 = .ok (.iload_n 1, 1) := by decide +kernel
theorem dX10_count_11 : decode cX10_count 11 = .ok (.iload_n 0, 1) := by decide +kernel
theorem dX10_count_12 : decode cX10_count 12 = .ok (.iload_n 2, 1) := by decide +kernel
theorem dX10_count_13 : decode cX10_count 13 = .ok (.ishr, 1) := by decide +kernel
end
section
theorem dX10_count_14 : decode cX10_count 14 = .ok (.iconst 1, 1) := by decide +kernel
theorem dX10_count_15 : decode cX10_count 15 = .ok (.iand, 1) := by decide +kernel
theorem dX10_count_16 : decode cX10_count 16 = .ok (.iadd, 1) := by decide +kernel
theorem dX10_count_17 : decode cX10_count 17 = .ok (.istore_n 1, 1) := by decide +kernel
theorem dX10_count_18 : decode cX10_count 18 = .ok (.iinc 2 1, 3) := by decide +kernel
theorem dX10_count_21 : decode cX10_count 21 = .ok (.goto (-17), 3) := by decide +kernel
theorem dX10_count_24 : decode cX10_count 24 = .ok (.iload_n 1, 1) := by decide +kernel
theorem dX10_count_25 : decode cX10_count 25 = .ok (.ireturn, 1) := by decide +kernel
theorem dX10_isUsed_0 : decode cX10_isUsed 0 = .ok (.aload_n 0, 1) := by decide +kernel
theorem dX10_isUsed_1 : decode cX10_isUsed 1 = .ok (.getfield 72, 3) := by decide +kernel
theorem dX10_isUsed_4 : decode cX10_isUsed 4 = .ok (.iload_n 1, 1) := by decide +kernel
theorem dX10_isUsed_5 : decode cX10_isUsed 5 = .ok (.baload, 1) := by decide +kernel
theorem dX10_isUsed_6 : decode cX10_isUsed 6 = .ok (.ifCond .eq 27, 3) := by decide +kernel
theorem dX10_isUsed_9 : decode cX10_isUsed 9 = .ok (.aload_n 0, 1) := by decide +kernel
theorem dX10_isUsed_10 : decode cX10_isUsed 10 = .ok (.getfield 60, 3) := by decide +kernel
theorem dX10_isUsed_13 : decode cX10_isUsed 13 = .ok (.bipush 6, 2) := by decide +kernel
theorem dX10_isUsed_15 : decode cX10_isUsed 15 = .ok (.iload_n 1, 1) := by decide +kernel
theorem dX10_isUsed_16 : decode cX10_isUsed 16 = .ok (.imul, 1) := by decide +kernel
theorem dX10_isUsed_17 : decode cX10_isUsed 17 = .ok (.aload_n 0, 1) := by decide +kernel
theorem dX10_isUsed_18 : decode cX10_isUsed 18 = .ok (.getfield 63, 3) := by decide +kernel
theorem dX10_isUsed_21 : decode cX10_isUsed 21 = .ok (.iload_n 1, 1) := by decide +kernel
theorem dX10_isUsed_22 : decode cX10_isUsed 22 = .ok (.iaload, 1) := by decide +kernel
theorem dX10_isUsed_23 : decode cX10_isUsed 23 = .ok (.invokestatic 192, 3) := by decide +kernel
theorem dX10_isUsed_26 : decode cX10_isUsed 26 = .ok (.ifCond .ne 7, 3) := by decide +kernel
theorem dX10_isUsed_29 : decode cX10_isUsed 29 = .ok (.iconst 1, 1) := by decide +kernel
theorem dX10_isUsed_30 : decode cX10_isUsed 30 = .ok (.goto 4, 3) := by decide +kernel
theorem dX10_isUsed_33 : decode cX10_isUsed 33 = .ok (.iconst 0, 1) := by decide +kernel
theorem dX10_isUsed_34 : decode cX10_isUsed 34 = .ok (.ireturn, 1) := by decide +kernel
theorem dX10_nears_0 : decode cX10_nears 0 = .ok (.iconst 0, 1) := by decide +kernel
theorem dX10_nears_1 : decode cX10_nears 1 = .ok (.istore_n 1, 1) := by decide +kernel
theorem dX10_nears_2 : decode cX10_nears 2 = .ok (.iload_n 1, 1) := by decide +kernel
theorem dX10_nears_3 : decode cX10_nears 3 = .ok (.bipush 10, 2) := by decide +kernel
theorem dX10_nears_5 : decode cX10_nears 5 = .ok (.if_icmp .ge 16, 3) := by decide +kernel
theorem dX10_nears_8 : decode cX10_nears 8 = .ok (.aload_n 0, 1) := by decide +kernel
theorem dX10_nears_9 : decode cX10_nears 9 = .ok (.getfield 90, 3) := by decide +kernel
theorem dX10_nears_12 : decode cX10_nears 12 = .ok (.iload_n 1, 1) := by decide +kernel
theorem dX10_nears_13 : decode cX10_nears 13 = .ok (.iconst 0, 1) := by decide +kernel
theorem dX10_nears_14 : decode cX10_nears 14 = .ok (.iastore, 1) := by decide +kernel
theorem dX10_nears_15 : decode cX10_nears 15 = .ok (.iinc 1 1, 3) := by decide +kernel
theorem dX10_nears_18 : decode cX10_nears 18 = .ok (.goto (-16), 3) := by decide +kernel
theorem dX10_nears_21 : decode cX10_nears 21 = .ok (.iconst 0, 1) := by decide +kernel
theorem dX10_nears_22 : decode cX10_nears 22 = .ok (.istore_n 1, 1) := by decide +kernel
theorem dX10_nears_23 : decode cX10_nears 23 = .ok (.iload_n 1, 1) := by decide +kernel
theorem dX10_nears_24 : decode cX10_nears 24 = .ok (.aload_n 0, 1) := by decide +kernel
theorem dX10_nears_25 : decode cX10_nears 25 = .ok (.getfield 154, 3) := by decide +kernel
theorem dX10_nears_28 : decode cX10_nears 28 = .ok (.if_icmp .ge 93, 3) := by decide +kernel
theorem dX10_nears_31 : decode cX10_nears 31 = .ok (.bipush 6, 2) := by decide +kernel
theorem dX10_nears_33 : decode cX10_nears 33 = .ok (.iload_n 1, 1) := by decide +kernel
theorem dX10_nears_34 : decode cX10_nears 34 = .ok (.imul, 1) := by decide +kernel
theorem dX10_nears_35 : decode cX10_nears 35 = .ok (.istore_n 2, 1) := by decide +kernel
theorem dX10_nears_36 : decode cX10_nears 36 = .ok (.aload_n 0, 1) := by decide +kernel
theorem dX10_nears_37 : decode cX10_nears 37 = .ok (.iload_n 1, 1) := by decide +kernel
theorem dX10_nears_38 : decode cX10_nears 38 = .ok (.invokevirtual 220, 3) := by decide +kernel
theorem dX10_nears_41 : decode cX10_nears 41 = .ok (.ifCond .eq 74, 3) := by decide +kernel
theorem dX10_nears_44 : decode cX10_nears 44 = .ok (.iload_n 2, 1) := by decide +kernel
theorem dX10_nears_45 : decode cX10_nears 45 = .ok (.iconst 1, 1) := by decide +kernel
theorem dX10_nears_46 : decode cX10_nears 46 = .ok (.iadd, 1) := by decide +kernel
theorem dX10_nears_47 : decode cX10_nears 47 = .ok (.bipush 6, 2) := by decide +kernel
theorem dX10_nears_49 : decode cX10_nears 49 = .ok (.iload_n 1, 1) := by decide +kernel
theorem dX10_nears_50 : decode cX10_nears 50 = .ok (.imul, 1) := by decide +kernel
theorem dX10_nears_51 : decode cX10_nears 51 = .ok (.aload_n 0, 1) := by decide +kernel
theorem dX10_nears_52 : decode cX10_nears 52 = .ok (.getfield 63, 3) := by decide +kernel
theorem dX10_nears_55 : decode cX10_nears 55 = .ok (.iload_n 1, 1) := by decide +kernel
theorem dX10_nears_56 : decode cX10_nears 56 = .ok (.iaload, 1) := by decide +kernel
theorem dX10_nears_57 : decode cX10_nears 57 = .ok (.iadd, 1) := by decide +kernel
theorem dX10_nears_58 : decode cX10_nears 58 = .ok (.if_icmp .ge 57, 3) := by decide +kernel
theorem dX10_nears_61 : decode cX10_nears 61 = .ok (.aload_n 0, 1) := by decide +kernel
theorem dX10_nears_62 : decode cX10_nears 62 = .ok (.getfield 90, 3) := by decide +kernel
theorem dX10_nears_65 : decode cX10_nears 65 = .ok (.aload_n 0, 1) := by decide +kernel
theorem dX10_nears_66 : decode cX10_nears 66 = .ok (.getfield 60, 3) := by decide +kernel
theorem dX10_nears_69 : decode cX10_nears 69 = .ok (.iload_n 2, 1) := by decide +kernel
theorem dX10_nears_70 : decode cX10_nears 70 = .ok (.iaload, 1) := by decide +kernel
theorem dX10_nears_71 : decode cX10_nears 71 = .ok (.dup2, 1) := by decide +kernel
theorem dX10_nears_72 : decode cX10_nears 72 = .ok (.iaload, 1) := by decide +kernel
theorem dX10_nears_73 : decode cX10_nears 73 = .ok (.iconst 1, 1) := by decide +kernel
theorem dX10_nears_74 : decode cX10_nears 74 = .ok (.aload_n 0, 1) := by decide +kernel
theorem dX10_nears_75 : decode cX10_nears 75 = .ok (.getfield 60, 3) := by decide +kernel
theorem dX10_nears_78 : decode cX10_nears 78 = .ok (.iload_n 2, 1) := by decide +kernel
theorem dX10_nears_79 : decode cX10_nears 79 = .ok (.iconst 1, 1) := by decide +kernel
theorem dX10_nears_80 : decode cX10_nears 80 = .ok (.iadd, 1) := by decide +kernel
theorem dX10_nears_81 : decode cX10_nears 81 = .ok (.iaload, 1) := by decide +kernel
theorem dX10_nears_82 : decode cX10_nears 82 = .ok (.ishl, 1) := by decide +kernel
theorem dX10_nears_83 : decode cX10_nears 83 = .ok (.ior, 1) := by decide +kernel
theorem dX10_nears_84 : decode cX10_nears 84 = .ok (.iastore, 1) := by decide +kernel
theorem dX10_nears_85 : decode cX10_nears 85 = .ok (.aload_n 0, 1) := by decide +kernel
theorem dX10_nears_86 : decode cX10_nears 86 = .ok (.getfield 90, 3) := by decide +kernel
theorem dX10_nears_89 : decode cX10_nears 89 = .ok (.aload_n 0, 1) := by decide +kernel
theorem dX10_nears_90 : decode cX10_nears 90 = .ok (.getfield 60, 3) := by decide +kernel
theorem dX10_nears_93 : decode cX10_nears 93 = .ok (.iload_n 2, 1) := by decide +kernel
theorem dX10_nears_94 : decode cX10_nears 94 = .ok (.iconst 1, 1) := by decide +kernel
theorem dX10_nears_95 : decode cX10_nears 95 = .ok (.iadd, 1) := by decide +kernel
theorem dX10_nears_96 : decode cX10_nears 96 = .ok (.iaload, 1) := by decide +kernel
theorem dX10_nears_97 : decode cX10_nears 97 = .ok (.dup2, 1) := by decide +kernel
theorem dX10_nears_98 : decode cX10_nears 98 = .ok (.iaload, 1) := by decide +kernel
theorem dX10_nears_99 : decode cX10_nears 99 = .ok (.iconst 1, 1) := by decide +kernel
theorem dX10_nears_100 : decode cX10_nears 100 = .ok (.aload_n 0, 1) := by decide +kernel
theorem dX10_nears_101 : decode cX10_nears 101 = .ok (.getfield 60, 3) := by decide +kernel
theorem dX10_nears_104 : decode cX10_nears 104 = .ok (.iload_n 2, 1) := by decide +kernel
theorem dX10_nears_105 : decode cX10_nears 105 = .ok (.iaload, 1) := by decide +kernel
theorem dX10_nears_106 : decode cX10_nears 106 = .ok (.ishl, 1) := by decide +kernel
theorem dX10_nears_107 : decode cX10_nears 107 = .ok (.ior, 1) := by decide +kernel
theorem dX10_nears_108 : decode cX10_nears 108 = .ok (.iastore, 1) := by decide +kernel
theorem dX10_nears_109 : decode cX10_nears 109 = .ok (.iinc 2 1, 3) := by decide +kernel
theorem dX10_nears_112 : decode cX10_nears 112 = .ok (.goto (-76), 3) := by decide +kernel
theorem dX10_nears_115 : decode cX10_nears 115 = .ok (.iinc 1 1, 3) := by decide +kernel
theorem dX10_nears_118 : decode cX10_nears 118 = .ok (.goto (-95), 3) := by decide +kernel
theorem dX10_nears_121 : decode cX10_nears 121 = .ok (.aload_n 0, 1) := by decide +kernel
theorem dX10_nears_122 : decode cX10_nears 122 = .ok (.iconst 0, 1) := by decide +kernel
theorem dX10_nears_123 : decode cX10_nears 123 = .ok (.putfield 223, 3) := by decide +kernel
theorem dX10_nears_126 : decode cX10_nears 126 = .ok (.bipush 10, 2) := by decide +kernel
theorem dX10_nears_128 : decode cX10_nears 128 = .ok (.istore_n 1, 1) := by decide +kernel
theorem dX10_nears_129 : decode cX10_nears 129 = .ok (.iload_n 1, 1) := by decide +kernel
theorem dX10_nears_130 : decode cX10_nears 130 = .ok (.ifCond .le 68, 3) := by decide +kernel
theorem dX10_nears_133 : decode cX10_nears 133 = .ok (.iconst 0, 1) := by decide +kernel
theorem dX10_nears_134 : decode cX10_nears 134 = .ok (.istore_n 2, 1) := by decide +kernel
theorem dX10_nears_135 : decode cX10_nears 135 = .ok (.iload_n 2, 1) := by decide +kernel
theorem dX10_nears_136 : decode cX10_nears 136 = .ok (.bipush 10, 2) := by decide +kernel
theorem dX10_nears_138 : decode cX10_nears 138 = .ok (.if_icmp .ge 54, 3) := by decide +kernel
theorem dX10_nears_141 : decode cX10_nears 141 = .ok (.aload_n 0, 1) := by decide +kernel
theorem dX10_nears_142 : decode cX10_nears 142 = .ok (.dup, 1) := by decide +kernel
theorem dX10_nears_143 : decode cX10_nears 143 = .ok (.getfield 223, 3) := by decide +kernel
theorem dX10_nears_146 : decode cX10_nears 146 = .ok (.aload_n 0, 1) := by decide +kernel
theorem dX10_nears_147 : decode cX10_nears 147 = .ok (.getfield 90, 3) := by decide +kernel
theorem dX10_nears_150 : decode cX10_nears 150 = .ok (.iload_n 2, 1) := by decide +kernel
theorem dX10_nears_151 : decode cX10_nears 151 = .ok (.iaload, 1) := by decide +kernel
theorem dX10_nears_152 : decode cX10_nears 152 = .ok (.invokestatic 226, 3) := by decide +kernel
theorem dX10_nears_155 : decode cX10_nears 155 = .ok (.iload_n 1, 1) := by decide +kernel
theorem dX10_nears_156 : decode cX10_nears 156 = .ok (.if_icmp .ne 25, 3) := by decide +kernel
theorem dX10_nears_159 : decode cX10_nears 159 = .ok (.aload_n 0, 1) := by decide +kernel
theorem dX10_nears_160 : decode cX10_nears 160 = .ok (.getfield 223, 3) := by decide +kernel
theorem dX10_nears_163 : decode cX10_nears 163 = .ok (.aload_n 0, 1) := by decide +kernel
theorem dX10_nears_164 : decode cX10_nears 164 = .ok (.getfield 90, 3) := by decide +kernel
theorem dX10_nears_167 : decode cX10_nears 167 = .ok (.iload_n 2, 1) := by decide +kernel
theorem dX10_nears_168 : decode cX10_nears 168 = .ok (.iaload, 1) := by decide +kernel
theorem dX10_nears_169 : decode cX10_nears 169 = .ok (.iconst (-1), 1) := by decide +kernel
theorem dX10_nears_170 : decode cX10_nears 170 = .ok (.ixor, 1) := by decide +kernel
theorem dX10_nears_171 : decode cX10_nears 171 = .ok (.iand, 1) := by decide +kernel
theorem dX10_nears_172 : decode cX10_nears 172 = .ok (.ifCond .ne 9, 3) := by decide +kernel
theorem dX10_nears_175 : decode cX10_nears 175 = .ok (.iconst 1, 1) := by decide +kernel
theorem dX10_nears_176 : decode cX10_nears 176 = .ok (.iload_n 2, 1) := by decide +kernel
theorem dX10_nears_177 : decode cX10_nears 177 = .ok (.ishl, 1) := by decide +kernel
theorem dX10_nears_178 : decode cX10_nears 178 = .ok (.goto 4, 3) := by decide +kernel
theorem dX10_nears_181 : decode cX10_nears 181 = .ok (.iconst 0, 1) := by decide +kernel
theorem dX10_nears_182 : decode cX10_nears 182 = .ok (.ior, 1) := by decide +kernel
theorem dX10_nears_183 : decode cX10_nears 183 = .ok (.putfield 223, 3) := by decide +kernel
theorem dX10_nears_186 : decode cX10_nears 186 = .ok (.iinc 2 1, 3) := by decide +kernel
theorem dX10_nears_189 : decode cX10_nears 189 = .ok (.goto (-54), 3) := by decide +kernel
theorem dX10_nears_192 : decode cX10_nears 192 = .ok (.iinc 1 (-1), 3) := by decide +kernel
theorem dX10_nears_195 : decode cX10_nears 195 = .ok (.goto (-66), 3) := by decide +kernel
theorem dX10_nears_198 : decode cX10_nears 198 = .ok (.return_, 1) := by decide +kernel
theorem dX10_topOf_0 : decode cX10_topOf 0 = .ok (.iconst 0, 1) := by decide +kernel
theorem dX10_topOf_1 : decode cX10_topOf 1 = .ok (.istore_n 2, 1) := by decide +kernel
theorem dX10_topOf_2 : decode cX10_topOf 2 = .ok (.iconst 0, 1) := by decide +kernel
theorem dX10_topOf_3 : decode cX10_topOf 3 = .ok (.istore_n 3, 1) := by decide +kernel
theorem dX10_topOf_4 : decode cX10_topOf 4 = .ok (.iload_n 3, 1) := by decide +kernel
theorem dX10_topOf_5 : decode cX10_topOf 5 = .ok (.aload_n 0, 1) := by decide +kernel
theorem dX10_topOf_6 : decode cX10_topOf 6 = .ok (.getfield 63, 3) := by decide +kernel
theorem dX10_topOf_9 : decode cX10_topOf 9 = .ok (.iload_n 1, 1) := by decide +kernel
theorem dX10_topOf_10 : decode cX10_topOf 10 = .ok (.iaload, 1) := by decide +kernel
theorem dX10_topOf_11 : decode cX10_topOf 11 = .ok (.if_icmp .ge 74, 3) := by decide +kernel
theorem dX10_topOf_14 : decode cX10_topOf 14 = .ok (.aload_n 0, 1) := by decide +kernel
theorem dX10_topOf_15 : decode cX10_topOf 15 = .ok (.getfield 223, 3) := by decide +kernel
theorem dX10_topOf_18 : decode cX10_topOf 18 = .ok (.aload_n 0, 1) := by decide +kernel
theorem dX10_topOf_19 : decode cX10_topOf 19 = .ok (.getfield 60, 3) := by decide +kernel
theorem dX10_topOf_22 : decode cX10_topOf 22 = .ok (.bipush 6, 2) := by decide +kernel
theorem dX10_topOf_24 : decode cX10_topOf 24 = .ok (.iload_n 1, 1) := by decide +kernel
theorem dX10_topOf_25 : decode cX10_topOf 25 = .ok (.imul, 1) := by decide +kernel
theorem dX10_topOf_26 : decode cX10_topOf 26 = .ok (.iload_n 3, 1) := by decide +kernel
theorem dX10_topOf_27 : decode cX10_topOf 27 = .ok (.iadd, 1) := by decide +kernel
theorem dX10_topOf_28 : decode cX10_topOf 28 = .ok (.iaload, 1) := by decide +kernel
theorem dX10_topOf_29 : decode cX10_topOf 29 = .ok (.ishr, 1) := by decide +kernel
theorem dX10_topOf_30 : decode cX10_topOf 30 = .ok (.iconst 1, 1) := by decide +kernel
theorem dX10_topOf_31 : decode cX10_topOf 31 = .ok (.iand, 1) := by decide +kernel
theorem dX10_topOf_32 : decode cX10_topOf 32 = .ok (.iconst 1, 1) := by decide +kernel
theorem dX10_topOf_33 : decode cX10_topOf 33 = .ok (.if_icmp .ne 5, 3) := by decide +kernel
theorem dX10_topOf_36 : decode cX10_topOf 36 = .ok (.iload_n 3, 1) := by decide +kernel
theorem dX10_topOf_37 : decode cX10_topOf 37 = .ok (.ireturn, 1) := by decide +kernel
theorem dX10_topOf_38 : decode cX10_topOf 38 = .ok (.aload_n 0, 1) := by decide +kernel
theorem dX10_topOf_39 : decode cX10_topOf 39 = .ok (.getfield 99, 3) := by decide +kernel
theorem dX10_topOf_42 : decode cX10_topOf 42 = .ok (.aload_n 0, 1) := by decide +kernel
theorem dX10_topOf_43 : decode cX10_topOf 43 = .ok (.getfield 60, 3) := by decide +kernel
theorem dX10_topOf_46 : decode cX10_topOf 46 = .ok (.bipush 6, 2) := by decide +kernel
theorem dX10_topOf_48 : decode cX10_topOf 48 = .ok (.iload_n 1, 1) := by decide +kernel
theorem dX10_topOf_49 : decode cX10_topOf 49 = .ok (.imul, 1) := by decide +kernel
theorem dX10_topOf_50 : decode cX10_topOf 50 = .ok (.iload_n 3, 1) := by decide +kernel
theorem dX10_topOf_51 : decode cX10_topOf 51 = .ok (.iadd, 1) := by decide +kernel
theorem dX10_topOf_52 : decode cX10_topOf 52 = .ok (.iaload, 1) := by decide +kernel
theorem dX10_topOf_53 : decode cX10_topOf 53 = .ok (.iaload, 1) := by decide +kernel
theorem dX10_topOf_54 : decode cX10_topOf 54 = .ok (.aload_n 0, 1) := by decide +kernel
theorem dX10_topOf_55 : decode cX10_topOf 55 = .ok (.getfield 99, 3) := by decide +kernel
theorem dX10_topOf_58 : decode cX10_topOf 58 = .ok (.aload_n 0, 1) := by decide +kernel
theorem dX10_topOf_59 : decode cX10_topOf 59 = .ok (.getfield 60, 3) := by decide +kernel
theorem dX10_topOf_62 : decode cX10_topOf 62 = .ok (.bipush 6, 2) := by decide +kernel
theorem dX10_topOf_64 : decode cX10_topOf 64 = .ok (.iload_n 1, 1) := by decide +kernel
theorem dX10_topOf_65 : decode cX10_topOf 65 = .ok (.imul, 1) := by decide +kernel
theorem dX10_topOf_66 : decode cX10_topOf 66 = .ok (.iload_n 2, 1) := by decide +kernel
theorem dX10_topOf_67 : decode cX10_topOf 67 = .ok (.iadd, 1) := by decide +kernel
theorem dX10_topOf_68 : decode cX10_topOf 68 = .ok (.iaload, 1) := by decide +kernel
theorem dX10_topOf_69 : decode cX10_topOf 69 = .ok (.iaload, 1) := by decide +kernel
theorem dX10_topOf_70 : decode cX10_topOf 70 = .ok (.if_icmp .le 7, 3) := by decide +kernel
theorem dX10_topOf_73 : decode cX10_topOf 73 = .ok (.iload_n 3, 1) := by decide +kernel
theorem dX10_topOf_74 : decode cX10_topOf 74 = .ok (.goto 4, 3) := by decide +kernel
theorem dX10_topOf_77 : decode cX10_topOf 77 = .ok (.iload_n 2, 1) := by decide +kernel
theorem dX10_topOf_78 : decode cX10_topOf 78 = .ok (.istore_n 2, 1) := by decide +kernel
theorem dX10_topOf_79 : decode cX10_topOf 79 = .ok (.iinc 3 1, 3) := by decide +kernel
theorem dX10_topOf_82 : decode cX10_topOf 82 = .ok (.goto (-78), 3) := by decide +kernel
theorem dX10_topOf_85 : decode cX10_topOf 85 = .ok (.iload_n 2, 1) := by decide +kernel
theorem dX10_topOf_86 : decode cX10_topOf 86 = .ok (.ireturn, 1) := by decide +kernel
theorem dX10_votes_0 : decode cX10_votes 0 = .ok (.iconst 0, 1) := by decide +kernel
theorem dX10_votes_1 : decode cX10_votes 1 = .ok (.istore_n 1, 1) := by decide +kernel
theorem dX10_votes_2 : decode cX10_votes 2 = .ok (.iload_n 1, 1) := by decide +kernel
theorem dX10_votes_3 : decode cX10_votes 3 = .ok (.bipush 100, 2) := by decide +kernel
theorem dX10_votes_5 : decode cX10_votes 5 = .ok (.if_icmp .ge 16, 3) := by decide +kernel
theorem dX10_votes_8 : decode cX10_votes 8 = .ok (.aload_n 0, 1) := by decide +kernel
theorem dX10_votes_9 : decode cX10_votes 9 = .ok (.getfield 96, 3) := by decide +kernel
theorem dX10_votes_12 : decode cX10_votes 12 = .ok (.iload_n 1, 1) := by decide +kernel
theorem dX10_votes_13 : decode cX10_votes 13 = .ok (.iconst 0, 1) := by decide +kernel
theorem dX10_votes_14 : decode cX10_votes 14 = .ok (.iastore, 1) := by decide +kernel
theorem dX10_votes_15 : decode cX10_votes 15 = .ok (.iinc 1 1, 3) := by decide +kernel
theorem dX10_votes_18 : decode cX10_votes 18 = .ok (.goto (-16), 3) := by decide +kernel
theorem dX10_votes_21 : decode cX10_votes 21 = .ok (.iconst 0, 1) := by decide +kernel
theorem dX10_votes_22 : decode cX10_votes 22 = .ok (.istore_n 1, 1) := by decide +kernel
theorem dX10_votes_23 : decode cX10_votes 23 = .ok (.iload_n 1, 1) := by decide +kernel
theorem dX10_votes_24 : decode cX10_votes 24 = .ok (.aload_n 0, 1) := by decide +kernel
theorem dX10_votes_25 : decode cX10_votes 25 = .ok (.getfield 154, 3) := by decide +kernel
theorem dX10_votes_28 : decode cX10_votes 28 = .ok (.if_icmp .ge 113, 3) := by decide +kernel
theorem dX10_votes_31 : decode cX10_votes 31 = .ok (.aload_n 0, 1) := by decide +kernel
theorem dX10_votes_32 : decode cX10_votes 32 = .ok (.iload_n 1, 1) := by decide +kernel
theorem dX10_votes_33 : decode cX10_votes 33 = .ok (.invokevirtual 220, 3) := by decide +kernel
theorem dX10_votes_36 : decode cX10_votes 36 = .ok (.ifCond .eq 11, 3) := by decide +kernel
theorem dX10_votes_39 : decode cX10_votes 39 = .ok (.aload_n 0, 1) := by decide +kernel
theorem dX10_votes_40 : decode cX10_votes 40 = .ok (.iload_n 1, 1) := by decide +kernel
theorem dX10_votes_41 : decode cX10_votes 41 = .ok (.invokevirtual 229, 3) := by decide +kernel
theorem dX10_votes_44 : decode cX10_votes 44 = .ok (.goto 4, 3) := by decide +kernel
theorem dX10_votes_47 : decode cX10_votes 47 = .ok (.iconst (-1), 1) := by decide +kernel
theorem dX10_votes_48 : decode cX10_votes 48 = .ok (.istore_n 2, 1) := by decide +kernel
theorem dX10_votes_49 : decode cX10_votes 49 = .ok (.iconst 0, 1) := by decide +kernel
theorem dX10_votes_50 : decode cX10_votes 50 = .ok (.istore_n 3, 1) := by decide +kernel
theorem dX10_votes_51 : decode cX10_votes 51 = .ok (.iload_n 2, 1) := by decide +kernel
theorem dX10_votes_52 : decode cX10_votes 52 = .ok (.iconst (-1), 1) := by decide +kernel
theorem dX10_votes_53 : decode cX10_votes 53 = .ok (.if_icmp .eq 82, 3) := by decide +kernel
theorem dX10_votes_56 : decode cX10_votes 56 = .ok (.iload_n 3, 1) := by decide +kernel
theorem dX10_votes_57 : decode cX10_votes 57 = .ok (.iconst 1, 1) := by decide +kernel
theorem dX10_votes_58 : decode cX10_votes 58 = .ok (.iadd, 1) := by decide +kernel
theorem dX10_votes_59 : decode cX10_votes 59 = .ok (.aload_n 0, 1) := by decide +kernel
theorem dX10_votes_60 : decode cX10_votes 60 = .ok (.getfield 63, 3) := by decide +kernel
theorem dX10_votes_63 : decode cX10_votes 63 = .ok (.iload_n 1, 1) := by decide +kernel
theorem dX10_votes_64 : decode cX10_votes 64 = .ok (.iaload, 1) := by decide +kernel
theorem dX10_votes_65 : decode cX10_votes 65 = .ok (.if_icmp .ge 70, 3) := by decide +kernel
theorem dX10_votes_68 : decode cX10_votes 68 = .ok (.aload_n 0, 1) := by decide +kernel
theorem dX10_votes_69 : decode cX10_votes 69 = .ok (.getfield 60, 3) := by decide +kernel
theorem dX10_votes_72 : decode cX10_votes 72 = .ok (.bipush 6, 2) := by decide +kernel
theorem dX10_votes_74 : decode cX10_votes 74 = .ok (.iload_n 1, 1) := by decide +kernel
theorem dX10_votes_75 : decode cX10_votes 75 = .ok (.imul, 1) := by decide +kernel
theorem dX10_votes_76 : decode cX10_votes 76 = .ok (.iload_n 3, 1) := by decide +kernel
theorem dX10_votes_77 : decode cX10_votes 77 = .ok (.iadd, 1) := by decide +kernel
theorem dX10_votes_78 : decode cX10_votes 78 = .ok (.iaload, 1) := by decide +kernel
theorem dX10_votes_79 : decode cX10_votes 79 = .ok (.istore 4, 2) := by decide +kernel
theorem dX10_votes_81 : decode cX10_votes 81 = .ok (.aload_n 0, 1) := by decide +kernel
theorem dX10_votes_82 : decode cX10_votes 82 = .ok (.getfield 60, 3) := by decide +kernel
theorem dX10_votes_85 : decode cX10_votes 85 = .ok (.bipush 6, 2) := by decide +kernel
theorem dX10_votes_87 : decode cX10_votes 87 = .ok (.iload_n 1, 1) := by decide +kernel
theorem dX10_votes_88 : decode cX10_votes 88 = .ok (.imul, 1) := by decide +kernel
theorem dX10_votes_89 : decode cX10_votes 89 = .ok (.iload_n 3, 1) := by decide +kernel
theorem dX10_votes_90 : decode cX10_votes 90 = .ok (.iadd, 1) := by decide +kernel
theorem dX10_votes_91 : decode cX10_votes 91 = .ok (.iconst 1, 1) := by decide +kernel
theorem dX10_votes_92 : decode cX10_votes 92 = .ok (.iadd, 1) := by decide +kernel
theorem dX10_votes_93 : decode cX10_votes 93 = .ok (.iaload, 1) := by decide +kernel
theorem dX10_votes_94 : decode cX10_votes 94 = .ok (.istore 5, 2) := by decide +kernel
theorem dX10_votes_96 : decode cX10_votes 96 = .ok (.aload_n 0, 1) := by decide +kernel
theorem dX10_votes_97 : decode cX10_votes 97 = .ok (.getfield 96, 3) := by decide +kernel
theorem dX10_votes_100 : decode cX10_votes 100 = .ok (.iload_n 3, 1) := by decide +kernel
theorem dX10_votes_101 : decode cX10_votes 101 = .ok (.iload_n 2, 1) := by decide +kernel
theorem dX10_votes_102 : decode cX10_votes 102 = .ok (.if_icmp .ge 14, 3) := by decide +kernel
theorem dX10_votes_105 : decode cX10_votes 105 = .ok (.bipush 10, 2) := by decide +kernel
theorem dX10_votes_107 : decode cX10_votes 107 = .ok (.iload 4, 2) := by decide +kernel
theorem dX10_votes_109 : decode cX10_votes 109 = .ok (.imul, 1) := by decide +kernel
theorem dX10_votes_110 : decode cX10_votes 110 = .ok (.iload 5, 2) := by decide +kernel
theorem dX10_votes_112 : decode cX10_votes 112 = .ok (.iadd, 1) := by decide +kernel
theorem dX10_votes_113 : decode cX10_votes 113 = .ok (.goto 11, 3) := by decide +kernel
theorem dX10_votes_116 : decode cX10_votes 116 = .ok (.bipush 10, 2) := by decide +kernel
theorem dX10_votes_118 : decode cX10_votes 118 = .ok (.iload 5, 2) := by decide +kernel
theorem dX10_votes_120 : decode cX10_votes 120 = .ok (.imul, 1) := by decide +kernel
theorem dX10_votes_121 : decode cX10_votes 121 = .ok (.iload 4, 2) := by decide +kernel
theorem dX10_votes_123 : decode cX10_votes 123 = .ok (.iadd, 1) := by decide +kernel
theorem dX10_votes_124 : decode cX10_votes 124 = .ok (.dup2, 1) := by decide +kernel
theorem dX10_votes_125 : decode cX10_votes 125 = .ok (.iaload, 1) := by decide +kernel
theorem dX10_votes_126 : decode cX10_votes 126 = .ok (.iconst 1, 1) := by decide +kernel
theorem dX10_votes_127 : decode cX10_votes 127 = .ok (.iadd, 1) := by decide +kernel
theorem dX10_votes_128 : decode cX10_votes 128 = .ok (.iastore, 1) := by decide +kernel
theorem dX10_votes_129 : decode cX10_votes 129 = .ok (.iinc 3 1, 3) := by decide +kernel
theorem dX10_votes_132 : decode cX10_votes 132 = .ok (.goto (-81), 3) := by decide +kernel
theorem dX10_votes_135 : decode cX10_votes 135 = .ok (.iinc 1 1, 3) := by decide +kernel
theorem dX10_votes_138 : decode cX10_votes 138 = .ok (.goto (-115), 3) := by decide +kernel
theorem dX10_votes_141 : decode cX10_votes 141 = .ok (.return_, 1) := by decide +kernel
theorem dX10_isInClique_0 : decode cX10_isInClique 0 = .ok (.aload_n 0, 1) := by decide +kernel
theorem dX10_isInClique_1 : decode cX10_isInClique 1 = .ok (.getfield 223, 3) := by decide +kernel
theorem dX10_isInClique_4 : decode cX10_isInClique 4 = .ok (.iload_n 1, 1) := by decide +kernel
theorem dX10_isInClique_5 : decode cX10_isInClique 5 = .ok (.ishr, 1) := by decide +kernel
theorem dX10_isInClique_6 : decode cX10_isInClique 6 = .ok (.iconst 1, 1) := by decide +kernel
theorem dX10_isInClique_7 : decode cX10_isInClique 7 = .ok (.iand, 1) := by decide +kernel
theorem dX10_isInClique_8 : decode cX10_isInClique 8 = .ok (.iconst 1, 1) := by decide +kernel
theorem dX10_isInClique_9 : decode cX10_isInClique 9 = .ok (.if_icmp .ne 7, 3) := by decide +kernel
theorem dX10_isInClique_12 : decode cX10_isInClique 12 = .ok (.iconst 1, 1) := by decide +kernel
theorem dX10_isInClique_13 : decode cX10_isInClique 13 = .ok (.goto 4, 3) := by decide +kernel
theorem dX10_isInClique_16 : decode cX10_isInClique 16 = .ok (.iconst 0, 1) := by decide +kernel
theorem dX10_isInClique_17 : decode cX10_isInClique 17 = .ok (.ireturn, 1) := by decide +kernel
theorem dX10_relates_0 : decode cX10_relates 0 = .ok (.iconst 0, 1) := by decide +kernel
theorem dX10_relates_1 : decode cX10_relates 1 = .ok (.istore_n 1, 1) := by decide +kernel
theorem dX10_relates_2 : decode cX10_relates 2 = .ok (.iload_n 1, 1) := by decide +kernel
theorem dX10_relates_3 : decode cX10_relates 3 = .ok (.bipush 10, 2) := by decide +kernel
theorem dX10_relates_5 : decode cX10_relates 5 = .ok (.if_icmp .ge 129, 3) := by decide +kernel
theorem dX10_relates_8 : decode cX10_relates 8 = .ok (.iconst 0, 1) := by decide +kernel
theorem dX10_relates_9 : decode cX10_relates 9 = .ok (.istore_n 2, 1) := by decide +kernel
theorem dX10_relates_10 : decode cX10_relates 10 = .ok (.iload_n 2, 1) := by decide +kernel
theorem dX10_relates_11 : decode cX10_relates 11 = .ok (.bipush 10, 2) := by decide +kernel
theorem dX10_relates_13 : decode cX10_relates 13 = .ok (.if_icmp .ge 115, 3) := by decide +kernel
theorem dX10_relates_16 : decode cX10_relates 16 = .ok (.aload_n 0, 1) := by decide +kernel
theorem dX10_relates_17 : decode cX10_relates 17 = .ok (.getfield 96, 3) := by decide +kernel
theorem dX10_relates_20 : decode cX10_relates 20 = .ok (.bipush 10, 2) := by decide +kernel
theorem dX10_relates_22 : decode cX10_relates 22 = .ok (.iload_n 1, 1) := by decide +kernel
theorem dX10_relates_23 : decode cX10_relates 23 = .ok (.imul, 1) := by decide +kernel
theorem dX10_relates_24 : decode cX10_relates 24 = .ok (.iload_n 2, 1) := by decide +kernel
theorem dX10_relates_25 : decode cX10_relates 25 = .ok (.iadd, 1) := by decide +kernel
theorem dX10_relates_26 : decode cX10_relates 26 = .ok (.iaload, 1) := by decide +kernel
theorem dX10_relates_27 : decode cX10_relates 27 = .ok (.istore_n 3, 1) := by decide +kernel
theorem dX10_relates_28 : decode cX10_relates 28 = .ok (.aload_n 0, 1) := by decide +kernel
theorem dX10_relates_29 : decode cX10_relates 29 = .ok (.getfield 96, 3) := by decide +kernel
theorem dX10_relates_32 : decode cX10_relates 32 = .ok (.bipush 10, 2) := by decide +kernel
theorem dX10_relates_34 : decode cX10_relates 34 = .ok (.iload_n 2, 1) := by decide +kernel
theorem dX10_relates_35 : decode cX10_relates 35 = .ok (.imul, 1) := by decide +kernel
theorem dX10_relates_36 : decode cX10_relates 36 = .ok (.iload_n 1, 1) := by decide +kernel
theorem dX10_relates_37 : decode cX10_relates 37 = .ok (.iadd, 1) := by decide +kernel
theorem dX10_relates_38 : decode cX10_relates 38 = .ok (.iaload, 1) := by decide +kernel
theorem dX10_relates_39 : decode cX10_relates 39 = .ok (.istore 4, 2) := by decide +kernel
theorem dX10_relates_41 : decode cX10_relates 41 = .ok (.iload_n 3, 1) := by decide +kernel
theorem dX10_relates_42 : decode cX10_relates 42 = .ok (.iconst 2, 1) := by decide +kernel
theorem dX10_relates_43 : decode cX10_relates 43 = .ok (.iload 4, 2) := by decide +kernel
theorem dX10_relates_45 : decode cX10_relates 45 = .ok (.imul, 1) := by decide +kernel
theorem dX10_relates_46 : decode cX10_relates 46 = .ok (.if_icmp .le 7, 3) := by decide +kernel
theorem dX10_relates_49 : decode cX10_relates 49 = .ok (.iconst 1, 1) := by decide +kernel
theorem dX10_relates_50 : decode cX10_relates 50 = .ok (.goto 16, 3) := by decide +kernel
theorem dX10_relates_53 : decode cX10_relates 53 = .ok (.iload 4, 2) := by decide +kernel
theorem dX10_relates_55 : decode cX10_relates 55 = .ok (.iconst 2, 1) := by decide +kernel
theorem dX10_relates_56 : decode cX10_relates 56 = .ok (.iload_n 3, 1) := by decide +kernel
theorem dX10_relates_57 : decode cX10_relates 57 = .ok (.imul, 1) := by decide +kernel
theorem dX10_relates_58 : decode cX10_relates 58 = .ok (.if_icmp .le 7, 3) := by decide +kernel
theorem dX10_relates_61 : decode cX10_relates 61 = .ok (.iconst 2, 1) := by decide +kernel
theorem dX10_relates_62 : decode cX10_relates 62 = .ok (.goto 4, 3) := by decide +kernel
theorem dX10_relates_65 : decode cX10_relates 65 = .ok (.iconst 3, 1) := by decide +kernel
theorem dX10_relates_66 : decode cX10_relates 66 = .ok (.istore 5, 2) := by decide +kernel
theorem dX10_relates_68 : decode cX10_relates 68 = .ok (.aload_n 0, 1) := by decide +kernel
theorem dX10_relates_69 : decode cX10_relates 69 = .ok (.iload_n 1, 1) := by decide +kernel
theorem dX10_relates_70 : decode cX10_relates 70 = .ok (.invokevirtual 232, 3) := by decide +kernel
theorem dX10_relates_73 : decode cX10_relates 73 = .ok (.ifCond .eq 15, 3) := by decide +kernel
theorem dX10_relates_76 : decode cX10_relates 76 = .ok (.aload_n 0, 1) := by decide +kernel
theorem dX10_relates_77 : decode cX10_relates 77 = .ok (.iload_n 2, 1) := by decide +kernel
theorem dX10_relates_78 : decode cX10_relates 78 = .ok (.invokevirtual 232, 3) := by decide +kernel
theorem dX10_relates_81 : decode cX10_relates 81 = .ok (.ifCond .eq 7, 3) := by decide +kernel
theorem dX10_relates_84 : decode cX10_relates 84 = .ok (.iconst 3, 1) := by decide +kernel
theorem dX10_relates_85 : decode cX10_relates 85 = .ok (.goto 5, 3) := by decide +kernel
theorem dX10_relates_88 : decode cX10_relates 88 = .ok (.iload 5, 2) := by decide +kernel
theorem dX10_relates_90 : decode cX10_relates 90 = .ok (.istore 5, 2) := by decide +kernel
theorem dX10_relates_92 : decode cX10_relates 92 = .ok (.aload_n 0, 1) := by decide +kernel
theorem dX10_relates_93 : decode cX10_relates 93 = .ok (.getfield 93, 3) := by decide +kernel
theorem dX10_relates_96 : decode cX10_relates 96 = .ok (.bipush 10, 2) := by decide +kernel
theorem dX10_relates_98 : decode cX10_relates 98 = .ok (.iload_n 1, 1) := by decide +kernel
theorem dX10_relates_99 : decode cX10_relates 99 = .ok (.imul, 1) := by decide +kernel
theorem dX10_relates_100 : decode cX10_relates 100 = .ok (.iload_n 2, 1) := by decide +kernel
theorem dX10_relates_101 : decode cX10_relates 101 = .ok (.iadd, 1) := by decide +kernel
theorem dX10_relates_102 : decode cX10_relates 102 = .ok (.aload_n 0, 1) := by decide +kernel
theorem dX10_relates_103 : decode cX10_relates 103 = .ok (.getfield 90, 3) := by decide +kernel
theorem dX10_relates_106 : decode cX10_relates 106 = .ok (.iload_n 1, 1) := by decide +kernel
theorem dX10_relates_107 : decode cX10_relates 107 = .ok (.iaload, 1) := by decide +kernel
theorem dX10_relates_108 : decode cX10_relates 108 = .ok (.iload_n 2, 1) := by decide +kernel
theorem dX10_relates_109 : decode cX10_relates 109 = .ok (.ishr, 1) := by decide +kernel
theorem dX10_relates_110 : decode cX10_relates 110 = .ok (.iconst 1, 1) := by decide +kernel
theorem dX10_relates_111 : decode cX10_relates 111 = .ok (.iand, 1) := by decide +kernel
theorem dX10_relates_112 : decode cX10_relates 112 = .ok (.ifCond .ne 7, 3) := by decide +kernel
theorem dX10_relates_115 : decode cX10_relates 115 = .ok (.iconst 0, 1) := by decide +kernel
theorem dX10_relates_116 : decode cX10_relates 116 = .ok (.goto 5, 3) := by decide +kernel
theorem dX10_relates_119 : decode cX10_relates 119 = .ok (.iload 5, 2) := by decide +kernel
theorem dX10_relates_121 : decode cX10_relates 121 = .ok (.iastore, 1) := by decide +kernel
theorem dX10_relates_122 : decode cX10_relates 122 = .ok (.iinc 2 1, 3) := by decide +kernel
theorem dX10_relates_125 : decode cX10_relates 125 = .ok (.goto (-115), 3) := by decide +kernel
theorem dX10_relates_128 : decode cX10_relates 128 = .ok (.iinc 1 1, 3) := by decide +kernel
theorem dX10_relates_131 : decode cX10_relates 131 = .ok (.goto (-129), 3) := by decide +kernel
theorem dX10_relates_134 : decode cX10_relates 134 = .ok (.return_, 1) := by decide +kernel
theorem dX10_infers_0 : decode cX10_infers 0 = .ok (.aload_n 0, 1) := by decide +kernel
theorem dX10_infers_1 : decode cX10_infers 1 = .ok (.invokevirtual 235, 3) := by decide +kernel
theorem dX10_infers_4 : decode cX10_infers 4 = .ok (.iconst 0, 1) := by decide +kernel
theorem dX10_infers_5 : decode cX10_infers 5 = .ok (.istore_n 2, 1) := by decide +kernel
theorem dX10_infers_6 : decode cX10_infers 6 = .ok (.iload_n 2, 1) := by decide +kernel
theorem dX10_infers_7 : decode cX10_infers 7 = .ok (.iload_n 1, 1) := by decide +kernel
theorem dX10_infers_8 : decode cX10_infers 8 = .ok (.if_icmp .gt 100, 3) := by decide +kernel
theorem dX10_infers_11 : decode cX10_infers 11 = .ok (.iconst 0, 1) := by decide +kernel
theorem dX10_infers_12 : decode cX10_infers 12 = .ok (.istore_n 3, 1) := by decide +kernel
theorem dX10_infers_13 : decode cX10_infers 13 = .ok (.iload_n 3, 1) := by decide +kernel
theorem dX10_infers_14 : decode cX10_infers 14 = .ok (.bipush 10, 2) := by decide +kernel
theorem dX10_infers_16 : decode cX10_infers 16 = .ok (.if_icmp .ge 78, 3) := by decide +kernel
theorem dX10_infers_19 : decode cX10_infers 19 = .ok (.iconst 0, 1) := by decide +kernel
theorem dX10_infers_20 : decode cX10_infers 20 = .ok (.istore 4, 2) := by decide +kernel
theorem dX10_infers_22 : decode cX10_infers 22 = .ok (.iconst 0, 1) := by decide +kernel
theorem dX10_infers_23 : decode cX10_infers 23 = .ok (.istore 5, 2) := by decide +kernel
theorem dX10_infers_25 : decode cX10_infers 25 = .ok (.iload 5, 2) := by decide +kernel
theorem dX10_infers_27 : decode cX10_infers 27 = .ok (.bipush 10, 2) := by decide +kernel
theorem dX10_infers_29 : decode cX10_infers 29 = .ok (.if_icmp .ge 35, 3) := by decide +kernel
theorem dX10_infers_32 : decode cX10_infers 32 = .ok (.iload 4, 2) := by decide +kernel
theorem dX10_infers_34 : decode cX10_infers 34 = .ok (.aload_n 0, 1) := by decide +kernel
theorem dX10_infers_35 : decode cX10_infers 35 = .ok (.getfield 93, 3) := by decide +kernel
theorem dX10_infers_38 : decode cX10_infers 38 = .ok (.bipush 10, 2) := by decide +kernel
theorem dX10_infers_40 : decode cX10_infers 40 = .ok (.iload 5, 2) := by decide +kernel
theorem dX10_infers_42 : decode cX10_infers 42 = .ok (.imul, 1) := by decide +kernel
theorem dX10_infers_43 : decode cX10_infers 43 = .ok (.iload_n 3, 1) := by decide +kernel
theorem dX10_infers_44 : decode cX10_infers 44 = .ok (.iadd, 1) := by decide +kernel
theorem dX10_infers_45 : decode cX10_infers 45 = .ok (.iaload, 1) := by decide +kernel
theorem dX10_infers_46 : decode cX10_infers 46 = .ok (.iconst 1, 1) := by decide +kernel
theorem dX10_infers_47 : decode cX10_infers 47 = .ok (.if_icmp .ne 7, 3) := by decide +kernel
theorem dX10_infers_50 : decode cX10_infers 50 = .ok (.iconst 1, 1) := by decide +kernel
theorem dX10_infers_51 : decode cX10_infers 51 = .ok (.goto 4, 3) := by decide +kernel
theorem dX10_infers_54 : decode cX10_infers 54 = .ok (.iconst 0, 1) := by decide +kernel
theorem dX10_infers_55 : decode cX10_infers 55 = .ok (.iadd, 1) := by decide +kernel
theorem dX10_infers_56 : decode cX10_infers 56 = .ok (.istore 4, 2) := by decide +kernel
theorem dX10_infers_58 : decode cX10_infers 58 = .ok (.iinc 5 1, 3) := by decide +kernel
theorem dX10_infers_61 : decode cX10_infers 61 = .ok (.goto (-36), 3) := by decide +kernel
theorem dX10_infers_64 : decode cX10_infers 64 = .ok (.aload_n 0, 1) := by decide +kernel
theorem dX10_infers_65 : decode cX10_infers 65 = .ok (.getfield 99, 3) := by decide +kernel
theorem dX10_infers_68 : decode cX10_infers 68 = .ok (.iload_n 3, 1) := by decide +kernel
theorem dX10_infers_69 : decode cX10_infers 69 = .ok (.iload_n 2, 1) := by decide +kernel
theorem dX10_infers_70 : decode cX10_infers 70 = .ok (.ifCond .ne 15, 3) := by decide +kernel
theorem dX10_infers_73 : decode cX10_infers 73 = .ok (.aload_n 0, 1) := by decide +kernel
theorem dX10_infers_74 : decode cX10_infers 74 = .ok (.getfield 90, 3) := by decide +kernel
theorem dX10_infers_77 : decode cX10_infers 77 = .ok (.iload_n 3, 1) := by decide +kernel
theorem dX10_infers_78 : decode cX10_infers 78 = .ok (.iaload, 1) := by decide +kernel
theorem dX10_infers_79 : decode cX10_infers 79 = .ok (.invokestatic 226, 3) := by decide +kernel
theorem dX10_infers_82 : decode cX10_infers 82 = .ok (.goto 5, 3) := by decide +kernel
theorem dX10_infers_85 : decode cX10_infers 85 = .ok (.iload 4, 2) := by decide +kernel
theorem dX10_infers_87 : decode cX10_infers 87 = .ok (.iastore, 1) := by decide +kernel
theorem dX10_infers_88 : decode cX10_infers 88 = .ok (.iinc 3 1, 3) := by decide +kernel
theorem dX10_infers_91 : decode cX10_infers 91 = .ok (.goto (-78), 3) := by decide +kernel
theorem dX10_infers_94 : decode cX10_infers 94 = .ok (.aload_n 0, 1) := by decide +kernel
theorem dX10_infers_95 : decode cX10_infers 95 = .ok (.invokevirtual 238, 3) := by decide +kernel
theorem dX10_infers_98 : decode cX10_infers 98 = .ok (.aload_n 0, 1) := by decide +kernel
theorem dX10_infers_99 : decode cX10_infers 99 = .ok (.invokevirtual 240, 3) := by decide +kernel
theorem dX10_infers_102 : decode cX10_infers 102 = .ok (.iinc 2 1, 3) := by decide +kernel
theorem dX10_infers_105 : decode cX10_infers 105 = .ok (.goto (-99), 3) := by decide +kernel
theorem dX10_infers_108 : decode cX10_infers 108 = .ok (.return_, 1) := by decide +kernel
theorem dX10_clique_0 : decode cX10_clique 0 = .ok (.aload_n 0, 1) := by decide +kernel
theorem dX10_clique_1 : decode cX10_clique 1 = .ok (.iconst 0, 1) := by decide +kernel
theorem dX10_clique_2 : decode cX10_clique 2 = .ok (.putfield 105, 3) := by decide +kernel
theorem dX10_clique_5 : decode cX10_clique 5 = .ok (.aload_n 0, 1) := by decide +kernel
theorem dX10_clique_6 : decode cX10_clique 6 = .ok (.invokevirtual 235, 3) := by decide +kernel
theorem dX10_clique_9 : decode cX10_clique 9 = .ok (.aload_n 0, 1) := by decide +kernel
theorem dX10_clique_10 : decode cX10_clique 10 = .ok (.getfield 223, 3) := by decide +kernel
theorem dX10_clique_13 : decode cX10_clique 13 = .ok (.ireturn, 1) := by decide +kernel
theorem dX10_inferred_0 : decode cX10_inferred 0 = .ok (.aload_n 0, 1) := by decide +kernel
theorem dX10_inferred_1 : decode cX10_inferred 1 = .ok (.iload_n 1, 1) := by decide +kernel
theorem dX10_inferred_2 : decode cX10_inferred 2 = .ok (.invokestatic 125, 3) := by decide +kernel
theorem dX10_inferred_5 : decode cX10_inferred 5 = .ok (.ifCond .eq 23, 3) := by decide +kernel
theorem dX10_inferred_8 : decode cX10_inferred 8 = .ok (.iload_n 2, 1) := by decide +kernel
theorem dX10_inferred_9 : decode cX10_inferred 9 = .ok (.invokestatic 125, 3) := by decide +kernel
theorem dX10_inferred_12 : decode cX10_inferred 12 = .ok (.ifCond .eq 16, 3) := by decide +kernel
theorem dX10_inferred_15 : decode cX10_inferred 15 = .ok (.iload_n 3, 1) := by decide +kernel
theorem dX10_inferred_16 : decode cX10_inferred 16 = .ok (.iconst 0, 1) := by decide +kernel
theorem dX10_inferred_17 : decode cX10_inferred 17 = .ok (.iconst 2, 1) := by decide +kernel
theorem dX10_inferred_18 : decode cX10_inferred 18 = .ok (.invokestatic 108, 3) := by decide +kernel
theorem dX10_inferred_21 : decode cX10_inferred 21 = .ok (.ifCond .eq 7, 3) := by decide +kernel
theorem dX10_inferred_24 : decode cX10_inferred 24 = .ok (.iconst 0, 1) := by decide +kernel
theorem dX10_inferred_25 : decode cX10_inferred 25 = .ok (.goto 4, 3) := by decide +kernel
theorem dX10_inferred_28 : decode cX10_inferred 28 = .ok (.iconst 1, 1) := by decide +kernel
theorem dX10_inferred_29 : decode cX10_inferred 29 = .ok (.invokevirtual 119, 3) := by decide +kernel
theorem dX10_inferred_32 : decode cX10_inferred 32 = .ok (.ifCond .ne 5, 3) := by decide +kernel
theorem dX10_inferred_35 : decode cX10_inferred 35 = .ok (.iconst 0, 1) := by decide +kernel
theorem dX10_inferred_36 : decode cX10_inferred 36 = .ok (.ireturn, 1) := by decide +kernel
theorem dX10_inferred_37 : decode cX10_inferred 37 = .ok (.aload_n 0, 1) := by decide +kernel
theorem dX10_inferred_38 : decode cX10_inferred 38 = .ok (.iload_n 3, 1) := by decide +kernel
theorem dX10_inferred_39 : decode cX10_inferred 39 = .ok (.invokevirtual 243, 3) := by decide +kernel
theorem dX10_inferred_42 : decode cX10_inferred 42 = .ok (.aload_n 0, 1) := by decide +kernel
theorem dX10_inferred_43 : decode cX10_inferred 43 = .ok (.getfield 93, 3) := by decide +kernel
theorem dX10_inferred_46 : decode cX10_inferred 46 = .ok (.bipush 10, 2) := by decide +kernel
theorem dX10_inferred_48 : decode cX10_inferred 48 = .ok (.iload_n 1, 1) := by decide +kernel
theorem dX10_inferred_49 : decode cX10_inferred 49 = .ok (.imul, 1) := by decide +kernel
theorem dX10_inferred_50 : decode cX10_inferred 50 = .ok (.iload_n 2, 1) := by decide +kernel
theorem dX10_inferred_51 : decode cX10_inferred 51 = .ok (.iadd, 1) := by decide +kernel
theorem dX10_inferred_52 : decode cX10_inferred 52 = .ok (.iaload, 1) := by decide +kernel
theorem dX10_inferred_53 : decode cX10_inferred 53 = .ok (.ireturn, 1) := by decide +kernel
theorem dX10_conesOf_0 : decode cX10_conesOf 0 = .ok (.iconst 1, 1) := by decide +kernel
theorem dX10_conesOf_1 : decode cX10_conesOf 1 = .ok (.iload_n 1, 1) := by decide +kernel
theorem dX10_conesOf_2 : decode cX10_conesOf 2 = .ok (.ishl, 1) := by decide +kernel
theorem dX10_conesOf_3 : decode cX10_conesOf 3 = .ok (.istore_n 2, 1) := by decide +kernel
theorem dX10_conesOf_4 : decode cX10_conesOf 4 = .ok (.iconst 0, 1) := by decide +kernel
theorem dX10_conesOf_5 : decode cX10_conesOf 5 = .ok (.istore_n 3, 1) := by decide +kernel
theorem dX10_conesOf_6 : decode cX10_conesOf 6 = .ok (.iload_n 2, 1) := by decide +kernel
theorem dX10_conesOf_7 : decode cX10_conesOf 7 = .ok (.iload_n 3, 1) := by decide +kernel
theorem dX10_conesOf_8 : decode cX10_conesOf 8 = .ok (.if_icmp .eq 78, 3) := by decide +kernel
theorem dX10_conesOf_11 : decode cX10_conesOf 11 = .ok (.iload_n 2, 1) := by decide +kernel
theorem dX10_conesOf_12 : decode cX10_conesOf 12 = .ok (.istore_n 3, 1) := by decide +kernel
theorem dX10_conesOf_13 : decode cX10_conesOf 13 = .ok (.iconst 0, 1) := by decide +kernel
theorem dX10_conesOf_14 : decode cX10_conesOf 14 = .ok (.istore 4, 2) := by decide +kernel
theorem dX10_conesOf_16 : decode cX10_conesOf 16 = .ok (.iload 4, 2) := by decide +kernel
theorem dX10_conesOf_18 : decode cX10_conesOf 18 = .ok (.bipush 10, 2) := by decide +kernel
theorem dX10_conesOf_20 : decode cX10_conesOf 20 = .ok (.if_icmp .ge 63, 3) := by decide +kernel
theorem dX10_conesOf_23 : decode cX10_conesOf 23 = .ok (.iconst 0, 1) := by decide +kernel
theorem dX10_conesOf_24 : decode cX10_conesOf 24 = .ok (.istore 5, 2) := by decide +kernel
theorem dX10_conesOf_26 : decode cX10_conesOf 26 = .ok (.iload 5, 2) := by decide +kernel
theorem dX10_conesOf_28 : decode cX10_conesOf 28 = .ok (.bipush 10, 2) := by decide +kernel
theorem dX10_conesOf_30 : decode cX10_conesOf 30 = .ok (.if_icmp .ge 47, 3) := by decide +kernel
theorem dX10_conesOf_33 : decode cX10_conesOf 33 = .ok (.iload_n 2, 1) := by decide +kernel
theorem dX10_conesOf_34 : decode cX10_conesOf 34 = .ok (.iload_n 2, 1) := by decide +kernel
theorem dX10_conesOf_35 : decode cX10_conesOf 35 = .ok (.iload 5, 2) := by decide +kernel
theorem dX10_conesOf_37 : decode cX10_conesOf 37 = .ok (.ishr, 1) := by decide +kernel
theorem dX10_conesOf_38 : decode cX10_conesOf 38 = .ok (.iconst 1, 1) := by decide +kernel
theorem dX10_conesOf_39 : decode cX10_conesOf 39 = .ok (.iand, 1) := by decide +kernel
theorem dX10_conesOf_40 : decode cX10_conesOf 40 = .ok (.iconst 1, 1) := by decide +kernel
theorem dX10_conesOf_41 : decode cX10_conesOf 41 = .ok (.if_icmp .ne 27, 3) := by decide +kernel
theorem dX10_conesOf_44 : decode cX10_conesOf 44 = .ok (.aload_n 0, 1) := by decide +kernel
theorem dX10_conesOf_45 : decode cX10_conesOf 45 = .ok (.getfield 93, 3) := by decide +kernel
theorem dX10_conesOf_48 : decode cX10_conesOf 48 = .ok (.bipush 10, 2) := by decide +kernel
theorem dX10_conesOf_50 : decode cX10_conesOf 50 = .ok (.iload 4, 2) := by decide +kernel
theorem dX10_conesOf_52 : decode cX10_conesOf 52 = .ok (.imul, 1) := by decide +kernel
theorem dX10_conesOf_53 : decode cX10_conesOf 53 = .ok (.iload 5, 2) := by decide +kernel
theorem dX10_conesOf_55 : decode cX10_conesOf 55 = .ok (.iadd, 1) := by decide +kernel
theorem dX10_conesOf_56 : decode cX10_conesOf 56 = .ok (.iaload, 1) := by decide +kernel
theorem dX10_conesOf_57 : decode cX10_conesOf 57 = .ok (.iconst 1, 1) := by decide +kernel
theorem dX10_conesOf_58 : decode cX10_conesOf 58 = .ok (.if_icmp .ne 10, 3) := by decide +kernel
theorem dX10_conesOf_61 : decode cX10_conesOf 61 = .ok (.iconst 1, 1) := by decide +kernel
theorem dX10_conesOf_62 : decode cX10_conesOf 62 = .ok (.iload 4, 2) := by decide +kernel
theorem dX10_conesOf_64 : decode cX10_conesOf 64 = .ok (.ishl, 1) := by decide +kernel
theorem dX10_conesOf_65 : decode cX10_conesOf 65 = .ok (.goto 4, 3) := by decide +kernel
theorem dX10_conesOf_68 : decode cX10_conesOf 68 = .ok (.iconst 0, 1) := by decide +kernel
theorem dX10_conesOf_69 : decode cX10_conesOf 69 = .ok (.ior, 1) := by decide +kernel
theorem dX10_conesOf_70 : decode cX10_conesOf 70 = .ok (.istore_n 2, 1) := by decide +kernel
theorem dX10_conesOf_71 : decode cX10_conesOf 71 = .ok (.iinc 5 1, 3) := by decide +kernel
theorem dX10_conesOf_74 : decode cX10_conesOf 74 = .ok (.goto (-48), 3) := by decide +kernel
theorem dX10_conesOf_77 : decode cX10_conesOf 77 = .ok (.iinc 4 1, 3) := by decide +kernel
theorem dX10_conesOf_80 : decode cX10_conesOf 80 = .ok (.goto (-64), 3) := by decide +kernel
theorem dX10_conesOf_83 : decode cX10_conesOf 83 = .ok (.goto (-77), 3) := by decide +kernel
theorem dX10_conesOf_86 : decode cX10_conesOf 86 = .ok (.iload_n 2, 1) := by decide +kernel
theorem dX10_conesOf_87 : decode cX10_conesOf 87 = .ok (.ireturn, 1) := by decide +kernel
theorem dX10_cone_0 : decode cX10_cone 0 = .ok (.aload_n 0, 1) := by decide +kernel
theorem dX10_cone_1 : decode cX10_cone 1 = .ok (.iload_n 1, 1) := by decide +kernel
theorem dX10_cone_2 : decode cX10_cone 2 = .ok (.invokestatic 125, 3) := by decide +kernel
theorem dX10_cone_5 : decode cX10_cone 5 = .ok (.ifCond .eq 7, 3) := by decide +kernel
theorem dX10_cone_8 : decode cX10_cone 8 = .ok (.iconst 0, 1) := by decide +kernel
theorem dX10_cone_9 : decode cX10_cone 9 = .ok (.goto 4, 3) := by decide +kernel
theorem dX10_cone_12 : decode cX10_cone 12 = .ok (.iconst 1, 1) := by decide +kernel
theorem dX10_cone_13 : decode cX10_cone 13 = .ok (.invokevirtual 119, 3) := by decide +kernel
theorem dX10_cone_16 : decode cX10_cone 16 = .ok (.ifCond .ne 5, 3) := by decide +kernel
theorem dX10_cone_19 : decode cX10_cone 19 = .ok (.iconst 0, 1) := by decide +kernel
theorem dX10_cone_20 : decode cX10_cone 20 = .ok (.ireturn, 1) := by decide +kernel
theorem dX10_cone_21 : decode cX10_cone 21 = .ok (.aload_n 0, 1) := by decide +kernel
theorem dX10_cone_22 : decode cX10_cone 22 = .ok (.iconst 2, 1) := by decide +kernel
theorem dX10_cone_23 : decode cX10_cone 23 = .ok (.invokevirtual 243, 3) := by decide +kernel
theorem dX10_cone_26 : decode cX10_cone 26 = .ok (.aload_n 0, 1) := by decide +kernel
theorem dX10_cone_27 : decode cX10_cone 27 = .ok (.iload_n 1, 1) := by decide +kernel
theorem dX10_cone_28 : decode cX10_cone 28 = .ok (.invokevirtual 247, 3) := by decide +kernel
theorem dX10_cone_31 : decode cX10_cone 31 = .ok (.ireturn, 1) := by decide +kernel
theorem dX10_coneByPaths_0 : decode cX10_coneByPaths 0 = .ok (.aload_n 0, 1) := by decide +kernel
theorem dX10_coneByPaths_1 : decode cX10_coneByPaths 1 = .ok (.iload_n 1, 1) := by decide +kernel
theorem dX10_coneByPaths_2 : decode cX10_coneByPaths 2 = .ok (.invokestatic 125, 3) := by decide +kernel
theorem dX10_coneByPaths_5 : decode cX10_coneByPaths 5 = .ok (.ifCond .eq 7, 3) := by decide +kernel
theorem dX10_coneByPaths_8 : decode cX10_coneByPaths 8 = .ok (.iconst 0, 1) := by decide +kernel
theorem dX10_coneByPaths_9 : decode cX10_coneByPaths 9 = .ok (.goto 4, 3) := by decide +kernel
theorem dX10_coneByPaths_12 : decode cX10_coneByPaths 12 = .ok (.iconst 1, 1) := by decide +kernel
theorem dX10_coneByPaths_13 : decode cX10_coneByPaths 13 = .ok (.invokevirtual 119, 3) := by decide +kernel
theorem dX10_coneByPaths_16 : decode cX10_coneByPaths 16 = .ok (.ifCond .ne 5, 3) := by decide +kernel
theorem dX10_coneByPaths_19 : decode cX10_coneByPaths 19 = .ok (.iconst 0, 1) := by decide +kernel
theorem dX10_coneByPaths_20 : decode cX10_coneByPaths 20 = .ok (.ireturn, 1) := by decide +kernel
theorem dX10_coneByPaths_21 : decode cX10_coneByPaths 21 = .ok (.aload_n 0, 1) := by decide +kernel
theorem dX10_coneByPaths_22 : decode cX10_coneByPaths 22 = .ok (.iconst 2, 1) := by decide +kernel
theorem dX10_coneByPaths_23 : decode cX10_coneByPaths 23 = .ok (.invokevirtual 243, 3) := by decide +kernel
theorem dX10_coneByPaths_26 : decode cX10_coneByPaths 26 = .ok (.iconst 1, 1) := by decide +kernel
theorem dX10_coneByPaths_27 : decode cX10_coneByPaths 27 = .ok (.iload_n 1, 1) := by decide +kernel
theorem dX10_coneByPaths_28 : decode cX10_coneByPaths 28 = .ok (.ishl, 1) := by decide +kernel
theorem dX10_coneByPaths_29 : decode cX10_coneByPaths 29 = .ok (.istore_n 2, 1) := by decide +kernel
theorem dX10_coneByPaths_30 : decode cX10_coneByPaths 30 = .ok (.iconst 0, 1) := by decide +kernel
theorem dX10_coneByPaths_31 : decode cX10_coneByPaths 31 = .ok (.istore_n 3, 1) := by decide +kernel
theorem dX10_coneByPaths_32 : decode cX10_coneByPaths 32 = .ok (.iload_n 3, 1) := by decide +kernel
theorem dX10_coneByPaths_33 : decode cX10_coneByPaths 33 = .ok (.aload_n 0, 1) := by decide +kernel
theorem dX10_coneByPaths_34 : decode cX10_coneByPaths 34 = .ok (.getfield 154, 3) := by decide +kernel
theorem dX10_coneByPaths_37 : decode cX10_coneByPaths 37 = .ok (.if_icmp .ge 118, 3) := by decide +kernel
theorem dX10_coneByPaths_40 : decode cX10_coneByPaths 40 = .ok (.iconst 0, 1) := by decide +kernel
theorem dX10_coneByPaths_41 : decode cX10_coneByPaths 41 = .ok (.istore 4, 2) := by decide +kernel
theorem dX10_coneByPaths_43 : decode cX10_coneByPaths 43 = .ok (.aload_n 0, 1) := by decide +kernel
theorem dX10_coneByPaths_44 : decode cX10_coneByPaths 44 = .ok (.getfield 63, 3) := by decide +kernel
theorem dX10_coneByPaths_47 : decode cX10_coneByPaths 47 = .ok (.iload_n 3, 1) := by decide +kernel
theorem dX10_coneByPaths_48 : decode cX10_coneByPaths 48 = .ok (.iaload, 1) := by decide +kernel
theorem dX10_coneByPaths_49 : decode cX10_coneByPaths 49 = .ok (.iconst 1, 1) := by decide +kernel
theorem dX10_coneByPaths_50 : decode cX10_coneByPaths 50 = .ok (.isub, 1) := by decide +kernel
theorem dX10_coneByPaths_51 : decode cX10_coneByPaths 51 = .ok (.istore 5, 2) := by decide +kernel
theorem dX10_coneByPaths_53 : decode cX10_coneByPaths 53 = .ok (.iload 5, 2) := by decide +kernel
theorem dX10_coneByPaths_55 : decode cX10_coneByPaths 55 = .ok (.ifCond .lt 94, 3) := by decide +kernel
theorem dX10_coneByPaths_58 : decode cX10_coneByPaths 58 = .ok (.aload_n 0, 1) := by decide +kernel
theorem dX10_coneByPaths_59 : decode cX10_coneByPaths 59 = .ok (.iload_n 3, 1) := by decide +kernel
theorem dX10_coneByPaths_60 : decode cX10_coneByPaths 60 = .ok (.invokevirtual 220, 3) := by decide +kernel
theorem dX10_coneByPaths_63 : decode cX10_coneByPaths 63 = .ok (.ifCond .eq 86, 3) := by decide +kernel
theorem dX10_coneByPaths_66 : decode cX10_coneByPaths 66 = .ok (.aload_n 0, 1) := by decide +kernel
theorem dX10_coneByPaths_67 : decode cX10_coneByPaths 67 = .ok (.getfield 60, 3) := by decide +kernel
theorem dX10_coneByPaths_70 : decode cX10_coneByPaths 70 = .ok (.bipush 6, 2) := by decide +kernel
theorem dX10_coneByPaths_72 : decode cX10_coneByPaths 72 = .ok (.iload_n 3, 1) := by decide +kernel
theorem dX10_coneByPaths_73 : decode cX10_coneByPaths 73 = .ok (.imul, 1) := by decide +kernel
theorem dX10_coneByPaths_74 : decode cX10_coneByPaths 74 = .ok (.iload 5, 2) := by decide +kernel
theorem dX10_coneByPaths_76 : decode cX10_coneByPaths 76 = .ok (.iadd, 1) := by decide +kernel
theorem dX10_coneByPaths_77 : decode cX10_coneByPaths 77 = .ok (.iaload, 1) := by decide +kernel
theorem dX10_coneByPaths_78 : decode cX10_coneByPaths 78 = .ok (.istore 6, 2) := by decide +kernel
theorem dX10_coneByPaths_80 : decode cX10_coneByPaths 80 = .ok (.iload 6, 2) := by decide +kernel
theorem dX10_coneByPaths_82 : decode cX10_coneByPaths 82 = .ok (.iload_n 1, 1) := by decide +kernel
theorem dX10_coneByPaths_83 : decode cX10_coneByPaths 83 = .ok (.if_icmp .eq 37, 3) := by decide +kernel
theorem dX10_coneByPaths_86 : decode cX10_coneByPaths 86 = .ok (.iload 4, 2) := by decide +kernel
theorem dX10_coneByPaths_88 : decode cX10_coneByPaths 88 = .ok (.ifCond .eq 36, 3) := by decide +kernel
theorem dX10_coneByPaths_91 : decode cX10_coneByPaths 91 = .ok (.aload_n 0, 1) := by decide +kernel
theorem dX10_coneByPaths_92 : decode cX10_coneByPaths 92 = .ok (.getfield 93, 3) := by decide +kernel
theorem dX10_coneByPaths_95 : decode cX10_coneByPaths 95 = .ok (.bipush 10, 2) := by decide +kernel
theorem dX10_coneByPaths_97 : decode cX10_coneByPaths 97 = .ok (.iload 6, 2) := by decide +kernel
theorem dX10_coneByPaths_99 : decode cX10_coneByPaths 99 = .ok (.imul, 1) := by decide +kernel
theorem dX10_coneByPaths_100 : decode cX10_coneByPaths 100 = .ok (.aload_n 0, 1) := by decide +kernel
theorem dX10_coneByPaths_101 : decode cX10_coneByPaths 101 = .ok (.getfield 60, 3) := by decide +kernel
theorem dX10_coneByPaths_104 : decode cX10_coneByPaths 104 = .ok (.bipush 6, 2) := by decide +kernel
theorem dX10_coneByPaths_106 : decode cX10_coneByPaths 106 = .ok (.iload_n 3, 1) := by decide +kernel
theorem dX10_coneByPaths_107 : decode cX10_coneByPaths 107 = .ok (.imul, 1) := by decide +kernel
theorem dX10_coneByPaths_108 : decode cX10_coneByPaths 108 = .ok (.iload 5, 2) := by decide +kernel
theorem dX10_coneByPaths_110 : decode cX10_coneByPaths 110 = .ok (.iadd, 1) := by decide +kernel
theorem dX10_coneByPaths_111 : decode cX10_coneByPaths 111 = .ok (.iconst 1, 1) := by decide +kernel
theorem dX10_coneByPaths_112 : decode cX10_coneByPaths 112 = .ok (.iadd, 1) := by decide +kernel
theorem dX10_coneByPaths_113 : decode cX10_coneByPaths 113 = .ok (.iaload, 1) := by decide +kernel
theorem dX10_coneByPaths_114 : decode cX10_coneByPaths 114 = .ok (.iadd, 1) := by decide +kernel
theorem dX10_coneByPaths_115 : decode cX10_coneByPaths 115 = .ok (.iaload, 1) := by decide +kernel
theorem dX10_coneByPaths_116 : decode cX10_coneByPaths 116 = .ok (.iconst 1, 1) := by decide +kernel
theorem dX10_coneByPaths_117 : decode cX10_coneByPaths 117 = .ok (.if_icmp .ne 7, 3) := by decide +kernel
theorem dX10_coneByPaths_120 : decode cX10_coneByPaths 120 = .ok (.iconst 1, 1) := by decide +kernel
theorem dX10_coneByPaths_121 : decode cX10_coneByPaths 121 = .ok (.goto 4, 3) := by decide +kernel
theorem dX10_coneByPaths_124 : decode cX10_coneByPaths 124 = .ok (.iconst 0, 1) := by decide +kernel
theorem dX10_coneByPaths_125 : decode cX10_coneByPaths 125 = .ok (.istore 4, 2) := by decide +kernel
theorem dX10_coneByPaths_127 : decode cX10_coneByPaths 127 = .ok (.iload_n 2, 1) := by decide +kernel
theorem dX10_coneByPaths_128 : decode cX10_coneByPaths 128 = .ok (.iload 4, 2) := by decide +kernel
theorem dX10_coneByPaths_130 : decode cX10_coneByPaths 130 = .ok (.ifCond .eq 10, 3) := by decide +kernel
theorem dX10_coneByPaths_133 : decode cX10_coneByPaths 133 = .ok (.iconst 1, 1) := by decide +kernel
theorem dX10_coneByPaths_134 : decode cX10_coneByPaths 134 = .ok (.iload 6, 2) := by decide +kernel
theorem dX10_coneByPaths_136 : decode cX10_coneByPaths 136 = .ok (.ishl, 1) := by decide +kernel
theorem dX10_coneByPaths_137 : decode cX10_coneByPaths 137 = .ok (.goto 4, 3) := by decide +kernel
theorem dX10_coneByPaths_140 : decode cX10_coneByPaths 140 = .ok (.iconst 0, 1) := by decide +kernel
theorem dX10_coneByPaths_141 : decode cX10_coneByPaths 141 = .ok (.ior, 1) := by decide +kernel
theorem dX10_coneByPaths_142 : decode cX10_coneByPaths 142 = .ok (.istore_n 2, 1) := by decide +kernel
theorem dX10_coneByPaths_143 : decode cX10_coneByPaths 143 = .ok (.iinc 5 (-1), 3) := by decide +kernel
theorem dX10_coneByPaths_146 : decode cX10_coneByPaths 146 = .ok (.goto (-93), 3) := by decide +kernel
theorem dX10_coneByPaths_149 : decode cX10_coneByPaths 149 = .ok (.iinc 3 1, 3) := by decide +kernel
theorem dX10_coneByPaths_152 : decode cX10_coneByPaths 152 = .ok (.goto (-120), 3) := by decide +kernel
theorem dX10_coneByPaths_155 : decode cX10_coneByPaths 155 = .ok (.iload_n 2, 1) := by decide +kernel
theorem dX10_coneByPaths_156 : decode cX10_coneByPaths 156 = .ok (.ireturn, 1) := by decide +kernel
theorem dX10_addresses_0 : decode cX10_addresses 0 = .ok (.aload_n 0, 1) := by decide +kernel
theorem dX10_addresses_1 : decode cX10_addresses 1 = .ok (.iload_n 1, 1) := by decide +kernel
theorem dX10_addresses_2 : decode cX10_addresses 2 = .ok (.invokestatic 125, 3) := by decide +kernel
theorem dX10_addresses_5 : decode cX10_addresses 5 = .ok (.ifCond .eq 7, 3) := by decide +kernel
theorem dX10_addresses_8 : decode cX10_addresses 8 = .ok (.iconst 0, 1) := by decide +kernel
theorem dX10_addresses_9 : decode cX10_addresses 9 = .ok (.goto 4, 3) := by decide +kernel
theorem dX10_addresses_12 : decode cX10_addresses 12 = .ok (.iconst 1, 1) := by decide +kernel
theorem dX10_addresses_13 : decode cX10_addresses 13 = .ok (.invokevirtual 119, 3) := by decide +kernel
theorem dX10_addresses_16 : decode cX10_addresses 16 = .ok (.ifCond .ne 5, 3) := by decide +kernel
theorem dX10_addresses_19 : decode cX10_addresses 19 = .ok (.iconst 0, 1) := by decide +kernel
theorem dX10_addresses_20 : decode cX10_addresses 20 = .ok (.ireturn, 1) := by decide +kernel
theorem dX10_addresses_21 : decode cX10_addresses 21 = .ok (.aload_n 0, 1) := by decide +kernel
theorem dX10_addresses_22 : decode cX10_addresses 22 = .ok (.iconst 2, 1) := by decide +kernel
theorem dX10_addresses_23 : decode cX10_addresses 23 = .ok (.invokevirtual 243, 3) := by decide +kernel
theorem dX10_addresses_26 : decode cX10_addresses 26 = .ok (.aload_n 0, 1) := by decide +kernel
theorem dX10_addresses_27 : decode cX10_addresses 27 = .ok (.iload_n 1, 1) := by decide +kernel
theorem dX10_addresses_28 : decode cX10_addresses 28 = .ok (.invokevirtual 247, 3) := by decide +kernel
theorem dX10_addresses_31 : decode cX10_addresses 31 = .ok (.istore_n 2, 1) := by decide +kernel
theorem dX10_addresses_32 : decode cX10_addresses 32 = .ok (.iconst 0, 1) := by decide +kernel
theorem dX10_addresses_33 : decode cX10_addresses 33 = .ok (.istore_n 3, 1) := by decide +kernel
theorem dX10_addresses_34 : decode cX10_addresses 34 = .ok (.iload_n 3, 1) := by decide +kernel
theorem dX10_addresses_35 : decode cX10_addresses 35 = .ok (.sipush 256, 3) := by decide +kernel
theorem dX10_addresses_38 : decode cX10_addresses 38 = .ok (.if_icmp .ge 16, 3) := by decide +kernel
theorem dX10_addresses_41 : decode cX10_addresses 41 = .ok (.aload_n 0, 1) := by decide +kernel
theorem dX10_addresses_42 : decode cX10_addresses 42 = .ok (.getfield 102, 3) := by decide +kernel
theorem dX10_addresses_45 : decode cX10_addresses 45 = .ok (.iload_n 3, 1) := by decide +kernel
theorem dX10_addresses_46 : decode cX10_addresses 46 = .ok (.iconst 0, 1) := by decide +kernel
theorem dX10_addresses_47 : decode cX10_addresses 47 = .ok (.bastore, 1) := by decide +kernel
theorem dX10_addresses_48 : decode cX10_addresses 48 = .ok (.iinc 3 1, 3) := by decide +kernel
theorem dX10_addresses_51 : decode cX10_addresses 51 = .ok (.goto (-17), 3) := by decide +kernel
theorem dX10_addresses_54 : decode cX10_addresses 54 = .ok (.iconst 0, 1) := by decide +kernel
theorem dX10_addresses_55 : decode cX10_addresses 55 = .ok (.istore_n 3, 1) := by decide +kernel
theorem dX10_addresses_56 : decode cX10_addresses 56 = .ok (.iload_n 3, 1) := by decide +kernel
theorem dX10_addresses_57 : decode cX10_addresses 57 = .ok (.aload_n 0, 1) := by decide +kernel
theorem dX10_addresses_58 : decode cX10_addresses 58 = .ok (.getfield 154, 3) := by decide +kernel
theorem dX10_addresses_61 : decode cX10_addresses 61 = .ok (.if_icmp .ge 92, 3) := by decide +kernel
theorem dX10_addresses_64 : decode cX10_addresses 64 = .ok (.aload_n 0, 1) := by decide +kernel
theorem dX10_addresses_65 : decode cX10_addresses 65 = .ok (.getfield 72, 3) := by decide +kernel
theorem dX10_addresses_68 : decode cX10_addresses 68 = .ok (.iload_n 3, 1) := by decide +kernel
theorem dX10_addresses_69 : decode cX10_addresses 69 = .ok (.baload, 1) := by decide +kernel
theorem dX10_addresses_70 : decode cX10_addresses 70 = .ok (.ifCond .eq 24, 3) := by decide +kernel
theorem dX10_addresses_73 : decode cX10_addresses 73 = .ok (.iload_n 2, 1) := by decide +kernel
theorem dX10_addresses_74 : decode cX10_addresses 74 = .ok (.aload_n 0, 1) := by decide +kernel
theorem dX10_addresses_75 : decode cX10_addresses 75 = .ok (.getfield 60, 3) := by decide +kernel
theorem dX10_addresses_78 : decode cX10_addresses 78 = .ok (.bipush 6, 2) := by decide +kernel
theorem dX10_addresses_80 : decode cX10_addresses 80 = .ok (.iload_n 3, 1) := by decide +kernel
theorem dX10_addresses_81 : decode cX10_addresses 81 = .ok (.imul, 1) := by decide +kernel
theorem dX10_addresses_82 : decode cX10_addresses 82 = .ok (.iaload, 1) := by decide +kernel
theorem dX10_addresses_83 : decode cX10_addresses 83 = .ok (.ishr, 1) := by decide +kernel
theorem dX10_addresses_84 : decode cX10_addresses 84 = .ok (.iconst 1, 1) := by decide +kernel
theorem dX10_addresses_85 : decode cX10_addresses 85 = .ok (.iand, 1) := by decide +kernel
theorem dX10_addresses_86 : decode cX10_addresses 86 = .ok (.iconst 1, 1) := by decide +kernel
theorem dX10_addresses_87 : decode cX10_addresses 87 = .ok (.if_icmp .ne 7, 3) := by decide +kernel
theorem dX10_addresses_90 : decode cX10_addresses 90 = .ok (.iconst 1, 1) := by decide +kernel
theorem dX10_addresses_91 : decode cX10_addresses 91 = .ok (.goto 4, 3) := by decide +kernel
theorem dX10_addresses_94 : decode cX10_addresses 94 = .ok (.iconst 0, 1) := by decide +kernel
theorem dX10_addresses_95 : decode cX10_addresses 95 = .ok (.istore 4, 2) := by decide +kernel
theorem dX10_addresses_97 : decode cX10_addresses 97 = .ok (.aload_n 0, 1) := by decide +kernel
theorem dX10_addresses_98 : decode cX10_addresses 98 = .ok (.getfield 66, 3) := by decide +kernel
theorem dX10_addresses_101 : decode cX10_addresses 101 = .ok (.iload_n 3, 1) := by decide +kernel
theorem dX10_addresses_102 : decode cX10_addresses 102 = .ok (.iaload, 1) := by decide +kernel
theorem dX10_addresses_103 : decode cX10_addresses 103 = .ok (.istore 5, 2) := by decide +kernel
theorem dX10_addresses_105 : decode cX10_addresses 105 = .ok (.iload 4, 2) := by decide +kernel
theorem dX10_addresses_107 : decode cX10_addresses 107 = .ok (.ifCond .eq 40, 3) := by decide +kernel
theorem dX10_addresses_110 : decode cX10_addresses 110 = .ok (.iload 5, 2) := by decide +kernel
theorem dX10_addresses_112 : decode cX10_addresses 112 = .ok (.aload_n 0, 1) := by decide +kernel
theorem dX10_addresses_113 : decode cX10_addresses 113 = .ok (.getfield 66, 3) := by decide +kernel
theorem dX10_addresses_116 : decode cX10_addresses 116 = .ok (.iload_n 3, 1) := by decide +kernel
theorem dX10_addresses_117 : decode cX10_addresses 117 = .ok (.iaload, 1) := by decide +kernel
theorem dX10_addresses_118 : decode cX10_addresses 118 = .ok (.iconst 1, 1) := by decide +kernel
theorem dX10_addresses_119 : decode cX10_addresses 119 = .ok (.bipush 8, 2) := by decide +kernel
theorem dX10_addresses_121 : decode cX10_addresses 121 = .ok (.aload_n 0, 1) := by decide +kernel
theorem dX10_addresses_122 : decode cX10_addresses 122 = .ok (.getfield 69, 3) := by decide +kernel
theorem dX10_addresses_125 : decode cX10_addresses 125 = .ok (.iload_n 3, 1) := by decide +kernel
theorem dX10_addresses_126 : decode cX10_addresses 126 = .ok (.iaload, 1) := by decide +kernel
theorem dX10_addresses_127 : decode cX10_addresses 127 = .ok (.isub, 1) := by decide +kernel
theorem dX10_addresses_128 : decode cX10_addresses 128 = .ok (.ishl, 1) := by decide +kernel
theorem dX10_addresses_129 : decode cX10_addresses 129 = .ok (.iadd, 1) := by decide +kernel
theorem dX10_addresses_130 : decode cX10_addresses 130 = .ok (.if_icmp .ge 17, 3) := by decide +kernel
theorem dX10_addresses_133 : decode cX10_addresses 133 = .ok (.aload_n 0, 1) := by decide +kernel
theorem dX10_addresses_134 : decode cX10_addresses 134 = .ok (.getfield 102, 3) := by decide +kernel
theorem dX10_addresses_137 : decode cX10_addresses 137 = .ok (.iload 5, 2) := by decide +kernel
theorem dX10_addresses_139 : decode cX10_addresses 139 = .ok (.iconst 1, 1) := by decide +kernel
theorem dX10_addresses_140 : decode cX10_addresses 140 = .ok (.bastore, 1) := by decide +kernel
theorem dX10_addresses_141 : decode cX10_addresses 141 = .ok (.iinc 5 1, 3) := by decide +kernel
theorem dX10_addresses_144 : decode cX10_addresses 144 = .ok (.goto (-39), 3) := by decide +kernel
theorem dX10_addresses_147 : decode cX10_addresses 147 = .ok (.iinc 3 1, 3) := by decide +kernel
theorem dX10_addresses_150 : decode cX10_addresses 150 = .ok (.goto (-94), 3) := by decide +kernel
theorem dX10_addresses_153 : decode cX10_addresses 153 = .ok (.iconst 0, 1) := by decide +kernel
theorem dX10_addresses_154 : decode cX10_addresses 154 = .ok (.istore_n 3, 1) := by decide +kernel
theorem dX10_addresses_155 : decode cX10_addresses 155 = .ok (.iconst 0, 1) := by decide +kernel
theorem dX10_addresses_156 : decode cX10_addresses 156 = .ok (.istore 4, 2) := by decide +kernel
theorem dX10_addresses_158 : decode cX10_addresses 158 = .ok (.iload 4, 2) := by decide +kernel
theorem dX10_addresses_160 : decode cX10_addresses 160 = .ok (.sipush 256, 3) := by decide +kernel
theorem dX10_addresses_163 : decode cX10_addresses 163 = .ok (.if_icmp .ge 27, 3) := by decide +kernel
theorem dX10_addresses_166 : decode cX10_addresses 166 = .ok (.iload_n 3, 1) := by decide +kernel
theorem dX10_addresses_167 : decode cX10_addresses 167 = .ok (.aload_n 0, 1) := by decide +kernel
theorem dX10_addresses_168 : decode cX10_addresses 168 = .ok (.getfield 102, 3) := by decide +kernel
theorem dX10_addresses_171 : decode cX10_addresses 171 = .ok (.iload 4, 2) := by decide +kernel
theorem dX10_addresses_173 : decode cX10_addresses 173 = .ok (.baload, 1) := by decide +kernel
theorem dX10_addresses_174 : decode cX10_addresses 174 = .ok (.ifCond .eq 7, 3) := by decide +kernel
theorem dX10_addresses_177 : decode cX10_addresses 177 = .ok (.iconst 1, 1) := by decide +kernel
theorem dX10_addresses_178 : decode cX10_addresses 178 = .ok (.goto 4, 3) := by decide +kernel
theorem dX10_addresses_181 : decode cX10_addresses 181 = .ok (.iconst 0, 1) := by decide +kernel
theorem dX10_addresses_182 : decode cX10_addresses 182 = .ok (.iadd, 1) := by decide +kernel
theorem dX10_addresses_183 : decode cX10_addresses 183 = .ok (.istore_n 3, 1) := by decide +kernel
theorem dX10_addresses_184 : decode cX10_addresses 184 = .ok (.iinc 4 1, 3) := by decide +kernel
theorem dX10_addresses_187 : decode cX10_addresses 187 = .ok (.goto (-29), 3) := by decide +kernel
theorem dX10_addresses_190 : decode cX10_addresses 190 = .ok (.iload_n 3, 1) := by decide +kernel
theorem dX10_addresses_191 : decode cX10_addresses 191 = .ok (.ireturn, 1) := by decide +kernel
theorem dJ6_bitCount_0f7a4_0 : decode cJ6_bitCount_0f7a4 0 = .ok (.iload_n 0, 1) := by decide +kernel
theorem dJ6_bitCount_0f7a4_1 : decode cJ6_bitCount_0f7a4 1 = .ok (.iload_n 0, 1) := by decide +kernel
theorem dJ6_bitCount_0f7a4_2 : decode cJ6_bitCount_0f7a4 2 = .ok (.iconst 1, 1) := by decide +kernel
theorem dJ6_bitCount_0f7a4_3 : decode cJ6_bitCount_0f7a4 3 = .ok (.iushr, 1) := by decide +kernel
theorem dJ6_bitCount_0f7a4_4 : decode cJ6_bitCount_0f7a4 4 = .ok (.ldc_w 265, 3) := by decide +kernel
theorem dJ6_bitCount_0f7a4_7 : decode cJ6_bitCount_0f7a4 7 = .ok (.iand, 1) := by decide +kernel
theorem dJ6_bitCount_0f7a4_8 : decode cJ6_bitCount_0f7a4 8 = .ok (.isub, 1) := by decide +kernel
theorem dJ6_bitCount_0f7a4_9 : decode cJ6_bitCount_0f7a4 9 = .ok (.istore_n 0, 1) := by decide +kernel
theorem dJ6_bitCount_0f7a4_10 : decode cJ6_bitCount_0f7a4 10 = .ok (.iload_n 0, 1) := by decide +kernel
theorem dJ6_bitCount_0f7a4_11 : decode cJ6_bitCount_0f7a4 11 = .ok (.ldc_w 266, 3) := by decide +kernel
theorem dJ6_bitCount_0f7a4_14 : decode cJ6_bitCount_0f7a4 14 = .ok (.iand, 1) := by decide +kernel
theorem dJ6_bitCount_0f7a4_15 : decode cJ6_bitCount_0f7a4 15 = .ok (.iload_n 0, 1) := by decide +kernel
theorem dJ6_bitCount_0f7a4_16 : decode cJ6_bitCount_0f7a4 16 = .ok (.iconst 2, 1) := by decide +kernel
theorem dJ6_bitCount_0f7a4_17 : decode cJ6_bitCount_0f7a4 17 = .ok (.iushr, 1) := by decide +kernel
theorem dJ6_bitCount_0f7a4_18 : decode cJ6_bitCount_0f7a4 18 = .ok (.ldc_w 266, 3) := by decide +kernel
theorem dJ6_bitCount_0f7a4_21 : decode cJ6_bitCount_0f7a4 21 = .ok (.iand, 1) := by decide +kernel
theorem dJ6_bitCount_0f7a4_22 : decode cJ6_bitCount_0f7a4 22 = .ok (.iadd, 1) := by decide +kernel
theorem dJ6_bitCount_0f7a4_23 : decode cJ6_bitCount_0f7a4 23 = .ok (.istore_n 0, 1) := by decide +kernel
theorem dJ6_bitCount_0f7a4_24 : decode cJ6_bitCount_0f7a4 24 = .ok (.iload_n 0, 1) := by decide +kernel
theorem dJ6_bitCount_0f7a4_25 : decode cJ6_bitCount_0f7a4 25 = .ok (.iload_n 0, 1) := by decide +kernel
theorem dJ6_bitCount_0f7a4_26 : decode cJ6_bitCount_0f7a4 26 = .ok (.iconst 4, 1) := by decide +kernel
theorem dJ6_bitCount_0f7a4_27 : decode cJ6_bitCount_0f7a4 27 = .ok (.iushr, 1) := by decide +kernel
theorem dJ6_bitCount_0f7a4_28 : decode cJ6_bitCount_0f7a4 28 = .ok (.iadd, 1) := by decide +kernel
theorem dJ6_bitCount_0f7a4_29 : decode cJ6_bitCount_0f7a4 29 = .ok (.ldc_w 267, 3) := by decide +kernel
theorem dJ6_bitCount_0f7a4_32 : decode cJ6_bitCount_0f7a4 32 = .ok (.iand, 1) := by decide +kernel
theorem dJ6_bitCount_0f7a4_33 : decode cJ6_bitCount_0f7a4 33 = .ok (.istore_n 0, 1) := by decide +kernel
theorem dJ6_bitCount_0f7a4_34 : decode cJ6_bitCount_0f7a4 34 = .ok (.iload_n 0, 1) := by decide +kernel
theorem dJ6_bitCount_0f7a4_35 : decode cJ6_bitCount_0f7a4 35 = .ok (.iload_n 0, 1) := by decide +kernel
theorem dJ6_bitCount_0f7a4_36 : decode cJ6_bitCount_0f7a4 36 = .ok (.bipush 8, 2) := by decide +kernel
theorem dJ6_bitCount_0f7a4_38 : decode cJ6_bitCount_0f7a4 38 = .ok (.iushr, 1) := by decide +kernel
theorem dJ6_bitCount_0f7a4_39 : decode cJ6_bitCount_0f7a4 39 = .ok (.iadd, 1) := by decide +kernel
theorem dJ6_bitCount_0f7a4_40 : decode cJ6_bitCount_0f7a4 40 = .ok (.istore_n 0, 1) := by decide +kernel
theorem dJ6_bitCount_0f7a4_41 : decode cJ6_bitCount_0f7a4 41 = .ok (.iload_n 0, 1) := by decide +kernel
theorem dJ6_bitCount_0f7a4_42 : decode cJ6_bitCount_0f7a4 42 = .ok (.iload_n 0, 1) := by decide +kernel
theorem dJ6_bitCount_0f7a4_43 : decode cJ6_bitCount_0f7a4 43 = .ok (.bipush 16, 2) := by decide +kernel
theorem dJ6_bitCount_0f7a4_45 : decode cJ6_bitCount_0f7a4 45 = .ok (.iushr, 1) := by decide +kernel
theorem dJ6_bitCount_0f7a4_46 : decode cJ6_bitCount_0f7a4 46 = .ok (.iadd, 1) := by decide +kernel
theorem dJ6_bitCount_0f7a4_47 : decode cJ6_bitCount_0f7a4 47 = .ok (.istore_n 0, 1) := by decide +kernel
theorem dJ6_bitCount_0f7a4_48 : decode cJ6_bitCount_0f7a4 48 = .ok (.iload_n 0, 1) := by decide +kernel
theorem dJ6_bitCount_0f7a4_49 : decode cJ6_bitCount_0f7a4 49 = .ok (.bipush 63, 2) := by decide +kernel
theorem dJ6_bitCount_0f7a4_51 : decode cJ6_bitCount_0f7a4 51 = .ok (.iand, 1) := by decide +kernel
theorem dJ6_bitCount_0f7a4_52 : decode cJ6_bitCount_0f7a4 52 = .ok (.ireturn, 1) := by decide +kernel
theorem dL_holder_0 : decode cL_holder 0 = .ok (.aload_n 2, 1) := by decide +kernel
theorem dL_holder_1 : decode cL_holder 1 = .ok (.iconst 0, 1) := by decide +kernel
theorem dL_holder_2 : decode cL_holder 2 = .ok (.aload_n 0, 1) := by decide +kernel
theorem dL_holder_3 : decode cL_holder 3 = .ok (.iload_n 1, 1) := by decide +kernel
theorem dL_holder_4 : decode cL_holder 4 = .ok (.invokevirtual 7, 3) := by decide +kernel
theorem dL_holder_7 : decode cL_holder 7 = .ok (.i2l, 1) := by decide +kernel
theorem dL_holder_8 : decode cL_holder 8 = .ok (.lastore, 1) := by decide +kernel
theorem dL_holder_9 : decode cL_holder 9 = .ok (.goto 9, 3) := by decide +kernel
theorem dL_holder_12 : decode cL_holder 12 = .ok (.astore_n 3, 1) := by decide +kernel
theorem dL_holder_13 : decode cL_holder 13 = .ok (.iconst 1, 1) := by decide +kernel
theorem dL_holder_14 : decode cL_holder 14 = .ok (.ireturn, 1) := by decide +kernel
theorem dL_holder_15 : decode cL_holder 15 = .ok (.astore_n 3, 1) := by decide +kernel
theorem dL_holder_16 : decode cL_holder 16 = .ok (.iconst 2, 1) := by decide +kernel
theorem dL_holder_17 : decode cL_holder 17 = .ok (.ireturn, 1) := by decide +kernel
theorem dL_holder_18 : decode cL_holder 18 = .ok (.iconst 0, 1) := by decide +kernel
theorem dL_holder_19 : decode cL_holder 19 = .ok (.ireturn, 1) := by decide +kernel
theorem dL_belong_0 : decode cL_belong 0 = .ok (.aload_n 3, 1) := by decide +kernel
theorem dL_belong_1 : decode cL_belong 1 = .ok (.iconst 0, 1) := by decide +kernel
theorem dL_belong_2 : decode cL_belong 2 = .ok (.aload_n 0, 1) := by decide +kernel
theorem dL_belong_3 : decode cL_belong 3 = .ok (.iload_n 1, 1) := by decide +kernel
theorem dL_belong_4 : decode cL_belong 4 = .ok (.iload_n 2, 1) := by decide +kernel
theorem dL_belong_5 : decode cL_belong 5 = .ok (.invokevirtual 17, 3) := by decide +kernel
theorem dL_belong_8 : decode cL_belong 8 = .ok (.i2l, 1) := by decide +kernel
theorem dL_belong_9 : decode cL_belong 9 = .ok (.lastore, 1) := by decide +kernel
theorem dL_belong_10 : decode cL_belong 10 = .ok (.goto 7, 3) := by decide +kernel
theorem dL_belong_13 : decode cL_belong 13 = .ok (.astore 4, 2) := by decide +kernel
theorem dL_belong_15 : decode cL_belong 15 = .ok (.iconst 1, 1) := by decide +kernel
theorem dL_belong_16 : decode cL_belong 16 = .ok (.ireturn, 1) := by decide +kernel
theorem dL_belong_17 : decode cL_belong 17 = .ok (.iconst 0, 1) := by decide +kernel
theorem dL_belong_18 : decode cL_belong 18 = .ok (.ireturn, 1) := by decide +kernel
theorem dL_roll_0 : decode cL_roll 0 = .ok (.aload_n 2, 1) := by decide +kernel
theorem dL_roll_1 : decode cL_roll 1 = .ok (.iconst 0, 1) := by decide +kernel
theorem dL_roll_2 : decode cL_roll 2 = .ok (.aload_n 0, 1) := by decide +kernel
theorem dL_roll_3 : decode cL_roll 3 = .ok (.iload_n 1, 1) := by decide +kernel
theorem dL_roll_4 : decode cL_roll 4 = .ok (.invokevirtual 21, 3) := by decide +kernel
theorem dL_roll_7 : decode cL_roll 7 = .ok (.i2l, 1) := by decide +kernel
theorem dL_roll_8 : decode cL_roll 8 = .ok (.lastore, 1) := by decide +kernel
theorem dL_roll_9 : decode cL_roll 9 = .ok (.goto 9, 3) := by decide +kernel
theorem dL_roll_12 : decode cL_roll 12 = .ok (.astore_n 3, 1) := by decide +kernel
theorem dL_roll_13 : decode cL_roll 13 = .ok (.iconst 1, 1) := by decide +kernel
theorem dL_roll_14 : decode cL_roll 14 = .ok (.ireturn, 1) := by decide +kernel
theorem dL_roll_15 : decode cL_roll 15 = .ok (.astore_n 3, 1) := by decide +kernel
theorem dL_roll_16 : decode cL_roll 16 = .ok (.iconst 2, 1) := by decide +kernel
theorem dL_roll_17 : decode cL_roll 17 = .ok (.ireturn, 1) := by decide +kernel
theorem dL_roll_18 : decode cL_roll 18 = .ok (.iconst 0, 1) := by decide +kernel
theorem dL_roll_19 : decode cL_roll 19 = .ok (.ireturn, 1) := by decide +kernel
theorem dL_publish_0 : decode cL_publish 0 = .ok (.aload_n 3, 1) := by decide +kernel
theorem dL_publish_1 : decode cL_publish 1 = .ok (.iconst 0, 1) := by decide +kernel
theorem dL_publish_2 : decode cL_publish 2 = .ok (.aload_n 0, 1) := by decide +kernel
theorem dL_publish_3 : decode cL_publish 3 = .ok (.iload_n 1, 1) := by decide +kernel
theorem dL_publish_4 : decode cL_publish 4 = .ok (.iload_n 2, 1) := by decide +kernel
theorem dL_publish_5 : decode cL_publish 5 = .ok (.invokevirtual 24, 3) := by decide +kernel
theorem dL_publish_8 : decode cL_publish 8 = .ok (.i2l, 1) := by decide +kernel
theorem dL_publish_9 : decode cL_publish 9 = .ok (.lastore, 1) := by decide +kernel
theorem dL_publish_10 : decode cL_publish 10 = .ok (.goto 11, 3) := by decide +kernel
theorem dL_publish_13 : decode cL_publish 13 = .ok (.astore 4, 2) := by decide +kernel
theorem dL_publish_15 : decode cL_publish 15 = .ok (.iconst 1, 1) := by decide +kernel
theorem dL_publish_16 : decode cL_publish 16 = .ok (.ireturn, 1) := by decide +kernel
theorem dL_publish_17 : decode cL_publish 17 = .ok (.astore 4, 2) := by decide +kernel
theorem dL_publish_19 : decode cL_publish 19 = .ok (.iconst 2, 1) := by decide +kernel
theorem dL_publish_20 : decode cL_publish 20 = .ok (.ireturn, 1) := by decide +kernel
theorem dL_publish_21 : decode cL_publish 21 = .ok (.iconst 0, 1) := by decide +kernel
theorem dL_publish_22 : decode cL_publish 22 = .ok (.ireturn, 1) := by decide +kernel
theorem dL_pass_0 : decode cL_pass 0 = .ok (.aload_n 2, 1) := by decide +kernel
theorem dL_pass_1 : decode cL_pass 1 = .ok (.iconst 0, 1) := by decide +kernel
theorem dL_pass_2 : decode cL_pass 2 = .ok (.aload_n 0, 1) := by decide +kernel
theorem dL_pass_3 : decode cL_pass 3 = .ok (.iload_n 1, 1) := by decide +kernel
theorem dL_pass_4 : decode cL_pass 4 = .ok (.invokevirtual 29, 3) := by decide +kernel
theorem dL_pass_7 : decode cL_pass 7 = .ok (.i2l, 1) := by decide +kernel
theorem dL_pass_8 : decode cL_pass 8 = .ok (.lastore, 1) := by decide +kernel
theorem dL_pass_9 : decode cL_pass 9 = .ok (.goto 9, 3) := by decide +kernel
theorem dL_pass_12 : decode cL_pass 12 = .ok (.astore_n 3, 1) := by decide +kernel
theorem dL_pass_13 : decode cL_pass 13 = .ok (.iconst 1, 1) := by decide +kernel
theorem dL_pass_14 : decode cL_pass 14 = .ok (.ireturn, 1) := by decide +kernel
theorem dL_pass_15 : decode cL_pass 15 = .ok (.astore_n 3, 1) := by decide +kernel
theorem dL_pass_16 : decode cL_pass 16 = .ok (.iconst 2, 1) := by decide +kernel
theorem dL_pass_17 : decode cL_pass 17 = .ok (.ireturn, 1) := by decide +kernel
theorem dL_pass_18 : decode cL_pass 18 = .ok (.iconst 0, 1) := by decide +kernel
theorem dL_pass_19 : decode cL_pass 19 = .ok (.ireturn, 1) := by decide +kernel
theorem dL_grant_0 : decode cL_grant 0 = .ok (.aload 6, 2) := by decide +kernel
theorem dL_grant_2 : decode cL_grant 2 = .ok (.iconst 0, 1) := by decide +kernel
theorem dL_grant_3 : decode cL_grant 3 = .ok (.aload_n 0, 1) := by decide +kernel
theorem dL_grant_4 : decode cL_grant 4 = .ok (.iload_n 1, 1) := by decide +kernel
theorem dL_grant_5 : decode cL_grant 5 = .ok (.iload_n 2, 1) := by decide +kernel
theorem dL_grant_6 : decode cL_grant 6 = .ok (.iload_n 3, 1) := by decide +kernel
theorem dL_grant_7 : decode cL_grant 7 = .ok (.iload 4, 2) := by decide +kernel
theorem dL_grant_9 : decode cL_grant 9 = .ok (.iload 5, 2) := by decide +kernel
theorem dL_grant_11 : decode cL_grant 11 = .ok (.invokevirtual 32, 3) := by decide +kernel
theorem dL_grant_14 : decode cL_grant 14 = .ok (.i2l, 1) := by decide +kernel
theorem dL_grant_15 : decode cL_grant 15 = .ok (.lastore, 1) := by decide +kernel
theorem dL_grant_16 : decode cL_grant 16 = .ok (.goto 15, 3) := by decide +kernel
theorem dL_grant_19 : decode cL_grant 19 = .ok (.astore 7, 2) := by decide +kernel
theorem dL_grant_21 : decode cL_grant 21 = .ok (.iconst 1, 1) := by decide +kernel
theorem dL_grant_22 : decode cL_grant 22 = .ok (.ireturn, 1) := by decide +kernel
theorem dL_grant_23 : decode cL_grant 23 = .ok (.astore 7, 2) := by decide +kernel
theorem dL_grant_25 : decode cL_grant 25 = .ok (.iconst 2, 1) := by decide +kernel
theorem dL_grant_26 : decode cL_grant 26 = .ok (.ireturn, 1) := by decide +kernel
theorem dL_grant_27 : decode cL_grant 27 = .ok (.astore 7, 2) := by decide +kernel
theorem dL_grant_29 : decode cL_grant 29 = .ok (.iconst 3, 1) := by decide +kernel
theorem dL_grant_30 : decode cL_grant 30 = .ok (.ireturn, 1) := by decide +kernel
theorem dL_grant_31 : decode cL_grant 31 = .ok (.iconst 0, 1) := by decide +kernel
theorem dL_grant_32 : decode cL_grant 32 = .ok (.ireturn, 1) := by decide +kernel
theorem dL_origin_0 : decode cL_origin 0 = .ok (.aload 7, 2) := by decide +kernel
theorem dL_origin_2 : decode cL_origin 2 = .ok (.iconst 0, 1) := by decide +kernel
theorem dL_origin_3 : decode cL_origin 3 = .ok (.aload_n 0, 1) := by decide +kernel
theorem dL_origin_4 : decode cL_origin 4 = .ok (.iload_n 1, 1) := by decide +kernel
theorem dL_origin_5 : decode cL_origin 5 = .ok (.iload_n 2, 1) := by decide +kernel
theorem dL_origin_6 : decode cL_origin 6 = .ok (.iload_n 3, 1) := by decide +kernel
theorem dL_origin_7 : decode cL_origin 7 = .ok (.iload 4, 2) := by decide +kernel
theorem dL_origin_9 : decode cL_origin 9 = .ok (.iload 5, 2) := by decide +kernel
theorem dL_origin_11 : decode cL_origin 11 = .ok (.iload 6, 2) := by decide +kernel
theorem dL_origin_13 : decode cL_origin 13 = .ok (.invokevirtual 36, 3) := by decide +kernel
theorem dL_origin_16 : decode cL_origin 16 = .ok (.i2l, 1) := by decide +kernel
theorem dL_origin_17 : decode cL_origin 17 = .ok (.lastore, 1) := by decide +kernel
theorem dL_origin_18 : decode cL_origin 18 = .ok (.goto 15, 3) := by decide +kernel
theorem dL_origin_21 : decode cL_origin 21 = .ok (.astore 8, 2) := by decide +kernel
theorem dL_origin_23 : decode cL_origin 23 = .ok (.iconst 1, 1) := by decide +kernel
theorem dL_origin_24 : decode cL_origin 24 = .ok (.ireturn, 1) := by decide +kernel
theorem dL_origin_25 : decode cL_origin 25 = .ok (.astore 8, 2) := by decide +kernel
theorem dL_origin_27 : decode cL_origin 27 = .ok (.iconst 2, 1) := by decide +kernel
theorem dL_origin_28 : decode cL_origin 28 = .ok (.ireturn, 1) := by decide +kernel
theorem dL_origin_29 : decode cL_origin 29 = .ok (.astore 8, 2) := by decide +kernel
theorem dL_origin_31 : decode cL_origin 31 = .ok (.iconst 3, 1) := by decide +kernel
theorem dL_origin_32 : decode cL_origin 32 = .ok (.ireturn, 1) := by decide +kernel
theorem dL_origin_33 : decode cL_origin 33 = .ok (.iconst 0, 1) := by decide +kernel
theorem dL_origin_34 : decode cL_origin 34 = .ok (.ireturn, 1) := by decide +kernel
theorem dL_vouch_0 : decode cL_vouch 0 = .ok (.aload 5, 2) := by decide +kernel
theorem dL_vouch_2 : decode cL_vouch 2 = .ok (.iconst 0, 1) := by decide +kernel
theorem dL_vouch_3 : decode cL_vouch 3 = .ok (.aload_n 0, 1) := by decide +kernel
theorem dL_vouch_4 : decode cL_vouch 4 = .ok (.iload_n 1, 1) := by decide +kernel
theorem dL_vouch_5 : decode cL_vouch 5 = .ok (.iload_n 2, 1) := by decide +kernel
theorem dL_vouch_6 : decode cL_vouch 6 = .ok (.iload_n 3, 1) := by decide +kernel
theorem dL_vouch_7 : decode cL_vouch 7 = .ok (.iload 4, 2) := by decide +kernel
theorem dL_vouch_9 : decode cL_vouch 9 = .ok (.invokevirtual 40, 3) := by decide +kernel
theorem dL_vouch_12 : decode cL_vouch 12 = .ok (.i2l, 1) := by decide +kernel
theorem dL_vouch_13 : decode cL_vouch 13 = .ok (.lastore, 1) := by decide +kernel
theorem dL_vouch_14 : decode cL_vouch 14 = .ok (.goto 15, 3) := by decide +kernel
theorem dL_vouch_17 : decode cL_vouch 17 = .ok (.astore 6, 2) := by decide +kernel
theorem dL_vouch_19 : decode cL_vouch 19 = .ok (.iconst 1, 1) := by decide +kernel
theorem dL_vouch_20 : decode cL_vouch 20 = .ok (.ireturn, 1) := by decide +kernel
theorem dL_vouch_21 : decode cL_vouch 21 = .ok (.astore 6, 2) := by decide +kernel
theorem dL_vouch_23 : decode cL_vouch 23 = .ok (.iconst 2, 1) := by decide +kernel
theorem dL_vouch_24 : decode cL_vouch 24 = .ok (.ireturn, 1) := by decide +kernel
theorem dL_vouch_25 : decode cL_vouch 25 = .ok (.astore 6, 2) := by decide +kernel
theorem dL_vouch_27 : decode cL_vouch 27 = .ok (.iconst 3, 1) := by decide +kernel
theorem dL_vouch_28 : decode cL_vouch 28 = .ok (.ireturn, 1) := by decide +kernel
theorem dL_vouch_29 : decode cL_vouch 29 = .ok (.iconst 0, 1) := by decide +kernel
theorem dL_vouch_30 : decode cL_vouch 30 = .ok (.ireturn, 1) := by decide +kernel
theorem dL_revoke_0 : decode cL_revoke 0 = .ok (.aload_n 2, 1) := by decide +kernel
theorem dL_revoke_1 : decode cL_revoke 1 = .ok (.iconst 0, 1) := by decide +kernel
theorem dL_revoke_2 : decode cL_revoke 2 = .ok (.aload_n 0, 1) := by decide +kernel
theorem dL_revoke_3 : decode cL_revoke 3 = .ok (.iload_n 1, 1) := by decide +kernel
theorem dL_revoke_4 : decode cL_revoke 4 = .ok (.invokevirtual 44, 3) := by decide +kernel
theorem dL_revoke_7 : decode cL_revoke 7 = .ok (.ifCond .eq 7, 3) := by decide +kernel
theorem dL_revoke_10 : decode cL_revoke 10 = .ok (.lconst 1, 1) := by decide +kernel
theorem dL_revoke_11 : decode cL_revoke 11 = .ok (.goto 4, 3) := by decide +kernel
theorem dL_revoke_14 : decode cL_revoke 14 = .ok (.lconst 0, 1) := by decide +kernel
theorem dL_revoke_15 : decode cL_revoke 15 = .ok (.lastore, 1) := by decide +kernel
theorem dL_revoke_16 : decode cL_revoke 16 = .ok (.goto 6, 3) := by decide +kernel
theorem dL_revoke_19 : decode cL_revoke 19 = .ok (.astore_n 3, 1) := by decide +kernel
theorem dL_revoke_20 : decode cL_revoke 20 = .ok (.iconst 1, 1) := by decide +kernel
theorem dL_revoke_21 : decode cL_revoke 21 = .ok (.ireturn, 1) := by decide +kernel
theorem dL_revoke_22 : decode cL_revoke 22 = .ok (.iconst 0, 1) := by decide +kernel
theorem dL_revoke_23 : decode cL_revoke 23 = .ok (.ireturn, 1) := by decide +kernel
theorem dL_alter_0 : decode cL_alter 0 = .ok (.aload_n 3, 1) := by decide +kernel
theorem dL_alter_1 : decode cL_alter 1 = .ok (.iconst 0, 1) := by decide +kernel
theorem dL_alter_2 : decode cL_alter 2 = .ok (.aload_n 0, 1) := by decide +kernel
theorem dL_alter_3 : decode cL_alter 3 = .ok (.iload_n 1, 1) := by decide +kernel
theorem dL_alter_4 : decode cL_alter 4 = .ok (.iload_n 2, 1) := by decide +kernel
theorem dL_alter_5 : decode cL_alter 5 = .ok (.invokevirtual 48, 3) := by decide +kernel
theorem dL_alter_8 : decode cL_alter 8 = .ok (.i2l, 1) := by decide +kernel
theorem dL_alter_9 : decode cL_alter 9 = .ok (.lastore, 1) := by decide +kernel
theorem dL_alter_10 : decode cL_alter 10 = .ok (.goto 15, 3) := by decide +kernel
theorem dL_alter_13 : decode cL_alter 13 = .ok (.astore 4, 2) := by decide +kernel
theorem dL_alter_15 : decode cL_alter 15 = .ok (.iconst 1, 1) := by decide +kernel
theorem dL_alter_16 : decode cL_alter 16 = .ok (.ireturn, 1) := by decide +kernel
theorem dL_alter_17 : decode cL_alter 17 = .ok (.astore 4, 2) := by decide +kernel
theorem dL_alter_19 : decode cL_alter 19 = .ok (.iconst 2, 1) := by decide +kernel
theorem dL_alter_20 : decode cL_alter 20 = .ok (.ireturn, 1) := by decide +kernel
theorem dL_alter_21 : decode cL_alter 21 = .ok (.astore 4, 2) := by decide +kernel
theorem dL_alter_23 : decode cL_alter 23 = .ok (.iconst 3, 1) := by decide +kernel
theorem dL_alter_24 : decode cL_alter 24 = .ok (.ireturn, 1) := by decide +kernel
theorem dL_alter_25 : decode cL_alter 25 = .ok (.iconst 0, 1) := by decide +kernel
theorem dL_alter_26 : decode cL_alter 26 = .ok (.ireturn, 1) := by decide +kernel
theorem dL_sign_0 : decode cL_sign 0 = .ok (.aload_n 2, 1) := by decide +kernel
theorem dL_sign_1 : decode cL_sign 1 = .ok (.iconst 0, 1) := by decide +kernel
theorem dL_sign_2 : decode cL_sign 2 = .ok (.aload_n 0, 1) := by decide +kernel
theorem dL_sign_3 : decode cL_sign 3 = .ok (.iload_n 1, 1) := by decide +kernel
theorem dL_sign_4 : decode cL_sign 4 = .ok (.invokevirtual 51, 3) := by decide +kernel
theorem dL_sign_7 : decode cL_sign 7 = .ok (.i2l, 1) := by decide +kernel
theorem dL_sign_8 : decode cL_sign 8 = .ok (.lastore, 1) := by decide +kernel
theorem dL_sign_9 : decode cL_sign 9 = .ok (.goto 6, 3) := by decide +kernel
theorem dL_sign_12 : decode cL_sign 12 = .ok (.astore_n 3, 1) := by decide +kernel
theorem dL_sign_13 : decode cL_sign 13 = .ok (.iconst 1, 1) := by decide +kernel
theorem dL_sign_14 : decode cL_sign 14 = .ok (.ireturn, 1) := by decide +kernel
theorem dL_sign_15 : decode cL_sign 15 = .ok (.iconst 0, 1) := by decide +kernel
theorem dL_sign_16 : decode cL_sign 16 = .ok (.ireturn, 1) := by decide +kernel
theorem dL_hop_0 : decode cL_hop 0 = .ok (.aload_n 2, 1) := by decide +kernel
theorem dL_hop_1 : decode cL_hop 1 = .ok (.iconst 0, 1) := by decide +kernel
theorem dL_hop_2 : decode cL_hop 2 = .ok (.aload_n 0, 1) := by decide +kernel
theorem dL_hop_3 : decode cL_hop 3 = .ok (.iload_n 1, 1) := by decide +kernel
theorem dL_hop_4 : decode cL_hop 4 = .ok (.invokevirtual 54, 3) := by decide +kernel
theorem dL_hop_7 : decode cL_hop 7 = .ok (.i2l, 1) := by decide +kernel
theorem dL_hop_8 : decode cL_hop 8 = .ok (.lastore, 1) := by decide +kernel
theorem dL_hop_9 : decode cL_hop 9 = .ok (.goto 9, 3) := by decide +kernel
theorem dL_hop_12 : decode cL_hop 12 = .ok (.astore_n 3, 1) := by decide +kernel
theorem dL_hop_13 : decode cL_hop 13 = .ok (.iconst 1, 1) := by decide +kernel
theorem dL_hop_14 : decode cL_hop 14 = .ok (.ireturn, 1) := by decide +kernel
theorem dL_hop_15 : decode cL_hop 15 = .ok (.astore_n 3, 1) := by decide +kernel
theorem dL_hop_16 : decode cL_hop 16 = .ok (.iconst 2, 1) := by decide +kernel
theorem dL_hop_17 : decode cL_hop 17 = .ok (.ireturn, 1) := by decide +kernel
theorem dL_hop_18 : decode cL_hop 18 = .ok (.iconst 0, 1) := by decide +kernel
theorem dL_hop_19 : decode cL_hop 19 = .ok (.ireturn, 1) := by decide +kernel
theorem dL_hear_0 : decode cL_hear 0 = .ok (.aload_n 3, 1) := by decide +kernel
theorem dL_hear_1 : decode cL_hear 1 = .ok (.iconst 0, 1) := by decide +kernel
theorem dL_hear_2 : decode cL_hear 2 = .ok (.aload_n 0, 1) := by decide +kernel
theorem dL_hear_3 : decode cL_hear 3 = .ok (.iload_n 1, 1) := by decide +kernel
theorem dL_hear_4 : decode cL_hear 4 = .ok (.iload_n 2, 1) := by decide +kernel
theorem dL_hear_5 : decode cL_hear 5 = .ok (.invokevirtual 57, 3) := by decide +kernel
theorem dL_hear_8 : decode cL_hear 8 = .ok (.i2l, 1) := by decide +kernel
theorem dL_hear_9 : decode cL_hear 9 = .ok (.lastore, 1) := by decide +kernel
theorem dL_hear_10 : decode cL_hear 10 = .ok (.goto 11, 3) := by decide +kernel
theorem dL_hear_13 : decode cL_hear 13 = .ok (.astore 4, 2) := by decide +kernel
theorem dL_hear_15 : decode cL_hear 15 = .ok (.iconst 1, 1) := by decide +kernel
theorem dL_hear_16 : decode cL_hear 16 = .ok (.ireturn, 1) := by decide +kernel
theorem dL_hear_17 : decode cL_hear 17 = .ok (.astore 4, 2) := by decide +kernel
theorem dL_hear_19 : decode cL_hear 19 = .ok (.iconst 2, 1) := by decide +kernel
theorem dL_hear_20 : decode cL_hear 20 = .ok (.ireturn, 1) := by decide +kernel
theorem dL_hear_21 : decode cL_hear 21 = .ok (.iconst 0, 1) := by decide +kernel
theorem dL_hear_22 : decode cL_hear 22 = .ok (.ireturn, 1) := by decide +kernel
theorem dL_withdraw_0 : decode cL_withdraw 0 = .ok (.aload_n 2, 1) := by decide +kernel
theorem dL_withdraw_1 : decode cL_withdraw 1 = .ok (.iconst 0, 1) := by decide +kernel
theorem dL_withdraw_2 : decode cL_withdraw 2 = .ok (.aload_n 0, 1) := by decide +kernel
theorem dL_withdraw_3 : decode cL_withdraw 3 = .ok (.iload_n 1, 1) := by decide +kernel
theorem dL_withdraw_4 : decode cL_withdraw 4 = .ok (.invokevirtual 60, 3) := by decide +kernel
theorem dL_withdraw_7 : decode cL_withdraw 7 = .ok (.i2l, 1) := by decide +kernel
theorem dL_withdraw_8 : decode cL_withdraw 8 = .ok (.lastore, 1) := by decide +kernel
theorem dL_withdraw_9 : decode cL_withdraw 9 = .ok (.goto 9, 3) := by decide +kernel
theorem dL_withdraw_12 : decode cL_withdraw 12 = .ok (.astore_n 3, 1) := by decide +kernel
theorem dL_withdraw_13 : decode cL_withdraw 13 = .ok (.iconst 1, 1) := by decide +kernel
theorem dL_withdraw_14 : decode cL_withdraw 14 = .ok (.ireturn, 1) := by decide +kernel
theorem dL_withdraw_15 : decode cL_withdraw 15 = .ok (.astore_n 3, 1) := by decide +kernel
theorem dL_withdraw_16 : decode cL_withdraw 16 = .ok (.iconst 2, 1) := by decide +kernel
theorem dL_withdraw_17 : decode cL_withdraw 17 = .ok (.ireturn, 1) := by decide +kernel
theorem dL_withdraw_18 : decode cL_withdraw 18 = .ok (.iconst 0, 1) := by decide +kernel
theorem dL_withdraw_19 : decode cL_withdraw 19 = .ok (.ireturn, 1) := by decide +kernel
theorem dL_tie_0 : decode cL_tie 0 = .ok (.aload 4, 2) := by decide +kernel
theorem dL_tie_2 : decode cL_tie 2 = .ok (.iconst 0, 1) := by decide +kernel
theorem dL_tie_3 : decode cL_tie 3 = .ok (.aload_n 0, 1) := by decide +kernel
theorem dL_tie_4 : decode cL_tie 4 = .ok (.iload_n 1, 1) := by decide +kernel
theorem dL_tie_5 : decode cL_tie 5 = .ok (.iload_n 2, 1) := by decide +kernel
theorem dL_tie_6 : decode cL_tie 6 = .ok (.iload_n 3, 1) := by decide +kernel
theorem dL_tie_7 : decode cL_tie 7 = .ok (.invokevirtual 63, 3) := by decide +kernel
theorem dL_tie_10 : decode cL_tie 10 = .ok (.i2l, 1) := by decide +kernel
theorem dL_tie_11 : decode cL_tie 11 = .ok (.lastore, 1) := by decide +kernel
theorem dL_tie_12 : decode cL_tie 12 = .ok (.goto 11, 3) := by decide +kernel
theorem dL_tie_15 : decode cL_tie 15 = .ok (.astore 5, 2) := by decide +kernel
theorem dL_tie_17 : decode cL_tie 17 = .ok (.iconst 1, 1) := by decide +kernel
theorem dL_tie_18 : decode cL_tie 18 = .ok (.ireturn, 1) := by decide +kernel
theorem dL_tie_19 : decode cL_tie 19 = .ok (.astore 5, 2) := by decide +kernel
theorem dL_tie_21 : decode cL_tie 21 = .ok (.iconst 2, 1) := by decide +kernel
theorem dL_tie_22 : decode cL_tie 22 = .ok (.ireturn, 1) := by decide +kernel
theorem dL_tie_23 : decode cL_tie 23 = .ok (.iconst 0, 1) := by decide +kernel
theorem dL_tie_24 : decode cL_tie 24 = .ok (.ireturn, 1) := by decide +kernel
theorem dL_judged_0 : decode cL_judged 0 = .ok (.aload_n 2, 1) := by decide +kernel
theorem dL_judged_1 : decode cL_judged 1 = .ok (.iconst 0, 1) := by decide +kernel
theorem dL_judged_2 : decode cL_judged 2 = .ok (.aload_n 0, 1) := by decide +kernel
theorem dL_judged_3 : decode cL_judged 3 = .ok (.iload_n 1, 1) := by decide +kernel
theorem dL_judged_4 : decode cL_judged 4 = .ok (.invokevirtual 67, 3) := by decide +kernel
theorem dL_judged_7 : decode cL_judged 7 = .ok (.i2l, 1) := by decide +kernel
theorem dL_judged_8 : decode cL_judged 8 = .ok (.lastore, 1) := by decide +kernel
theorem dL_judged_9 : decode cL_judged 9 = .ok (.goto 6, 3) := by decide +kernel
theorem dL_judged_12 : decode cL_judged 12 = .ok (.astore_n 3, 1) := by decide +kernel
theorem dL_judged_13 : decode cL_judged 13 = .ok (.iconst 1, 1) := by decide +kernel
theorem dL_judged_14 : decode cL_judged 14 = .ok (.ireturn, 1) := by decide +kernel
theorem dL_judged_15 : decode cL_judged 15 = .ok (.iconst 0, 1) := by decide +kernel
theorem dL_judged_16 : decode cL_judged 16 = .ok (.ireturn, 1) := by decide +kernel
theorem dL_has_0 : decode cL_has 0 = .ok (.aload 4, 2) := by decide +kernel
theorem dL_has_2 : decode cL_has 2 = .ok (.iconst 0, 1) := by decide +kernel
theorem dL_has_3 : decode cL_has 3 = .ok (.aload_n 0, 1) := by decide +kernel
theorem dL_has_4 : decode cL_has 4 = .ok (.iload_n 1, 1) := by decide +kernel
theorem dL_has_5 : decode cL_has 5 = .ok (.iload_n 2, 1) := by decide +kernel
theorem dL_has_6 : decode cL_has 6 = .ok (.iload_n 3, 1) := by decide +kernel
theorem dL_has_7 : decode cL_has 7 = .ok (.invokevirtual 70, 3) := by decide +kernel
theorem dL_has_10 : decode cL_has 10 = .ok (.ifCond .eq 7, 3) := by decide +kernel
theorem dL_has_13 : decode cL_has 13 = .ok (.lconst 1, 1) := by decide +kernel
theorem dL_has_14 : decode cL_has 14 = .ok (.goto 4, 3) := by decide +kernel
theorem dL_has_17 : decode cL_has 17 = .ok (.lconst 0, 1) := by decide +kernel
theorem dL_has_18 : decode cL_has 18 = .ok (.lastore, 1) := by decide +kernel
theorem dL_has_19 : decode cL_has 19 = .ok (.goto 11, 3) := by decide +kernel
theorem dL_has_22 : decode cL_has 22 = .ok (.astore 5, 2) := by decide +kernel
theorem dL_has_24 : decode cL_has 24 = .ok (.iconst 1, 1) := by decide +kernel
theorem dL_has_25 : decode cL_has 25 = .ok (.ireturn, 1) := by decide +kernel
theorem dL_has_26 : decode cL_has 26 = .ok (.astore 5, 2) := by decide +kernel
theorem dL_has_28 : decode cL_has 28 = .ok (.iconst 2, 1) := by decide +kernel
theorem dL_has_29 : decode cL_has 29 = .ok (.ireturn, 1) := by decide +kernel
theorem dL_has_30 : decode cL_has 30 = .ok (.iconst 0, 1) := by decide +kernel
theorem dL_has_31 : decode cL_has 31 = .ok (.ireturn, 1) := by decide +kernel
theorem dL_hasByChains_0 : decode cL_hasByChains 0 = .ok (.aload 4, 2) := by decide +kernel
theorem dL_hasByChains_2 : decode cL_hasByChains 2 = .ok (.iconst 0, 1) := by decide +kernel
theorem dL_hasByChains_3 : decode cL_hasByChains 3 = .ok (.aload_n 0, 1) := by decide +kernel
theorem dL_hasByChains_4 : decode cL_hasByChains 4 = .ok (.iload_n 1, 1) := by decide +kernel
theorem dL_hasByChains_5 : decode cL_hasByChains 5 = .ok (.iload_n 2, 1) := by decide +kernel
theorem dL_hasByChains_6 : decode cL_hasByChains 6 = .ok (.iload_n 3, 1) := by decide +kernel
theorem dL_hasByChains_7 : decode cL_hasByChains 7 = .ok (.invokevirtual 74, 3) := by decide +kernel
theorem dL_hasByChains_10 : decode cL_hasByChains 10 = .ok (.ifCond .eq 7, 3) := by decide +kernel
theorem dL_hasByChains_13 : decode cL_hasByChains 13 = .ok (.lconst 1, 1) := by decide +kernel
theorem dL_hasByChains_14 : decode cL_hasByChains 14 = .ok (.goto 4, 3) := by decide +kernel
theorem dL_hasByChains_17 : decode cL_hasByChains 17 = .ok (.lconst 0, 1) := by decide +kernel
theorem dL_hasByChains_18 : decode cL_hasByChains 18 = .ok (.lastore, 1) := by decide +kernel
theorem dL_hasByChains_19 : decode cL_hasByChains 19 = .ok (.goto 11, 3) := by decide +kernel
theorem dL_hasByChains_22 : decode cL_hasByChains 22 = .ok (.astore 5, 2) := by decide +kernel
theorem dL_hasByChains_24 : decode cL_hasByChains 24 = .ok (.iconst 1, 1) := by decide +kernel
theorem dL_hasByChains_25 : decode cL_hasByChains 25 = .ok (.ireturn, 1) := by decide +kernel
theorem dL_hasByChains_26 : decode cL_hasByChains 26 = .ok (.astore 5, 2) := by decide +kernel
theorem dL_hasByChains_28 : decode cL_hasByChains 28 = .ok (.iconst 2, 1) := by decide +kernel
theorem dL_hasByChains_29 : decode cL_hasByChains 29 = .ok (.ireturn, 1) := by decide +kernel
theorem dL_hasByChains_30 : decode cL_hasByChains 30 = .ok (.iconst 0, 1) := by decide +kernel
theorem dL_hasByChains_31 : decode cL_hasByChains 31 = .ok (.ireturn, 1) := by decide +kernel
theorem dL_state_0 : decode cL_state 0 = .ok (.aload 4, 2) := by decide +kernel
theorem dL_state_2 : decode cL_state 2 = .ok (.iconst 0, 1) := by decide +kernel
theorem dL_state_3 : decode cL_state 3 = .ok (.aload_n 0, 1) := by decide +kernel
theorem dL_state_4 : decode cL_state 4 = .ok (.iload_n 1, 1) := by decide +kernel
theorem dL_state_5 : decode cL_state 5 = .ok (.iload_n 2, 1) := by decide +kernel
theorem dL_state_6 : decode cL_state 6 = .ok (.iload_n 3, 1) := by decide +kernel
theorem dL_state_7 : decode cL_state 7 = .ok (.invokevirtual 77, 3) := by decide +kernel
theorem dL_state_10 : decode cL_state 10 = .ok (.i2l, 1) := by decide +kernel
theorem dL_state_11 : decode cL_state 11 = .ok (.lastore, 1) := by decide +kernel
theorem dL_state_12 : decode cL_state 12 = .ok (.goto 11, 3) := by decide +kernel
theorem dL_state_15 : decode cL_state 15 = .ok (.astore 5, 2) := by decide +kernel
theorem dL_state_17 : decode cL_state 17 = .ok (.iconst 1, 1) := by decide +kernel
theorem dL_state_18 : decode cL_state 18 = .ok (.ireturn, 1) := by decide +kernel
theorem dL_state_19 : decode cL_state 19 = .ok (.astore 5, 2) := by decide +kernel
theorem dL_state_21 : decode cL_state 21 = .ok (.iconst 2, 1) := by decide +kernel
theorem dL_state_22 : decode cL_state 22 = .ok (.ireturn, 1) := by decide +kernel
theorem dL_state_23 : decode cL_state 23 = .ok (.iconst 0, 1) := by decide +kernel
theorem dL_state_24 : decode cL_state 24 = .ok (.ireturn, 1) := by decide +kernel
theorem dL_path_0 : decode cL_path 0 = .ok (.aload_n 3, 1) := by decide +kernel
theorem dL_path_1 : decode cL_path 1 = .ok (.iconst 0, 1) := by decide +kernel
theorem dL_path_2 : decode cL_path 2 = .ok (.aload_n 0, 1) := by decide +kernel
theorem dL_path_3 : decode cL_path 3 = .ok (.iload_n 1, 1) := by decide +kernel
theorem dL_path_4 : decode cL_path 4 = .ok (.iload_n 2, 1) := by decide +kernel
theorem dL_path_5 : decode cL_path 5 = .ok (.invokevirtual 80, 3) := by decide +kernel
theorem dL_path_8 : decode cL_path 8 = .ok (.i2l, 1) := by decide +kernel
theorem dL_path_9 : decode cL_path 9 = .ok (.lastore, 1) := by decide +kernel
theorem dL_path_10 : decode cL_path 10 = .ok (.goto 7, 3) := by decide +kernel
theorem dL_path_13 : decode cL_path 13 = .ok (.astore 4, 2) := by decide +kernel
theorem dL_path_15 : decode cL_path 15 = .ok (.iconst 1, 1) := by decide +kernel
theorem dL_path_16 : decode cL_path 16 = .ok (.ireturn, 1) := by decide +kernel
theorem dL_path_17 : decode cL_path 17 = .ok (.iconst 0, 1) := by decide +kernel
theorem dL_path_18 : decode cL_path 18 = .ok (.ireturn, 1) := by decide +kernel
theorem dL_leak_0 : decode cL_leak 0 = .ok (.aload_n 2, 1) := by decide +kernel
theorem dL_leak_1 : decode cL_leak 1 = .ok (.iconst 0, 1) := by decide +kernel
theorem dL_leak_2 : decode cL_leak 2 = .ok (.aload_n 0, 1) := by decide +kernel
theorem dL_leak_3 : decode cL_leak 3 = .ok (.iload_n 1, 1) := by decide +kernel
theorem dL_leak_4 : decode cL_leak 4 = .ok (.invokevirtual 84, 3) := by decide +kernel
theorem dL_leak_7 : decode cL_leak 7 = .ok (.i2l, 1) := by decide +kernel
theorem dL_leak_8 : decode cL_leak 8 = .ok (.lastore, 1) := by decide +kernel
theorem dL_leak_9 : decode cL_leak 9 = .ok (.goto 6, 3) := by decide +kernel
theorem dL_leak_12 : decode cL_leak 12 = .ok (.astore_n 3, 1) := by decide +kernel
theorem dL_leak_13 : decode cL_leak 13 = .ok (.iconst 1, 1) := by decide +kernel
theorem dL_leak_14 : decode cL_leak 14 = .ok (.ireturn, 1) := by decide +kernel
theorem dL_leak_15 : decode cL_leak 15 = .ok (.iconst 0, 1) := by decide +kernel
theorem dL_leak_16 : decode cL_leak 16 = .ok (.ireturn, 1) := by decide +kernel
theorem dL_stopped_0 : decode cL_stopped 0 = .ok (.aload_n 3, 1) := by decide +kernel
theorem dL_stopped_1 : decode cL_stopped 1 = .ok (.iconst 0, 1) := by decide +kernel
theorem dL_stopped_2 : decode cL_stopped 2 = .ok (.aload_n 0, 1) := by decide +kernel
theorem dL_stopped_3 : decode cL_stopped 3 = .ok (.iload_n 1, 1) := by decide +kernel
theorem dL_stopped_4 : decode cL_stopped 4 = .ok (.iload_n 2, 1) := by decide +kernel
theorem dL_stopped_5 : decode cL_stopped 5 = .ok (.invokevirtual 87, 3) := by decide +kernel
theorem dL_stopped_8 : decode cL_stopped 8 = .ok (.i2l, 1) := by decide +kernel
theorem dL_stopped_9 : decode cL_stopped 9 = .ok (.lastore, 1) := by decide +kernel
theorem dL_stopped_10 : decode cL_stopped 10 = .ok (.goto 11, 3) := by decide +kernel
theorem dL_stopped_13 : decode cL_stopped 13 = .ok (.astore 4, 2) := by decide +kernel
theorem dL_stopped_15 : decode cL_stopped 15 = .ok (.iconst 1, 1) := by decide +kernel
theorem dL_stopped_16 : decode cL_stopped 16 = .ok (.ireturn, 1) := by decide +kernel
theorem dL_stopped_17 : decode cL_stopped 17 = .ok (.astore 4, 2) := by decide +kernel
theorem dL_stopped_19 : decode cL_stopped 19 = .ok (.iconst 2, 1) := by decide +kernel
theorem dL_stopped_20 : decode cL_stopped 20 = .ok (.ireturn, 1) := by decide +kernel
theorem dL_stopped_21 : decode cL_stopped 21 = .ok (.iconst 0, 1) := by decide +kernel
theorem dL_stopped_22 : decode cL_stopped 22 = .ok (.ireturn, 1) := by decide +kernel
theorem dL_allowed_0 : decode cL_allowed 0 = .ok (.aload_n 3, 1) := by decide +kernel
theorem dL_allowed_1 : decode cL_allowed 1 = .ok (.iconst 0, 1) := by decide +kernel
theorem dL_allowed_2 : decode cL_allowed 2 = .ok (.aload_n 0, 1) := by decide +kernel
theorem dL_allowed_3 : decode cL_allowed 3 = .ok (.iload_n 1, 1) := by decide +kernel
theorem dL_allowed_4 : decode cL_allowed 4 = .ok (.iload_n 2, 1) := by decide +kernel
theorem dL_allowed_5 : decode cL_allowed 5 = .ok (.invokevirtual 90, 3) := by decide +kernel
theorem dL_allowed_8 : decode cL_allowed 8 = .ok (.i2l, 1) := by decide +kernel
theorem dL_allowed_9 : decode cL_allowed 9 = .ok (.lastore, 1) := by decide +kernel
theorem dL_allowed_10 : decode cL_allowed 10 = .ok (.goto 7, 3) := by decide +kernel
theorem dL_allowed_13 : decode cL_allowed 13 = .ok (.astore 4, 2) := by decide +kernel
theorem dL_allowed_15 : decode cL_allowed 15 = .ok (.iconst 1, 1) := by decide +kernel
theorem dL_allowed_16 : decode cL_allowed 16 = .ok (.ireturn, 1) := by decide +kernel
theorem dL_allowed_17 : decode cL_allowed 17 = .ok (.iconst 0, 1) := by decide +kernel
theorem dL_allowed_18 : decode cL_allowed 18 = .ok (.ireturn, 1) := by decide +kernel
theorem dL_inferred_0 : decode cL_inferred 0 = .ok (.aload 4, 2) := by decide +kernel
theorem dL_inferred_2 : decode cL_inferred 2 = .ok (.iconst 0, 1) := by decide +kernel
theorem dL_inferred_3 : decode cL_inferred 3 = .ok (.aload_n 0, 1) := by decide +kernel
theorem dL_inferred_4 : decode cL_inferred 4 = .ok (.iload_n 1, 1) := by decide +kernel
theorem dL_inferred_5 : decode cL_inferred 5 = .ok (.iload_n 2, 1) := by decide +kernel
theorem dL_inferred_6 : decode cL_inferred 6 = .ok (.iload_n 3, 1) := by decide +kernel
theorem dL_inferred_7 : decode cL_inferred 7 = .ok (.invokevirtual 93, 3) := by decide +kernel
theorem dL_inferred_10 : decode cL_inferred 10 = .ok (.i2l, 1) := by decide +kernel
theorem dL_inferred_11 : decode cL_inferred 11 = .ok (.lastore, 1) := by decide +kernel
theorem dL_inferred_12 : decode cL_inferred 12 = .ok (.goto 7, 3) := by decide +kernel
theorem dL_inferred_15 : decode cL_inferred 15 = .ok (.astore 5, 2) := by decide +kernel
theorem dL_inferred_17 : decode cL_inferred 17 = .ok (.iconst 1, 1) := by decide +kernel
theorem dL_inferred_18 : decode cL_inferred 18 = .ok (.ireturn, 1) := by decide +kernel
theorem dL_inferred_19 : decode cL_inferred 19 = .ok (.iconst 0, 1) := by decide +kernel
theorem dL_inferred_20 : decode cL_inferred 20 = .ok (.ireturn, 1) := by decide +kernel
theorem dL_cone_0 : decode cL_cone 0 = .ok (.aload_n 2, 1) := by decide +kernel
theorem dL_cone_1 : decode cL_cone 1 = .ok (.iconst 0, 1) := by decide +kernel
theorem dL_cone_2 : decode cL_cone 2 = .ok (.aload_n 0, 1) := by decide +kernel
theorem dL_cone_3 : decode cL_cone 3 = .ok (.iload_n 1, 1) := by decide +kernel
theorem dL_cone_4 : decode cL_cone 4 = .ok (.invokevirtual 96, 3) := by decide +kernel
theorem dL_cone_7 : decode cL_cone 7 = .ok (.i2l, 1) := by decide +kernel
theorem dL_cone_8 : decode cL_cone 8 = .ok (.lastore, 1) := by decide +kernel
theorem dL_cone_9 : decode cL_cone 9 = .ok (.goto 6, 3) := by decide +kernel
theorem dL_cone_12 : decode cL_cone 12 = .ok (.astore_n 3, 1) := by decide +kernel
theorem dL_cone_13 : decode cL_cone 13 = .ok (.iconst 1, 1) := by decide +kernel
theorem dL_cone_14 : decode cL_cone 14 = .ok (.ireturn, 1) := by decide +kernel
theorem dL_cone_15 : decode cL_cone 15 = .ok (.iconst 0, 1) := by decide +kernel
theorem dL_cone_16 : decode cL_cone 16 = .ok (.ireturn, 1) := by decide +kernel
theorem dL_coneByPaths_0 : decode cL_coneByPaths 0 = .ok (.aload_n 2, 1) := by decide +kernel
theorem dL_coneByPaths_1 : decode cL_coneByPaths 1 = .ok (.iconst 0, 1) := by decide +kernel
theorem dL_coneByPaths_2 : decode cL_coneByPaths 2 = .ok (.aload_n 0, 1) := by decide +kernel
theorem dL_coneByPaths_3 : decode cL_coneByPaths 3 = .ok (.iload_n 1, 1) := by decide +kernel
theorem dL_coneByPaths_4 : decode cL_coneByPaths 4 = .ok (.invokevirtual 99, 3) := by decide +kernel
theorem dL_coneByPaths_7 : decode cL_coneByPaths 7 = .ok (.i2l, 1) := by decide +kernel
theorem dL_coneByPaths_8 : decode cL_coneByPaths 8 = .ok (.lastore, 1) := by decide +kernel
theorem dL_coneByPaths_9 : decode cL_coneByPaths 9 = .ok (.goto 6, 3) := by decide +kernel
theorem dL_coneByPaths_12 : decode cL_coneByPaths 12 = .ok (.astore_n 3, 1) := by decide +kernel
theorem dL_coneByPaths_13 : decode cL_coneByPaths 13 = .ok (.iconst 1, 1) := by decide +kernel
theorem dL_coneByPaths_14 : decode cL_coneByPaths 14 = .ok (.ireturn, 1) := by decide +kernel
theorem dL_coneByPaths_15 : decode cL_coneByPaths 15 = .ok (.iconst 0, 1) := by decide +kernel
theorem dL_coneByPaths_16 : decode cL_coneByPaths 16 = .ok (.ireturn, 1) := by decide +kernel
theorem dL_addresses_0 : decode cL_addresses 0 = .ok (.aload_n 2, 1) := by decide +kernel
theorem dL_addresses_1 : decode cL_addresses 1 = .ok (.iconst 0, 1) := by decide +kernel
theorem dL_addresses_2 : decode cL_addresses 2 = .ok (.aload_n 0, 1) := by decide +kernel
theorem dL_addresses_3 : decode cL_addresses 3 = .ok (.iload_n 1, 1) := by decide +kernel
theorem dL_addresses_4 : decode cL_addresses 4 = .ok (.invokevirtual 102, 3) := by decide +kernel
theorem dL_addresses_7 : decode cL_addresses 7 = .ok (.i2l, 1) := by decide +kernel
theorem dL_addresses_8 : decode cL_addresses 8 = .ok (.lastore, 1) := by decide +kernel
theorem dL_addresses_9 : decode cL_addresses 9 = .ok (.goto 6, 3) := by decide +kernel
theorem dL_addresses_12 : decode cL_addresses 12 = .ok (.astore_n 3, 1) := by decide +kernel
theorem dL_addresses_13 : decode cL_addresses 13 = .ok (.iconst 1, 1) := by decide +kernel
theorem dL_addresses_14 : decode cL_addresses 14 = .ok (.ireturn, 1) := by decide +kernel
theorem dL_addresses_15 : decode cL_addresses 15 = .ok (.iconst 0, 1) := by decide +kernel
theorem dL_addresses_16 : decode cL_addresses 16 = .ok (.ireturn, 1) := by decide +kernel
theorem dL_law_0 : decode cL_law 0 = .ok (.new 8, 3) := by decide +kernel
theorem dL_law_3 : decode cL_law 3 = .ok (.dup, 1) := by decide +kernel
theorem dL_law_4 : decode cL_law 4 = .ok (.invokespecial 105, 3) := by decide +kernel
theorem dL_law_7 : decode cL_law 7 = .ok (.astore_n 1, 1) := by decide +kernel
theorem dL_law_8 : decode cL_law 8 = .ok (.new 106, 3) := by decide +kernel
theorem dL_law_11 : decode cL_law 11 = .ok (.dup, 1) := by decide +kernel
theorem dL_law_12 : decode cL_law 12 = .ok (.invokespecial 108, 3) := by decide +kernel
theorem dL_law_15 : decode cL_law 15 = .ok (.astore_n 2, 1) := by decide +kernel
theorem dL_law_16 : decode cL_law 16 = .ok (.iconst 1, 1) := by decide +kernel
theorem dL_law_17 : decode cL_law 17 = .ok (.newarray .long, 2) := by decide +kernel
theorem dL_law_19 : decode cL_law 19 = .ok (.astore_n 3, 1) := by decide +kernel
theorem dL_law_20 : decode cL_law 20 = .ok (.iconst 0, 1) := by decide +kernel
theorem dL_law_21 : decode cL_law 21 = .ok (.istore 4, 2) := by decide +kernel
theorem dL_law_23 : decode cL_law 23 = .ok (.iload 4, 2) := by decide +kernel
theorem dL_law_25 : decode cL_law 25 = .ok (.aload_n 0, 1) := by decide +kernel
theorem dL_law_26 : decode cL_law 26 = .ok (.arraylength, 1) := by decide +kernel
theorem dL_law_27 : decode cL_law 27 = .ok (.bipush 7, 2) := by decide +kernel
theorem dL_law_29 : decode cL_law 29 = .ok (.isub, 1) := by decide +kernel
theorem dL_law_30 : decode cL_law 30 = .ok (.if_icmp .gt 2124, 3) := by decide +kernel
theorem dL_law_33 : decode cL_law 33 = .ok (.aload_n 0, 1) := by decide +kernel
theorem dL_law_34 : decode cL_law 34 = .ok (.iload 4, 2) := by decide +kernel
theorem dL_law_36 : decode cL_law 36 = .ok (.iaload, 1) := by decide +kernel
theorem dL_law_37 : decode cL_law 37 = .ok (.bipush 31, 2) := by decide +kernel
theorem dL_law_39 : decode cL_law 39 = .ok (.iand, 1) := by decide +kernel
theorem dL_law_40 : decode cL_law 40 = .ok (.tableswitch 2108 0 31 #[144, 200, 268, 324, 392, 448, 552, 670, 762, 825, 893, 949, 1005, 1073, 1129, 1209, 1222, 1235, 1291, 1378, 1465, 1545, 1558, 1642, 1698, 1766, 1834, 1847, 1860, 1940, 1996, 2052], 144) := by decide +kernel
theorem dL_law_184 : decode cL_law 184 = .ok (.aload_n 1, 1) := by decide +kernel
theorem dL_law_185 : decode cL_law 185 = .ok (.aload_n 0, 1) := by decide +kernel
theorem dL_law_186 : decode cL_law 186 = .ok (.iload 4, 2) := by decide +kernel
theorem dL_law_188 : decode cL_law 188 = .ok (.iconst 1, 1) := by decide +kernel
theorem dL_law_189 : decode cL_law 189 = .ok (.iadd, 1) := by decide +kernel
theorem dL_law_190 : decode cL_law 190 = .ok (.iaload, 1) := by decide +kernel
theorem dL_law_191 : decode cL_law 191 = .ok (.aload_n 3, 1) := by decide +kernel
theorem dL_law_192 : decode cL_law 192 = .ok (.invokestatic 109, 3) := by decide +kernel
theorem dL_law_195 : decode cL_law 195 = .ok (.istore 5, 2) := by decide +kernel
theorem dL_law_197 : decode cL_law 197 = .ok (.aload_n 2, 1) := by decide +kernel
theorem dL_law_198 : decode cL_law 198 = .ok (.aload_n 0, 1) := by decide +kernel
theorem dL_law_199 : decode cL_law 199 = .ok (.iload 4, 2) := by decide +kernel
theorem dL_law_201 : decode cL_law 201 = .ok (.iconst 1, 1) := by decide +kernel
theorem dL_law_202 : decode cL_law 202 = .ok (.iadd, 1) := by decide +kernel
theorem dL_law_203 : decode cL_law 203 = .ok (.iaload, 1) := by decide +kernel
theorem dL_law_204 : decode cL_law 204 = .ok (.invokevirtual 114, 3) := by decide +kernel
theorem dL_law_207 : decode cL_law 207 = .ok (.istore 6, 2) := by decide +kernel
theorem dL_law_209 : decode cL_law 209 = .ok (.aload_n 2, 1) := by decide +kernel
theorem dL_law_210 : decode cL_law 210 = .ok (.invokevirtual 115, 3) := by decide +kernel
theorem dL_law_213 : decode cL_law 213 = .ok (.iload 5, 2) := by decide +kernel
theorem dL_law_215 : decode cL_law 215 = .ok (.if_icmp .eq 5, 3) := by decide +kernel
theorem dL_law_218 : decode cL_law 218 = .ok (.iconst 0, 1) := by decide +kernel
theorem dL_law_219 : decode cL_law 219 = .ok (.ireturn, 1) := by decide +kernel
theorem dL_law_220 : decode cL_law 220 = .ok (.iload 5, 2) := by decide +kernel
theorem dL_law_222 : decode cL_law 222 = .ok (.ifCond .ne 15, 3) := by decide +kernel
end
section
/-! The memory: X p i is the int in field or element i of the cell at place p. The layout of the world is fixed: sh. -/
abbrev Mem : Type := Nat → Nat → Int32
abbrev Sh : Type := (Nat × Nat) ⊕ (Nat × List (Option Nat))
/-- the setting: numbers of the classes and slots, the address of each place, the array classes of int, boolean, long, int[] -/
abbrev Wt : Type := va_G × (Nat → Nat) × ClassId × ClassId × ClassId × ClassId
def shL : List Sh := [
  .inr (8, [some 1, some 6, some 17, some 20, some 51, some 63, some 66, some 68]),
  .inr (3, [none, none, some 2, some 3, some 4, some 5]),
  .inl (0, 8),
  .inl (0, 8),
  .inl (0, 8),
  .inl (0, 10),
  .inr (6, [none, some 7, some 8, some 9, some 10, some 11, some 12, some 13, some 14, some 15, some 16]),
  .inl (0, 50),
  .inl (0, 50),
  .inl (0, 50),
  .inl (0, 50),
  .inl (0, 50),
  .inl (0, 50),
  .inl (0, 50),
  .inl (0, 50),
  .inl (1, 50),
  .inl (1, 50),
  .inr (1, [some 1, some 6, some 18, some 19]),
  .inl (0, 50),
  .inl (1, 50),
  .inr (5, [none, none, none, some 21, some 22, some 47, some 48, some 49, some 50]),
  .inl (0, 6),
  .inl (3, 24),
  .inl (0, 6),
  .inl (0, 6),
  .inl (0, 6),
  .inl (0, 6),
  .inl (0, 6),
  .inl (0, 6),
  .inl (0, 6),
  .inl (0, 6),
  .inl (0, 6),
  .inl (0, 6),
  .inl (0, 6),
  .inl (0, 6),
  .inl (0, 6),
  .inl (0, 6),
  .inl (0, 6),
  .inl (0, 6),
  .inl (0, 6),
  .inl (0, 6),
  .inl (0, 6),
  .inl (0, 6),
  .inl (0, 6),
  .inl (0, 6),
  .inl (0, 6),
  .inl (0, 6),
  .inl (0, 24),
  .inl (0, 24),
  .inl (0, 24),
  .inl (1, 24),
  .inr (7, [some 52]),
  .inl (3, 10),
  .inl (0, 10),
  .inl (0, 10),
  .inl (0, 10),
  .inl (0, 10),
  .inl (0, 10),
  .inl (0, 10),
  .inl (0, 10),
  .inl (0, 10),
  .inl (0, 10),
  .inl (0, 10),
  .inr (2, [some 51, some 64, some 65]),
  .inl (1, 10),
  .inl (0, 10),
  .inr (0, [some 51, some 63, some 67]),
  .inl (0, 5),
  .inr (4, [some 20, none, some 69, some 70, some 81]),
  .inl (0, 10),
  .inl (3, 10),
  .inl (0, 10),
  .inl (0, 10),
  .inl (0, 10),
  .inl (0, 10),
  .inl (0, 10),
  .inl (0, 10),
  .inl (0, 10),
  .inl (0, 10),
  .inl (0, 10),
  .inl (0, 10),
  .inl (3, 3),
  .inl (0, 10),
  .inl (0, 10),
  .inl (0, 10),
  .inr (9, [none, none, some 86, some 87, some 88, none, some 89, some 90, some 91, some 92, some 93, some 94, some 95, some 96, some 97, some 98, some 99, none, some 100, none, some 101, some 102, some 103, some 104, some 105, none, some 106, some 107, some 108, some 109, some 110, some 111, some 112, some 113, some 114, none, some 115]),
  .inl (0, 8),
  .inl (0, 8),
  .inl (0, 8),
  .inl (0, 10),
  .inl (0, 50),
  .inl (0, 50),
  .inl (0, 50),
  .inl (0, 50),
  .inl (0, 50),
  .inl (0, 50),
  .inl (0, 50),
  .inl (0, 50),
  .inl (1, 50),
  .inl (1, 50),
  .inl (0, 6),
  .inl (0, 144),
  .inl (0, 24),
  .inl (0, 24),
  .inl (0, 24),
  .inl (1, 24),
  .inl (0, 100),
  .inl (0, 50),
  .inl (0, 10),
  .inl (1, 10),
  .inl (0, 6),
  .inl (0, 10),
  .inl (0, 100),
  .inl (0, 100),
  .inl (0, 10),
  .inl (1, 256),
  .inl (2, 1)]
def sh (k : Nat) : Sh := shL.getD k (.inl (9, 0))
def vof (w : Wt) (X : Mem) (k j : Nat) (o : Option Nat) : Value := match o with | none => Value.int (X k j) | some q => Value.ref (w.2.1 q)
def vals (w : Wt) (X : Mem) (k : Nat) (fl : List (Option Nat)) : List Value := fl.mapIdx (fun j o => vof w X k j o)
def cel (w : Wt) (X : Mem) (k : Nat) : va_E := match sh k with
  | .inl (0, n) => .inl (w.2.2.1, n, .inl (X k))
  | .inl (1, n) => .inl (w.2.2.2.1, n, .inl (X k))
  | .inl (2, n) => .inl (w.2.2.2.2.1, n, .inr (.inl (fun i => (X k i).toInt64)))
  | .inl (_, n) => .inl (w.2.2.2.2.2, n, .inr (.inr (.inr (.inr (fun i => some (w.2.1 (k + 1 + i)))))))
  | .inr (ci, fl) => .inr (ci, vals w X k fl)
def wl (w : Wt) (X : Mem) : va_W := (List.range 117).map (fun k => (w.2.1 k, cel w X k))
def tysW (w : Wt) : List (ClassId × FieldType) := [(w.2.2.1, .int), (w.2.2.2.1, .boolean), (w.2.2.2.2.1, .long), (w.2.2.2.2.2, .array .int)]
theorem wl_at {w : Wt} {X : Mem} {k : Nat} (h : k < 117) : (wl w X)[k]? = some (w.2.1 k, cel w X k) := by
  unfold wl
  rw [List.getElem?_map, List.getElem?_range h]
  rfl
theorem wl_len (w : Wt) (X : Mem) : (wl w X).length = 117 := by simp [wl]
theorem wl_set {w : Wt} {X X' : Mem} {k : Nat} (h : k < 117) (hx : ∀ j, j ≠ k → cel w X' j = cel w X j) : (wl w X).set k (w.2.1 k, cel w X' k) = wl w X' := by
  apply List.ext_getElem?
  intro i
  by_cases hi : i < 117
  · rw [wl_at hi, List.getElem?_set]
    by_cases e : k = i
    · subst e
      rw [if_pos rfl, if_pos (by rw [wl_len]; exact h)]
    · rw [if_neg e, wl_at hi, hx i (fun q => e q.symm)]
  · rw [List.getElem?_eq_none (by rw [List.length_set, wl_len]; omega), List.getElem?_eq_none (by rw [wl_len]; omega)]
theorem cel_congr {w : Wt} {X X' : Mem} {k : Nat} (h : X' k = X k) : cel w X' k = cel w X k := by
  have e : ∀ (j : Nat) (o : Option Nat), vof w X' k j o = vof w X k j o := fun j o => by
    unfold vof
    rw [h]
  unfold cel vals
  simp only [h, e]
/-- the row at place p anew -/
def ma (X : Mem) (p : Nat) (f : Nat → Int32) : Mem := fun q => if q = p then f else X q
theorem ma_eq (X : Mem) (p : Nat) (f : Nat → Int32) : ma X p f p = f := if_pos rfl
theorem ma_ne {X : Mem} {p q : Nat} {f : Nat → Int32} (h : q ≠ p) : ma X p f q = X q := if_neg h
theorem ma_ma (X : Mem) (p : Nat) (f g : Nat → Int32) : ma (ma X p f) p g = ma X p g := by
  funext q
  by_cases h : q = p
  · rw [h, ma_eq, ma_eq]
  · rw [ma_ne h, ma_ne h, ma_ne h]
theorem ma_self (X : Mem) (p : Nat) : ma X p (X p) = X := by
  funext q
  by_cases h : q = p
  · rw [h, ma_eq]
  · rw [ma_ne h]
theorem ma_comm {X : Mem} {p q : Nat} (h : p ≠ q) (f g : Nat → Int32) : ma (ma X p f) q g = ma (ma X q g) p f := by
  funext r
  by_cases h1 : r = q
  · subst h1
    rw [ma_eq, ma_ne (fun e => h e.symm), ma_eq]
  · rw [ma_ne h1]
    by_cases h2 : r = p
    · subst h2
      rw [ma_eq, ma_eq]
    · rw [ma_ne h2, ma_ne h2, ma_ne h1]
theorem cel_i {w : Wt} {X : Mem} {p n : Nat} (h : sh p = .inl (0, n)) : cel w X p = .inl (w.2.2.1, n, .inl (X p)) := by unfold cel; rw [h]; rfl
theorem cel_z {w : Wt} {X : Mem} {p n : Nat} (h : sh p = .inl (1, n)) : cel w X p = .inl (w.2.2.2.1, n, .inl (X p)) := by unfold cel; rw [h]; rfl
theorem cel_l {w : Wt} {X : Mem} {p n : Nat} (h : sh p = .inl (2, n)) : cel w X p = .inl (w.2.2.2.2.1, n, .inr (.inl (fun i => (X p i).toInt64))) := by unfold cel; rw [h]; rfl
theorem cel_r {w : Wt} {X : Mem} {p n : Nat} (h : sh p = .inl (3, n)) : cel w X p = .inl (w.2.2.2.2.2, n, .inr (.inr (.inr (.inr (fun i => some (w.2.1 (p + 1 + i))))))) := by unfold cel; rw [h]; rfl
theorem cel_o {w : Wt} {X : Mem} {p ci : Nat} {fl : List (Option Nat)} (h : sh p = .inr (ci, fl)) : cel w X p = .inr (ci, vals w X p fl) := by unfold cel; rw [h]
theorem vals_at {w : Wt} {X : Mem} {p j : Nat} {fl : List (Option Nat)} {o : Option Nat} (h : fl[j]? = some o) : (vals w X p fl)[j]? = some (vof w X p j o) := by
  unfold vals
  simp only [List.getElem?_mapIdx, h, Option.map_some]
theorem vals_set {w : Wt} {X : Mem} {p j : Nat} {fl : List (Option Nat)} (h : fl[j]? = some none) (x : Int32) : (vals w X p fl).set j (.int x) = vals w (ma X p (upd (X p) j x)) p fl := by
  apply List.ext_getElem?
  intro i
  have hj : j < fl.length := (List.getElem?_eq_some_iff.mp h).1
  have hlen : (vals w X p fl).length = fl.length := by simp [vals]
  rw [List.getElem?_set]
  by_cases e : j = i
  · subst e
    rw [if_pos rfl, if_pos (by rw [hlen]; exact hj), vals_at h]
    simp [upd, vof, ma_eq]
  · rw [if_neg e]
    unfold vals
    simp only [List.getElem?_mapIdx]
    cases fl[i]? with
    | none => rfl
    | some o =>
      cases o with
      | some q => rfl
      | none =>
        have e2 : ¬ i = j := fun q => e q.symm
        simp [upd, e2, vof, ma_eq]
/-- the tables' words that a method may use wherever it is -/
def okN (w : Cond) : Bool := match w with
  | .fieldLinkNest _ _ _ _ _ _ => true
  | .methodLinkNest _ _ _ _ => true
  | _ => false
def okT (w : Cond) : Bool := w.onTables && (w.keepsCast || okN w)
def TB : List Cond := lw_tbl.filter okT
def TW (U : State) : Prop := ∀ w ∈ TB, w.before #[] U = true
theorem TW.same {u U : State} (h : u.vm = U.vm) (hT : TW u) : TW U := fun w hw => by
  have h1 := (List.mem_filter.mp hw).2
  unfold okT at h1
  rw [Bool.and_eq_true] at h1
  exact va_tabs h1.1 h (hT w hw)
theorem TW.warm {s U : State} (hW : s.WarmedH U.vm) (hT : TW s) : TW U := fun w hw => by
  have h1 := (List.mem_filter.mp hw).2
  unfold okT at h1
  rw [Bool.and_eq_true, Bool.or_eq_true] at h1
  obtain ⟨h1, h2 | h2⟩ := h1
  · exact va_tabs h1 (rfl : (s.setVm U.vm).vm = U.vm) (Cond.before_shiftedCast (State.Shifted.of_warmed hW) w h2 (hT w hw))
  · have h3 := hT w hw
    cases w with
    | fieldLinkNest a i b n d h => exact va_Nw.warmF hW h3
    | methodLinkNest a i x h => exact va_Nw.warmM hW h3
    | _ => simp [okN] at h2
theorem TW.use {U : State} {args : Array Value} (hT : TW U) : ∀ w ∈ TB, w.before args U = true := fun w hw => by
  have h1 := (List.mem_filter.mp hw).2
  unfold okT at h1
  rw [Bool.and_eq_true] at h1
  exact va_tabs h1.1 rfl (hT w hw)
def Kw (w : Wt) (U : State) : Prop := va_K w.1 vwCl (tysW w) U ∧ (∀ i j, i < 117 → j < 117 → w.2.1 i = w.2.1 j → i = j) ∧ TW U
theorem Kw.warm {w : Wt} {s U : State} (hW : s.WarmedH U.vm) (h : Kw w s) : Kw w U := ⟨va_K.moved hW.alike h.1, h.2.1, h.2.2.warm hW⟩
theorem Kw.same {w : Wt} {s U : State} (hv : s.vm = U.vm) (h : Kw w s) : Kw w U := ⟨va_K.moved (by rw [hv]; exact Vm.Alike.refl _) h.1, h.2.1, h.2.2.same hv⟩
def AA (w : Wt) (sz : Nat) : Nat → Prop := fun q => (∃ k, k < 117 ∧ q = w.2.1 k) ∨ sz ≤ q
theorem wl_D {w : Wt} {X : Mem} {sz : Nat} (hi : ∀ i j, i < 117 → j < 117 → w.2.1 i = w.2.1 j → i = j) : va_D (AA w sz) (wl w X) := by
  have key : ∀ (k : Nat) (q : Nat × va_E), (wl w X)[k]? = some q → k < 117 ∧ q.1 = w.2.1 k := by
    intro k q hq
    have hk : k < 117 := by
      have := (List.getElem?_eq_some_iff.mp hq).1
      rw [wl_len] at this
      exact this
    rw [wl_at hk] at hq
    cases hq
    exact ⟨hk, rfl⟩
  refine ⟨fun i j x y hx hy hxy => ?_, fun k q hq => ?_⟩
  · obtain ⟨a1, a2⟩ := key i x hx
    obtain ⟨b1, b2⟩ := key j y hy
    exact hi i j a1 b1 (by rw [← a2, ← b2, hxy])
  · obtain ⟨a1, a2⟩ := key k q hq
    exact Or.inl ⟨k, a1, a2⟩
theorem AA_le {w : Wt} {a b : Nat} (h : a ≤ b) {q : Nat} (hq : AA w b q) : AA w a q := by
  rcases hq with h1 | h1
  · exact Or.inl h1
  · exact Or.inr (Nat.le_trans h h1)
/-- the locals, by their places: none where nothing is known -/
def LH (L : Array Slot) (nL : Nat) (ls : List (Option Value)) : Prop := L.size = nL ∧ lv_wf L ∧ ∀ (i : Nat) (v : Value), ls[i]? = some (some v) → L[i]? = some (.val v) ∧ v.category = 1
def lpairs (ls : List (Option Value)) : List (Nat × Value) := ls.zipIdx.filterMap (fun q => q.1.map (fun v => (q.2, v)))
theorem lpairs_mem {ls : List (Option Value)} {i : Nat} {v : Value} : (i, v) ∈ lpairs ls ↔ ls[i]? = some (some v) := by
  unfold lpairs
  rw [List.mem_filterMap]
  constructor
  · rintro ⟨⟨o, j⟩, h1, h2⟩
    rw [List.mem_zipIdx_iff_getElem?] at h1
    cases o with
    | none => simp at h2
    | some u =>
      simp at h2
      obtain ⟨rfl, rfl⟩ := h2
      exact h1
  · intro h
    exact ⟨(some v, i), by rw [List.mem_zipIdx_iff_getElem?]; exact h, rfl⟩
theorem LH.has {L : Array Slot} {nL : Nat} {ls : List (Option Value)} (h : LH L nL ls) : lv_has L nL (lpairs ls) := ⟨h.1, h.2.1, fun q hq => (h.2.2 q.1 q.2 (lpairs_mem.mp hq)).1⟩
theorem LH.put {L L' : Array Slot} {nL : Nat} {ls : List (Option Value)} {i : Nat} {v : Value} (h : LH L nL ls) (hc : v.category = 1) (h2 : lv_has L' nL ((i, v) :: (lpairs ls).filter (fun q => !(q.1 == i) && !(q.1 + 1 == i && q.2.category == 2)))) : LH L' nL (ls.set i (some v)) := by
  refine ⟨h2.1, h2.2.1, fun j u hj => ?_⟩
  rw [List.getElem?_set] at hj
  by_cases e : i = j
  · subst e
    rw [if_pos rfl] at hj
    by_cases hl : i < ls.length
    · rw [if_pos hl] at hj
      cases hj
      exact ⟨h2.2.2 (i, v) List.mem_cons_self, hc⟩
    · rw [if_neg hl] at hj
      cases hj
  · rw [if_neg e] at hj
    have h3 := (h.2.2 j u hj).2
    refine ⟨h2.2.2 (j, u) (List.mem_cons_of_mem _ (List.mem_filter.mpr ⟨lpairs_mem.mpr hj, ?_⟩)), h3⟩
    simp [h3]
    exact fun q => e q.symm
end
section
/-- what a walk knows all along -/
def CX (p : Program) (s : State) (m : MethodId) (args : Array Value) (meth : Method) (c : Code) (w : Wt) (cc : ByteArray) (nL : Nat) (own : String) (ret : Option FieldType) : Prop :=
  p.tables.exec = Jvm.exec ∧ c.code = cc ∧ c.maxLocals = nL ∧ s.vm.findClass own = some m.cls ∧ Kw w s ∧ meth.sig.returnType = ret ∧ meth.locks = false ∧ (∀ w ∈ TB, w.before args s = true)
/-- from pc on, with these locals, this stack and this memory, the machine comes to Q -/
def V (p : Program) (l : Launch) (e : Env) (R : Room) (s : State) (m : MethodId) (args : Array Value) (below : List Frame) (meth : Method) (c : Code) (w : Wt) (nL n k : Nat) (Q : State → Prop) (pc : Nat) (ls : List (Option Value)) (st : List Value) (X : Mem) : Prop :=
  ∀ (H : Heap) (locs : List Loc) (L : Array Slot), va_P w.1 vwCl (wl w X) H → va_S (AA w s.heap.size) s.heap H locs → LH L nL ls → W p l e R s m args below meth c H locs n k Q (F0 m pc L st)
section VR
variable {p : Program} {l : Launch} {e : Env} {R : Room} {s : State} {m : MethodId} {args : Array Value} {below : List Frame} {meth : Method} {c : Code} {w : Wt} {cc : ByteArray} {nL : Nat} {own : String} {ret : Option FieldType} {n k : Nat} {Q : State → Prop} {pc : Nat} {ls : List (Option Value)} {st : List Value} {X : Mem}
theorem V_iload (C : CX p s m args meth c w cc nL own ret) {i : Nat} {x : Int32} (hd : decode cc pc = .ok (.iload i, 2)) (hl : ls[i]? = some (some (.int x))) (kk : V p l e R s m args below meth c w nL n k Q (pc + 2) ls (.int x :: st) X) : V p l e R s m args below meth c w nL n k Q pc ls st X :=
  fun H locs L hP hS hL => lv_iload C.1 C.2.1 hd (hL.2.2 i _ hl).1 (kk H locs L hP hS hL)
theorem V_iload_n (C : CX p s m args meth c w cc nL own ret) {i : Fin 4} {x : Int32} (hd : decode cc pc = .ok (.iload_n i, 1)) (hl : ls[(i : Nat)]? = some (some (.int x))) (kk : V p l e R s m args below meth c w nL n k Q (pc + 1) ls (.int x :: st) X) : V p l e R s m args below meth c w nL n k Q pc ls st X :=
  fun H locs L hP hS hL => lv_iload_n C.1 C.2.1 hd rfl (hL.2.2 _ _ hl).1 (kk H locs L hP hS hL)
theorem V_aload (C : CX p s m args meth c w cc nL own ret) {i : Nat} {x : Nat} (hd : decode cc pc = .ok (.aload i, 2)) (hl : ls[i]? = some (some (.ref x))) (kk : V p l e R s m args below meth c w nL n k Q (pc + 2) ls (.ref x :: st) X) : V p l e R s m args below meth c w nL n k Q pc ls st X :=
  fun H locs L hP hS hL => lv_aload C.1 C.2.1 hd (hL.2.2 i _ hl).1 (kk H locs L hP hS hL)
theorem V_aload_n (C : CX p s m args meth c w cc nL own ret) {i : Fin 4} {x : Nat} (hd : decode cc pc = .ok (.aload_n i, 1)) (hl : ls[(i : Nat)]? = some (some (.ref x))) (kk : V p l e R s m args below meth c w nL n k Q (pc + 1) ls (.ref x :: st) X) : V p l e R s m args below meth c w nL n k Q pc ls st X :=
  fun H locs L hP hS hL => lv_aload_n C.1 C.2.1 hd rfl (hL.2.2 _ _ hl).1 (kk H locs L hP hS hL)
theorem V_istore (C : CX p s m args meth c w cc nL own ret) {i : Nat} {x : Int32} {ls1 : List (Option Value)} (hd : decode cc pc = .ok (.istore i, 2)) (hn : i < nL) (hl : ls.set i (some (.int x)) = ls1) (kk : V p l e R s m args below meth c w nL n k Q (pc + 2) ls1 st X) : V p l e R s m args below meth c w nL n k Q pc ls (.int x :: st) X :=
  fun H locs L hP hS hL => lv_istore C.1 C.2.1 hd hL.has hn rfl (fun L1 h1 => kk H locs L1 hP hS (hl ▸ hL.put rfl h1))
theorem V_istore_n (C : CX p s m args meth c w cc nL own ret) {i : Fin 4} {x : Int32} {ls1 : List (Option Value)} (hd : decode cc pc = .ok (.istore_n i, 1)) (hn : (i : Nat) < nL) (hl : ls.set (i : Nat) (some (.int x)) = ls1) (kk : V p l e R s m args below meth c w nL n k Q (pc + 1) ls1 st X) : V p l e R s m args below meth c w nL n k Q pc ls (.int x :: st) X :=
  fun H locs L hP hS hL => lv_istore_n C.1 C.2.1 hd rfl hL.has hn rfl (fun L1 h1 => kk H locs L1 hP hS (hl ▸ hL.put rfl h1))
theorem V_astore (C : CX p s m args meth c w cc nL own ret) {i : Nat} {x : Nat} {ls1 : List (Option Value)} (hd : decode cc pc = .ok (.astore i, 2)) (hn : i < nL) (hl : ls.set i (some (.ref x)) = ls1) (kk : V p l e R s m args below meth c w nL n k Q (pc + 2) ls1 st X) : V p l e R s m args below meth c w nL n k Q pc ls (.ref x :: st) X :=
  fun H locs L hP hS hL => lv_astore C.1 C.2.1 hd hL.has hn rfl (fun L1 h1 => kk H locs L1 hP hS (hl ▸ hL.put rfl h1))
theorem V_astore_n (C : CX p s m args meth c w cc nL own ret) {i : Fin 4} {x : Nat} {ls1 : List (Option Value)} (hd : decode cc pc = .ok (.astore_n i, 1)) (hn : (i : Nat) < nL) (hl : ls.set (i : Nat) (some (.ref x)) = ls1) (kk : V p l e R s m args below meth c w nL n k Q (pc + 1) ls1 st X) : V p l e R s m args below meth c w nL n k Q pc ls (.ref x :: st) X :=
  fun H locs L hP hS hL => lv_astore_n C.1 C.2.1 hd rfl hL.has hn rfl (fun L1 h1 => kk H locs L1 hP hS (hl ▸ hL.put rfl h1))
theorem V_iinc (C : CX p s m args meth c w cc nL own ret) {i : Nat} {d : Int} {x v : Int32} {ls1 : List (Option Value)} (hd : decode cc pc = .ok (.iinc i d, 3)) (hx : ls[i]? = some (some (.int x))) (hv : x + Int32.ofInt d = v) (hn : i < nL) (hl : ls.set i (some (.int v)) = ls1) (kk : V p l e R s m args below meth c w nL n k Q (pc + 3) ls1 st X) : V p l e R s m args below meth c w nL n k Q pc ls st X := by
  intro H locs L hP hS hL
  obtain ⟨j, hj⟩ := List.getElem?_of_mem (lpairs_mem.mpr hx)
  exact lv_iinc C.1 C.2.1 hd hL.has hj hv hn rfl (fun L1 h1 => kk H locs L1 hP hS (hl ▸ hL.put rfl h1))
theorem V_iconst (C : CX p s m args meth c w cc nL own ret) {a : Int} {v : Int32} (hd : decode cc pc = .ok (.iconst a, 1)) (hv : Int32.ofInt a = v) (kk : V p l e R s m args below meth c w nL n k Q (pc + 1) ls (.int v :: st) X) : V p l e R s m args below meth c w nL n k Q pc ls st X :=
  fun H locs L hP hS hL => lv_iconst C.1 C.2.1 hd hv (kk H locs L hP hS hL)
theorem V_bipush (C : CX p s m args meth c w cc nL own ret) {a : Int} {v : Int32} (hd : decode cc pc = .ok (.bipush a, 2)) (hv : (Int8.ofInt a).toInt32 = v) (kk : V p l e R s m args below meth c w nL n k Q (pc + 2) ls (.int v :: st) X) : V p l e R s m args below meth c w nL n k Q pc ls st X :=
  fun H locs L hP hS hL => lv_bipush C.1 C.2.1 hd hv (kk H locs L hP hS hL)
theorem V_sipush (C : CX p s m args meth c w cc nL own ret) {a : Int} {v : Int32} (hd : decode cc pc = .ok (.sipush a, 3)) (hv : (Int16.ofInt a).toInt32 = v) (kk : V p l e R s m args below meth c w nL n k Q (pc + 3) ls (.int v :: st) X) : V p l e R s m args below meth c w nL n k Q pc ls st X :=
  fun H locs L hP hS hL => lv_sipush C.1 C.2.1 hd hv (kk H locs L hP hS hL)
theorem V_ldc (C : CX p s m args meth c w cc nL own ret) {i : Nat} {v : Int32} (hk : Cond.constant own i v ∈ TB) (hd : decode cc pc = .ok (.ldc i, 2)) (kk : V p l e R s m args below meth c w nL n k Q (pc + 2) ls (.int v :: st) X) : V p l e R s m args below meth c w nL n k Q pc ls st X :=
  fun H locs L hP hS hL => lv_ldc C.1 C.2.1 C.2.2.2.1 (C.2.2.2.2.2.2.2 _ hk) hd (kk H locs L hP hS hL)
theorem V_ldcw (C : CX p s m args meth c w cc nL own ret) {i : Nat} {v : Int32} (hk : Cond.constant own i v ∈ TB) (hd : decode cc pc = .ok (.ldc_w i, 3)) (kk : V p l e R s m args below meth c w nL n k Q (pc + 3) ls (.int v :: st) X) : V p l e R s m args below meth c w nL n k Q pc ls st X :=
  fun H locs L hP hS hL => lv_ldcw C.1 C.2.1 C.2.2.2.1 (C.2.2.2.2.2.2.2 _ hk) hd (kk H locs L hP hS hL)
theorem V_iadd (C : CX p s m args meth c w cc nL own ret) {x y : Int32} (hd : decode cc pc = .ok (.iadd, 1)) (kk : V p l e R s m args below meth c w nL n k Q (pc + 1) ls (.int (x + y) :: st) X) : V p l e R s m args below meth c w nL n k Q pc ls (.int y :: .int x :: st) X :=
  fun H locs L hP hS hL => lv_iadd C.1 C.2.1 hd (kk H locs L hP hS hL)
theorem V_isub (C : CX p s m args meth c w cc nL own ret) {x y : Int32} (hd : decode cc pc = .ok (.isub, 1)) (kk : V p l e R s m args below meth c w nL n k Q (pc + 1) ls (.int (x - y) :: st) X) : V p l e R s m args below meth c w nL n k Q pc ls (.int y :: .int x :: st) X :=
  fun H locs L hP hS hL => lv_isub C.1 C.2.1 hd (kk H locs L hP hS hL)
theorem V_imul (C : CX p s m args meth c w cc nL own ret) {x y : Int32} (hd : decode cc pc = .ok (.imul, 1)) (kk : V p l e R s m args below meth c w nL n k Q (pc + 1) ls (.int (x * y) :: st) X) : V p l e R s m args below meth c w nL n k Q pc ls (.int y :: .int x :: st) X :=
  fun H locs L hP hS hL => lv_imul C.1 C.2.1 hd (kk H locs L hP hS hL)
theorem V_iand (C : CX p s m args meth c w cc nL own ret) {x y : Int32} (hd : decode cc pc = .ok (.iand, 1)) (kk : V p l e R s m args below meth c w nL n k Q (pc + 1) ls (.int (x &&& y) :: st) X) : V p l e R s m args below meth c w nL n k Q pc ls (.int y :: .int x :: st) X :=
  fun H locs L hP hS hL => lv_iand C.1 C.2.1 hd (kk H locs L hP hS hL)
theorem V_ior (C : CX p s m args meth c w cc nL own ret) {x y : Int32} (hd : decode cc pc = .ok (.ior, 1)) (kk : V p l e R s m args below meth c w nL n k Q (pc + 1) ls (.int (x ||| y) :: st) X) : V p l e R s m args below meth c w nL n k Q pc ls (.int y :: .int x :: st) X :=
  fun H locs L hP hS hL => lv_ior C.1 C.2.1 hd (kk H locs L hP hS hL)
theorem V_ixor (C : CX p s m args meth c w cc nL own ret) {x y : Int32} (hd : decode cc pc = .ok (.ixor, 1)) (kk : V p l e R s m args below meth c w nL n k Q (pc + 1) ls (.int (x ^^^ y) :: st) X) : V p l e R s m args below meth c w nL n k Q pc ls (.int y :: .int x :: st) X :=
  fun H locs L hP hS hL => lv_ixor C.1 C.2.1 hd (kk H locs L hP hS hL)
theorem V_ishl (C : CX p s m args meth c w cc nL own ret) {x y : Int32} (hd : decode cc pc = .ok (.ishl, 1)) (kk : V p l e R s m args below meth c w nL n k Q (pc + 1) ls (.int (x <<< (y &&& 31)) :: st) X) : V p l e R s m args below meth c w nL n k Q pc ls (.int y :: .int x :: st) X :=
  fun H locs L hP hS hL => lv_ishl C.1 C.2.1 hd (kk H locs L hP hS hL)
theorem V_ishr (C : CX p s m args meth c w cc nL own ret) {x y : Int32} (hd : decode cc pc = .ok (.ishr, 1)) (kk : V p l e R s m args below meth c w nL n k Q (pc + 1) ls (.int (x >>> (y &&& 31)) :: st) X) : V p l e R s m args below meth c w nL n k Q pc ls (.int y :: .int x :: st) X :=
  fun H locs L hP hS hL => lv_ishr C.1 C.2.1 hd (kk H locs L hP hS hL)
theorem V_iushr (C : CX p s m args meth c w cc nL own ret) {x y : Int32} (hd : decode cc pc = .ok (.iushr, 1)) (kk : V p l e R s m args below meth c w nL n k Q (pc + 1) ls (.int (x.toUInt32 >>> (y.toUInt32 &&& Int32.toUInt32 31)).toInt32 :: st) X) : V p l e R s m args below meth c w nL n k Q pc ls (.int y :: .int x :: st) X :=
  fun H locs L hP hS hL => lv_iushr C.1 C.2.1 hd rfl (kk H locs L hP hS hL)
theorem V_irem (C : CX p s m args meth c w cc nL own ret) {x y : Int32} (hd : decode cc pc = .ok (.irem, 1)) (hne : ¬ y = 0) (kk : V p l e R s m args below meth c w nL n k Q (pc + 1) ls (.int (x - x / y * y) :: st) X) : V p l e R s m args below meth c w nL n k Q pc ls (.int y :: .int x :: st) X :=
  fun H locs L hP hS hL => lv_irem C.1 C.2.1 hd hne (kk H locs L hP hS hL)
theorem V_idiv (C : CX p s m args meth c w cc nL own ret) {x y : Int32} (hd : decode cc pc = .ok (.idiv, 1)) (hne : ¬ y = 0) (kk : V p l e R s m args below meth c w nL n k Q (pc + 1) ls (.int (x / y) :: st) X) : V p l e R s m args below meth c w nL n k Q pc ls (.int y :: .int x :: st) X :=
  fun H locs L hP hS hL => lv_idiv C.1 C.2.1 hd hne (kk H locs L hP hS hL)
theorem V_topi {x : Int32} (kk : ∀ y : Int32, y = x → V p l e R s m args below meth c w nL n k Q pc ls (.int y :: st) X) : V p l e R s m args below meth c w nL n k Q pc ls (.int x :: st) X := kk x rfl
theorem V_dup (C : CX p s m args meth c w cc nL own ret) {a : Value} (hd : decode cc pc = .ok (.dup, 1)) (ha : a.category = 1) (kk : V p l e R s m args below meth c w nL n k Q (pc + 1) ls (a :: a :: st) X) : V p l e R s m args below meth c w nL n k Q pc ls (a :: st) X :=
  fun H locs L hP hS hL => lv_dup C.1 C.2.1 hd ha (kk H locs L hP hS hL)
theorem V_pop (C : CX p s m args meth c w cc nL own ret) {a : Value} (hd : decode cc pc = .ok (.pop, 1)) (ha : a.category = 1) (kk : V p l e R s m args below meth c w nL n k Q (pc + 1) ls st X) : V p l e R s m args below meth c w nL n k Q pc ls (a :: st) X :=
  fun H locs L hP hS hL => lv_pop C.1 C.2.1 hd ha (kk H locs L hP hS hL)
theorem V_dup2 (C : CX p s m args meth c w cc nL own ret) {a b : Value} (hd : decode cc pc = .ok (.dup2, 1)) (ha : a.category = 1) (hb : b.category = 1) (kk : V p l e R s m args below meth c w nL n k Q (pc + 1) ls (a :: b :: a :: b :: st) X) : V p l e R s m args below meth c w nL n k Q pc ls (a :: b :: st) X :=
  fun H locs L hP hS hL => lv_dup2_11 C.1 C.2.1 hd ha hb (kk H locs L hP hS hL)
theorem V_goto (C : CX p s m args meth c w cc nL own ret) {off : Int} {tgt : Nat} (hd : decode cc pc = .ok (.goto off, 3)) (ht : (pc : Int) + off = (tgt : Int)) (kk : V p l e R s m args below meth c w nL n k Q tgt ls st X) : V p l e R s m args below meth c w nL n k Q pc ls st X :=
  fun H locs L hP hS hL => lv_goto C.1 C.2.1 hd ht (kk H locs L hP hS hL)
theorem V_icmp_eq (C : CX p s m args meth c w cc nL own ret) {x y : Int32} {off : Int} {tgt : Nat} (hd : decode cc pc = .ok (.if_icmp .eq off, 3)) (ht : (pc : Int) + off = (tgt : Int)) (kt : x = y → V p l e R s m args below meth c w nL n k Q tgt ls st X) (kf : ¬ x = y → V p l e R s m args below meth c w nL n k Q (pc + 3) ls st X) : V p l e R s m args below meth c w nL n k Q pc ls (.int y :: .int x :: st) X :=
  fun H locs L hP hS hL => lv_icmp_eq C.1 C.2.1 hd ht (fun q => kt q H locs L hP hS hL) (fun q => kf q H locs L hP hS hL)
theorem V_if_eq (C : CX p s m args meth c w cc nL own ret) {x : Int32} {off : Int} {tgt : Nat} (hd : decode cc pc = .ok (.ifCond .eq off, 3)) (ht : (pc : Int) + off = (tgt : Int)) (kt : x = 0 → V p l e R s m args below meth c w nL n k Q tgt ls st X) (kf : ¬ x = 0 → V p l e R s m args below meth c w nL n k Q (pc + 3) ls st X) : V p l e R s m args below meth c w nL n k Q pc ls (.int x :: st) X :=
  fun H locs L hP hS hL => lv_if_eq C.1 C.2.1 hd ht (fun q => kt q H locs L hP hS hL) (fun q => kf q H locs L hP hS hL)
theorem V_icmp_ne (C : CX p s m args meth c w cc nL own ret) {x y : Int32} {off : Int} {tgt : Nat} (hd : decode cc pc = .ok (.if_icmp .ne off, 3)) (ht : (pc : Int) + off = (tgt : Int)) (kt : ¬ x = y → V p l e R s m args below meth c w nL n k Q tgt ls st X) (kf : x = y → V p l e R s m args below meth c w nL n k Q (pc + 3) ls st X) : V p l e R s m args below meth c w nL n k Q pc ls (.int y :: .int x :: st) X :=
  fun H locs L hP hS hL => lv_icmp_ne C.1 C.2.1 hd ht (fun q => kt q H locs L hP hS hL) (fun q => kf q H locs L hP hS hL)
theorem V_if_ne (C : CX p s m args meth c w cc nL own ret) {x : Int32} {off : Int} {tgt : Nat} (hd : decode cc pc = .ok (.ifCond .ne off, 3)) (ht : (pc : Int) + off = (tgt : Int)) (kt : ¬ x = 0 → V p l e R s m args below meth c w nL n k Q tgt ls st X) (kf : x = 0 → V p l e R s m args below meth c w nL n k Q (pc + 3) ls st X) : V p l e R s m args below meth c w nL n k Q pc ls (.int x :: st) X :=
  fun H locs L hP hS hL => lv_if_ne C.1 C.2.1 hd ht (fun q => kt q H locs L hP hS hL) (fun q => kf q H locs L hP hS hL)
theorem V_icmp_lt (C : CX p s m args meth c w cc nL own ret) {x y : Int32} {off : Int} {tgt : Nat} (hd : decode cc pc = .ok (.if_icmp .lt off, 3)) (ht : (pc : Int) + off = (tgt : Int)) (kt : x < y → V p l e R s m args below meth c w nL n k Q tgt ls st X) (kf : ¬ x < y → V p l e R s m args below meth c w nL n k Q (pc + 3) ls st X) : V p l e R s m args below meth c w nL n k Q pc ls (.int y :: .int x :: st) X :=
  fun H locs L hP hS hL => lv_icmp_lt C.1 C.2.1 hd ht (fun q => kt q H locs L hP hS hL) (fun q => kf q H locs L hP hS hL)
theorem V_if_lt (C : CX p s m args meth c w cc nL own ret) {x : Int32} {off : Int} {tgt : Nat} (hd : decode cc pc = .ok (.ifCond .lt off, 3)) (ht : (pc : Int) + off = (tgt : Int)) (kt : x < 0 → V p l e R s m args below meth c w nL n k Q tgt ls st X) (kf : ¬ x < 0 → V p l e R s m args below meth c w nL n k Q (pc + 3) ls st X) : V p l e R s m args below meth c w nL n k Q pc ls (.int x :: st) X :=
  fun H locs L hP hS hL => lv_if_lt C.1 C.2.1 hd ht (fun q => kt q H locs L hP hS hL) (fun q => kf q H locs L hP hS hL)
theorem V_icmp_ge (C : CX p s m args meth c w cc nL own ret) {x y : Int32} {off : Int} {tgt : Nat} (hd : decode cc pc = .ok (.if_icmp .ge off, 3)) (ht : (pc : Int) + off = (tgt : Int)) (kt : y ≤ x → V p l e R s m args below meth c w nL n k Q tgt ls st X) (kf : ¬ y ≤ x → V p l e R s m args below meth c w nL n k Q (pc + 3) ls st X) : V p l e R s m args below meth c w nL n k Q pc ls (.int y :: .int x :: st) X :=
  fun H locs L hP hS hL => lv_icmp_ge C.1 C.2.1 hd ht (fun q => kt q H locs L hP hS hL) (fun q => kf q H locs L hP hS hL)
theorem V_if_ge (C : CX p s m args meth c w cc nL own ret) {x : Int32} {off : Int} {tgt : Nat} (hd : decode cc pc = .ok (.ifCond .ge off, 3)) (ht : (pc : Int) + off = (tgt : Int)) (kt : 0 ≤ x → V p l e R s m args below meth c w nL n k Q tgt ls st X) (kf : ¬ 0 ≤ x → V p l e R s m args below meth c w nL n k Q (pc + 3) ls st X) : V p l e R s m args below meth c w nL n k Q pc ls (.int x :: st) X :=
  fun H locs L hP hS hL => lv_if_ge C.1 C.2.1 hd ht (fun q => kt q H locs L hP hS hL) (fun q => kf q H locs L hP hS hL)
theorem V_icmp_gt (C : CX p s m args meth c w cc nL own ret) {x y : Int32} {off : Int} {tgt : Nat} (hd : decode cc pc = .ok (.if_icmp .gt off, 3)) (ht : (pc : Int) + off = (tgt : Int)) (kt : y < x → V p l e R s m args below meth c w nL n k Q tgt ls st X) (kf : ¬ y < x → V p l e R s m args below meth c w nL n k Q (pc + 3) ls st X) : V p l e R s m args below meth c w nL n k Q pc ls (.int y :: .int x :: st) X :=
  fun H locs L hP hS hL => lv_icmp_gt C.1 C.2.1 hd ht (fun q => kt q H locs L hP hS hL) (fun q => kf q H locs L hP hS hL)
theorem V_if_gt (C : CX p s m args meth c w cc nL own ret) {x : Int32} {off : Int} {tgt : Nat} (hd : decode cc pc = .ok (.ifCond .gt off, 3)) (ht : (pc : Int) + off = (tgt : Int)) (kt : 0 < x → V p l e R s m args below meth c w nL n k Q tgt ls st X) (kf : ¬ 0 < x → V p l e R s m args below meth c w nL n k Q (pc + 3) ls st X) : V p l e R s m args below meth c w nL n k Q pc ls (.int x :: st) X :=
  fun H locs L hP hS hL => lv_if_gt C.1 C.2.1 hd ht (fun q => kt q H locs L hP hS hL) (fun q => kf q H locs L hP hS hL)
theorem V_icmp_le (C : CX p s m args meth c w cc nL own ret) {x y : Int32} {off : Int} {tgt : Nat} (hd : decode cc pc = .ok (.if_icmp .le off, 3)) (ht : (pc : Int) + off = (tgt : Int)) (kt : x ≤ y → V p l e R s m args below meth c w nL n k Q tgt ls st X) (kf : ¬ x ≤ y → V p l e R s m args below meth c w nL n k Q (pc + 3) ls st X) : V p l e R s m args below meth c w nL n k Q pc ls (.int y :: .int x :: st) X :=
  fun H locs L hP hS hL => lv_icmp_le C.1 C.2.1 hd ht (fun q => kt q H locs L hP hS hL) (fun q => kf q H locs L hP hS hL)
theorem V_if_le (C : CX p s m args meth c w cc nL own ret) {x : Int32} {off : Int} {tgt : Nat} (hd : decode cc pc = .ok (.ifCond .le off, 3)) (ht : (pc : Int) + off = (tgt : Int)) (kt : x ≤ 0 → V p l e R s m args below meth c w nL n k Q tgt ls st X) (kf : ¬ x ≤ 0 → V p l e R s m args below meth c w nL n k Q (pc + 3) ls st X) : V p l e R s m args below meth c w nL n k Q pc ls (.int x :: st) X :=
  fun H locs L hP hS hL => lv_if_le C.1 C.2.1 hd ht (fun q => kt q H locs L hP hS hL) (fun q => kf q H locs L hP hS hL)
/-- a field's link, its class by its number in vwCl, the field by its place -/
def FL (own : String) (idx ci k0 : Nat) : Prop := ∃ (C0 : String) (T : u_T) (N : Nat), vwCl[ci]? = some (C0, T, N) ∧ (∀ x ∈ u_ws C0 T N, x ∈ TB) ∧ k0 < N ∧ (Cond.fieldLink own idx (T k0).1 (T k0).2.1 (T k0).2.2.1 ∈ TB ∨ ∃ h, Cond.fieldLinkNest own idx (T k0).1 (T k0).2.1 (T k0).2.2.1 h ∈ TB)
/-- the same of an int field that may be written -/
def FP (own : String) (idx ci k0 : Nat) : Prop := ∃ (C0 : String) (T : u_T) (N : Nat) (ty0 : Nat → FieldType), vwCl[ci]? = some (C0, T, N) ∧ (∀ x ∈ u_ws C0 T N, x ∈ TB) ∧ k0 < N ∧ (Cond.fieldLink own idx (T k0).1 (T k0).2.1 (T k0).2.2.1 ∈ TB ∨ ∃ h, Cond.fieldLinkNest own idx (T k0).1 (T k0).2.1 (T k0).2.2.1 h ∈ TB) ∧
  (∀ k, k < N → parseFieldDescriptor (T k).2.2.1 = some (ty0 k)) ∧ (∀ a, a < N → ∀ b, b < N → a ≠ b → (T a).2.1 ≠ (T b).2.1) ∧ (T k0).2.2.2 = false ∧ parseFieldDescriptor (T k0).2.2.1 = some .int
theorem V_geti (C : CX p s m args meth c w cc nL own ret) {idx ci k0 p0 : Nat} {fl : List (Option Nat)} (f : FL own idx ci k0) (hd : decode cc pc = .ok (.getfield idx, 3)) (h0 : p0 < 117) (hs : sh p0 = .inr (ci, fl)) (hf : fl[k0]? = some (none)) (kk : V p l e R s m args below meth c w nL n k Q (pc + 3) ls (.int (X p0 k0) :: st) X) : V p l e R s m args below meth c w nL n k Q pc ls (.ref (w.2.1 p0) :: st) X := by
  intro H locs L hP hS hL
  obtain ⟨C0, T, N, h1, h2, h3, h4⟩ := f
  have he : (wl w X)[p0]? = some (w.2.1 p0, .inr (ci, vals w X p0 fl)) := by rw [wl_at h0, cel_o hs]
  rcases h4 with h4 | ⟨host, h4⟩
  · exact va_get C.1 C.2.1 C.2.2.2.2.2.2.2 h2 C.2.2.2.1 C.2.2.2.2.1.1 hP p0 he h1 k0 h3 (C.2.2.2.2.2.2.2 _ h4) (fun _ h9 => h9) (vals_at hf) hd (kk H locs L hP hS hL)
  · exact va_getN C.1 C.2.1 C.2.2.2.2.2.2.2 h2 C.2.2.2.1 C.2.2.2.2.1.1 hP p0 he h1 k0 h3 (C.2.2.2.2.2.2.2 _ h4) (fun _ h9 => h9) (vals_at hf) hd (kk H locs L hP hS hL)
theorem V_getr (C : CX p s m args meth c w cc nL own ret) {idx ci k0 p0 q : Nat} {fl : List (Option Nat)} (f : FL own idx ci k0) (hd : decode cc pc = .ok (.getfield idx, 3)) (h0 : p0 < 117) (hs : sh p0 = .inr (ci, fl)) (hf : fl[k0]? = some (some q)) (kk : V p l e R s m args below meth c w nL n k Q (pc + 3) ls (.ref (w.2.1 q) :: st) X) : V p l e R s m args below meth c w nL n k Q pc ls (.ref (w.2.1 p0) :: st) X := by
  intro H locs L hP hS hL
  obtain ⟨C0, T, N, h1, h2, h3, h4⟩ := f
  have he : (wl w X)[p0]? = some (w.2.1 p0, .inr (ci, vals w X p0 fl)) := by rw [wl_at h0, cel_o hs]
  rcases h4 with h4 | ⟨host, h4⟩
  · exact va_get C.1 C.2.1 C.2.2.2.2.2.2.2 h2 C.2.2.2.1 C.2.2.2.2.1.1 hP p0 he h1 k0 h3 (C.2.2.2.2.2.2.2 _ h4) (fun _ h9 => h9) (vals_at hf) hd (kk H locs L hP hS hL)
  · exact va_getN C.1 C.2.1 C.2.2.2.2.2.2.2 h2 C.2.2.2.1 C.2.2.2.2.1.1 hP p0 he h1 k0 h3 (C.2.2.2.2.2.2.2 _ h4) (fun _ h9 => h9) (vals_at hf) hd (kk H locs L hP hS hL)
theorem V_put (C : CX p s m args meth c w cc nL own ret) {idx ci k0 p0 : Nat} {x : Int32} {fl : List (Option Nat)} (f : FP own idx ci k0) (hd : decode cc pc = .ok (.putfield idx, 3)) (h0 : p0 < 117) (hs : sh p0 = .inr (ci, fl)) (hf : fl[k0]? = some none) (kk : V p l e R s m args below meth c w nL n k Q (pc + 3) ls st (ma X p0 (upd (X p0) k0 x))) : V p l e R s m args below meth c w nL n k Q pc ls (.int x :: .ref (w.2.1 p0) :: st) X := by
  intro H locs L hP hS hL
  obtain ⟨C0, T, N, ty0, h1, h2, h3, h4, h5, h6, h7, h8⟩ := f
  have he : (wl w X)[p0]? = some (w.2.1 p0, .inr (ci, vals w X p0 fl)) := by rw [wl_at h0, cel_o hs]
  have hl : k0 < (vals w X p0 fl).length := by
    have := (List.getElem?_eq_some_iff.mp hf).1
    simpa [vals] using this
  have e9 : (wl w X).set p0 (w.2.1 p0, .inr (ci, (vals w X p0 fl).set k0 (.int x))) = wl w (ma X p0 (upd (X p0) k0 x)) := by
    rw [vals_set hf, ← cel_o hs]
    exact wl_set h0 (fun j hj => cel_congr (ma_ne hj))
  have hD : va_D (AA w s.heap.size) (wl w X) := wl_D C.2.2.2.2.1.2.1
  rcases h4 with h4 | ⟨host, h4⟩
  · refine va_put C.1 C.2.1 C.2.2.2.2.2.2.2 h2 ty0 h5 h6 C.2.2.2.1 C.2.2.2.2.1.1 hP hD hS p0 he h1 k0 h3 (C.2.2.2.2.2.2.2 _ h4) (fun _ h9 => h9) h7 h8 rfl rfl hl hd (fun H1 locs1 hP1 _ hS1 => ?_)
    rw [e9] at hP1
    exact kk H1 locs1 L hP1 hS1 hL
  · refine va_putN C.1 C.2.1 C.2.2.2.2.2.2.2 h2 ty0 h5 h6 C.2.2.2.1 C.2.2.2.2.1.1 hP hD hS p0 he h1 k0 h3 (C.2.2.2.2.2.2.2 _ h4) (fun _ h9 => h9) h7 h8 rfl rfl hl hd (fun H1 locs1 hP1 _ hS1 => ?_)
    rw [e9] at hP1
    exact kk H1 locs1 L hP1 hS1 hL
theorem V_iaload (C : CX p s m args meth c w cc nL own ret) {p0 N : Nat} {i : Int32} (hd : decode cc pc = .ok (.iaload, 1)) (h0 : p0 < 117) (hs : sh p0 = .inl (0, N)) (hi : vp_in i N) (kk : V p l e R s m args below meth c w nL n k Q (pc + 1) ls (.int (X p0 i.toNatClampNeg) :: st) X) : V p l e R s m args below meth c w nL n k Q pc ls (.int i :: .ref (w.2.1 p0) :: st) X :=
  fun H locs L hP hS hL => va_iald C.1 C.2.1 C.2.2.2.2.1.1 hP p0 0 (by rw [wl_at h0, cel_i hs]) rfl hi hd (kk H locs L hP hS hL)
theorem V_baload (C : CX p s m args meth c w cc nL own ret) {p0 N : Nat} {i : Int32} (hd : decode cc pc = .ok (.baload, 1)) (h0 : p0 < 117) (hs : sh p0 = .inl (1, N)) (hi : vp_in i N) (kk : V p l e R s m args below meth c w nL n k Q (pc + 1) ls (.int (X p0 i.toNatClampNeg) :: st) X) : V p l e R s m args below meth c w nL n k Q pc ls (.int i :: .ref (w.2.1 p0) :: st) X :=
  fun H locs L hP hS hL => va_zald C.1 C.2.1 C.2.2.2.2.1.1 hP p0 1 (by rw [wl_at h0, cel_z hs]) rfl hi hd (kk H locs L hP hS hL)
theorem V_iastore (C : CX p s m args meth c w cc nL own ret) {p0 N : Nat} {i x : Int32} (hd : decode cc pc = .ok (.iastore, 1)) (h0 : p0 < 117) (hs : sh p0 = .inl (0, N)) (hi : vp_in i N) (kk : V p l e R s m args below meth c w nL n k Q (pc + 1) ls st (ma X p0 (upd (X p0) i.toNatClampNeg x))) : V p l e R s m args below meth c w nL n k Q pc ls (.int x :: .int i :: .ref (w.2.1 p0) :: st) X := by
  intro H locs L hP hS hL
  refine va_iast C.1 C.2.1 C.2.2.2.2.1.1 hP (wl_D C.2.2.2.2.1.2.1) hS p0 0 (by rw [wl_at h0, cel_i hs]) rfl hi hd (fun H1 locs1 hP1 _ hS1 => ?_)
  have e9 : (wl w X).set p0 (w.2.1 p0, cel w (ma X p0 (upd (X p0) i.toNatClampNeg x)) p0) = wl w (ma X p0 (upd (X p0) i.toNatClampNeg x)) := wl_set h0 (fun j hj => cel_congr (ma_ne hj))
  rw [cel_i hs, ma_eq] at e9
  rw [e9] at hP1
  exact kk H1 locs1 L hP1 hS1 hL
theorem V_bastore (C : CX p s m args meth c w cc nL own ret) {p0 N : Nat} {i x : Int32} (hd : decode cc pc = .ok (.bastore, 1)) (h0 : p0 < 117) (hs : sh p0 = .inl (1, N)) (hi : vp_in i N) (kk : V p l e R s m args below meth c w nL n k Q (pc + 1) ls st (ma X p0 (upd (X p0) i.toNatClampNeg (vp_nar .boolean x)))) : V p l e R s m args below meth c w nL n k Q pc ls (.int x :: .int i :: .ref (w.2.1 p0) :: st) X := by
  intro H locs L hP hS hL
  refine va_zast C.1 C.2.1 C.2.2.2.2.1.1 hP (wl_D C.2.2.2.2.1.2.1) hS p0 1 (by rw [wl_at h0, cel_z hs]) rfl hi hd (fun H1 locs1 hP1 _ hS1 => ?_)
  have e9 : (wl w X).set p0 (w.2.1 p0, cel w (ma X p0 (upd (X p0) i.toNatClampNeg (vp_nar .boolean x))) p0) = wl w (ma X p0 (upd (X p0) i.toNatClampNeg (vp_nar .boolean x))) := wl_set h0 (fun j hj => cel_congr (ma_ne hj))
  rw [cel_z hs, ma_eq] at e9
  rw [e9] at hP1
  exact kk H1 locs1 L hP1 hS1 hL
theorem V_aaload (C : CX p s m args meth c w cc nL own ret) {p0 N : Nat} {i : Int32} (hd : decode cc pc = .ok (.aaload, 1)) (h0 : p0 < 117) (hs : sh p0 = .inl (3, N)) (hi : vp_in i N) (kk : V p l e R s m args below meth c w nL n k Q (pc + 1) ls (.ref (w.2.1 (p0 + 1 + i.toNatClampNeg)) :: st) X) : V p l e R s m args below meth c w nL n k Q pc ls (.int i :: .ref (w.2.1 p0) :: st) X := by
  intro H locs L hP hS hL
  have hlt : i.toNatClampNeg < N := Nat.not_le.mp fun q => hi (Or.inr q)
  have hq : (wl w X)[p0]? = some (w.2.1 p0, .inl (w.2.2.2.2.2, N, .inr (.inr (.inr (.inr (fun i => some (w.2.1 (p0 + 1 + i)))))))) := by rw [wl_at h0, cel_r hs]
  exact W.aald (v := .ref (w.2.1 (p0 + 1 + i.toNatClampNeg))) (ty := .array .int) C.1 C.2.1 (hP p0 _ hq) ((C.2.2.2.2.1.1.2 3 (w.2.2.2.2.2, .array .int) rfl).1 N (fun j => va_rf (some (w.2.1 (p0 + 1 + j))))) rfl (fun q => by cases q) (by show ¬ (i < 0 ∨ (arrV _ _ _).slots.size ≤ _); rw [arrV_size]; exact hi) (by show (arrV _ _ _).slots[_]? = _; rw [arrV_read _ _ hlt]; rfl) rfl rfl hd (kk H locs L hP hS hL)
/-- a method's end: what it hands back and the memory behind it -/
def QN (w : Wt) (sz : Nat) (rp : Option Value → Mem → Prop) : Array Value → State → Outcome → State → Prop := fun _ st oc t => ∃ (r : Option Value) (X : Mem), oc = .returned r ∧ rp r X ∧ va_P w.1 vwCl (wl w X) t.heap ∧ va_F (AA w sz) st t
def PN (w : Wt) (sz : Nat) (as : List Value) (X : Mem) : Array Value → State → Prop := va_Pc as (fun U => U.heap.size = sz ∧ va_P w.1 vwCl (wl w X) U.heap ∧ Kw w U)
/-- A CONTRACT of a method that returns: with these arguments and this memory it hands back r and leaves the memory X' with rp r X' -/
def Ct (w : Wt) (l : Launch) (y : MethodName) (bytes : ByteArray) (maxL : Nat) (ret : Option FieldType) (fr lo : Nat) (as : List Value) (X : Mem) (rp : Option Value → Mem → Prop) : Prop :=
  ∀ sz : Nat, Met l y [Cond.code y bytes maxL ret] ({ frames := fr, cells := 0, slots := 0, locals := lo } : Room) (PN w sz as X) (QN w sz rp) 0 0 (AA w sz)
theorem PN.blind {w : Wt} {sz : Nat} {as : List Value} {X : Mem} : FrameBlind (PN w sz as X) := fun a U g mk q => by
  obtain ⟨q0, q1, q2, q3⟩ := q
  exact ⟨q0, q1, q2, Kw.same (s := U) (U := U.calling g mk a) rfl q3⟩
def ls0 (as : List Value) (nL : Nat) : List (Option Value) := as.map some ++ List.replicate (nL - as.length) none
theorem LH_start {as : List Value} {nL : Nat} (h : as.length ≤ nL) (hc : ∀ v ∈ as, v.category = 1) : ∃ L, entryFrame m as.toArray nL = F0 m 0 L [] ∧ LH L nL (ls0 as nL) := by
  have hsl : (lg_sl as) = as.map Slot.val := by
    unfold lg_sl
    clear h
    induction as with
    | nil => rfl
    | cons a t ih =>
      rw [List.flatMap_cons, ih (fun v hv => hc v (List.mem_cons_of_mem _ hv)), List.map_cons]
      rw [if_neg (by rw [hc a List.mem_cons_self]; decide)]
      rfl
  refine ⟨_, lg_entry_eq m as nL, ?_⟩
  obtain ⟨h1, h2, -⟩ := lv_entry as (n := nL) (by rw [hsl, List.length_map]; exact h)
  refine ⟨h1, h2, fun i v hv => ?_⟩
  have hi : i < as.length ∧ as[i]? = some v := by
    unfold ls0 at hv
    rw [List.getElem?_append, List.length_map] at hv
    by_cases q : i < as.length
    · rw [if_pos q, List.getElem?_map] at hv
      refine ⟨q, ?_⟩
      cases e : as[i]? with
      | none => rw [e] at hv; cases hv
      | some u => rw [e] at hv; cases hv; rfl
    · rw [if_neg q, List.getElem?_replicate] at hv
      split at hv <;> cases hv
  refine ⟨?_, hc v (List.mem_of_getElem? hi.2)⟩
  rw [hsl, List.getElem?_toArray, List.getElem?_append_left (by rw [List.length_map]; exact hi.1), List.getElem?_map, hi.2]
  rfl
theorem Ct_of {y : MethodName} {bytes : ByteArray} {maxL fr lo : Nat} {as : List Value} {rp : Option Value → Mem → Prop} (hy : plainName y.cls = true) (ha : as.length ≤ maxL) (hc : ∀ v ∈ as, v.category = 1)
    (body : ∀ (p : Program) (e : Env) (s : State) (m : MethodId) (below : List Frame) (meth : Method) (c : Code), CX p s m as.toArray meth c w bytes maxL y.cls ret → V p l e ({ frames := fr, cells := 0, slots := 0, locals := lo } : Room) s m as.toArray below meth c w maxL 0 0 (MQ below (QN w s.heap.size rp) as.toArray s 0 0 (AA w s.heap.size)) 0 (ls0 as maxL) [] X) : Ct w l y bytes maxL ret fr lo as X rp := by
  intro sz
  refine Met.ofW (cc := bytes) (maxL := maxL) (ret := ret) hy rfl ?_
  intro p e s m args below meth c s₁ B hml hv
  obtain ⟨rfl, hsz, hP, hK⟩ := hv
  subst hsz
  obtain ⟨L, hF, hL⟩ := LH_start (m := m) ha hc
  rw [hF]
  exact body p e s m below meth c ⟨B.exec, B.bytes, hml, findClass_of_methodNamed B.named, hK, B.returns, B.notSynchronized, hK.2.2.use⟩ s.heap [] L hP va_S.rf hL
theorem V_ireturn {rp : Option Value → Mem → Prop} {v : Int32} (C : CX p s m args meth c w cc nL own (some .int)) (hd : decode cc pc = .ok (.ireturn, 1)) (hq : rp (some (.int v)) X) : V p l e R s m args below meth c w nL n k (MQ below (QN w s.heap.size rp) args s n k (AA w s.heap.size)) pc ls ([.int v]) X :=
  fun H locs L hP hS hL => W.iret C.1 C.2.1 C.2.2.2.2.2.1 (fun t ht hW => ⟨some (.int v), X, rfl, hq, by rw [ht]; exact hP, hS.F ht⟩) hS.2.2 hd C.2.2.2.2.2.2.1
theorem V_zreturn {rp : Option Value → Mem → Prop} {v : Int32} (C : CX p s m args meth c w cc nL own (some .boolean)) (hd : decode cc pc = .ok (.ireturn, 1)) (hz : v = 0 ∨ v = 1) (hq : rp (some (.int v)) X) : V p l e R s m args below meth c w nL n k (MQ below (QN w s.heap.size rp) args s n k (AA w s.heap.size)) pc ls ([.int v]) X :=
  fun H locs L hP hS hL => W.zret (ty := .boolean) C.1 C.2.1 C.2.2.2.2.2.1 (by rcases hz with rfl | rfl <;> rfl) (fun t ht hW => ⟨some (.int v), X, rfl, hq, by rw [ht]; exact hP, hS.F ht⟩) hS.2.2 hd C.2.2.2.2.2.2.1
theorem V_return {rp : Option Value → Mem → Prop} (C : CX p s m args meth c w cc nL own none) (hd : decode cc pc = .ok (.return_, 1)) (hq : rp none X) : V p l e R s m args below meth c w nL n k (MQ below (QN w s.heap.size rp) args s n k (AA w s.heap.size)) pc ls ([]) X :=
  fun H locs L hP hS hL => W.vret C.1 C.2.1 C.2.2.2.2.2.1 (fun t ht hW => ⟨none, X, rfl, hq, by rw [ht]; exact hP, hS.F ht⟩) hS.2.2 hd C.2.2.2.2.2.2.1
/-- a method's link: by its number in the class's pool, plain or to a nest mate -/
def ML (own : String) (idx : Nat) (y : MethodName) (bytes : ByteArray) (maxL : Nat) (ret : Option FieldType) (na : Nat) : Prop :=
  (Cond.methodLink own idx y ∈ TB ∨ ∃ h, Cond.methodLinkNest own idx y h ∈ TB) ∧ Cond.code y bytes maxL ret ∈ TB ∧ Cond.initialized y.cls ∈ TB ∧ (y.cls ≠ "java/lang/invoke/MethodHandle" ∧ y.cls ≠ "java/lang/invoke/VarHandle" ∧ (parseMethodDescriptor y.desc).map (fun d => d.parameters.length) = some na)
/-- an instance method's -/
def MI (own : String) (idx : Nat) (y : MethodName) (bytes : ByteArray) (maxL : Nat) (ret : Option FieldType) (na : Nat) : Prop :=
  ML own idx y bytes maxL ret na ∧ Cond.instanceMethod y ∈ TB ∧ Cond.selects y.cls y y ∈ TB
/-- a static method's -/
def MS (own : String) (idx : Nat) (y : MethodName) (bytes : ByteArray) (maxL : Nat) (ret : Option FieldType) (na : Nat) : Prop :=
  ML own idx y bytes maxL ret na ∧ Cond.static y ∈ TB
theorem code_good {y : MethodName} {bytes : ByteArray} {maxL : Nat} {rt : Option FieldType} (h : Cond.code y bytes maxL rt ∈ TB) : GoodIn TB [Cond.code y bytes maxL rt] := fun w hw => by
  rw [List.mem_singleton] at hw
  subst hw
  exact ⟨h, Or.inl rfl⟩
theorem run_go {a : Array Value} {H : Heap} {locs : List Loc} {L : Array Slot} {st0 rest : List Value} {rp : Option Value → Mem → Prop} (hr : va_Run p l e R s m args below meth c H locs n k 0 0 (F0 m pc L st0) rest (QN w H.size rp a) (AA w H.size)) (hS : va_S (AA w s.heap.size) s.heap H locs) (hL : LH L nL ls)
    (kk : ∀ (r : Option Value) (X1 : Mem), rp r X1 → V p l e R s m args below meth c w nL n k Q (pc + 3) ls (r.toList ++ rest) X1) : W p l e R s m args below meth c H locs n k Q (F0 m pc L st0) := by
  intro T hT Xs
  obtain ⟨v, st₀, t, T', Lc, h0, X', hLc, e1, e2, ⟨r, X1, hv, hp, hP1, hz, hk⟩, stp⟩ := hr T hT Xs
  cases hv
  rw [h0] at hz hk
  have hA : ∀ q, AA w H.size q → AA w s.heap.size q := fun q hq => AA_le hS.1 hq
  obtain ⟨t2, a1, b1⟩ := kk v X1 hp T'.heap (locs ++ Lc) L (by rw [e1]; exact hP1)
    ⟨Nat.le_trans hS.1 (by rw [e1]; exact hz), fun q h1 h2 => by rw [e1, hk q (Nat.lt_of_lt_of_le h1 hS.1) (fun z => h2 (hA q z))]; exact hS.2.1 q h1 h2, fun q hq => by
      rcases List.mem_append.mp hq with h | h
      · exact hS.2.2 q h
      · exact hA _ (hLc q h)⟩ hL T' rfl X'
  exact ⟨t2, stp t2 a1, b1⟩
theorem PN_pre {as : List Value} {H : Heap} (hK : Kw w s) (hP : va_P w.1 vwCl (wl w X) H) : ∀ U : State, U.heap = H → s.WarmedH U.vm → PN w H.size as X as.toArray U := fun U hU hW => ⟨rfl, by rw [hU], by rw [hU]; exact hP, hK.warm hW⟩
theorem V_callV {y : MethodName} {bytes : ByteArray} {maxL fr lo na idx ci p0 : Nat} {rt : Option FieldType} {fl : List (Option Nat)} {As rest : List Value} {rp : Option Value → Mem → Prop} (C : CX p s m args meth c w cc nL own ret) (f : MI own idx y bytes maxL rt na) (hM : Ct w l y bytes maxL rt fr lo (.ref (w.2.1 p0) :: As) X rp) (hd : decode cc pc = .ok (.invokevirtual idx, 3)) (h0 : p0 < 117) (hs : sh p0 = .inr (ci, fl)) (hc : (vwCl[ci]?).map (fun q => q.1) = some y.cls) (hst : st = As.reverse ++ .ref (w.2.1 p0) :: rest) (hn : As.length = na) (hW : (rest.map fun v => v.category).sum ≤ 8) (hR : fr + 1 ≤ R.frames ∧ 8 + (maxL + 11) + lo ≤ R.locals) (hnk : n ≤ R.cells ∧ k ≤ R.slots)
    (kk : ∀ (r : Option Value) (X1 : Mem), rp r X1 → V p l e R s m args below meth c w nL n k Q (pc + 3) ls (r.toList ++ rest) X1) : V p l e R s m args below meth c w nL n k Q pc ls st X := by
  intro H locs L hP hS hL
  obtain ⟨⟨f1, f2, f3, f4⟩, f5, f6⟩ := f
  obtain ⟨q, hq1, hq2⟩ : ∃ q, vwCl[ci]? = some q ∧ q.1 = y.cls := by
    cases e : vwCl[ci]? with
    | none => rw [e] at hc; cases hc
    | some q => rw [e] at hc; exact ⟨q, rfl, Option.some.inj hc⟩
  have hrecv := va_recv C.2.2.2.2.1.1 hP hq1 (show (wl w X)[p0]? = some (w.2.1 p0, .inr (ci, vals w X p0 fl)) by rw [wl_at h0, cel_o hs])
  rw [hq2] at hrecv
  have hts := C.2.2.2.2.2.2.2
  have hp : PreV s H y.cls (w.2.1 p0) (PN w H.size (.ref (w.2.1 p0) :: As) X) As := ⟨PN.blind, hrecv, PN_pre C.2.2.2.2.1 hP⟩
  have hsz : L.size = nL := hL.1
  have hW' : 2 * (F0 m pc L st).monitorRoom + (rest.map fun v => v.category).sum ≤ 8 := by
    have : (F0 m pc L st).monitorRoom = 0 := rfl
    rw [this]
    omega
  rcases f1 with f1 | ⟨host, f1⟩
  · have cw : CallW R s args own y.cls idx y bytes maxL rt [Cond.code y bytes maxL rt] ({ frames := fr, cells := 0, slots := 0, locals := lo } : Room) 0 0 na := ⟨callB_of na hts (code_good f2) rfl rfl rfl (hts _ f3) (hts _ f1) f4 hR, hts _ f5, hts _ f6⟩
    exact run_go (va_runV ⟨C.1, C.2.1, C.2.2.1, C.2.2.2.1, hts⟩ (hM H.size) cw hp rfl hn hsz hst hW' hd ⟨hnk.1, hnk.2⟩) hS hL kk
  · have cw : va_CN R s args own idx y host bytes maxL rt [Cond.code y bytes maxL rt] ({ frames := fr, cells := 0, slots := 0, locals := lo } : Room) 0 0 na := va_cnB na hts (code_good f2) rfl rfl rfl (va_Nw.of rfl (hts _ f1)) (hts _ f3) f4 hR
    exact run_go (va_runVN ⟨C.1, C.2.1, C.2.2.1, C.2.2.2.1, hts⟩ (hM H.size) ⟨cw, hts _ f5, hts _ f6⟩ hp rfl hn hsz hst hW' hd ⟨hnk.1, hnk.2⟩) hS hL kk
theorem V_callS {y : MethodName} {bytes : ByteArray} {maxL fr lo na idx : Nat} {rt : Option FieldType} {As rest : List Value} {rp : Option Value → Mem → Prop} (C : CX p s m args meth c w cc nL own ret) (f : MS own idx y bytes maxL rt na) (hM : Ct w l y bytes maxL rt fr lo As X rp) (hd : decode cc pc = .ok (.invokestatic idx, 3)) (hst : st = As.reverse ++ rest) (hn : As.length = na) (hW : (rest.map fun v => v.category).sum ≤ 8) (hR : fr + 1 ≤ R.frames ∧ 8 + (maxL + 11) + lo ≤ R.locals) (hnk : n ≤ R.cells ∧ k ≤ R.slots)
    (kk : ∀ (r : Option Value) (X1 : Mem), rp r X1 → V p l e R s m args below meth c w nL n k Q (pc + 3) ls (r.toList ++ rest) X1) : V p l e R s m args below meth c w nL n k Q pc ls st X := by
  intro H locs L hP hS hL
  obtain ⟨⟨f1, f2, f3, f4⟩, f5⟩ := f
  have hts := C.2.2.2.2.2.2.2
  have hp : PreS s H (PN w H.size As X) As := ⟨PN.blind, PN_pre C.2.2.2.2.1 hP⟩
  have hsz : L.size = nL := hL.1
  have hW' : 2 * (F0 m pc L st).monitorRoom + (rest.map fun v => v.category).sum ≤ 8 := by
    have : (F0 m pc L st).monitorRoom = 0 := rfl
    rw [this]
    omega
  rcases f1 with f1 | ⟨host, f1⟩
  · exact run_go (va_runS ⟨C.1, C.2.1, C.2.2.1, C.2.2.2.1, hts⟩ (hM H.size) ⟨callB_of na hts (code_good f2) rfl rfl rfl (hts _ f3) (hts _ f1) f4 hR, hts _ f5⟩ hp rfl hn hsz hst hW' hd ⟨hnk.1, hnk.2⟩) hS hL kk
  · have cw : va_CN R s args own idx y host bytes maxL rt [Cond.code y bytes maxL rt] ({ frames := fr, cells := 0, slots := 0, locals := lo } : Room) 0 0 na := va_cnB na hts (code_good f2) rfl rfl rfl (va_Nw.of rfl (hts _ f1)) (hts _ f3) f4 hR
    exact run_go (va_runSN ⟨C.1, C.2.1, C.2.2.1, C.2.2.2.1, hts⟩ (hM H.size) ⟨cw, hts _ f5, trivial⟩ hp rfl hn hsz hst hW' hd ⟨hnk.1, hnk.2⟩) hS hL kk
end VR
end
section
theorem tb_i {x : Cond} (i : Nat) (h : lw_tbl[i]? = some x) (hk : okT x = true) : x ∈ TB := List.mem_filter.mpr ⟨List.mem_of_getElem? h, hk⟩
theorem tb_all (ws : List Cond) (ps : List Nat) (hp : ws = ps.filterMap (fun i => lw_tbl[i]?)) (h : ws.all okT = true) : ∀ x ∈ ws, x ∈ TB := by
  intro x hx
  have h1 := List.all_eq_true.mp h x hx
  rw [hp] at hx
  obtain ⟨i, -, hi⟩ := List.mem_filterMap.mp hx
  exact tb_i i hi h1
theorem tb_in : ∀ x ∈ TB, x ∈ lw_tbl := fun x h => (List.mem_filter.mp h).1
theorem tc_0 : ∀ x ∈ u_ws RX0 TX0 3, x ∈ TB := tb_all _ [288, 290, 292] (by decide +kernel) (by decide +kernel)
theorem tc_1 : ∀ x ∈ u_ws RX2 TX2 4, x ∈ TB := tb_all _ [195, 197, 199, 201] (by decide +kernel) (by decide +kernel)
theorem tc_2 : ∀ x ∈ u_ws RX3 TX3 3, x ∈ TB := tb_all _ [272, 274, 276] (by decide +kernel) (by decide +kernel)
theorem tc_3 : ∀ x ∈ u_ws RX4 TX4 6, x ∈ TB := tb_all _ [112, 114, 116, 118, 120, 122] (by decide +kernel) (by decide +kernel)
theorem tc_4 : ∀ x ∈ u_ws RX5 TX5 5, x ∈ TB := tb_all _ [308, 310, 312, 314, 316] (by decide +kernel) (by decide +kernel)
theorem tc_5 : ∀ x ∈ u_ws RX6 TX6 9, x ∈ TB := tb_all _ [233, 235, 237, 239, 241, 243, 245, 247, 249] (by decide +kernel) (by decide +kernel)
theorem tc_6 : ∀ x ∈ u_ws RX7 TX7 11, x ∈ TB := tb_all _ [160, 162, 164, 166, 168, 170, 172, 174, 176, 178, 180] (by decide +kernel) (by decide +kernel)
theorem tc_7 : ∀ x ∈ u_ws RX8 TX8 1, x ∈ TB := tb_all _ [260] (by decide +kernel) (by decide +kernel)
theorem tc_8 : ∀ x ∈ u_ws RX9 TX9 8, x ∈ TB := tb_all _ [327, 329, 331, 333, 335, 337, 339, 341] (by decide +kernel) (by decide +kernel)
theorem tc_9 : ∀ x ∈ u_ws RX10 TX10 37, x ∈ TB := tb_all _ [1006, 1008, 1010, 1012, 1014, 1016, 1018, 1020, 1022, 1024, 1026, 1028, 1030, 1032, 1034, 1036, 1038, 1040, 1042, 1044, 1046, 1048, 1050, 1052, 1054, 1056, 1058, 1060, 1062, 1064, 1066, 1068, 1070, 1072, 1074, 1076, 1078] (by decide +kernel) (by decide +kernel)
theorem fl_X4_9 : FL RX4 9 3 0 := ⟨_, _, _, rfl, tc_3, by decide, (Or.inl (tb_i 95 (by decide +kernel) (by decide +kernel)))⟩
theorem fp_X4_9 : FP RX4 9 3 0 := ⟨_, _, _, tyX4, rfl, tc_3, by decide, (Or.inl (tb_i 95 (by decide +kernel) (by decide +kernel))), tyX4_ok, nmX4, rfl, by decide +kernel⟩
theorem fl_X9_111 : FL RX9 111 3 0 := ⟨_, _, _, rfl, tc_3, by decide, (Or.inr ⟨"Pathwarden", (tb_i 96 (by decide +kernel) (by decide +kernel))⟩)⟩
theorem fp_X9_111 : FP RX9 111 3 0 := ⟨_, _, _, tyX4, rfl, tc_3, by decide, (Or.inr ⟨"Pathwarden", (tb_i 96 (by decide +kernel) (by decide +kernel))⟩), tyX4_ok, nmX4, rfl, by decide +kernel⟩
theorem fl_X2_64 : FL RX2 64 3 0 := ⟨_, _, _, rfl, tc_3, by decide, (Or.inr ⟨"Pathwarden", (tb_i 97 (by decide +kernel) (by decide +kernel))⟩)⟩
theorem fp_X2_64 : FP RX2 64 3 0 := ⟨_, _, _, tyX4, rfl, tc_3, by decide, (Or.inr ⟨"Pathwarden", (tb_i 97 (by decide +kernel) (by decide +kernel))⟩), tyX4_ok, nmX4, rfl, by decide +kernel⟩
theorem fl_X4_15 : FL RX4 15 3 1 := ⟨_, _, _, rfl, tc_3, by decide, (Or.inl (tb_i 98 (by decide +kernel) (by decide +kernel)))⟩
theorem fp_X4_15 : FP RX4 15 3 1 := ⟨_, _, _, tyX4, rfl, tc_3, by decide, (Or.inl (tb_i 98 (by decide +kernel) (by decide +kernel))), tyX4_ok, nmX4, rfl, by decide +kernel⟩
theorem fl_X2_27 : FL RX2 27 3 1 := ⟨_, _, _, rfl, tc_3, by decide, (Or.inr ⟨"Pathwarden", (tb_i 99 (by decide +kernel) (by decide +kernel))⟩)⟩
theorem fp_X2_27 : FP RX2 27 3 1 := ⟨_, _, _, tyX4, rfl, tc_3, by decide, (Or.inr ⟨"Pathwarden", (tb_i 99 (by decide +kernel) (by decide +kernel))⟩), tyX4_ok, nmX4, rfl, by decide +kernel⟩
theorem fl_X9_77 : FL RX9 77 3 1 := ⟨_, _, _, rfl, tc_3, by decide, (Or.inr ⟨"Pathwarden", (tb_i 100 (by decide +kernel) (by decide +kernel))⟩)⟩
theorem fp_X9_77 : FP RX9 77 3 1 := ⟨_, _, _, tyX4, rfl, tc_3, by decide, (Or.inr ⟨"Pathwarden", (tb_i 100 (by decide +kernel) (by decide +kernel))⟩), tyX4_ok, nmX4, rfl, by decide +kernel⟩
theorem fl_X4_18 : FL RX4 18 3 2 := ⟨_, _, _, rfl, tc_3, by decide, (Or.inl (tb_i 101 (by decide +kernel) (by decide +kernel)))⟩
theorem fl_X2_92 : FL RX2 92 3 2 := ⟨_, _, _, rfl, tc_3, by decide, (Or.inr ⟨"Pathwarden", (tb_i 102 (by decide +kernel) (by decide +kernel))⟩)⟩
theorem fl_X4_22 : FL RX4 22 3 3 := ⟨_, _, _, rfl, tc_3, by decide, (Or.inl (tb_i 103 (by decide +kernel) (by decide +kernel)))⟩
theorem fl_X9_99 : FL RX9 99 3 3 := ⟨_, _, _, rfl, tc_3, by decide, (Or.inr ⟨"Pathwarden", (tb_i 104 (by decide +kernel) (by decide +kernel))⟩)⟩
theorem fl_X2_79 : FL RX2 79 3 3 := ⟨_, _, _, rfl, tc_3, by decide, (Or.inr ⟨"Pathwarden", (tb_i 105 (by decide +kernel) (by decide +kernel))⟩)⟩
theorem fl_X4_25 : FL RX4 25 3 4 := ⟨_, _, _, rfl, tc_3, by decide, (Or.inl (tb_i 106 (by decide +kernel) (by decide +kernel)))⟩
theorem fl_X9_108 : FL RX9 108 3 4 := ⟨_, _, _, rfl, tc_3, by decide, (Or.inr ⟨"Pathwarden", (tb_i 107 (by decide +kernel) (by decide +kernel))⟩)⟩
theorem fl_X2_73 : FL RX2 73 3 4 := ⟨_, _, _, rfl, tc_3, by decide, (Or.inr ⟨"Pathwarden", (tb_i 108 (by decide +kernel) (by decide +kernel))⟩)⟩
theorem fl_X4_28 : FL RX4 28 3 5 := ⟨_, _, _, rfl, tc_3, by decide, (Or.inl (tb_i 109 (by decide +kernel) (by decide +kernel)))⟩
theorem fl_X9_95 : FL RX9 95 3 5 := ⟨_, _, _, rfl, tc_3, by decide, (Or.inr ⟨"Pathwarden", (tb_i 110 (by decide +kernel) (by decide +kernel))⟩)⟩
theorem fl_X2_86 : FL RX2 86 3 5 := ⟨_, _, _, rfl, tc_3, by decide, (Or.inr ⟨"Pathwarden", (tb_i 111 (by decide +kernel) (by decide +kernel))⟩)⟩
theorem fl_X7_9 : FL RX7 9 6 0 := ⟨_, _, _, rfl, tc_6, by decide, (Or.inl (tb_i 132 (by decide +kernel) (by decide +kernel)))⟩
theorem fp_X7_9 : FP RX7 9 6 0 := ⟨_, _, _, tyX7, rfl, tc_6, by decide, (Or.inl (tb_i 132 (by decide +kernel) (by decide +kernel))), tyX7_ok, nmX7, rfl, by decide +kernel⟩
theorem fl_X2_37 : FL RX2 37 6 0 := ⟨_, _, _, rfl, tc_6, by decide, (Or.inr ⟨"Pathwarden", (tb_i 133 (by decide +kernel) (by decide +kernel))⟩)⟩
theorem fp_X2_37 : FP RX2 37 6 0 := ⟨_, _, _, tyX7, rfl, tc_6, by decide, (Or.inr ⟨"Pathwarden", (tb_i 133 (by decide +kernel) (by decide +kernel))⟩), tyX7_ok, nmX7, rfl, by decide +kernel⟩
theorem fl_X9_189 : FL RX9 189 6 0 := ⟨_, _, _, rfl, tc_6, by decide, (Or.inr ⟨"Pathwarden", (tb_i 134 (by decide +kernel) (by decide +kernel))⟩)⟩
theorem fp_X9_189 : FP RX9 189 6 0 := ⟨_, _, _, tyX7, rfl, tc_6, by decide, (Or.inr ⟨"Pathwarden", (tb_i 134 (by decide +kernel) (by decide +kernel))⟩), tyX7_ok, nmX7, rfl, by decide +kernel⟩
theorem fl_X7_15 : FL RX7 15 6 1 := ⟨_, _, _, rfl, tc_6, by decide, (Or.inl (tb_i 135 (by decide +kernel) (by decide +kernel)))⟩
theorem fl_X2_40 : FL RX2 40 6 1 := ⟨_, _, _, rfl, tc_6, by decide, (Or.inr ⟨"Pathwarden", (tb_i 136 (by decide +kernel) (by decide +kernel))⟩)⟩
theorem fl_X9_139 : FL RX9 139 6 1 := ⟨_, _, _, rfl, tc_6, by decide, (Or.inr ⟨"Pathwarden", (tb_i 137 (by decide +kernel) (by decide +kernel))⟩)⟩
theorem fl_X7_19 : FL RX7 19 6 2 := ⟨_, _, _, rfl, tc_6, by decide, (Or.inl (tb_i 138 (by decide +kernel) (by decide +kernel)))⟩
theorem fl_X2_61 : FL RX2 61 6 2 := ⟨_, _, _, rfl, tc_6, by decide, (Or.inr ⟨"Pathwarden", (tb_i 139 (by decide +kernel) (by decide +kernel))⟩)⟩
theorem fl_X9_289 : FL RX9 289 6 2 := ⟨_, _, _, rfl, tc_6, by decide, (Or.inr ⟨"Pathwarden", (tb_i 140 (by decide +kernel) (by decide +kernel))⟩)⟩
theorem fl_X7_22 : FL RX7 22 6 3 := ⟨_, _, _, rfl, tc_6, by decide, (Or.inl (tb_i 141 (by decide +kernel) (by decide +kernel)))⟩
theorem fl_X2_51 : FL RX2 51 6 3 := ⟨_, _, _, rfl, tc_6, by decide, (Or.inr ⟨"Pathwarden", (tb_i 142 (by decide +kernel) (by decide +kernel))⟩)⟩
theorem fl_X9_301 : FL RX9 301 6 3 := ⟨_, _, _, rfl, tc_6, by decide, (Or.inr ⟨"Pathwarden", (tb_i 143 (by decide +kernel) (by decide +kernel))⟩)⟩
theorem fl_X7_25 : FL RX7 25 6 4 := ⟨_, _, _, rfl, tc_6, by decide, (Or.inl (tb_i 144 (by decide +kernel) (by decide +kernel)))⟩
theorem fl_X2_95 : FL RX2 95 6 4 := ⟨_, _, _, rfl, tc_6, by decide, (Or.inr ⟨"Pathwarden", (tb_i 145 (by decide +kernel) (by decide +kernel))⟩)⟩
theorem fl_X7_28 : FL RX7 28 6 5 := ⟨_, _, _, rfl, tc_6, by decide, (Or.inl (tb_i 146 (by decide +kernel) (by decide +kernel)))⟩
theorem fl_X2_98 : FL RX2 98 6 5 := ⟨_, _, _, rfl, tc_6, by decide, (Or.inr ⟨"Pathwarden", (tb_i 147 (by decide +kernel) (by decide +kernel))⟩)⟩
theorem fl_X7_31 : FL RX7 31 6 6 := ⟨_, _, _, rfl, tc_6, by decide, (Or.inl (tb_i 148 (by decide +kernel) (by decide +kernel)))⟩
theorem fl_X9_144 : FL RX9 144 6 6 := ⟨_, _, _, rfl, tc_6, by decide, (Or.inr ⟨"Pathwarden", (tb_i 149 (by decide +kernel) (by decide +kernel))⟩)⟩
theorem fl_X2_121 : FL RX2 121 6 6 := ⟨_, _, _, rfl, tc_6, by decide, (Or.inr ⟨"Pathwarden", (tb_i 150 (by decide +kernel) (by decide +kernel))⟩)⟩
theorem fl_X7_34 : FL RX7 34 6 7 := ⟨_, _, _, rfl, tc_6, by decide, (Or.inl (tb_i 151 (by decide +kernel) (by decide +kernel)))⟩
theorem fl_X2_67 : FL RX2 67 6 7 := ⟨_, _, _, rfl, tc_6, by decide, (Or.inr ⟨"Pathwarden", (tb_i 152 (by decide +kernel) (by decide +kernel))⟩)⟩
theorem fl_X7_37 : FL RX7 37 6 8 := ⟨_, _, _, rfl, tc_6, by decide, (Or.inl (tb_i 153 (by decide +kernel) (by decide +kernel)))⟩
theorem fl_X2_76 : FL RX2 76 6 8 := ⟨_, _, _, rfl, tc_6, by decide, (Or.inr ⟨"Pathwarden", (tb_i 154 (by decide +kernel) (by decide +kernel))⟩)⟩
theorem fl_X9_295 : FL RX9 295 6 8 := ⟨_, _, _, rfl, tc_6, by decide, (Or.inr ⟨"Pathwarden", (tb_i 155 (by decide +kernel) (by decide +kernel))⟩)⟩
theorem fl_X7_40 : FL RX7 40 6 9 := ⟨_, _, _, rfl, tc_6, by decide, (Or.inl (tb_i 156 (by decide +kernel) (by decide +kernel)))⟩
theorem fl_X9_135 : FL RX9 135 6 9 := ⟨_, _, _, rfl, tc_6, by decide, (Or.inr ⟨"Pathwarden", (tb_i 157 (by decide +kernel) (by decide +kernel))⟩)⟩
theorem fl_X7_44 : FL RX7 44 6 10 := ⟨_, _, _, rfl, tc_6, by decide, (Or.inl (tb_i 158 (by decide +kernel) (by decide +kernel)))⟩
theorem fl_X2_70 : FL RX2 70 6 10 := ⟨_, _, _, rfl, tc_6, by decide, (Or.inr ⟨"Pathwarden", (tb_i 159 (by decide +kernel) (by decide +kernel))⟩)⟩
theorem fl_X2_19 : FL RX2 19 1 0 := ⟨_, _, _, rfl, tc_1, by decide, (Or.inl (tb_i 190 (by decide +kernel) (by decide +kernel)))⟩
theorem fl_X2_23 : FL RX2 23 1 1 := ⟨_, _, _, rfl, tc_1, by decide, (Or.inl (tb_i 191 (by decide +kernel) (by decide +kernel)))⟩
theorem fl_X2_9 : FL RX2 9 1 2 := ⟨_, _, _, rfl, tc_1, by decide, (Or.inl (tb_i 192 (by decide +kernel) (by decide +kernel)))⟩
theorem fl_X9_193 : FL RX9 193 1 2 := ⟨_, _, _, rfl, tc_1, by decide, (Or.inr ⟨"Pathwarden", (tb_i 193 (by decide +kernel) (by decide +kernel))⟩)⟩
theorem fl_X2_15 : FL RX2 15 1 3 := ⟨_, _, _, rfl, tc_1, by decide, (Or.inl (tb_i 194 (by decide +kernel) (by decide +kernel)))⟩
theorem fl_X6_9 : FL RX6 9 5 0 := ⟨_, _, _, rfl, tc_5, by decide, (Or.inl (tb_i 212 (by decide +kernel) (by decide +kernel)))⟩
theorem fp_X6_9 : FP RX6 9 5 0 := ⟨_, _, _, tyX6, rfl, tc_5, by decide, (Or.inl (tb_i 212 (by decide +kernel) (by decide +kernel))), tyX6_ok, nmX6, rfl, by decide +kernel⟩
theorem fl_X5_44 : FL RX5 44 5 0 := ⟨_, _, _, rfl, tc_5, by decide, (Or.inr ⟨"Pathwarden", (tb_i 213 (by decide +kernel) (by decide +kernel))⟩)⟩
theorem fp_X5_44 : FP RX5 44 5 0 := ⟨_, _, _, tyX6, rfl, tc_5, by decide, (Or.inr ⟨"Pathwarden", (tb_i 213 (by decide +kernel) (by decide +kernel))⟩), tyX6_ok, nmX6, rfl, by decide +kernel⟩
theorem fl_X9_158 : FL RX9 158 5 0 := ⟨_, _, _, rfl, tc_5, by decide, (Or.inr ⟨"Pathwarden", (tb_i 214 (by decide +kernel) (by decide +kernel))⟩)⟩
theorem fp_X9_158 : FP RX9 158 5 0 := ⟨_, _, _, tyX6, rfl, tc_5, by decide, (Or.inr ⟨"Pathwarden", (tb_i 214 (by decide +kernel) (by decide +kernel))⟩), tyX6_ok, nmX6, rfl, by decide +kernel⟩
theorem fl_X6_15 : FL RX6 15 5 1 := ⟨_, _, _, rfl, tc_5, by decide, (Or.inl (tb_i 215 (by decide +kernel) (by decide +kernel)))⟩
theorem fp_X6_15 : FP RX6 15 5 1 := ⟨_, _, _, tyX6, rfl, tc_5, by decide, (Or.inl (tb_i 215 (by decide +kernel) (by decide +kernel))), tyX6_ok, nmX6, rfl, by decide +kernel⟩
theorem fl_X9_175 : FL RX9 175 5 1 := ⟨_, _, _, rfl, tc_5, by decide, (Or.inr ⟨"Pathwarden", (tb_i 216 (by decide +kernel) (by decide +kernel))⟩)⟩
theorem fp_X9_175 : FP RX9 175 5 1 := ⟨_, _, _, tyX6, rfl, tc_5, by decide, (Or.inr ⟨"Pathwarden", (tb_i 216 (by decide +kernel) (by decide +kernel))⟩), tyX6_ok, nmX6, rfl, by decide +kernel⟩
theorem fl_X6_18 : FL RX6 18 5 2 := ⟨_, _, _, rfl, tc_5, by decide, (Or.inl (tb_i 217 (by decide +kernel) (by decide +kernel)))⟩
theorem fp_X6_18 : FP RX6 18 5 2 := ⟨_, _, _, tyX6, rfl, tc_5, by decide, (Or.inl (tb_i 217 (by decide +kernel) (by decide +kernel))), tyX6_ok, nmX6, rfl, by decide +kernel⟩
theorem fl_X9_150 : FL RX9 150 5 2 := ⟨_, _, _, rfl, tc_5, by decide, (Or.inr ⟨"Pathwarden", (tb_i 218 (by decide +kernel) (by decide +kernel))⟩)⟩
theorem fp_X9_150 : FP RX9 150 5 2 := ⟨_, _, _, tyX6, rfl, tc_5, by decide, (Or.inr ⟨"Pathwarden", (tb_i 218 (by decide +kernel) (by decide +kernel))⟩), tyX6_ok, nmX6, rfl, by decide +kernel⟩
theorem fl_X6_21 : FL RX6 21 5 3 := ⟨_, _, _, rfl, tc_5, by decide, (Or.inl (tb_i 219 (by decide +kernel) (by decide +kernel)))⟩
theorem fl_X9_155 : FL RX9 155 5 3 := ⟨_, _, _, rfl, tc_5, by decide, (Or.inr ⟨"Pathwarden", (tb_i 220 (by decide +kernel) (by decide +kernel))⟩)⟩
theorem fl_X6_27 : FL RX6 27 5 4 := ⟨_, _, _, rfl, tc_5, by decide, (Or.inl (tb_i 221 (by decide +kernel) (by decide +kernel)))⟩
theorem fl_X5_53 : FL RX5 53 5 4 := ⟨_, _, _, rfl, tc_5, by decide, (Or.inr ⟨"Pathwarden", (tb_i 222 (by decide +kernel) (by decide +kernel))⟩)⟩
theorem fl_X9_213 : FL RX9 213 5 4 := ⟨_, _, _, rfl, tc_5, by decide, (Or.inr ⟨"Pathwarden", (tb_i 223 (by decide +kernel) (by decide +kernel))⟩)⟩
theorem fl_X6_30 : FL RX6 30 5 5 := ⟨_, _, _, rfl, tc_5, by decide, (Or.inl (tb_i 224 (by decide +kernel) (by decide +kernel)))⟩
theorem fl_X5_56 : FL RX5 56 5 5 := ⟨_, _, _, rfl, tc_5, by decide, (Or.inr ⟨"Pathwarden", (tb_i 225 (by decide +kernel) (by decide +kernel))⟩)⟩
theorem fl_X9_217 : FL RX9 217 5 5 := ⟨_, _, _, rfl, tc_5, by decide, (Or.inr ⟨"Pathwarden", (tb_i 226 (by decide +kernel) (by decide +kernel))⟩)⟩
theorem fl_X6_33 : FL RX6 33 5 6 := ⟨_, _, _, rfl, tc_5, by decide, (Or.inl (tb_i 227 (by decide +kernel) (by decide +kernel)))⟩
theorem fl_X9_230 : FL RX9 230 5 6 := ⟨_, _, _, rfl, tc_5, by decide, (Or.inr ⟨"Pathwarden", (tb_i 228 (by decide +kernel) (by decide +kernel))⟩)⟩
theorem fl_X6_36 : FL RX6 36 5 7 := ⟨_, _, _, rfl, tc_5, by decide, (Or.inl (tb_i 229 (by decide +kernel) (by decide +kernel)))⟩
theorem fl_X9_233 : FL RX9 233 5 7 := ⟨_, _, _, rfl, tc_5, by decide, (Or.inr ⟨"Pathwarden", (tb_i 230 (by decide +kernel) (by decide +kernel))⟩)⟩
theorem fl_X6_39 : FL RX6 39 5 8 := ⟨_, _, _, rfl, tc_5, by decide, (Or.inl (tb_i 231 (by decide +kernel) (by decide +kernel)))⟩
theorem fl_X9_170 : FL RX9 170 5 8 := ⟨_, _, _, rfl, tc_5, by decide, (Or.inr ⟨"Pathwarden", (tb_i 232 (by decide +kernel) (by decide +kernel))⟩)⟩
theorem fl_X8_11 : FL RX8 11 7 0 := ⟨_, _, _, rfl, tc_7, by decide, (Or.inl (tb_i 259 (by decide +kernel) (by decide +kernel)))⟩
theorem fl_X3_19 : FL RX3 19 2 0 := ⟨_, _, _, rfl, tc_2, by decide, (Or.inl (tb_i 269 (by decide +kernel) (by decide +kernel)))⟩
theorem fl_X3_9 : FL RX3 9 2 1 := ⟨_, _, _, rfl, tc_2, by decide, (Or.inl (tb_i 270 (by decide +kernel) (by decide +kernel)))⟩
theorem fl_X3_15 : FL RX3 15 2 2 := ⟨_, _, _, rfl, tc_2, by decide, (Or.inl (tb_i 271 (by decide +kernel) (by decide +kernel)))⟩
theorem fl_X0_15 : FL RX0 15 0 0 := ⟨_, _, _, rfl, tc_0, by decide, (Or.inl (tb_i 285 (by decide +kernel) (by decide +kernel)))⟩
theorem fl_X0_19 : FL RX0 19 0 1 := ⟨_, _, _, rfl, tc_0, by decide, (Or.inl (tb_i 286 (by decide +kernel) (by decide +kernel)))⟩
theorem fl_X0_9 : FL RX0 9 0 2 := ⟨_, _, _, rfl, tc_0, by decide, (Or.inl (tb_i 287 (by decide +kernel) (by decide +kernel)))⟩
theorem fl_X5_27 : FL RX5 27 4 0 := ⟨_, _, _, rfl, tc_4, by decide, (Or.inl (tb_i 302 (by decide +kernel) (by decide +kernel)))⟩
theorem fl_X5_9 : FL RX5 9 4 1 := ⟨_, _, _, rfl, tc_4, by decide, (Or.inl (tb_i 303 (by decide +kernel) (by decide +kernel)))⟩
theorem fp_X5_9 : FP RX5 9 4 1 := ⟨_, _, _, tyX5, rfl, tc_4, by decide, (Or.inl (tb_i 303 (by decide +kernel) (by decide +kernel))), tyX5_ok, nmX5, rfl, by decide +kernel⟩
theorem fl_X9_254 : FL RX9 254 4 1 := ⟨_, _, _, rfl, tc_4, by decide, (Or.inr ⟨"Pathwarden", (tb_i 304 (by decide +kernel) (by decide +kernel))⟩)⟩
theorem fp_X9_254 : FP RX9 254 4 1 := ⟨_, _, _, tyX5, rfl, tc_4, by decide, (Or.inr ⟨"Pathwarden", (tb_i 304 (by decide +kernel) (by decide +kernel))⟩), tyX5_ok, nmX5, rfl, by decide +kernel⟩
theorem fl_X5_15 : FL RX5 15 4 2 := ⟨_, _, _, rfl, tc_4, by decide, (Or.inl (tb_i 305 (by decide +kernel) (by decide +kernel)))⟩
theorem fl_X5_21 : FL RX5 21 4 3 := ⟨_, _, _, rfl, tc_4, by decide, (Or.inl (tb_i 306 (by decide +kernel) (by decide +kernel)))⟩
theorem fl_X5_24 : FL RX5 24 4 4 := ⟨_, _, _, rfl, tc_4, by decide, (Or.inl (tb_i 307 (by decide +kernel) (by decide +kernel)))⟩
theorem fl_X9_10 : FL RX9 10 8 0 := ⟨_, _, _, rfl, tc_8, by decide, (Or.inl (tb_i 319 (by decide +kernel) (by decide +kernel)))⟩
theorem fl_X9_19 : FL RX9 19 8 1 := ⟨_, _, _, rfl, tc_8, by decide, (Or.inl (tb_i 320 (by decide +kernel) (by decide +kernel)))⟩
theorem fl_X9_28 : FL RX9 28 8 2 := ⟨_, _, _, rfl, tc_8, by decide, (Or.inl (tb_i 321 (by decide +kernel) (by decide +kernel)))⟩
theorem fl_X9_35 : FL RX9 35 8 3 := ⟨_, _, _, rfl, tc_8, by decide, (Or.inl (tb_i 322 (by decide +kernel) (by decide +kernel)))⟩
theorem fl_X9_42 : FL RX9 42 8 4 := ⟨_, _, _, rfl, tc_8, by decide, (Or.inl (tb_i 323 (by decide +kernel) (by decide +kernel)))⟩
theorem fl_X9_51 : FL RX9 51 8 5 := ⟨_, _, _, rfl, tc_8, by decide, (Or.inl (tb_i 324 (by decide +kernel) (by decide +kernel)))⟩
theorem fl_X9_60 : FL RX9 60 8 6 := ⟨_, _, _, rfl, tc_8, by decide, (Or.inl (tb_i 325 (by decide +kernel) (by decide +kernel)))⟩
theorem fl_X9_69 : FL RX9 69 8 7 := ⟨_, _, _, rfl, tc_8, by decide, (Or.inl (tb_i 326 (by decide +kernel) (by decide +kernel)))⟩
theorem fl_X10_105 : FL RX10 105 9 0 := ⟨_, _, _, rfl, tc_9, by decide, (Or.inl (tb_i 969 (by decide +kernel) (by decide +kernel)))⟩
theorem fp_X10_105 : FP RX10 105 9 0 := ⟨_, _, _, tyX10, rfl, tc_9, by decide, (Or.inl (tb_i 969 (by decide +kernel) (by decide +kernel))), tyX10_ok, nmX10, rfl, by decide +kernel⟩
theorem fl_X10_122 : FL RX10 122 9 1 := ⟨_, _, _, rfl, tc_9, by decide, (Or.inl (tb_i 970 (by decide +kernel) (by decide +kernel)))⟩
theorem fp_X10_122 : FP RX10 122 9 1 := ⟨_, _, _, tyX10, rfl, tc_9, by decide, (Or.inl (tb_i 970 (by decide +kernel) (by decide +kernel))), tyX10_ok, nmX10, rfl, by decide +kernel⟩
theorem fl_X10_7 : FL RX10 7 9 2 := ⟨_, _, _, rfl, tc_9, by decide, (Or.inl (tb_i 971 (by decide +kernel) (by decide +kernel)))⟩
theorem fl_X10_13 : FL RX10 13 9 3 := ⟨_, _, _, rfl, tc_9, by decide, (Or.inl (tb_i 972 (by decide +kernel) (by decide +kernel)))⟩
theorem fl_X10_16 : FL RX10 16 9 4 := ⟨_, _, _, rfl, tc_9, by decide, (Or.inl (tb_i 973 (by decide +kernel) (by decide +kernel)))⟩
theorem fl_X10_19 : FL RX10 19 9 5 := ⟨_, _, _, rfl, tc_9, by decide, (Or.inl (tb_i 974 (by decide +kernel) (by decide +kernel)))⟩
theorem fp_X10_19 : FP RX10 19 9 5 := ⟨_, _, _, tyX10, rfl, tc_9, by decide, (Or.inl (tb_i 974 (by decide +kernel) (by decide +kernel))), tyX10_ok, nmX10, rfl, by decide +kernel⟩
theorem fl_X10_23 : FL RX10 23 9 6 := ⟨_, _, _, rfl, tc_9, by decide, (Or.inl (tb_i 975 (by decide +kernel) (by decide +kernel)))⟩
theorem fl_X10_26 : FL RX10 26 9 7 := ⟨_, _, _, rfl, tc_9, by decide, (Or.inl (tb_i 976 (by decide +kernel) (by decide +kernel)))⟩
theorem fl_X10_29 : FL RX10 29 9 8 := ⟨_, _, _, rfl, tc_9, by decide, (Or.inl (tb_i 977 (by decide +kernel) (by decide +kernel)))⟩
theorem fl_X10_32 : FL RX10 32 9 9 := ⟨_, _, _, rfl, tc_9, by decide, (Or.inl (tb_i 978 (by decide +kernel) (by decide +kernel)))⟩
theorem fl_X10_35 : FL RX10 35 9 10 := ⟨_, _, _, rfl, tc_9, by decide, (Or.inl (tb_i 979 (by decide +kernel) (by decide +kernel)))⟩
theorem fl_X10_38 : FL RX10 38 9 11 := ⟨_, _, _, rfl, tc_9, by decide, (Or.inl (tb_i 980 (by decide +kernel) (by decide +kernel)))⟩
theorem fl_X10_41 : FL RX10 41 9 12 := ⟨_, _, _, rfl, tc_9, by decide, (Or.inl (tb_i 981 (by decide +kernel) (by decide +kernel)))⟩
theorem fl_X10_44 : FL RX10 44 9 13 := ⟨_, _, _, rfl, tc_9, by decide, (Or.inl (tb_i 982 (by decide +kernel) (by decide +kernel)))⟩
theorem fl_X10_47 : FL RX10 47 9 14 := ⟨_, _, _, rfl, tc_9, by decide, (Or.inl (tb_i 983 (by decide +kernel) (by decide +kernel)))⟩
theorem fl_X10_50 : FL RX10 50 9 15 := ⟨_, _, _, rfl, tc_9, by decide, (Or.inl (tb_i 984 (by decide +kernel) (by decide +kernel)))⟩
theorem fl_X10_54 : FL RX10 54 9 16 := ⟨_, _, _, rfl, tc_9, by decide, (Or.inl (tb_i 985 (by decide +kernel) (by decide +kernel)))⟩
theorem fl_X10_112 : FL RX10 112 9 17 := ⟨_, _, _, rfl, tc_9, by decide, (Or.inl (tb_i 986 (by decide +kernel) (by decide +kernel)))⟩
theorem fp_X10_112 : FP RX10 112 9 17 := ⟨_, _, _, tyX10, rfl, tc_9, by decide, (Or.inl (tb_i 986 (by decide +kernel) (by decide +kernel))), tyX10_ok, nmX10, rfl, by decide +kernel⟩
theorem fl_X10_57 : FL RX10 57 9 18 := ⟨_, _, _, rfl, tc_9, by decide, (Or.inl (tb_i 987 (by decide +kernel) (by decide +kernel)))⟩
theorem fl_X10_151 : FL RX10 151 9 19 := ⟨_, _, _, rfl, tc_9, by decide, (Or.inl (tb_i 988 (by decide +kernel) (by decide +kernel)))⟩
theorem fp_X10_151 : FP RX10 151 9 19 := ⟨_, _, _, tyX10, rfl, tc_9, by decide, (Or.inl (tb_i 988 (by decide +kernel) (by decide +kernel))), tyX10_ok, nmX10, rfl, by decide +kernel⟩
theorem fl_X10_60 : FL RX10 60 9 20 := ⟨_, _, _, rfl, tc_9, by decide, (Or.inl (tb_i 989 (by decide +kernel) (by decide +kernel)))⟩
theorem fl_X10_63 : FL RX10 63 9 21 := ⟨_, _, _, rfl, tc_9, by decide, (Or.inl (tb_i 990 (by decide +kernel) (by decide +kernel)))⟩
theorem fl_X10_66 : FL RX10 66 9 22 := ⟨_, _, _, rfl, tc_9, by decide, (Or.inl (tb_i 991 (by decide +kernel) (by decide +kernel)))⟩
theorem fl_X10_69 : FL RX10 69 9 23 := ⟨_, _, _, rfl, tc_9, by decide, (Or.inl (tb_i 992 (by decide +kernel) (by decide +kernel)))⟩
theorem fl_X10_72 : FL RX10 72 9 24 := ⟨_, _, _, rfl, tc_9, by decide, (Or.inl (tb_i 993 (by decide +kernel) (by decide +kernel)))⟩
theorem fl_X10_154 : FL RX10 154 9 25 := ⟨_, _, _, rfl, tc_9, by decide, (Or.inl (tb_i 994 (by decide +kernel) (by decide +kernel)))⟩
theorem fp_X10_154 : FP RX10 154 9 25 := ⟨_, _, _, tyX10, rfl, tc_9, by decide, (Or.inl (tb_i 994 (by decide +kernel) (by decide +kernel))), tyX10_ok, nmX10, rfl, by decide +kernel⟩
theorem fl_X10_75 : FL RX10 75 9 26 := ⟨_, _, _, rfl, tc_9, by decide, (Or.inl (tb_i 995 (by decide +kernel) (by decide +kernel)))⟩
theorem fl_X10_78 : FL RX10 78 9 27 := ⟨_, _, _, rfl, tc_9, by decide, (Or.inl (tb_i 996 (by decide +kernel) (by decide +kernel)))⟩
theorem fl_X10_81 : FL RX10 81 9 28 := ⟨_, _, _, rfl, tc_9, by decide, (Or.inl (tb_i 997 (by decide +kernel) (by decide +kernel)))⟩
theorem fl_X10_84 : FL RX10 84 9 29 := ⟨_, _, _, rfl, tc_9, by decide, (Or.inl (tb_i 998 (by decide +kernel) (by decide +kernel)))⟩
theorem fl_X10_87 : FL RX10 87 9 30 := ⟨_, _, _, rfl, tc_9, by decide, (Or.inl (tb_i 999 (by decide +kernel) (by decide +kernel)))⟩
theorem fl_X10_90 : FL RX10 90 9 31 := ⟨_, _, _, rfl, tc_9, by decide, (Or.inl (tb_i 1000 (by decide +kernel) (by decide +kernel)))⟩
theorem fl_X10_93 : FL RX10 93 9 32 := ⟨_, _, _, rfl, tc_9, by decide, (Or.inl (tb_i 1001 (by decide +kernel) (by decide +kernel)))⟩
theorem fl_X10_96 : FL RX10 96 9 33 := ⟨_, _, _, rfl, tc_9, by decide, (Or.inl (tb_i 1002 (by decide +kernel) (by decide +kernel)))⟩
theorem fl_X10_99 : FL RX10 99 9 34 := ⟨_, _, _, rfl, tc_9, by decide, (Or.inl (tb_i 1003 (by decide +kernel) (by decide +kernel)))⟩
theorem fl_X10_223 : FL RX10 223 9 35 := ⟨_, _, _, rfl, tc_9, by decide, (Or.inl (tb_i 1004 (by decide +kernel) (by decide +kernel)))⟩
theorem fp_X10_223 : FP RX10 223 9 35 := ⟨_, _, _, tyX10, rfl, tc_9, by decide, (Or.inl (tb_i 1004 (by decide +kernel) (by decide +kernel))), tyX10_ok, nmX10, rfl, by decide +kernel⟩
theorem fl_X10_102 : FL RX10 102 9 36 := ⟨_, _, _, rfl, tc_9, by decide, (Or.inl (tb_i 1005 (by decide +kernel) (by decide +kernel)))⟩
theorem mi_L_166 : MI RL 166 yX9_today cX9_today 1 (some .int) 0 := ⟨⟨(Or.inl (tb_i 344 (by decide +kernel) (by decide +kernel))), (tb_i 347 (by decide +kernel) (by decide +kernel)), (tb_i 63 (by decide +kernel) (by decide +kernel)), by decide +kernel⟩, (tb_i 345 (by decide +kernel) (by decide +kernel)), (tb_i 346 (by decide +kernel) (by decide +kernel))⟩
theorem mi_L_170 : MI RL 170 yX9_objects cX9_objects 1 (some .int) 0 := ⟨⟨(Or.inl (tb_i 348 (by decide +kernel) (by decide +kernel))), (tb_i 351 (by decide +kernel) (by decide +kernel)), (tb_i 63 (by decide +kernel) (by decide +kernel)), by decide +kernel⟩, (tb_i 349 (by decide +kernel) (by decide +kernel)), (tb_i 350 (by decide +kernel) (by decide +kernel))⟩
theorem mi_L_186 : MI RL 186 yX9_routes cX9_routes 1 (some .int) 0 := ⟨⟨(Or.inl (tb_i 352 (by decide +kernel) (by decide +kernel))), (tb_i 355 (by decide +kernel) (by decide +kernel)), (tb_i 63 (by decide +kernel) (by decide +kernel)), by decide +kernel⟩, (tb_i 353 (by decide +kernel) (by decide +kernel)), (tb_i 354 (by decide +kernel) (by decide +kernel))⟩
theorem mi_L_203 : MI RL 203 yX9_falseAlarms cX9_falseAlarms 1 (some .int) 0 := ⟨⟨(Or.inl (tb_i 356 (by decide +kernel) (by decide +kernel))), (tb_i 359 (by decide +kernel) (by decide +kernel)), (tb_i 63 (by decide +kernel) (by decide +kernel)), by decide +kernel⟩, (tb_i 357 (by decide +kernel) (by decide +kernel)), (tb_i 358 (by decide +kernel) (by decide +kernel))⟩
theorem mi_X9_210 : MI RX9 210 yX9_readVouchers cX9_readVouchers 2 none 0 := ⟨⟨(Or.inl (tb_i 360 (by decide +kernel) (by decide +kernel))), (tb_i 363 (by decide +kernel) (by decide +kernel)), (tb_i 63 (by decide +kernel) (by decide +kernel)), by decide +kernel⟩, (tb_i 362 (by decide +kernel) (by decide +kernel)), (tb_i 0 (by decide +kernel) (by decide +kernel))⟩
theorem mi_X9_190 : MI RX9 190 yX2_judgeAll cX2_judgeAll 2 none 0 := ⟨⟨(Or.inl (tb_i 364 (by decide +kernel) (by decide +kernel))), (tb_i 367 (by decide +kernel) (by decide +kernel)), (tb_i 66 (by decide +kernel) (by decide +kernel)), by decide +kernel⟩, (tb_i 365 (by decide +kernel) (by decide +kernel)), (tb_i 366 (by decide +kernel) (by decide +kernel))⟩
theorem mi_X2_33 : MI RX2 33 yX2_judgeGrantsTo cX2_judgeGrantsTo 3 none 1 := ⟨⟨(Or.inl (tb_i 368 (by decide +kernel) (by decide +kernel))), (tb_i 371 (by decide +kernel) (by decide +kernel)), (tb_i 66 (by decide +kernel) (by decide +kernel)), by decide +kernel⟩, (tb_i 370 (by decide +kernel) (by decide +kernel)), (tb_i 1 (by decide +kernel) (by decide +kernel))⟩
theorem mi_X2_47 : MI RX2 47 yX2_isGrantTo cX2_isGrantTo 3 (some .boolean) 2 := ⟨⟨(Or.inl (tb_i 372 (by decide +kernel) (by decide +kernel))), (tb_i 375 (by decide +kernel) (by decide +kernel)), (tb_i 66 (by decide +kernel) (by decide +kernel)), by decide +kernel⟩, (tb_i 374 (by decide +kernel) (by decide +kernel)), (tb_i 2 (by decide +kernel) (by decide +kernel))⟩
theorem mi_X2_43 : MI RX2 43 yX2_judgeOne cX2_judgeOne 3 (some .int) 1 := ⟨⟨(Or.inl (tb_i 376 (by decide +kernel) (by decide +kernel))), (tb_i 379 (by decide +kernel) (by decide +kernel)), (tb_i 66 (by decide +kernel) (by decide +kernel)), by decide +kernel⟩, (tb_i 378 (by decide +kernel) (by decide +kernel)), (tb_i 3 (by decide +kernel) (by decide +kernel))⟩
theorem mi_X2_54 : MI RX2 54 yX2_faultOfItsOwn cX2_faultOfItsOwn 3 (some .int) 1 := ⟨⟨(Or.inl (tb_i 380 (by decide +kernel) (by decide +kernel))), (tb_i 383 (by decide +kernel) (by decide +kernel)), (tb_i 66 (by decide +kernel) (by decide +kernel)), by decide +kernel⟩, (tb_i 382 (by decide +kernel) (by decide +kernel)), (tb_i 4 (by decide +kernel) (by decide +kernel))⟩
theorem mi_X2_82 : MI RX2 82 yX7_signatureBy cX7_signatureBy 4 (some .int) 2 := ⟨⟨(Or.inl (tb_i 384 (by decide +kernel) (by decide +kernel))), (tb_i 387 (by decide +kernel) (by decide +kernel)), (tb_i 65 (by decide +kernel) (by decide +kernel)), by decide +kernel⟩, (tb_i 385 (by decide +kernel) (by decide +kernel)), (tb_i 386 (by decide +kernel) (by decide +kernel))⟩
theorem mi_X7_47 : MI RX7 47 yX7_digest cX7_digest 3 (some .int) 1 := ⟨⟨(Or.inl (tb_i 388 (by decide +kernel) (by decide +kernel))), (tb_i 391 (by decide +kernel) (by decide +kernel)), (tb_i 65 (by decide +kernel) (by decide +kernel)), by decide +kernel⟩, (tb_i 390 (by decide +kernel) (by decide +kernel)), (tb_i 5 (by decide +kernel) (by decide +kernel))⟩
theorem ms_X7_52 : MS RX7 52 yX7_mix cX7_mix 2 (some .int) 2 := ⟨⟨(Or.inl (tb_i 392 (by decide +kernel) (by decide +kernel))), (tb_i 394 (by decide +kernel) (by decide +kernel)), (tb_i 65 (by decide +kernel) (by decide +kernel)), by decide +kernel⟩, (tb_i 393 (by decide +kernel) (by decide +kernel))⟩
theorem mi_X2_57 : MI RX2 57 yX2_isOutside cX2_isOutside 4 (some .boolean) 1 := ⟨⟨(Or.inl (tb_i 396 (by decide +kernel) (by decide +kernel))), (tb_i 399 (by decide +kernel) (by decide +kernel)), (tb_i 66 (by decide +kernel) (by decide +kernel)), by decide +kernel⟩, (tb_i 398 (by decide +kernel) (by decide +kernel)), (tb_i 6 (by decide +kernel) (by decide +kernel))⟩
theorem mi_X2_89 : MI RX2 89 yX2_holdsAnything cX2_holdsAnything 4 (some .boolean) 1 := ⟨⟨(Or.inl (tb_i 400 (by decide +kernel) (by decide +kernel))), (tb_i 403 (by decide +kernel) (by decide +kernel)), (tb_i 66 (by decide +kernel) (by decide +kernel)), by decide +kernel⟩, (tb_i 402 (by decide +kernel) (by decide +kernel)), (tb_i 7 (by decide +kernel) (by decide +kernel))⟩
theorem mi_X2_105 : MI RX2 105 yX2_isGoodGrantTo cX2_isGoodGrantTo 3 (some .boolean) 2 := ⟨⟨(Or.inl (tb_i 404 (by decide +kernel) (by decide +kernel))), (tb_i 407 (by decide +kernel) (by decide +kernel)), (tb_i 66 (by decide +kernel) (by decide +kernel)), by decide +kernel⟩, (tb_i 406 (by decide +kernel) (by decide +kernel)), (tb_i 8 (by decide +kernel) (by decide +kernel))⟩
theorem mi_X2_101 : MI RX2 101 yX2_holds cX2_holds 6 (some .boolean) 3 := ⟨⟨(Or.inl (tb_i 408 (by decide +kernel) (by decide +kernel))), (tb_i 411 (by decide +kernel) (by decide +kernel)), (tb_i 66 (by decide +kernel) (by decide +kernel)), by decide +kernel⟩, (tb_i 409 (by decide +kernel) (by decide +kernel)), (tb_i 410 (by decide +kernel) (by decide +kernel))⟩
theorem mi_X2_108 : MI RX2 108 yX7_covers cX7_covers 4 (some .boolean) 3 := ⟨⟨(Or.inl (tb_i 412 (by decide +kernel) (by decide +kernel))), (tb_i 415 (by decide +kernel) (by decide +kernel)), (tb_i 65 (by decide +kernel) (by decide +kernel)), by decide +kernel⟩, (tb_i 413 (by decide +kernel) (by decide +kernel)), (tb_i 414 (by decide +kernel) (by decide +kernel))⟩
theorem ms_X7_56 : MS RX7 56 yX1_liesIn cX1_liesIn 4 (some .boolean) 4 := ⟨⟨(Or.inl (tb_i 416 (by decide +kernel) (by decide +kernel))), (tb_i 418 (by decide +kernel) (by decide +kernel)), (tb_i 79 (by decide +kernel) (by decide +kernel)), by decide +kernel⟩, (tb_i 417 (by decide +kernel) (by decide +kernel))⟩
theorem ms_X1_9 : MS RX1 9 yX1_firstBits cX1_firstBits 2 (some .int) 2 := ⟨⟨(Or.inl (tb_i 419 (by decide +kernel) (by decide +kernel))), (tb_i 421 (by decide +kernel) (by decide +kernel)), (tb_i 79 (by decide +kernel) (by decide +kernel)), by decide +kernel⟩, (tb_i 420 (by decide +kernel) (by decide +kernel))⟩
theorem mi_X9_298 : MI RX9 298 yX3_forgetVouchers cX3_forgetVouchers 2 none 0 := ⟨⟨(Or.inl (tb_i 422 (by decide +kernel) (by decide +kernel))), (tb_i 425 (by decide +kernel) (by decide +kernel)), (tb_i 69 (by decide +kernel) (by decide +kernel)), by decide +kernel⟩, (tb_i 423 (by decide +kernel) (by decide +kernel)), (tb_i 424 (by decide +kernel) (by decide +kernel))⟩
theorem mi_X9_304 : MI RX9 304 yX3_addVoucher cX3_addVoucher 3 none 2 := ⟨⟨(Or.inl (tb_i 426 (by decide +kernel) (by decide +kernel))), (tb_i 429 (by decide +kernel) (by decide +kernel)), (tb_i 69 (by decide +kernel) (by decide +kernel)), by decide +kernel⟩, (tb_i 427 (by decide +kernel) (by decide +kernel)), (tb_i 428 (by decide +kernel) (by decide +kernel))⟩
theorem mi_X9_247 : MI RX9 247 yX0_countRefused cX0_countRefused 3 (some .int) 0 := ⟨⟨(Or.inl (tb_i 430 (by decide +kernel) (by decide +kernel))), (tb_i 433 (by decide +kernel) (by decide +kernel)), (tb_i 70 (by decide +kernel) (by decide +kernel)), by decide +kernel⟩, (tb_i 431 (by decide +kernel) (by decide +kernel)), (tb_i 432 (by decide +kernel) (by decide +kernel))⟩
theorem mi_X0_23 : MI RX0 23 yX0_countOnwards cX0_countOnwards 6 (some .int) 3 := ⟨⟨(Or.inl (tb_i 434 (by decide +kernel) (by decide +kernel))), (tb_i 437 (by decide +kernel) (by decide +kernel)), (tb_i 70 (by decide +kernel) (by decide +kernel)), by decide +kernel⟩, (tb_i 436 (by decide +kernel) (by decide +kernel)), (tb_i 9 (by decide +kernel) (by decide +kernel))⟩
theorem ms_X0_27 : MS RX0 27 yX9_isIn cX9_isIn 2 (some .boolean) 2 := ⟨⟨(Or.inr ⟨"Pathwarden", (tb_i 438 (by decide +kernel) (by decide +kernel))⟩), (tb_i 440 (by decide +kernel) (by decide +kernel)), (tb_i 63 (by decide +kernel) (by decide +kernel)), by decide +kernel⟩, (tb_i 439 (by decide +kernel) (by decide +kernel))⟩
theorem mi_X0_31 : MI RX0 31 yX0_mayGoOn cX0_mayGoOn 4 (some .boolean) 2 := ⟨⟨(Or.inl (tb_i 441 (by decide +kernel) (by decide +kernel))), (tb_i 444 (by decide +kernel) (by decide +kernel)), (tb_i 70 (by decide +kernel) (by decide +kernel)), by decide +kernel⟩, (tb_i 443 (by decide +kernel) (by decide +kernel)), (tb_i 10 (by decide +kernel) (by decide +kernel))⟩
theorem mi_X0_40 : MI RX0 40 yX8_areTied cX8_areTied 3 (some .boolean) 2 := ⟨⟨(Or.inl (tb_i 445 (by decide +kernel) (by decide +kernel))), (tb_i 448 (by decide +kernel) (by decide +kernel)), (tb_i 68 (by decide +kernel) (by decide +kernel)), by decide +kernel⟩, (tb_i 446 (by decide +kernel) (by decide +kernel)), (tb_i 447 (by decide +kernel) (by decide +kernel))⟩
theorem mi_X0_45 : MI RX0 45 yX8_hasCustomer cX8_hasCustomer 4 (some .boolean) 3 := ⟨⟨(Or.inl (tb_i 449 (by decide +kernel) (by decide +kernel))), (tb_i 452 (by decide +kernel) (by decide +kernel)), (tb_i 68 (by decide +kernel) (by decide +kernel)), by decide +kernel⟩, (tb_i 450 (by decide +kernel) (by decide +kernel)), (tb_i 451 (by decide +kernel) (by decide +kernel))⟩
theorem mi_X0_34 : MI RX0 34 yX3_isRefusedAt cX3_isRefusedAt 4 (some .boolean) 2 := ⟨⟨(Or.inl (tb_i 453 (by decide +kernel) (by decide +kernel))), (tb_i 456 (by decide +kernel) (by decide +kernel)), (tb_i 69 (by decide +kernel) (by decide +kernel)), by decide +kernel⟩, (tb_i 454 (by decide +kernel) (by decide +kernel)), (tb_i 455 (by decide +kernel) (by decide +kernel))⟩
theorem mi_X3_36 : MI RX3 36 yX8_between cX8_between 3 (some .int) 2 := ⟨⟨(Or.inl (tb_i 457 (by decide +kernel) (by decide +kernel))), (tb_i 460 (by decide +kernel) (by decide +kernel)), (tb_i 68 (by decide +kernel) (by decide +kernel)), by decide +kernel⟩, (tb_i 458 (by decide +kernel) (by decide +kernel)), (tb_i 459 (by decide +kernel) (by decide +kernel))⟩
theorem mi_X3_42 : MI RX3 42 yX3_judgeDown cX3_judgeDown 3 (some .int) 2 := ⟨⟨(Or.inl (tb_i 461 (by decide +kernel) (by decide +kernel))), (tb_i 464 (by decide +kernel) (by decide +kernel)), (tb_i 69 (by decide +kernel) (by decide +kernel)), by decide +kernel⟩, (tb_i 462 (by decide +kernel) (by decide +kernel)), (tb_i 463 (by decide +kernel) (by decide +kernel))⟩
theorem ms_X3_23 : MS RX3 23 yX6_runsRound cX6_runsRound 4 (some .boolean) 2 := ⟨⟨(Or.inl (tb_i 465 (by decide +kernel) (by decide +kernel))), (tb_i 467 (by decide +kernel) (by decide +kernel)), (tb_i 67 (by decide +kernel) (by decide +kernel)), by decide +kernel⟩, (tb_i 466 (by decide +kernel) (by decide +kernel))⟩
theorem ms_X6_47 : MS RX6 47 yX9_isIn cX9_isIn 2 (some .boolean) 2 := ⟨⟨(Or.inr ⟨"Pathwarden", (tb_i 468 (by decide +kernel) (by decide +kernel))⟩), (tb_i 440 (by decide +kernel) (by decide +kernel)), (tb_i 63 (by decide +kernel) (by decide +kernel)), by decide +kernel⟩, (tb_i 439 (by decide +kernel) (by decide +kernel))⟩
theorem mi_X3_29 : MI RX3 29 yX3_netsUp cX3_netsUp 5 (some .int) 3 := ⟨⟨(Or.inl (tb_i 469 (by decide +kernel) (by decide +kernel))), (tb_i 472 (by decide +kernel) (by decide +kernel)), (tb_i 69 (by decide +kernel) (by decide +kernel)), by decide +kernel⟩, (tb_i 471 (by decide +kernel) (by decide +kernel)), (tb_i 11 (by decide +kernel) (by decide +kernel))⟩
theorem mi_X3_49 : MI RX3 49 yX3_goesOn cX3_goesOn 5 (some .boolean) 3 := ⟨⟨(Or.inl (tb_i 473 (by decide +kernel) (by decide +kernel))), (tb_i 476 (by decide +kernel) (by decide +kernel)), (tb_i 69 (by decide +kernel) (by decide +kernel)), by decide +kernel⟩, (tb_i 475 (by decide +kernel) (by decide +kernel)), (tb_i 12 (by decide +kernel) (by decide +kernel))⟩
theorem ms_X3_53 : MS RX3 53 yX9_isIn cX9_isIn 2 (some .boolean) 2 := ⟨⟨(Or.inr ⟨"Pathwarden", (tb_i 477 (by decide +kernel) (by decide +kernel))⟩), (tb_i 440 (by decide +kernel) (by decide +kernel)), (tb_i 63 (by decide +kernel) (by decide +kernel)), by decide +kernel⟩, (tb_i 439 (by decide +kernel) (by decide +kernel))⟩
theorem mi_X3_33 : MI RX3 33 yX3_netsBack cX3_netsBack 5 (some .int) 3 := ⟨⟨(Or.inl (tb_i 478 (by decide +kernel) (by decide +kernel))), (tb_i 481 (by decide +kernel) (by decide +kernel)), (tb_i 69 (by decide +kernel) (by decide +kernel)), by decide +kernel⟩, (tb_i 480 (by decide +kernel) (by decide +kernel)), (tb_i 13 (by decide +kernel) (by decide +kernel))⟩
theorem mi_X3_46 : MI RX3 46 yX3_judgeUp cX3_judgeUp 3 (some .int) 2 := ⟨⟨(Or.inl (tb_i 482 (by decide +kernel) (by decide +kernel))), (tb_i 485 (by decide +kernel) (by decide +kernel)), (tb_i 69 (by decide +kernel) (by decide +kernel)), by decide +kernel⟩, (tb_i 483 (by decide +kernel) (by decide +kernel)), (tb_i 484 (by decide +kernel) (by decide +kernel))⟩
theorem mi_L_207 : MI RL 207 yX9_clique cX9_clique 1 (some .int) 0 := ⟨⟨(Or.inl (tb_i 486 (by decide +kernel) (by decide +kernel))), (tb_i 489 (by decide +kernel) (by decide +kernel)), (tb_i 63 (by decide +kernel) (by decide +kernel)), by decide +kernel⟩, (tb_i 487 (by decide +kernel) (by decide +kernel)), (tb_i 488 (by decide +kernel) (by decide +kernel))⟩
theorem mi_X9_251 : MI RX9 251 yX5_infer cX5_infer 2 none 0 := ⟨⟨(Or.inl (tb_i 490 (by decide +kernel) (by decide +kernel))), (tb_i 493 (by decide +kernel) (by decide +kernel)), (tb_i 71 (by decide +kernel) (by decide +kernel)), by decide +kernel⟩, (tb_i 491 (by decide +kernel) (by decide +kernel)), (tb_i 492 (by decide +kernel) (by decide +kernel))⟩
theorem mi_X5_31 : MI RX5 31 yX5_findNeighbours cX5_findNeighbours 2 none 0 := ⟨⟨(Or.inl (tb_i 494 (by decide +kernel) (by decide +kernel))), (tb_i 497 (by decide +kernel) (by decide +kernel)), (tb_i 71 (by decide +kernel) (by decide +kernel)), by decide +kernel⟩, (tb_i 496 (by decide +kernel) (by decide +kernel)), (tb_i 14 (by decide +kernel) (by decide +kernel))⟩
theorem mi_X5_49 : MI RX5 49 yX6_tellsRelations cX6_tellsRelations 2 (some .boolean) 1 := ⟨⟨(Or.inl (tb_i 498 (by decide +kernel) (by decide +kernel))), (tb_i 501 (by decide +kernel) (by decide +kernel)), (tb_i 67 (by decide +kernel) (by decide +kernel)), by decide +kernel⟩, (tb_i 499 (by decide +kernel) (by decide +kernel)), (tb_i 500 (by decide +kernel) (by decide +kernel))⟩
theorem ms_X6_43 : MS RX6 43 yX6_runsRound cX6_runsRound 4 (some .boolean) 2 := ⟨⟨(Or.inl (tb_i 502 (by decide +kernel) (by decide +kernel))), (tb_i 467 (by decide +kernel) (by decide +kernel)), (tb_i 67 (by decide +kernel) (by decide +kernel)), by decide +kernel⟩, (tb_i 466 (by decide +kernel) (by decide +kernel))⟩
theorem mi_X5_59 : MI RX5 59 yX5_joinNeighbours cX5_joinNeighbours 4 none 2 := ⟨⟨(Or.inl (tb_i 503 (by decide +kernel) (by decide +kernel))), (tb_i 506 (by decide +kernel) (by decide +kernel)), (tb_i 71 (by decide +kernel) (by decide +kernel)), by decide +kernel⟩, (tb_i 505 (by decide +kernel) (by decide +kernel)), (tb_i 15 (by decide +kernel) (by decide +kernel))⟩
theorem mi_X5_34 : MI RX5 34 yX5_findCore cX5_findCore 3 none 0 := ⟨⟨(Or.inl (tb_i 507 (by decide +kernel) (by decide +kernel))), (tb_i 510 (by decide +kernel) (by decide +kernel)), (tb_i 71 (by decide +kernel) (by decide +kernel)), by decide +kernel⟩, (tb_i 509 (by decide +kernel) (by decide +kernel)), (tb_i 16 (by decide +kernel) (by decide +kernel))⟩
theorem ms_X5_63 : MS RX5 63 yJ6_bitCount_0f7a4 cJ6_bitCount_0f7a4 1 (some .int) 1 := ⟨⟨(Or.inl (tb_i 511 (by decide +kernel) (by decide +kernel))), (tb_i 513 (by decide +kernel) (by decide +kernel)), (tb_i 80 (by decide +kernel) (by decide +kernel)), by decide +kernel⟩, (tb_i 512 (by decide +kernel) (by decide +kernel))⟩
theorem mi_X5_37 : MI RX5 37 yX5_vote cX5_vote 4 none 1 := ⟨⟨(Or.inl (tb_i 517 (by decide +kernel) (by decide +kernel))), (tb_i 520 (by decide +kernel) (by decide +kernel)), (tb_i 71 (by decide +kernel) (by decide +kernel)), by decide +kernel⟩, (tb_i 519 (by decide +kernel) (by decide +kernel)), (tb_i 17 (by decide +kernel) (by decide +kernel))⟩
theorem mi_X5_69 : MI RX5 69 yX5_voteAlong cX5_voteAlong 8 none 3 := ⟨⟨(Or.inl (tb_i 521 (by decide +kernel) (by decide +kernel))), (tb_i 524 (by decide +kernel) (by decide +kernel)), (tb_i 71 (by decide +kernel) (by decide +kernel)), by decide +kernel⟩, (tb_i 523 (by decide +kernel) (by decide +kernel)), (tb_i 18 (by decide +kernel) (by decide +kernel))⟩
theorem mi_X5_73 : MI RX5 73 yX5_topOf cX5_topOf 6 (some .int) 3 := ⟨⟨(Or.inl (tb_i 525 (by decide +kernel) (by decide +kernel))), (tb_i 528 (by decide +kernel) (by decide +kernel)), (tb_i 71 (by decide +kernel) (by decide +kernel)), by decide +kernel⟩, (tb_i 527 (by decide +kernel) (by decide +kernel)), (tb_i 19 (by decide +kernel) (by decide +kernel))⟩
theorem ms_X5_77 : MS RX5 77 yX9_isIn cX9_isIn 2 (some .boolean) 2 := ⟨⟨(Or.inr ⟨"Pathwarden", (tb_i 529 (by decide +kernel) (by decide +kernel))⟩), (tb_i 440 (by decide +kernel) (by decide +kernel)), (tb_i 63 (by decide +kernel) (by decide +kernel)), by decide +kernel⟩, (tb_i 439 (by decide +kernel) (by decide +kernel))⟩
theorem mi_X5_81 : MI RX5 81 yX5_rankOf cX5_rankOf 3 (some .int) 2 := ⟨⟨(Or.inl (tb_i 530 (by decide +kernel) (by decide +kernel))), (tb_i 533 (by decide +kernel) (by decide +kernel)), (tb_i 71 (by decide +kernel) (by decide +kernel)), by decide +kernel⟩, (tb_i 532 (by decide +kernel) (by decide +kernel)), (tb_i 20 (by decide +kernel) (by decide +kernel))⟩
theorem mi_X5_41 : MI RX5 41 yX5_findCustomers cX5_findCustomers 4 none 1 := ⟨⟨(Or.inl (tb_i 534 (by decide +kernel) (by decide +kernel))), (tb_i 537 (by decide +kernel) (by decide +kernel)), (tb_i 71 (by decide +kernel) (by decide +kernel)), by decide +kernel⟩, (tb_i 536 (by decide +kernel) (by decide +kernel)), (tb_i 21 (by decide +kernel) (by decide +kernel))⟩
theorem mi_L_7 : MI RL 7 yX9_holder cX9_holder 2 (some .int) 1 := ⟨⟨(Or.inl (tb_i 543 (by decide +kernel) (by decide +kernel))), (tb_i 546 (by decide +kernel) (by decide +kernel)), (tb_i 63 (by decide +kernel) (by decide +kernel)), by decide +kernel⟩, (tb_i 544 (by decide +kernel) (by decide +kernel)), (tb_i 545 (by decide +kernel) (by decide +kernel))⟩
theorem mi_X9_73 : MI RX9 73 yX9_needHolder cX9_needHolder 2 none 1 := ⟨⟨(Or.inl (tb_i 547 (by decide +kernel) (by decide +kernel))), (tb_i 550 (by decide +kernel) (by decide +kernel)), (tb_i 63 (by decide +kernel) (by decide +kernel)), by decide +kernel⟩, (tb_i 549 (by decide +kernel) (by decide +kernel)), (tb_i 22 (by decide +kernel) (by decide +kernel))⟩
theorem mi_X9_88 : MI RX9 88 yX4_add cX4_add 3 (some .int) 1 := ⟨⟨(Or.inl (tb_i 635 (by decide +kernel) (by decide +kernel))), (tb_i 638 (by decide +kernel) (by decide +kernel)), (tb_i 64 (by decide +kernel) (by decide +kernel)), by decide +kernel⟩, (tb_i 636 (by decide +kernel) (by decide +kernel)), (tb_i 637 (by decide +kernel) (by decide +kernel))⟩
theorem mi_L_17 : MI RL 17 yX9_belong cX9_belong 4 (some .int) 2 := ⟨⟨(Or.inl (tb_i 642 (by decide +kernel) (by decide +kernel))), (tb_i 645 (by decide +kernel) (by decide +kernel)), (tb_i 63 (by decide +kernel) (by decide +kernel)), by decide +kernel⟩, (tb_i 643 (by decide +kernel) (by decide +kernel)), (tb_i 644 (by decide +kernel) (by decide +kernel))⟩
theorem ms_X9_92 : MS RX9 92 yX9_needNet cX9_needNet 1 none 1 := ⟨⟨(Or.inl (tb_i 646 (by decide +kernel) (by decide +kernel))), (tb_i 648 (by decide +kernel) (by decide +kernel)), (tb_i 63 (by decide +kernel) (by decide +kernel)), by decide +kernel⟩, (tb_i 647 (by decide +kernel) (by decide +kernel))⟩
theorem mi_L_21 : MI RL 21 yX9_roll cX9_roll 2 (some .int) 1 := ⟨⟨(Or.inl (tb_i 653 (by decide +kernel) (by decide +kernel))), (tb_i 656 (by decide +kernel) (by decide +kernel)), (tb_i 63 (by decide +kernel) (by decide +kernel)), by decide +kernel⟩, (tb_i 654 (by decide +kernel) (by decide +kernel)), (tb_i 655 (by decide +kernel) (by decide +kernel))⟩
theorem mi_L_24 : MI RL 24 yX9_publish cX9_publish 3 (some .int) 2 := ⟨⟨(Or.inl (tb_i 662 (by decide +kernel) (by decide +kernel))), (tb_i 665 (by decide +kernel) (by decide +kernel)), (tb_i 63 (by decide +kernel) (by decide +kernel)), by decide +kernel⟩, (tb_i 663 (by decide +kernel) (by decide +kernel)), (tb_i 664 (by decide +kernel) (by decide +kernel))⟩
theorem ms_X9_104 : MS RX9 104 yX9_needRange cX9_needRange 3 none 3 := ⟨⟨(Or.inl (tb_i 666 (by decide +kernel) (by decide +kernel))), (tb_i 668 (by decide +kernel) (by decide +kernel)), (tb_i 63 (by decide +kernel) (by decide +kernel)), by decide +kernel⟩, (tb_i 667 (by decide +kernel) (by decide +kernel))⟩
theorem mi_X9_114 : MI RX9 114 yX7_listRevokedOf cX7_listRevokedOf 4 (some .int) 1 := ⟨⟨(Or.inl (tb_i 685 (by decide +kernel) (by decide +kernel))), (tb_i 688 (by decide +kernel) (by decide +kernel)), (tb_i 65 (by decide +kernel) (by decide +kernel)), by decide +kernel⟩, (tb_i 686 (by decide +kernel) (by decide +kernel)), (tb_i 687 (by decide +kernel) (by decide +kernel))⟩
theorem mi_L_29 : MI RL 29 yX9_pass cX9_pass 2 (some .int) 1 := ⟨⟨(Or.inl (tb_i 692 (by decide +kernel) (by decide +kernel))), (tb_i 695 (by decide +kernel) (by decide +kernel)), (tb_i 63 (by decide +kernel) (by decide +kernel)), by decide +kernel⟩, (tb_i 693 (by decide +kernel) (by decide +kernel)), (tb_i 694 (by decide +kernel) (by decide +kernel))⟩
theorem mi_L_32 : MI RL 32 yX9_grant cX9_grant 6 (some .int) 5 := ⟨⟨(Or.inl (tb_i 700 (by decide +kernel) (by decide +kernel))), (tb_i 703 (by decide +kernel) (by decide +kernel)), (tb_i 63 (by decide +kernel) (by decide +kernel)), by decide +kernel⟩, (tb_i 701 (by decide +kernel) (by decide +kernel)), (tb_i 702 (by decide +kernel) (by decide +kernel))⟩
theorem ms_X9_119 : MS RX9 119 yX9_needBlock cX9_needBlock 2 none 2 := ⟨⟨(Or.inl (tb_i 704 (by decide +kernel) (by decide +kernel))), (tb_i 706 (by decide +kernel) (by decide +kernel)), (tb_i 63 (by decide +kernel) (by decide +kernel)), by decide +kernel⟩, (tb_i 705 (by decide +kernel) (by decide +kernel))⟩
theorem ms_X9_280 : MS RX9 280 yX1_firstBits cX1_firstBits 2 (some .int) 2 := ⟨⟨(Or.inl (tb_i 707 (by decide +kernel) (by decide +kernel))), (tb_i 421 (by decide +kernel) (by decide +kernel)), (tb_i 79 (by decide +kernel) (by decide +kernel)), by decide +kernel⟩, (tb_i 420 (by decide +kernel) (by decide +kernel))⟩
theorem mi_X9_123 : MI RX9 123 yX9_needRoomForObject cX9_needRoomForObject 1 none 0 := ⟨⟨(Or.inl (tb_i 709 (by decide +kernel) (by decide +kernel))), (tb_i 712 (by decide +kernel) (by decide +kernel)), (tb_i 63 (by decide +kernel) (by decide +kernel)), by decide +kernel⟩, (tb_i 711 (by decide +kernel) (by decide +kernel)), (tb_i 24 (by decide +kernel) (by decide +kernel))⟩
theorem mi_X9_126 : MI RX9 126 yX7_add cX7_add 9 (some .int) 7 := ⟨⟨(Or.inl (tb_i 714 (by decide +kernel) (by decide +kernel))), (tb_i 717 (by decide +kernel) (by decide +kernel)), (tb_i 65 (by decide +kernel) (by decide +kernel)), by decide +kernel⟩, (tb_i 715 (by decide +kernel) (by decide +kernel)), (tb_i 716 (by decide +kernel) (by decide +kernel))⟩
theorem mi_X9_129 : MI RX9 129 yX9_keep cX9_keep 2 (some .int) 1 := ⟨⟨(Or.inl (tb_i 718 (by decide +kernel) (by decide +kernel))), (tb_i 721 (by decide +kernel) (by decide +kernel)), (tb_i 63 (by decide +kernel) (by decide +kernel)), by decide +kernel⟩, (tb_i 720 (by decide +kernel) (by decide +kernel)), (tb_i 25 (by decide +kernel) (by decide +kernel))⟩
theorem mi_X9_147 : MI RX9 147 yX9_putSignature cX9_putSignature 3 (some .int) 1 := ⟨⟨(Or.inl (tb_i 722 (by decide +kernel) (by decide +kernel))), (tb_i 725 (by decide +kernel) (by decide +kernel)), (tb_i 63 (by decide +kernel) (by decide +kernel)), by decide +kernel⟩, (tb_i 724 (by decide +kernel) (by decide +kernel)), (tb_i 26 (by decide +kernel) (by decide +kernel))⟩
theorem mi_X9_292 : MI RX9 292 yX7_signatureBy cX7_signatureBy 4 (some .int) 2 := ⟨⟨(Or.inl (tb_i 726 (by decide +kernel) (by decide +kernel))), (tb_i 387 (by decide +kernel) (by decide +kernel)), (tb_i 65 (by decide +kernel) (by decide +kernel)), by decide +kernel⟩, (tb_i 385 (by decide +kernel) (by decide +kernel)), (tb_i 386 (by decide +kernel) (by decide +kernel))⟩
theorem mi_L_36 : MI RL 36 yX9_origin cX9_origin 7 (some .int) 6 := ⟨⟨(Or.inl (tb_i 730 (by decide +kernel) (by decide +kernel))), (tb_i 733 (by decide +kernel) (by decide +kernel)), (tb_i 63 (by decide +kernel) (by decide +kernel)), by decide +kernel⟩, (tb_i 731 (by decide +kernel) (by decide +kernel)), (tb_i 732 (by decide +kernel) (by decide +kernel))⟩
theorem mi_L_40 : MI RL 40 yX9_vouch cX9_vouch 5 (some .int) 4 := ⟨⟨(Or.inl (tb_i 737 (by decide +kernel) (by decide +kernel))), (tb_i 740 (by decide +kernel) (by decide +kernel)), (tb_i 63 (by decide +kernel) (by decide +kernel)), by decide +kernel⟩, (tb_i 738 (by decide +kernel) (by decide +kernel)), (tb_i 739 (by decide +kernel) (by decide +kernel))⟩
theorem mi_L_44 : MI RL 44 yX9_revoke cX9_revoke 3 (some .boolean) 1 := ⟨⟨(Or.inl (tb_i 744 (by decide +kernel) (by decide +kernel))), (tb_i 747 (by decide +kernel) (by decide +kernel)), (tb_i 63 (by decide +kernel) (by decide +kernel)), by decide +kernel⟩, (tb_i 745 (by decide +kernel) (by decide +kernel)), (tb_i 746 (by decide +kernel) (by decide +kernel))⟩
theorem mi_X9_132 : MI RX9 132 yX9_needObject cX9_needObject 2 none 1 := ⟨⟨(Or.inl (tb_i 748 (by decide +kernel) (by decide +kernel))), (tb_i 751 (by decide +kernel) (by decide +kernel)), (tb_i 63 (by decide +kernel) (by decide +kernel)), by decide +kernel⟩, (tb_i 750 (by decide +kernel) (by decide +kernel)), (tb_i 27 (by decide +kernel) (by decide +kernel))⟩
theorem mi_L_48 : MI RL 48 yX9_alter cX9_alter 4 (some .int) 2 := ⟨⟨(Or.inl (tb_i 756 (by decide +kernel) (by decide +kernel))), (tb_i 759 (by decide +kernel) (by decide +kernel)), (tb_i 63 (by decide +kernel) (by decide +kernel)), by decide +kernel⟩, (tb_i 757 (by decide +kernel) (by decide +kernel)), (tb_i 758 (by decide +kernel) (by decide +kernel))⟩
theorem mi_L_51 : MI RL 51 yX9_sign cX9_sign 2 (some .int) 1 := ⟨⟨(Or.inl (tb_i 764 (by decide +kernel) (by decide +kernel))), (tb_i 767 (by decide +kernel) (by decide +kernel)), (tb_i 63 (by decide +kernel) (by decide +kernel)), by decide +kernel⟩, (tb_i 765 (by decide +kernel) (by decide +kernel)), (tb_i 766 (by decide +kernel) (by decide +kernel))⟩
theorem mi_L_54 : MI RL 54 yX9_hop cX9_hop 2 (some .int) 1 := ⟨⟨(Or.inl (tb_i 771 (by decide +kernel) (by decide +kernel))), (tb_i 774 (by decide +kernel) (by decide +kernel)), (tb_i 63 (by decide +kernel) (by decide +kernel)), by decide +kernel⟩, (tb_i 772 (by decide +kernel) (by decide +kernel)), (tb_i 773 (by decide +kernel) (by decide +kernel))⟩
theorem mi_L_57 : MI RL 57 yX9_hear cX9_hear 3 (some .int) 2 := ⟨⟨(Or.inl (tb_i 779 (by decide +kernel) (by decide +kernel))), (tb_i 782 (by decide +kernel) (by decide +kernel)), (tb_i 63 (by decide +kernel) (by decide +kernel)), by decide +kernel⟩, (tb_i 780 (by decide +kernel) (by decide +kernel)), (tb_i 781 (by decide +kernel) (by decide +kernel))⟩
theorem mi_X9_161 : MI RX9 161 yX6_addDraft cX6_addDraft 6 (some .int) 2 := ⟨⟨(Or.inl (tb_i 784 (by decide +kernel) (by decide +kernel))), (tb_i 787 (by decide +kernel) (by decide +kernel)), (tb_i 67 (by decide +kernel) (by decide +kernel)), by decide +kernel⟩, (tb_i 785 (by decide +kernel) (by decide +kernel)), (tb_i 786 (by decide +kernel) (by decide +kernel))⟩
theorem mi_L_60 : MI RL 60 yX9_withdraw cX9_withdraw 2 (some .int) 1 := ⟨⟨(Or.inl (tb_i 791 (by decide +kernel) (by decide +kernel))), (tb_i 794 (by decide +kernel) (by decide +kernel)), (tb_i 63 (by decide +kernel) (by decide +kernel)), by decide +kernel⟩, (tb_i 792 (by decide +kernel) (by decide +kernel)), (tb_i 793 (by decide +kernel) (by decide +kernel))⟩
theorem mi_L_63 : MI RL 63 yX9_tie cX9_tie 5 (some .int) 3 := ⟨⟨(Or.inl (tb_i 800 (by decide +kernel) (by decide +kernel))), (tb_i 803 (by decide +kernel) (by decide +kernel)), (tb_i 63 (by decide +kernel) (by decide +kernel)), by decide +kernel⟩, (tb_i 801 (by decide +kernel) (by decide +kernel)), (tb_i 802 (by decide +kernel) (by decide +kernel))⟩
theorem mi_X9_183 : MI RX9 183 yX8_between cX8_between 3 (some .int) 2 := ⟨⟨(Or.inl (tb_i 805 (by decide +kernel) (by decide +kernel))), (tb_i 460 (by decide +kernel) (by decide +kernel)), (tb_i 68 (by decide +kernel) (by decide +kernel)), by decide +kernel⟩, (tb_i 458 (by decide +kernel) (by decide +kernel)), (tb_i 459 (by decide +kernel) (by decide +kernel))⟩
theorem mi_X9_186 : MI RX9 186 yX8_tell cX8_tell 4 none 3 := ⟨⟨(Or.inl (tb_i 806 (by decide +kernel) (by decide +kernel))), (tb_i 809 (by decide +kernel) (by decide +kernel)), (tb_i 68 (by decide +kernel) (by decide +kernel)), by decide +kernel⟩, (tb_i 807 (by decide +kernel) (by decide +kernel)), (tb_i 808 (by decide +kernel) (by decide +kernel))⟩
theorem ms_X8_16 : MS RX8 16 yX8_turned cX8_turned 1 (some .int) 1 := ⟨⟨(Or.inl (tb_i 810 (by decide +kernel) (by decide +kernel))), (tb_i 812 (by decide +kernel) (by decide +kernel)), (tb_i 68 (by decide +kernel) (by decide +kernel)), by decide +kernel⟩, (tb_i 811 (by decide +kernel) (by decide +kernel))⟩
theorem mi_L_67 : MI RL 67 yX9_judged cX9_judged 2 (some .int) 1 := ⟨⟨(Or.inl (tb_i 816 (by decide +kernel) (by decide +kernel))), (tb_i 819 (by decide +kernel) (by decide +kernel)), (tb_i 63 (by decide +kernel) (by decide +kernel)), by decide +kernel⟩, (tb_i 817 (by decide +kernel) (by decide +kernel)), (tb_i 818 (by decide +kernel) (by decide +kernel))⟩
theorem mi_L_70 : MI RL 70 yX9_has cX9_has 4 (some .boolean) 3 := ⟨⟨(Or.inl (tb_i 823 (by decide +kernel) (by decide +kernel))), (tb_i 826 (by decide +kernel) (by decide +kernel)), (tb_i 63 (by decide +kernel) (by decide +kernel)), by decide +kernel⟩, (tb_i 824 (by decide +kernel) (by decide +kernel)), (tb_i 825 (by decide +kernel) (by decide +kernel))⟩
theorem mi_X9_196 : MI RX9 196 yX2_holds cX2_holds 6 (some .boolean) 3 := ⟨⟨(Or.inl (tb_i 827 (by decide +kernel) (by decide +kernel))), (tb_i 411 (by decide +kernel) (by decide +kernel)), (tb_i 66 (by decide +kernel) (by decide +kernel)), by decide +kernel⟩, (tb_i 409 (by decide +kernel) (by decide +kernel)), (tb_i 410 (by decide +kernel) (by decide +kernel))⟩
theorem mi_L_74 : MI RL 74 yX9_hasByChains cX9_hasByChains 4 (some .boolean) 3 := ⟨⟨(Or.inl (tb_i 831 (by decide +kernel) (by decide +kernel))), (tb_i 834 (by decide +kernel) (by decide +kernel)), (tb_i 63 (by decide +kernel) (by decide +kernel)), by decide +kernel⟩, (tb_i 832 (by decide +kernel) (by decide +kernel)), (tb_i 833 (by decide +kernel) (by decide +kernel))⟩
theorem mi_X9_200 : MI RX9 200 yX2_holdsByChains cX2_holdsByChains 5 (some .boolean) 3 := ⟨⟨(Or.inl (tb_i 835 (by decide +kernel) (by decide +kernel))), (tb_i 838 (by decide +kernel) (by decide +kernel)), (tb_i 66 (by decide +kernel) (by decide +kernel)), by decide +kernel⟩, (tb_i 836 (by decide +kernel) (by decide +kernel)), (tb_i 837 (by decide +kernel) (by decide +kernel))⟩
theorem mi_X2_111 : MI RX2 111 yX2_chainReaches cX2_chainReaches 6 (some .boolean) 4 := ⟨⟨(Or.inl (tb_i 839 (by decide +kernel) (by decide +kernel))), (tb_i 842 (by decide +kernel) (by decide +kernel)), (tb_i 66 (by decide +kernel) (by decide +kernel)), by decide +kernel⟩, (tb_i 841 (by decide +kernel) (by decide +kernel)), (tb_i 28 (by decide +kernel) (by decide +kernel))⟩
theorem mi_X2_115 : MI RX2 115 yX2_isLinkTo cX2_isLinkTo 3 (some .boolean) 2 := ⟨⟨(Or.inl (tb_i 843 (by decide +kernel) (by decide +kernel))), (tb_i 846 (by decide +kernel) (by decide +kernel)), (tb_i 66 (by decide +kernel) (by decide +kernel)), by decide +kernel⟩, (tb_i 845 (by decide +kernel) (by decide +kernel)), (tb_i 29 (by decide +kernel) (by decide +kernel))⟩
theorem mi_L_77 : MI RL 77 yX9_state cX9_state 4 (some .int) 3 := ⟨⟨(Or.inl (tb_i 850 (by decide +kernel) (by decide +kernel))), (tb_i 853 (by decide +kernel) (by decide +kernel)), (tb_i 63 (by decide +kernel) (by decide +kernel)), by decide +kernel⟩, (tb_i 851 (by decide +kernel) (by decide +kernel)), (tb_i 852 (by decide +kernel) (by decide +kernel))⟩
theorem mi_X9_203 : MI RX9 203 yX2_originState cX2_originState 6 (some .int) 3 := ⟨⟨(Or.inl (tb_i 854 (by decide +kernel) (by decide +kernel))), (tb_i 857 (by decide +kernel) (by decide +kernel)), (tb_i 66 (by decide +kernel) (by decide +kernel)), by decide +kernel⟩, (tb_i 855 (by decide +kernel) (by decide +kernel)), (tb_i 856 (by decide +kernel) (by decide +kernel))⟩
theorem mi_X2_118 : MI RX2 118 yX2_isGoodOriginOver cX2_isGoodOriginOver 4 (some .boolean) 3 := ⟨⟨(Or.inl (tb_i 858 (by decide +kernel) (by decide +kernel))), (tb_i 861 (by decide +kernel) (by decide +kernel)), (tb_i 66 (by decide +kernel) (by decide +kernel)), by decide +kernel⟩, (tb_i 860 (by decide +kernel) (by decide +kernel)), (tb_i 30 (by decide +kernel) (by decide +kernel))⟩
theorem mi_L_80 : MI RL 80 yX9_path cX9_path 5 (some .int) 2 := ⟨⟨(Or.inl (tb_i 865 (by decide +kernel) (by decide +kernel))), (tb_i 868 (by decide +kernel) (by decide +kernel)), (tb_i 63 (by decide +kernel) (by decide +kernel)), by decide +kernel⟩, (tb_i 866 (by decide +kernel) (by decide +kernel)), (tb_i 867 (by decide +kernel) (by decide +kernel))⟩
theorem mi_X9_207 : MI RX9 207 yX9_needRouteThere cX9_needRouteThere 2 none 1 := ⟨⟨(Or.inl (tb_i 869 (by decide +kernel) (by decide +kernel))), (tb_i 872 (by decide +kernel) (by decide +kernel)), (tb_i 63 (by decide +kernel) (by decide +kernel)), by decide +kernel⟩, (tb_i 871 (by decide +kernel) (by decide +kernel)), (tb_i 31 (by decide +kernel) (by decide +kernel))⟩
theorem mi_X9_220 : MI RX9 220 yX3_judgeUp cX3_judgeUp 3 (some .int) 2 := ⟨⟨(Or.inl (tb_i 874 (by decide +kernel) (by decide +kernel))), (tb_i 485 (by decide +kernel) (by decide +kernel)), (tb_i 69 (by decide +kernel) (by decide +kernel)), by decide +kernel⟩, (tb_i 483 (by decide +kernel) (by decide +kernel)), (tb_i 484 (by decide +kernel) (by decide +kernel))⟩
theorem mi_X9_224 : MI RX9 224 yX3_judgeDown cX3_judgeDown 3 (some .int) 2 := ⟨⟨(Or.inl (tb_i 875 (by decide +kernel) (by decide +kernel))), (tb_i 464 (by decide +kernel) (by decide +kernel)), (tb_i 69 (by decide +kernel) (by decide +kernel)), by decide +kernel⟩, (tb_i 462 (by decide +kernel) (by decide +kernel)), (tb_i 463 (by decide +kernel) (by decide +kernel))⟩
theorem mi_L_84 : MI RL 84 yX9_leak cX9_leak 4 (some .int) 1 := ⟨⟨(Or.inl (tb_i 879 (by decide +kernel) (by decide +kernel))), (tb_i 882 (by decide +kernel) (by decide +kernel)), (tb_i 63 (by decide +kernel) (by decide +kernel)), by decide +kernel⟩, (tb_i 880 (by decide +kernel) (by decide +kernel)), (tb_i 881 (by decide +kernel) (by decide +kernel))⟩
theorem mi_X9_227 : MI RX9 227 yX8_leaksAt cX8_leaksAt 4 (some .boolean) 3 := ⟨⟨(Or.inl (tb_i 883 (by decide +kernel) (by decide +kernel))), (tb_i 886 (by decide +kernel) (by decide +kernel)), (tb_i 68 (by decide +kernel) (by decide +kernel)), by decide +kernel⟩, (tb_i 884 (by decide +kernel) (by decide +kernel)), (tb_i 885 (by decide +kernel) (by decide +kernel))⟩
theorem mi_X8_20 : MI RX8 20 yX8_areTied cX8_areTied 3 (some .boolean) 2 := ⟨⟨(Or.inl (tb_i 887 (by decide +kernel) (by decide +kernel))), (tb_i 448 (by decide +kernel) (by decide +kernel)), (tb_i 68 (by decide +kernel) (by decide +kernel)), by decide +kernel⟩, (tb_i 446 (by decide +kernel) (by decide +kernel)), (tb_i 447 (by decide +kernel) (by decide +kernel))⟩
theorem mi_X8_24 : MI RX8 24 yX8_hasCustomer cX8_hasCustomer 4 (some .boolean) 3 := ⟨⟨(Or.inl (tb_i 888 (by decide +kernel) (by decide +kernel))), (tb_i 452 (by decide +kernel) (by decide +kernel)), (tb_i 68 (by decide +kernel) (by decide +kernel)), by decide +kernel⟩, (tb_i 450 (by decide +kernel) (by decide +kernel)), (tb_i 451 (by decide +kernel) (by decide +kernel))⟩
theorem mi_L_87 : MI RL 87 yX9_stopped cX9_stopped 6 (some .int) 2 := ⟨⟨(Or.inl (tb_i 892 (by decide +kernel) (by decide +kernel))), (tb_i 895 (by decide +kernel) (by decide +kernel)), (tb_i 63 (by decide +kernel) (by decide +kernel)), by decide +kernel⟩, (tb_i 893 (by decide +kernel) (by decide +kernel)), (tb_i 894 (by decide +kernel) (by decide +kernel))⟩
theorem ms_X9_236 : MS RX9 236 yX9_isIn cX9_isIn 2 (some .boolean) 2 := ⟨⟨(Or.inl (tb_i 896 (by decide +kernel) (by decide +kernel))), (tb_i 440 (by decide +kernel) (by decide +kernel)), (tb_i 63 (by decide +kernel) (by decide +kernel)), by decide +kernel⟩, (tb_i 439 (by decide +kernel) (by decide +kernel))⟩
theorem mi_X9_240 : MI RX9 240 yX3_isRefusedAt cX3_isRefusedAt 4 (some .boolean) 2 := ⟨⟨(Or.inl (tb_i 897 (by decide +kernel) (by decide +kernel))), (tb_i 456 (by decide +kernel) (by decide +kernel)), (tb_i 69 (by decide +kernel) (by decide +kernel)), by decide +kernel⟩, (tb_i 454 (by decide +kernel) (by decide +kernel)), (tb_i 455 (by decide +kernel) (by decide +kernel))⟩
theorem mi_L_90 : MI RL 90 yX9_allowed cX9_allowed 3 (some .int) 2 := ⟨⟨(Or.inl (tb_i 901 (by decide +kernel) (by decide +kernel))), (tb_i 904 (by decide +kernel) (by decide +kernel)), (tb_i 63 (by decide +kernel) (by decide +kernel)), by decide +kernel⟩, (tb_i 902 (by decide +kernel) (by decide +kernel)), (tb_i 903 (by decide +kernel) (by decide +kernel))⟩
theorem mi_X9_244 : MI RX9 244 yX0_countTo cX0_countTo 3 (some .int) 2 := ⟨⟨(Or.inl (tb_i 905 (by decide +kernel) (by decide +kernel))), (tb_i 908 (by decide +kernel) (by decide +kernel)), (tb_i 70 (by decide +kernel) (by decide +kernel)), by decide +kernel⟩, (tb_i 906 (by decide +kernel) (by decide +kernel)), (tb_i 907 (by decide +kernel) (by decide +kernel))⟩
theorem mi_L_93 : MI RL 93 yX9_inferred cX9_inferred 4 (some .int) 3 := ⟨⟨(Or.inl (tb_i 912 (by decide +kernel) (by decide +kernel))), (tb_i 915 (by decide +kernel) (by decide +kernel)), (tb_i 63 (by decide +kernel) (by decide +kernel)), by decide +kernel⟩, (tb_i 913 (by decide +kernel) (by decide +kernel)), (tb_i 914 (by decide +kernel) (by decide +kernel))⟩
theorem mi_X9_259 : MI RX9 259 yX5_between cX5_between 4 (some .int) 3 := ⟨⟨(Or.inl (tb_i 917 (by decide +kernel) (by decide +kernel))), (tb_i 920 (by decide +kernel) (by decide +kernel)), (tb_i 71 (by decide +kernel) (by decide +kernel)), by decide +kernel⟩, (tb_i 918 (by decide +kernel) (by decide +kernel)), (tb_i 919 (by decide +kernel) (by decide +kernel))⟩
theorem mi_L_96 : MI RL 96 yX9_cone cX9_cone 2 (some .int) 1 := ⟨⟨(Or.inl (tb_i 924 (by decide +kernel) (by decide +kernel))), (tb_i 927 (by decide +kernel) (by decide +kernel)), (tb_i 63 (by decide +kernel) (by decide +kernel)), by decide +kernel⟩, (tb_i 925 (by decide +kernel) (by decide +kernel)), (tb_i 926 (by decide +kernel) (by decide +kernel))⟩
theorem mi_X9_261 : MI RX9 261 yX5_coneOf cX5_coneOf 5 (some .int) 1 := ⟨⟨(Or.inl (tb_i 928 (by decide +kernel) (by decide +kernel))), (tb_i 931 (by decide +kernel) (by decide +kernel)), (tb_i 71 (by decide +kernel) (by decide +kernel)), by decide +kernel⟩, (tb_i 929 (by decide +kernel) (by decide +kernel)), (tb_i 930 (by decide +kernel) (by decide +kernel))⟩
theorem mi_L_99 : MI RL 99 yX9_coneByPaths cX9_coneByPaths 2 (some .int) 1 := ⟨⟨(Or.inl (tb_i 935 (by decide +kernel) (by decide +kernel))), (tb_i 938 (by decide +kernel) (by decide +kernel)), (tb_i 63 (by decide +kernel) (by decide +kernel)), by decide +kernel⟩, (tb_i 936 (by decide +kernel) (by decide +kernel)), (tb_i 937 (by decide +kernel) (by decide +kernel))⟩
theorem mi_X9_264 : MI RX9 264 yX5_pathConeOf cX5_pathConeOf 4 (some .int) 1 := ⟨⟨(Or.inl (tb_i 939 (by decide +kernel) (by decide +kernel))), (tb_i 942 (by decide +kernel) (by decide +kernel)), (tb_i 71 (by decide +kernel) (by decide +kernel)), by decide +kernel⟩, (tb_i 940 (by decide +kernel) (by decide +kernel)), (tb_i 941 (by decide +kernel) (by decide +kernel))⟩
theorem mi_X5_85 : MI RX5 85 yX5_customersAhead cX5_customersAhead 6 (some .int) 3 := ⟨⟨(Or.inl (tb_i 943 (by decide +kernel) (by decide +kernel))), (tb_i 946 (by decide +kernel) (by decide +kernel)), (tb_i 71 (by decide +kernel) (by decide +kernel)), by decide +kernel⟩, (tb_i 945 (by decide +kernel) (by decide +kernel)), (tb_i 32 (by decide +kernel) (by decide +kernel))⟩
theorem mi_L_102 : MI RL 102 yX9_addresses cX9_addresses 2 (some .int) 1 := ⟨⟨(Or.inl (tb_i 950 (by decide +kernel) (by decide +kernel))), (tb_i 953 (by decide +kernel) (by decide +kernel)), (tb_i 63 (by decide +kernel) (by decide +kernel)), by decide +kernel⟩, (tb_i 951 (by decide +kernel) (by decide +kernel)), (tb_i 952 (by decide +kernel) (by decide +kernel))⟩
theorem mi_X9_267 : MI RX9 267 yX6_countAddressesFrom cX6_countAddressesFrom 4 (some .int) 1 := ⟨⟨(Or.inl (tb_i 954 (by decide +kernel) (by decide +kernel))), (tb_i 957 (by decide +kernel) (by decide +kernel)), (tb_i 67 (by decide +kernel) (by decide +kernel)), by decide +kernel⟩, (tb_i 955 (by decide +kernel) (by decide +kernel)), (tb_i 956 (by decide +kernel) (by decide +kernel))⟩
theorem mi_X6_51 : MI RX6 51 yX6_reaches cX6_reaches 5 (some .boolean) 2 := ⟨⟨(Or.inl (tb_i 958 (by decide +kernel) (by decide +kernel))), (tb_i 961 (by decide +kernel) (by decide +kernel)), (tb_i 67 (by decide +kernel) (by decide +kernel)), by decide +kernel⟩, (tb_i 960 (by decide +kernel) (by decide +kernel)), (tb_i 33 (by decide +kernel) (by decide +kernel))⟩
theorem ms_X6_54 : MS RX6 54 yX1_liesIn cX1_liesIn 4 (some .boolean) 4 := ⟨⟨(Or.inl (tb_i 962 (by decide +kernel) (by decide +kernel))), (tb_i 418 (by decide +kernel) (by decide +kernel)), (tb_i 79 (by decide +kernel) (by decide +kernel)), by decide +kernel⟩, (tb_i 417 (by decide +kernel) (by decide +kernel))⟩
theorem mi_L_115 : MI RL 115 yX10_thrown cX10_thrown 1 (some .int) 0 := ⟨⟨(Or.inl (tb_i 1081 (by decide +kernel) (by decide +kernel))), (tb_i 1084 (by decide +kernel) (by decide +kernel)), (tb_i 72 (by decide +kernel) (by decide +kernel)), by decide +kernel⟩, (tb_i 1082 (by decide +kernel) (by decide +kernel)), (tb_i 1083 (by decide +kernel) (by decide +kernel))⟩
theorem mi_L_114 : MI RL 114 yX10_holder cX10_holder 2 (some .int) 1 := ⟨⟨(Or.inl (tb_i 1085 (by decide +kernel) (by decide +kernel))), (tb_i 1088 (by decide +kernel) (by decide +kernel)), (tb_i 72 (by decide +kernel) (by decide +kernel)), by decide +kernel⟩, (tb_i 1086 (by decide +kernel) (by decide +kernel)), (tb_i 1087 (by decide +kernel) (by decide +kernel))⟩
theorem mi_X10_115 : MI RX10 115 yX10_isHolder cX10_isHolder 2 (some .boolean) 1 := ⟨⟨(Or.inl (tb_i 1089 (by decide +kernel) (by decide +kernel))), (tb_i 1092 (by decide +kernel) (by decide +kernel)), (tb_i 72 (by decide +kernel) (by decide +kernel)), by decide +kernel⟩, (tb_i 1091 (by decide +kernel) (by decide +kernel)), (tb_i 34 (by decide +kernel) (by decide +kernel))⟩
theorem ms_X10_108 : MS RX10 108 yX10_isBetween cX10_isBetween 3 (some .boolean) 3 := ⟨⟨(Or.inl (tb_i 1093 (by decide +kernel) (by decide +kernel))), (tb_i 1095 (by decide +kernel) (by decide +kernel)), (tb_i 72 (by decide +kernel) (by decide +kernel)), by decide +kernel⟩, (tb_i 1094 (by decide +kernel) (by decide +kernel))⟩
theorem mi_X10_119 : MI RX10 119 yX10_isFine cX10_isFine 2 (some .boolean) 1 := ⟨⟨(Or.inl (tb_i 1096 (by decide +kernel) (by decide +kernel))), (tb_i 1099 (by decide +kernel) (by decide +kernel)), (tb_i 72 (by decide +kernel) (by decide +kernel)), by decide +kernel⟩, (tb_i 1098 (by decide +kernel) (by decide +kernel)), (tb_i 35 (by decide +kernel) (by decide +kernel))⟩
theorem mi_L_122 : MI RL 122 yX10_belong cX10_belong 4 (some .int) 2 := ⟨⟨(Or.inl (tb_i 1100 (by decide +kernel) (by decide +kernel))), (tb_i 1103 (by decide +kernel) (by decide +kernel)), (tb_i 72 (by decide +kernel) (by decide +kernel)), by decide +kernel⟩, (tb_i 1101 (by decide +kernel) (by decide +kernel)), (tb_i 1102 (by decide +kernel) (by decide +kernel))⟩
theorem ms_X10_125 : MS RX10 125 yX10_isNet cX10_isNet 1 (some .boolean) 1 := ⟨⟨(Or.inl (tb_i 1104 (by decide +kernel) (by decide +kernel))), (tb_i 1106 (by decide +kernel) (by decide +kernel)), (tb_i 72 (by decide +kernel) (by decide +kernel)), by decide +kernel⟩, (tb_i 1105 (by decide +kernel) (by decide +kernel))⟩
theorem mi_L_125 : MI RL 125 yX10_roll cX10_roll 3 (some .int) 1 := ⟨⟨(Or.inl (tb_i 1107 (by decide +kernel) (by decide +kernel))), (tb_i 1110 (by decide +kernel) (by decide +kernel)), (tb_i 72 (by decide +kernel) (by decide +kernel)), by decide +kernel⟩, (tb_i 1108 (by decide +kernel) (by decide +kernel)), (tb_i 1109 (by decide +kernel) (by decide +kernel))⟩
theorem mi_L_128 : MI RL 128 yX10_publish cX10_publish 5 (some .int) 2 := ⟨⟨(Or.inl (tb_i 1111 (by decide +kernel) (by decide +kernel))), (tb_i 1114 (by decide +kernel) (by decide +kernel)), (tb_i 72 (by decide +kernel) (by decide +kernel)), by decide +kernel⟩, (tb_i 1112 (by decide +kernel) (by decide +kernel)), (tb_i 1113 (by decide +kernel) (by decide +kernel))⟩
theorem mi_L_131 : MI RL 131 yX10_pass cX10_pass 2 (some .int) 1 := ⟨⟨(Or.inl (tb_i 1115 (by decide +kernel) (by decide +kernel))), (tb_i 1118 (by decide +kernel) (by decide +kernel)), (tb_i 72 (by decide +kernel) (by decide +kernel)), by decide +kernel⟩, (tb_i 1116 (by decide +kernel) (by decide +kernel)), (tb_i 1117 (by decide +kernel) (by decide +kernel))⟩
theorem mi_L_135 : MI RL 135 yX10_grant cX10_grant 8 (some .int) 5 := ⟨⟨(Or.inl (tb_i 1119 (by decide +kernel) (by decide +kernel))), (tb_i 1122 (by decide +kernel) (by decide +kernel)), (tb_i 72 (by decide +kernel) (by decide +kernel)), by decide +kernel⟩, (tb_i 1120 (by decide +kernel) (by decide +kernel)), (tb_i 1121 (by decide +kernel) (by decide +kernel))⟩
theorem ms_X10_137 : MS RX10 137 yX10_isBlock cX10_isBlock 2 (some .boolean) 2 := ⟨⟨(Or.inl (tb_i 1123 (by decide +kernel) (by decide +kernel))), (tb_i 1125 (by decide +kernel) (by decide +kernel)), (tb_i 72 (by decide +kernel) (by decide +kernel)), by decide +kernel⟩, (tb_i 1124 (by decide +kernel) (by decide +kernel))⟩
theorem ms_X10_141 : MS RX10 141 yX10_areDays cX10_areDays 1 (some .boolean) 1 := ⟨⟨(Or.inl (tb_i 1126 (by decide +kernel) (by decide +kernel))), (tb_i 1128 (by decide +kernel) (by decide +kernel)), (tb_i 72 (by decide +kernel) (by decide +kernel)), by decide +kernel⟩, (tb_i 1127 (by decide +kernel) (by decide +kernel))⟩
theorem mi_X10_144 : MI RX10 144 yX10_makes cX10_makes 8 (some .int) 7 := ⟨⟨(Or.inl (tb_i 1129 (by decide +kernel) (by decide +kernel))), (tb_i 1132 (by decide +kernel) (by decide +kernel)), (tb_i 72 (by decide +kernel) (by decide +kernel)), by decide +kernel⟩, (tb_i 1131 (by decide +kernel) (by decide +kernel)), (tb_i 36 (by decide +kernel) (by decide +kernel))⟩
theorem mi_X10_133 : MI RX10 133 yX10_signs cX10_signs 3 (some .int) 1 := ⟨⟨(Or.inl (tb_i 1133 (by decide +kernel) (by decide +kernel))), (tb_i 1136 (by decide +kernel) (by decide +kernel)), (tb_i 72 (by decide +kernel) (by decide +kernel)), by decide +kernel⟩, (tb_i 1135 (by decide +kernel) (by decide +kernel)), (tb_i 37 (by decide +kernel) (by decide +kernel))⟩
theorem ms_X10_129 : MS RX10 129 yX10_mixes cX10_mixes 2 (some .int) 2 := ⟨⟨(Or.inl (tb_i 1137 (by decide +kernel) (by decide +kernel))), (tb_i 1139 (by decide +kernel) (by decide +kernel)), (tb_i 72 (by decide +kernel) (by decide +kernel)), by decide +kernel⟩, (tb_i 1138 (by decide +kernel) (by decide +kernel))⟩
theorem mi_L_139 : MI RL 139 yX10_origin cX10_origin 9 (some .int) 6 := ⟨⟨(Or.inl (tb_i 1141 (by decide +kernel) (by decide +kernel))), (tb_i 1144 (by decide +kernel) (by decide +kernel)), (tb_i 72 (by decide +kernel) (by decide +kernel)), by decide +kernel⟩, (tb_i 1142 (by decide +kernel) (by decide +kernel)), (tb_i 1143 (by decide +kernel) (by decide +kernel))⟩
theorem mi_L_143 : MI RL 143 yX10_vouch cX10_vouch 7 (some .int) 4 := ⟨⟨(Or.inl (tb_i 1145 (by decide +kernel) (by decide +kernel))), (tb_i 1148 (by decide +kernel) (by decide +kernel)), (tb_i 72 (by decide +kernel) (by decide +kernel)), by decide +kernel⟩, (tb_i 1146 (by decide +kernel) (by decide +kernel)), (tb_i 1147 (by decide +kernel) (by decide +kernel))⟩
theorem mi_L_146 : MI RL 146 yX10_revoke cX10_revoke 2 (some .boolean) 1 := ⟨⟨(Or.inl (tb_i 1149 (by decide +kernel) (by decide +kernel))), (tb_i 1152 (by decide +kernel) (by decide +kernel)), (tb_i 72 (by decide +kernel) (by decide +kernel)), by decide +kernel⟩, (tb_i 1150 (by decide +kernel) (by decide +kernel)), (tb_i 1151 (by decide +kernel) (by decide +kernel))⟩
theorem mi_X10_148 : MI RX10 148 yX10_isObject cX10_isObject 2 (some .boolean) 1 := ⟨⟨(Or.inl (tb_i 1153 (by decide +kernel) (by decide +kernel))), (tb_i 1156 (by decide +kernel) (by decide +kernel)), (tb_i 72 (by decide +kernel) (by decide +kernel)), by decide +kernel⟩, (tb_i 1155 (by decide +kernel) (by decide +kernel)), (tb_i 38 (by decide +kernel) (by decide +kernel))⟩
theorem mi_L_149 : MI RL 149 yX10_alter cX10_alter 7 (some .int) 2 := ⟨⟨(Or.inl (tb_i 1157 (by decide +kernel) (by decide +kernel))), (tb_i 1160 (by decide +kernel) (by decide +kernel)), (tb_i 72 (by decide +kernel) (by decide +kernel)), by decide +kernel⟩, (tb_i 1158 (by decide +kernel) (by decide +kernel)), (tb_i 1159 (by decide +kernel) (by decide +kernel))⟩
theorem mi_L_152 : MI RL 152 yX10_sign cX10_sign 2 (some .int) 1 := ⟨⟨(Or.inl (tb_i 1161 (by decide +kernel) (by decide +kernel))), (tb_i 1164 (by decide +kernel) (by decide +kernel)), (tb_i 72 (by decide +kernel) (by decide +kernel)), by decide +kernel⟩, (tb_i 1162 (by decide +kernel) (by decide +kernel)), (tb_i 1163 (by decide +kernel) (by decide +kernel))⟩
theorem mi_L_155 : MI RL 155 yX10_hop cX10_hop 2 (some .int) 1 := ⟨⟨(Or.inl (tb_i 1165 (by decide +kernel) (by decide +kernel))), (tb_i 1168 (by decide +kernel) (by decide +kernel)), (tb_i 72 (by decide +kernel) (by decide +kernel)), by decide +kernel⟩, (tb_i 1166 (by decide +kernel) (by decide +kernel)), (tb_i 1167 (by decide +kernel) (by decide +kernel))⟩
theorem mi_L_158 : MI RL 158 yX10_hear cX10_hear 5 (some .int) 2 := ⟨⟨(Or.inl (tb_i 1169 (by decide +kernel) (by decide +kernel))), (tb_i 1172 (by decide +kernel) (by decide +kernel)), (tb_i 72 (by decide +kernel) (by decide +kernel)), by decide +kernel⟩, (tb_i 1170 (by decide +kernel) (by decide +kernel)), (tb_i 1171 (by decide +kernel) (by decide +kernel))⟩
theorem mi_L_161 : MI RL 161 yX10_withdraw cX10_withdraw 5 (some .int) 1 := ⟨⟨(Or.inl (tb_i 1173 (by decide +kernel) (by decide +kernel))), (tb_i 1176 (by decide +kernel) (by decide +kernel)), (tb_i 72 (by decide +kernel) (by decide +kernel)), by decide +kernel⟩, (tb_i 1174 (by decide +kernel) (by decide +kernel)), (tb_i 1175 (by decide +kernel) (by decide +kernel))⟩
theorem mi_L_165 : MI RL 165 yX10_tie cX10_tie 6 (some .int) 3 := ⟨⟨(Or.inl (tb_i 1177 (by decide +kernel) (by decide +kernel))), (tb_i 1180 (by decide +kernel) (by decide +kernel)), (tb_i 72 (by decide +kernel) (by decide +kernel)), by decide +kernel⟩, (tb_i 1178 (by decide +kernel) (by decide +kernel)), (tb_i 1179 (by decide +kernel) (by decide +kernel))⟩
theorem ms_X10_157 : MS RX10 157 yX10_turned cX10_turned 1 (some .int) 1 := ⟨⟨(Or.inl (tb_i 1181 (by decide +kernel) (by decide +kernel))), (tb_i 1183 (by decide +kernel) (by decide +kernel)), (tb_i 72 (by decide +kernel) (by decide +kernel)), by decide +kernel⟩, (tb_i 1182 (by decide +kernel) (by decide +kernel))⟩
theorem mi_L_169 : MI RL 169 yX10_today cX10_today 1 (some .int) 0 := ⟨⟨(Or.inl (tb_i 1184 (by decide +kernel) (by decide +kernel))), (tb_i 1187 (by decide +kernel) (by decide +kernel)), (tb_i 72 (by decide +kernel) (by decide +kernel)), by decide +kernel⟩, (tb_i 1185 (by decide +kernel) (by decide +kernel)), (tb_i 1186 (by decide +kernel) (by decide +kernel))⟩
theorem mi_L_173 : MI RL 173 yX10_objects cX10_objects 1 (some .int) 0 := ⟨⟨(Or.inl (tb_i 1188 (by decide +kernel) (by decide +kernel))), (tb_i 1191 (by decide +kernel) (by decide +kernel)), (tb_i 72 (by decide +kernel) (by decide +kernel)), by decide +kernel⟩, (tb_i 1189 (by decide +kernel) (by decide +kernel)), (tb_i 1190 (by decide +kernel) (by decide +kernel))⟩
theorem mi_L_176 : MI RL 176 yX10_judged cX10_judged 2 (some .int) 1 := ⟨⟨(Or.inl (tb_i 1192 (by decide +kernel) (by decide +kernel))), (tb_i 1195 (by decide +kernel) (by decide +kernel)), (tb_i 72 (by decide +kernel) (by decide +kernel)), by decide +kernel⟩, (tb_i 1193 (by decide +kernel) (by decide +kernel)), (tb_i 1194 (by decide +kernel) (by decide +kernel))⟩
theorem mi_X10_176 : MI RX10 176 yX10_judges cX10_judges 4 none 0 := ⟨⟨(Or.inl (tb_i 1196 (by decide +kernel) (by decide +kernel))), (tb_i 1199 (by decide +kernel) (by decide +kernel)), (tb_i 72 (by decide +kernel) (by decide +kernel)), by decide +kernel⟩, (tb_i 1198 (by decide +kernel) (by decide +kernel)), (tb_i 39 (by decide +kernel) (by decide +kernel))⟩
theorem mi_X10_170 : MI RX10 170 yX10_simply cX10_simply 2 (some .int) 1 := ⟨⟨(Or.inl (tb_i 1200 (by decide +kernel) (by decide +kernel))), (tb_i 1203 (by decide +kernel) (by decide +kernel)), (tb_i 72 (by decide +kernel) (by decide +kernel)), by decide +kernel⟩, (tb_i 1202 (by decide +kernel) (by decide +kernel)), (tb_i 40 (by decide +kernel) (by decide +kernel))⟩
theorem mi_X10_173 : MI RX10 173 yX10_isOutside cX10_isOutside 2 (some .boolean) 1 := ⟨⟨(Or.inl (tb_i 1204 (by decide +kernel) (by decide +kernel))), (tb_i 1207 (by decide +kernel) (by decide +kernel)), (tb_i 72 (by decide +kernel) (by decide +kernel)), by decide +kernel⟩, (tb_i 1206 (by decide +kernel) (by decide +kernel)), (tb_i 41 (by decide +kernel) (by decide +kernel))⟩
theorem mi_X10_164 : MI RX10 164 yX10_hasAny cX10_hasAny 4 (some .boolean) 1 := ⟨⟨(Or.inl (tb_i 1208 (by decide +kernel) (by decide +kernel))), (tb_i 1211 (by decide +kernel) (by decide +kernel)), (tb_i 72 (by decide +kernel) (by decide +kernel)), by decide +kernel⟩, (tb_i 1210 (by decide +kernel) (by decide +kernel)), (tb_i 42 (by decide +kernel) (by decide +kernel))⟩
theorem mi_X10_167 : MI RX10 167 yX10_has0 cX10_has0 6 (some .boolean) 3 := ⟨⟨(Or.inl (tb_i 1212 (by decide +kernel) (by decide +kernel))), (tb_i 1215 (by decide +kernel) (by decide +kernel)), (tb_i 72 (by decide +kernel) (by decide +kernel)), by decide +kernel⟩, (tb_i 1214 (by decide +kernel) (by decide +kernel)), (tb_i 43 (by decide +kernel) (by decide +kernel))⟩
theorem ms_X10_160 : MS RX10 160 yX10_lies cX10_lies 4 (some .boolean) 4 := ⟨⟨(Or.inl (tb_i 1216 (by decide +kernel) (by decide +kernel))), (tb_i 1218 (by decide +kernel) (by decide +kernel)), (tb_i 72 (by decide +kernel) (by decide +kernel)), by decide +kernel⟩, (tb_i 1217 (by decide +kernel) (by decide +kernel))⟩
theorem mi_L_179 : MI RL 179 yX10_has cX10_has 4 (some .boolean) 3 := ⟨⟨(Or.inl (tb_i 1219 (by decide +kernel) (by decide +kernel))), (tb_i 1222 (by decide +kernel) (by decide +kernel)), (tb_i 72 (by decide +kernel) (by decide +kernel)), by decide +kernel⟩, (tb_i 1220 (by decide +kernel) (by decide +kernel)), (tb_i 1221 (by decide +kernel) (by decide +kernel))⟩
theorem mi_X10_179 : MI RX10 179 yX10_hasNow cX10_hasNow 4 (some .boolean) 3 := ⟨⟨(Or.inl (tb_i 1223 (by decide +kernel) (by decide +kernel))), (tb_i 1226 (by decide +kernel) (by decide +kernel)), (tb_i 72 (by decide +kernel) (by decide +kernel)), by decide +kernel⟩, (tb_i 1225 (by decide +kernel) (by decide +kernel)), (tb_i 44 (by decide +kernel) (by decide +kernel))⟩
theorem mi_L_182 : MI RL 182 yX10_hasByChains cX10_hasByChains 4 (some .boolean) 3 := ⟨⟨(Or.inl (tb_i 1227 (by decide +kernel) (by decide +kernel))), (tb_i 1230 (by decide +kernel) (by decide +kernel)), (tb_i 72 (by decide +kernel) (by decide +kernel)), by decide +kernel⟩, (tb_i 1228 (by decide +kernel) (by decide +kernel)), (tb_i 1229 (by decide +kernel) (by decide +kernel))⟩
theorem mi_L_185 : MI RL 185 yX10_state cX10_state 4 (some .int) 3 := ⟨⟨(Or.inl (tb_i 1231 (by decide +kernel) (by decide +kernel))), (tb_i 1234 (by decide +kernel) (by decide +kernel)), (tb_i 72 (by decide +kernel) (by decide +kernel)), by decide +kernel⟩, (tb_i 1232 (by decide +kernel) (by decide +kernel)), (tb_i 1233 (by decide +kernel) (by decide +kernel))⟩
theorem mi_X10_182 : MI RX10 182 yX10_stands cX10_stands 6 (some .int) 3 := ⟨⟨(Or.inl (tb_i 1235 (by decide +kernel) (by decide +kernel))), (tb_i 1238 (by decide +kernel) (by decide +kernel)), (tb_i 72 (by decide +kernel) (by decide +kernel)), by decide +kernel⟩, (tb_i 1237 (by decide +kernel) (by decide +kernel)), (tb_i 45 (by decide +kernel) (by decide +kernel))⟩
theorem mi_L_189 : MI RL 189 yX10_routes cX10_routes 1 (some .int) 0 := ⟨⟨(Or.inl (tb_i 1239 (by decide +kernel) (by decide +kernel))), (tb_i 1242 (by decide +kernel) (by decide +kernel)), (tb_i 72 (by decide +kernel) (by decide +kernel)), by decide +kernel⟩, (tb_i 1240 (by decide +kernel) (by decide +kernel)), (tb_i 1241 (by decide +kernel) (by decide +kernel))⟩
theorem mi_L_193 : MI RL 193 yX10_path cX10_path 3 (some .int) 2 := ⟨⟨(Or.inl (tb_i 1243 (by decide +kernel) (by decide +kernel))), (tb_i 1246 (by decide +kernel) (by decide +kernel)), (tb_i 72 (by decide +kernel) (by decide +kernel)), by decide +kernel⟩, (tb_i 1244 (by decide +kernel) (by decide +kernel)), (tb_i 1245 (by decide +kernel) (by decide +kernel))⟩
theorem mi_X10_200 : MI RX10 200 yX10_isRoute cX10_isRoute 2 (some .boolean) 1 := ⟨⟨(Or.inl (tb_i 1247 (by decide +kernel) (by decide +kernel))), (tb_i 1250 (by decide +kernel) (by decide +kernel)), (tb_i 72 (by decide +kernel) (by decide +kernel)), by decide +kernel⟩, (tb_i 1249 (by decide +kernel) (by decide +kernel)), (tb_i 46 (by decide +kernel) (by decide +kernel))⟩
theorem mi_X10_203 : MI RX10 203 yX10_vouches cX10_vouches 2 none 0 := ⟨⟨(Or.inl (tb_i 1251 (by decide +kernel) (by decide +kernel))), (tb_i 1254 (by decide +kernel) (by decide +kernel)), (tb_i 72 (by decide +kernel) (by decide +kernel)), by decide +kernel⟩, (tb_i 1253 (by decide +kernel) (by decide +kernel)), (tb_i 47 (by decide +kernel) (by decide +kernel))⟩
theorem mi_X10_206 : MI RX10 206 yX10_judge cX10_judge 7 (some .int) 4 := ⟨⟨(Or.inl (tb_i 1255 (by decide +kernel) (by decide +kernel))), (tb_i 1258 (by decide +kernel) (by decide +kernel)), (tb_i 72 (by decide +kernel) (by decide +kernel)), by decide +kernel⟩, (tb_i 1257 (by decide +kernel) (by decide +kernel)), (tb_i 48 (by decide +kernel) (by decide +kernel))⟩
theorem ms_X10_192 : MS RX10 192 yX10_runsRound cX10_runsRound 6 (some .boolean) 3 := ⟨⟨(Or.inl (tb_i 1259 (by decide +kernel) (by decide +kernel))), (tb_i 1261 (by decide +kernel) (by decide +kernel)), (tb_i 72 (by decide +kernel) (by decide +kernel)), by decide +kernel⟩, (tb_i 1260 (by decide +kernel) (by decide +kernel))⟩
theorem mi_X10_196 : MI RX10 196 yX10_counts cX10_counts 10 (some .int) 5 := ⟨⟨(Or.inl (tb_i 1262 (by decide +kernel) (by decide +kernel))), (tb_i 1265 (by decide +kernel) (by decide +kernel)), (tb_i 72 (by decide +kernel) (by decide +kernel)), by decide +kernel⟩, (tb_i 1264 (by decide +kernel) (by decide +kernel)), (tb_i 49 (by decide +kernel) (by decide +kernel))⟩
theorem mi_X10_186 : MI RX10 186 yX10_isFor cX10_isFor 3 (some .boolean) 2 := ⟨⟨(Or.inl (tb_i 1266 (by decide +kernel) (by decide +kernel))), (tb_i 1269 (by decide +kernel) (by decide +kernel)), (tb_i 72 (by decide +kernel) (by decide +kernel)), by decide +kernel⟩, (tb_i 1268 (by decide +kernel) (by decide +kernel)), (tb_i 50 (by decide +kernel) (by decide +kernel))⟩
theorem mi_X10_189 : MI RX10 189 yX10_denies cX10_denies 3 (some .boolean) 2 := ⟨⟨(Or.inl (tb_i 1270 (by decide +kernel) (by decide +kernel))), (tb_i 1273 (by decide +kernel) (by decide +kernel)), (tb_i 72 (by decide +kernel) (by decide +kernel)), by decide +kernel⟩, (tb_i 1272 (by decide +kernel) (by decide +kernel)), (tb_i 51 (by decide +kernel) (by decide +kernel))⟩
theorem mi_L_196 : MI RL 196 yX10_leak cX10_leak 6 (some .int) 1 := ⟨⟨(Or.inl (tb_i 1274 (by decide +kernel) (by decide +kernel))), (tb_i 1277 (by decide +kernel) (by decide +kernel)), (tb_i 72 (by decide +kernel) (by decide +kernel)), by decide +kernel⟩, (tb_i 1275 (by decide +kernel) (by decide +kernel)), (tb_i 1276 (by decide +kernel) (by decide +kernel))⟩
theorem mi_L_199 : MI RL 199 yX10_stopped cX10_stopped 7 (some .int) 2 := ⟨⟨(Or.inl (tb_i 1278 (by decide +kernel) (by decide +kernel))), (tb_i 1281 (by decide +kernel) (by decide +kernel)), (tb_i 72 (by decide +kernel) (by decide +kernel)), by decide +kernel⟩, (tb_i 1279 (by decide +kernel) (by decide +kernel)), (tb_i 1280 (by decide +kernel) (by decide +kernel))⟩
theorem mi_X10_210 : MI RX10 210 yX10_refuses cX10_refuses 6 (some .boolean) 4 := ⟨⟨(Or.inl (tb_i 1282 (by decide +kernel) (by decide +kernel))), (tb_i 1285 (by decide +kernel) (by decide +kernel)), (tb_i 72 (by decide +kernel) (by decide +kernel)), by decide +kernel⟩, (tb_i 1284 (by decide +kernel) (by decide +kernel)), (tb_i 52 (by decide +kernel) (by decide +kernel))⟩
theorem mi_L_202 : MI RL 202 yX10_allowed cX10_allowed 6 (some .int) 2 := ⟨⟨(Or.inl (tb_i 1286 (by decide +kernel) (by decide +kernel))), (tb_i 1289 (by decide +kernel) (by decide +kernel)), (tb_i 72 (by decide +kernel) (by decide +kernel)), by decide +kernel⟩, (tb_i 1287 (by decide +kernel) (by decide +kernel)), (tb_i 1288 (by decide +kernel) (by decide +kernel))⟩
theorem ms_X10_214 : MS RX10 214 yX10_power cX10_power 3 (some .int) 1 := ⟨⟨(Or.inl (tb_i 1290 (by decide +kernel) (by decide +kernel))), (tb_i 1292 (by decide +kernel) (by decide +kernel)), (tb_i 72 (by decide +kernel) (by decide +kernel)), by decide +kernel⟩, (tb_i 1291 (by decide +kernel) (by decide +kernel))⟩
theorem mi_X10_217 : MI RX10 217 yX10_isAllowed cX10_isAllowed 7 (some .boolean) 2 := ⟨⟨(Or.inl (tb_i 1293 (by decide +kernel) (by decide +kernel))), (tb_i 1296 (by decide +kernel) (by decide +kernel)), (tb_i 72 (by decide +kernel) (by decide +kernel)), by decide +kernel⟩, (tb_i 1295 (by decide +kernel) (by decide +kernel)), (tb_i 53 (by decide +kernel) (by decide +kernel))⟩
theorem mi_L_206 : MI RL 206 yX10_falseAlarms cX10_falseAlarms 4 (some .int) 0 := ⟨⟨(Or.inl (tb_i 1297 (by decide +kernel) (by decide +kernel))), (tb_i 1300 (by decide +kernel) (by decide +kernel)), (tb_i 72 (by decide +kernel) (by decide +kernel)), by decide +kernel⟩, (tb_i 1298 (by decide +kernel) (by decide +kernel)), (tb_i 1299 (by decide +kernel) (by decide +kernel))⟩
theorem mi_L_210 : MI RL 210 yX10_clique cX10_clique 1 (some .int) 0 := ⟨⟨(Or.inl (tb_i 1301 (by decide +kernel) (by decide +kernel))), (tb_i 1304 (by decide +kernel) (by decide +kernel)), (tb_i 72 (by decide +kernel) (by decide +kernel)), by decide +kernel⟩, (tb_i 1302 (by decide +kernel) (by decide +kernel)), (tb_i 1303 (by decide +kernel) (by decide +kernel))⟩
theorem mi_X10_235 : MI RX10 235 yX10_nears cX10_nears 3 none 0 := ⟨⟨(Or.inl (tb_i 1305 (by decide +kernel) (by decide +kernel))), (tb_i 1308 (by decide +kernel) (by decide +kernel)), (tb_i 72 (by decide +kernel) (by decide +kernel)), by decide +kernel⟩, (tb_i 1307 (by decide +kernel) (by decide +kernel)), (tb_i 54 (by decide +kernel) (by decide +kernel))⟩
theorem mi_X10_220 : MI RX10 220 yX10_isUsed cX10_isUsed 2 (some .boolean) 1 := ⟨⟨(Or.inl (tb_i 1309 (by decide +kernel) (by decide +kernel))), (tb_i 1312 (by decide +kernel) (by decide +kernel)), (tb_i 72 (by decide +kernel) (by decide +kernel)), by decide +kernel⟩, (tb_i 1311 (by decide +kernel) (by decide +kernel)), (tb_i 55 (by decide +kernel) (by decide +kernel))⟩
theorem ms_X10_226 : MS RX10 226 yX10_count cX10_count 3 (some .int) 1 := ⟨⟨(Or.inl (tb_i 1313 (by decide +kernel) (by decide +kernel))), (tb_i 1315 (by decide +kernel) (by decide +kernel)), (tb_i 72 (by decide +kernel) (by decide +kernel)), by decide +kernel⟩, (tb_i 1314 (by decide +kernel) (by decide +kernel))⟩
theorem mi_L_213 : MI RL 213 yX10_inferred cX10_inferred 4 (some .int) 3 := ⟨⟨(Or.inl (tb_i 1316 (by decide +kernel) (by decide +kernel))), (tb_i 1319 (by decide +kernel) (by decide +kernel)), (tb_i 72 (by decide +kernel) (by decide +kernel)), by decide +kernel⟩, (tb_i 1317 (by decide +kernel) (by decide +kernel)), (tb_i 1318 (by decide +kernel) (by decide +kernel))⟩
theorem mi_X10_243 : MI RX10 243 yX10_infers cX10_infers 6 none 1 := ⟨⟨(Or.inl (tb_i 1320 (by decide +kernel) (by decide +kernel))), (tb_i 1323 (by decide +kernel) (by decide +kernel)), (tb_i 72 (by decide +kernel) (by decide +kernel)), by decide +kernel⟩, (tb_i 1322 (by decide +kernel) (by decide +kernel)), (tb_i 56 (by decide +kernel) (by decide +kernel))⟩
theorem mi_X10_238 : MI RX10 238 yX10_votes cX10_votes 6 none 0 := ⟨⟨(Or.inl (tb_i 1324 (by decide +kernel) (by decide +kernel))), (tb_i 1327 (by decide +kernel) (by decide +kernel)), (tb_i 72 (by decide +kernel) (by decide +kernel)), by decide +kernel⟩, (tb_i 1326 (by decide +kernel) (by decide +kernel)), (tb_i 57 (by decide +kernel) (by decide +kernel))⟩
theorem mi_X10_229 : MI RX10 229 yX10_topOf cX10_topOf 4 (some .int) 1 := ⟨⟨(Or.inl (tb_i 1328 (by decide +kernel) (by decide +kernel))), (tb_i 1331 (by decide +kernel) (by decide +kernel)), (tb_i 72 (by decide +kernel) (by decide +kernel)), by decide +kernel⟩, (tb_i 1330 (by decide +kernel) (by decide +kernel)), (tb_i 58 (by decide +kernel) (by decide +kernel))⟩
theorem mi_X10_240 : MI RX10 240 yX10_relates cX10_relates 6 none 0 := ⟨⟨(Or.inl (tb_i 1332 (by decide +kernel) (by decide +kernel))), (tb_i 1335 (by decide +kernel) (by decide +kernel)), (tb_i 72 (by decide +kernel) (by decide +kernel)), by decide +kernel⟩, (tb_i 1334 (by decide +kernel) (by decide +kernel)), (tb_i 59 (by decide +kernel) (by decide +kernel))⟩
theorem mi_X10_232 : MI RX10 232 yX10_isInClique cX10_isInClique 2 (some .boolean) 1 := ⟨⟨(Or.inl (tb_i 1336 (by decide +kernel) (by decide +kernel))), (tb_i 1339 (by decide +kernel) (by decide +kernel)), (tb_i 72 (by decide +kernel) (by decide +kernel)), by decide +kernel⟩, (tb_i 1338 (by decide +kernel) (by decide +kernel)), (tb_i 60 (by decide +kernel) (by decide +kernel))⟩
theorem mi_L_216 : MI RL 216 yX10_cone cX10_cone 2 (some .int) 1 := ⟨⟨(Or.inl (tb_i 1340 (by decide +kernel) (by decide +kernel))), (tb_i 1343 (by decide +kernel) (by decide +kernel)), (tb_i 72 (by decide +kernel) (by decide +kernel)), by decide +kernel⟩, (tb_i 1341 (by decide +kernel) (by decide +kernel)), (tb_i 1342 (by decide +kernel) (by decide +kernel))⟩
theorem mi_X10_247 : MI RX10 247 yX10_conesOf cX10_conesOf 6 (some .int) 1 := ⟨⟨(Or.inl (tb_i 1344 (by decide +kernel) (by decide +kernel))), (tb_i 1347 (by decide +kernel) (by decide +kernel)), (tb_i 72 (by decide +kernel) (by decide +kernel)), by decide +kernel⟩, (tb_i 1346 (by decide +kernel) (by decide +kernel)), (tb_i 61 (by decide +kernel) (by decide +kernel))⟩
theorem mi_L_219 : MI RL 219 yX10_coneByPaths cX10_coneByPaths 7 (some .int) 1 := ⟨⟨(Or.inl (tb_i 1348 (by decide +kernel) (by decide +kernel))), (tb_i 1351 (by decide +kernel) (by decide +kernel)), (tb_i 72 (by decide +kernel) (by decide +kernel)), by decide +kernel⟩, (tb_i 1349 (by decide +kernel) (by decide +kernel)), (tb_i 1350 (by decide +kernel) (by decide +kernel))⟩
theorem mi_L_222 : MI RL 222 yX10_addresses cX10_addresses 6 (some .int) 1 := ⟨⟨(Or.inl (tb_i 1352 (by decide +kernel) (by decide +kernel))), (tb_i 1355 (by decide +kernel) (by decide +kernel)), (tb_i 72 (by decide +kernel) (by decide +kernel)), by decide +kernel⟩, (tb_i 1353 (by decide +kernel) (by decide +kernel)), (tb_i 1354 (by decide +kernel) (by decide +kernel))⟩
theorem kc_X7_51 : Cond.constant RX7 51 (65521) ∈ TB := (tb_i 395 (by decide +kernel) (by decide +kernel))
theorem kc_J6_265 : Cond.constant RJ6 265 (1431655765) ∈ TB := (tb_i 514 (by decide +kernel) (by decide +kernel))
theorem kc_J6_266 : Cond.constant RJ6 266 (858993459) ∈ TB := (tb_i 515 (by decide +kernel) (by decide +kernel))
theorem kc_J6_267 : Cond.constant RJ6 267 (252645135) ∈ TB := (tb_i 516 (by decide +kernel) (by decide +kernel))
theorem kc_X10_128 : Cond.constant RX10 128 (65521) ∈ TB := (tb_i 1140 (by decide +kernel) (by decide +kernel))
theorem sh_0 : sh 0 = .inr (8, [some 1, some 6, some 17, some 20, some 51, some 63, some 66, some 68]) := rfl
theorem sh_1 : sh 1 = .inr (3, [none, none, some 2, some 3, some 4, some 5]) := rfl
theorem sh_2 : sh 2 = .inl (0, 8) := rfl
theorem sh_3 : sh 3 = .inl (0, 8) := rfl
theorem sh_4 : sh 4 = .inl (0, 8) := rfl
theorem sh_5 : sh 5 = .inl (0, 10) := rfl
theorem sh_6 : sh 6 = .inr (6, [none, some 7, some 8, some 9, some 10, some 11, some 12, some 13, some 14, some 15, some 16]) := rfl
theorem sh_7 : sh 7 = .inl (0, 50) := rfl
theorem sh_8 : sh 8 = .inl (0, 50) := rfl
theorem sh_9 : sh 9 = .inl (0, 50) := rfl
theorem sh_10 : sh 10 = .inl (0, 50) := rfl
theorem sh_11 : sh 11 = .inl (0, 50) := rfl
theorem sh_12 : sh 12 = .inl (0, 50) := rfl
theorem sh_13 : sh 13 = .inl (0, 50) := rfl
theorem sh_14 : sh 14 = .inl (0, 50) := rfl
theorem sh_15 : sh 15 = .inl (1, 50) := rfl
theorem sh_16 : sh 16 = .inl (1, 50) := rfl
theorem sh_17 : sh 17 = .inr (1, [some 1, some 6, some 18, some 19]) := rfl
theorem sh_18 : sh 18 = .inl (0, 50) := rfl
theorem sh_19 : sh 19 = .inl (1, 50) := rfl
theorem sh_20 : sh 20 = .inr (5, [none, none, none, some 21, some 22, some 47, some 48, some 49, some 50]) := rfl
theorem sh_21 : sh 21 = .inl (0, 6) := rfl
theorem sh_22 : sh 22 = .inl (3, 24) := rfl
theorem sh_23 : sh 23 = .inl (0, 6) := rfl
theorem sh_24 : sh 24 = .inl (0, 6) := rfl
theorem sh_25 : sh 25 = .inl (0, 6) := rfl
theorem sh_26 : sh 26 = .inl (0, 6) := rfl
theorem sh_27 : sh 27 = .inl (0, 6) := rfl
theorem sh_28 : sh 28 = .inl (0, 6) := rfl
theorem sh_29 : sh 29 = .inl (0, 6) := rfl
theorem sh_30 : sh 30 = .inl (0, 6) := rfl
theorem sh_31 : sh 31 = .inl (0, 6) := rfl
theorem sh_32 : sh 32 = .inl (0, 6) := rfl
theorem sh_33 : sh 33 = .inl (0, 6) := rfl
theorem sh_34 : sh 34 = .inl (0, 6) := rfl
theorem sh_35 : sh 35 = .inl (0, 6) := rfl
theorem sh_36 : sh 36 = .inl (0, 6) := rfl
theorem sh_37 : sh 37 = .inl (0, 6) := rfl
theorem sh_38 : sh 38 = .inl (0, 6) := rfl
theorem sh_39 : sh 39 = .inl (0, 6) := rfl
theorem sh_40 : sh 40 = .inl (0, 6) := rfl
theorem sh_41 : sh 41 = .inl (0, 6) := rfl
theorem sh_42 : sh 42 = .inl (0, 6) := rfl
theorem sh_43 : sh 43 = .inl (0, 6) := rfl
theorem sh_44 : sh 44 = .inl (0, 6) := rfl
theorem sh_45 : sh 45 = .inl (0, 6) := rfl
theorem sh_46 : sh 46 = .inl (0, 6) := rfl
theorem sh_47 : sh 47 = .inl (0, 24) := rfl
theorem sh_48 : sh 48 = .inl (0, 24) := rfl
theorem sh_49 : sh 49 = .inl (0, 24) := rfl
theorem sh_50 : sh 50 = .inl (1, 24) := rfl
theorem sh_51 : sh 51 = .inr (7, [some 52]) := rfl
theorem sh_52 : sh 52 = .inl (3, 10) := rfl
theorem sh_53 : sh 53 = .inl (0, 10) := rfl
theorem sh_54 : sh 54 = .inl (0, 10) := rfl
theorem sh_55 : sh 55 = .inl (0, 10) := rfl
theorem sh_56 : sh 56 = .inl (0, 10) := rfl
theorem sh_57 : sh 57 = .inl (0, 10) := rfl
theorem sh_58 : sh 58 = .inl (0, 10) := rfl
theorem sh_59 : sh 59 = .inl (0, 10) := rfl
theorem sh_60 : sh 60 = .inl (0, 10) := rfl
theorem sh_61 : sh 61 = .inl (0, 10) := rfl
theorem sh_62 : sh 62 = .inl (0, 10) := rfl
theorem sh_63 : sh 63 = .inr (2, [some 51, some 64, some 65]) := rfl
theorem sh_64 : sh 64 = .inl (1, 10) := rfl
theorem sh_65 : sh 65 = .inl (0, 10) := rfl
theorem sh_66 : sh 66 = .inr (0, [some 51, some 63, some 67]) := rfl
theorem sh_67 : sh 67 = .inl (0, 5) := rfl
theorem sh_68 : sh 68 = .inr (4, [some 20, none, some 69, some 70, some 81]) := rfl
theorem sh_69 : sh 69 = .inl (0, 10) := rfl
theorem sh_70 : sh 70 = .inl (3, 10) := rfl
theorem sh_71 : sh 71 = .inl (0, 10) := rfl
theorem sh_72 : sh 72 = .inl (0, 10) := rfl
theorem sh_73 : sh 73 = .inl (0, 10) := rfl
theorem sh_74 : sh 74 = .inl (0, 10) := rfl
theorem sh_75 : sh 75 = .inl (0, 10) := rfl
theorem sh_76 : sh 76 = .inl (0, 10) := rfl
theorem sh_77 : sh 77 = .inl (0, 10) := rfl
theorem sh_78 : sh 78 = .inl (0, 10) := rfl
theorem sh_79 : sh 79 = .inl (0, 10) := rfl
theorem sh_80 : sh 80 = .inl (0, 10) := rfl
theorem sh_81 : sh 81 = .inl (3, 3) := rfl
theorem sh_82 : sh 82 = .inl (0, 10) := rfl
theorem sh_83 : sh 83 = .inl (0, 10) := rfl
theorem sh_84 : sh 84 = .inl (0, 10) := rfl
theorem sh_85 : sh 85 = .inr (9, [none, none, some 86, some 87, some 88, none, some 89, some 90, some 91, some 92, some 93, some 94, some 95, some 96, some 97, some 98, some 99, none, some 100, none, some 101, some 102, some 103, some 104, some 105, none, some 106, some 107, some 108, some 109, some 110, some 111, some 112, some 113, some 114, none, some 115]) := rfl
theorem sh_86 : sh 86 = .inl (0, 8) := rfl
theorem sh_87 : sh 87 = .inl (0, 8) := rfl
theorem sh_88 : sh 88 = .inl (0, 8) := rfl
theorem sh_89 : sh 89 = .inl (0, 10) := rfl
theorem sh_90 : sh 90 = .inl (0, 50) := rfl
theorem sh_91 : sh 91 = .inl (0, 50) := rfl
theorem sh_92 : sh 92 = .inl (0, 50) := rfl
theorem sh_93 : sh 93 = .inl (0, 50) := rfl
theorem sh_94 : sh 94 = .inl (0, 50) := rfl
theorem sh_95 : sh 95 = .inl (0, 50) := rfl
theorem sh_96 : sh 96 = .inl (0, 50) := rfl
theorem sh_97 : sh 97 = .inl (0, 50) := rfl
theorem sh_98 : sh 98 = .inl (1, 50) := rfl
theorem sh_99 : sh 99 = .inl (1, 50) := rfl
theorem sh_100 : sh 100 = .inl (0, 6) := rfl
theorem sh_101 : sh 101 = .inl (0, 144) := rfl
theorem sh_102 : sh 102 = .inl (0, 24) := rfl
theorem sh_103 : sh 103 = .inl (0, 24) := rfl
theorem sh_104 : sh 104 = .inl (0, 24) := rfl
theorem sh_105 : sh 105 = .inl (1, 24) := rfl
theorem sh_106 : sh 106 = .inl (0, 100) := rfl
theorem sh_107 : sh 107 = .inl (0, 50) := rfl
theorem sh_108 : sh 108 = .inl (0, 10) := rfl
theorem sh_109 : sh 109 = .inl (1, 10) := rfl
theorem sh_110 : sh 110 = .inl (0, 6) := rfl
theorem sh_111 : sh 111 = .inl (0, 10) := rfl
theorem sh_112 : sh 112 = .inl (0, 100) := rfl
theorem sh_113 : sh 113 = .inl (0, 100) := rfl
theorem sh_114 : sh 114 = .inl (0, 10) := rfl
theorem sh_115 : sh 115 = .inl (1, 256) := rfl
theorem sh_116 : sh 116 = .inl (2, 1) := rfl
theorem sh_nets {r : Nat} (h : r < 24) : sh (23 + r) = .inl (0, 6) := (by decide +kernel : ∀ r, r < 24 → sh (23 + r) = .inl (0, 6)) r h
theorem sh_what {r : Nat} (h : r < 10) : sh (53 + r) = .inl (0, 10) := (by decide +kernel : ∀ r, r < 10 → sh (53 + r) = .inl (0, 10)) r h
theorem sh_votes {r : Nat} (h : r < 10) : sh (71 + r) = .inl (0, 10) := (by decide +kernel : ∀ r, r < 10 → sh (71 + r) = .inl (0, 10)) r h
theorem sh_cust {r : Nat} (h : r < 3) : sh (82 + r) = .inl (0, 10) := (by decide +kernel : ∀ r, r < 3 → sh (82 + r) = .inl (0, 10)) r h
end
section
section VR2
variable {p : Program} {l : Launch} {e : Env} {R : Room} {s : State} {m : MethodId} {args : Array Value} {below : List Frame} {meth : Method} {c : Code} {w : Wt} {cc : ByteArray} {nL : Nat} {own : String} {ret : Option FieldType} {n k : Nat} {Q : State → Prop} {pc : Nat} {ls : List (Option Value)} {st : List Value} {X : Mem}
theorem V_eqi {x y : Int32} (h : x = y) (kk : V p l e R s m args below meth c w nL n k Q pc ls (.int y :: st) X) : V p l e R s m args below meth c w nL n k Q pc ls (.int x :: st) X := h ▸ kk
theorem V_eqX {X1 : Mem} (h : X = X1) (kk : V p l e R s m args below meth c w nL n k Q pc ls st X1) : V p l e R s m args below meth c w nL n k Q pc ls st X := h ▸ kk
theorem V_ialdN (C : CX p s m args meth c w cc nL own ret) {p0 N o : Nat} {v : Int32} (hd : decode cc pc = .ok (.iaload, 1)) (hs : sh p0 = .inl (0, N)) (h0 : p0 < 117) (ho : o < N) (hN : N ≤ 256) (hv : X p0 o = v) (kk : V p l e R s m args below meth c w nL n k Q (pc + 1) ls (.int v :: st) X) : V p l e R s m args below meth c w nL n k Q pc ls (.int (nI o) :: .ref (w.2.1 p0) :: st) X := by
  have h31 : N < 2 ^ 31 := Nat.lt_of_le_of_lt hN (by decide)
  refine V_iaload C hd h0 hs (vp_in_nI ho h31) ?_
  rw [nI_clamp (Nat.lt_trans ho h31), hv]
  exact kk
theorem V_baldN (C : CX p s m args meth c w cc nL own ret) {p0 N o : Nat} {v : Int32} (hd : decode cc pc = .ok (.baload, 1)) (hs : sh p0 = .inl (1, N)) (h0 : p0 < 117) (ho : o < N) (hN : N ≤ 256) (hv : X p0 o = v) (kk : V p l e R s m args below meth c w nL n k Q (pc + 1) ls (.int v :: st) X) : V p l e R s m args below meth c w nL n k Q pc ls (.int (nI o) :: .ref (w.2.1 p0) :: st) X := by
  have h31 : N < 2 ^ 31 := Nat.lt_of_le_of_lt hN (by decide)
  refine V_baload C hd h0 hs (vp_in_nI ho h31) ?_
  rw [nI_clamp (Nat.lt_trans ho h31), hv]
  exact kk
theorem V_aaldN (C : CX p s m args meth c w cc nL own ret) {p0 N o q : Nat} (hd : decode cc pc = .ok (.aaload, 1)) (hs : sh p0 = .inl (3, N)) (h0 : p0 < 117) (ho : o < N) (hN : N ≤ 256) (hq : p0 + 1 + o = q) (kk : V p l e R s m args below meth c w nL n k Q (pc + 1) ls (.ref (w.2.1 q) :: st) X) : V p l e R s m args below meth c w nL n k Q pc ls (.int (nI o) :: .ref (w.2.1 p0) :: st) X := by
  have h31 : N < 2 ^ 31 := Nat.lt_of_le_of_lt hN (by decide)
  refine V_aaload C hd h0 hs (vp_in_nI ho h31) ?_
  rw [nI_clamp (Nat.lt_trans ho h31), hq]
  exact kk
theorem V_iastN (C : CX p s m args meth c w cc nL own ret) {p0 N o : Nat} {x : Int32} {X1 : Mem} (hd : decode cc pc = .ok (.iastore, 1)) (hs : sh p0 = .inl (0, N)) (h0 : p0 < 117) (ho : o < N) (hN : N ≤ 256) (hX : ma X p0 (upd (X p0) o x) = X1) (kk : V p l e R s m args below meth c w nL n k Q (pc + 1) ls st X1) : V p l e R s m args below meth c w nL n k Q pc ls (.int x :: .int (nI o) :: .ref (w.2.1 p0) :: st) X := by
  have h31 : N < 2 ^ 31 := Nat.lt_of_le_of_lt hN (by decide)
  refine V_iastore C hd h0 hs (vp_in_nI ho h31) ?_
  rw [nI_clamp (Nat.lt_trans ho h31), hX]
  exact kk
theorem V_bastN (C : CX p s m args meth c w cc nL own ret) {p0 N o : Nat} {x : Int32} {X1 : Mem} (hd : decode cc pc = .ok (.bastore, 1)) (hs : sh p0 = .inl (1, N)) (h0 : p0 < 117) (ho : o < N) (hN : N ≤ 256) (hz : x = 0 ∨ x = 1) (hX : ma X p0 (upd (X p0) o x) = X1) (kk : V p l e R s m args below meth c w nL n k Q (pc + 1) ls st X1) : V p l e R s m args below meth c w nL n k Q pc ls (.int x :: .int (nI o) :: .ref (w.2.1 p0) :: st) X := by
  have h31 : N < 2 ^ 31 := Nat.lt_of_le_of_lt hN (by decide)
  refine V_bastore C hd h0 hs (vp_in_nI ho h31) ?_
  have hx : vp_nar .boolean x = x := by rcases hz with rfl | rfl <;> rfl
  rw [nI_clamp (Nat.lt_trans ho h31), hx, hX]
  exact kk
theorem V_iincN (C : CX p s m args meth c w cc nL own ret) {i : Nat} {a : Nat} {ls1 : List (Option Value)} (hd : decode cc pc = .ok (.iinc i 1, 3)) (hx : ls[i]? = some (some (.int (nI a)))) (hn : i < nL) (hl : ls.set i (some (.int (nI (a + 1)))) = ls1) (kk : V p l e R s m args below meth c w nL n k Q (pc + 3) ls1 st X) : V p l e R s m args below meth c w nL n k Q pc ls st X :=
  V_iinc C hd hx (nI_1 a) hn hl kk
theorem V_iincM (C : CX p s m args meth c w cc nL own ret) {i : Nat} {a : Nat} {ls1 : List (Option Value)} (hd : decode cc pc = .ok (.iinc i (-1), 3)) (hx : ls[i]? = some (some (.int (nI (a + 1))))) (hn : i < nL) (hl : ls.set i (some (.int (nI a))) = ls1) (kk : V p l e R s m args below meth c w nL n k Q (pc + 3) ls1 st X) : V p l e R s m args below meth c w nL n k Q pc ls st X :=
  V_iinc C hd hx (pk_m1 a) hn hl kk
theorem V_iaddN (C : CX p s m args meth c w cc nL own ret) {a b : Nat} (hd : decode cc pc = .ok (.iadd, 1)) (kk : V p l e R s m args below meth c w nL n k Q (pc + 1) ls (.int (nI (a + b)) :: st) X) : V p l e R s m args below meth c w nL n k Q pc ls (.int (nI b) :: .int (nI a) :: st) X := V_iadd C hd (nI_add a b ▸ kk)
theorem V_imulN (C : CX p s m args meth c w cc nL own ret) {a b : Nat} (hd : decode cc pc = .ok (.imul, 1)) (kk : V p l e R s m args below meth c w nL n k Q (pc + 1) ls (.int (nI (a * b)) :: st) X) : V p l e R s m args below meth c w nL n k Q pc ls (.int (nI b) :: .int (nI a) :: st) X := V_imul C hd (pk_mul a b ▸ kk)
theorem V_isubN (C : CX p s m args meth c w cc nL own ret) {a b : Nat} (hd : decode cc pc = .ok (.isub, 1)) (hb : b ≤ a) (kk : V p l e R s m args below meth c w nL n k Q (pc + 1) ls (.int (nI (a - b)) :: st) X) : V p l e R s m args below meth c w nL n k Q pc ls (.int (nI b) :: .int (nI a) :: st) X := V_isub C hd (pk_sub hb ▸ kk)
theorem V_icmp_geN (C : CX p s m args meth c w cc nL own ret) {a b : Nat} {off : Int} {tgt : Nat} (hd : decode cc pc = .ok (.if_icmp .ge off, 3)) (ht : (pc : Int) + off = (tgt : Int)) (ha : a < 2 ^ 31) (hb : b < 2 ^ 31) (kt : b ≤ a → V p l e R s m args below meth c w nL n k Q tgt ls st X) (kf : a < b → V p l e R s m args below meth c w nL n k Q (pc + 3) ls st X) : V p l e R s m args below meth c w nL n k Q pc ls (.int (nI b) :: .int (nI a) :: st) X :=
  V_icmp_ge C hd ht (fun q => kt ((nI_leI hb ha).mp q)) (fun q => kf (Nat.not_le.mp (fun z => q ((nI_leI hb ha).mpr z))))
theorem V_icmp_leN (C : CX p s m args meth c w cc nL own ret) {a b : Nat} {off : Int} {tgt : Nat} (hd : decode cc pc = .ok (.if_icmp .le off, 3)) (ht : (pc : Int) + off = (tgt : Int)) (ha : a < 2 ^ 31) (hb : b < 2 ^ 31) (kt : a ≤ b → V p l e R s m args below meth c w nL n k Q tgt ls st X) (kf : b < a → V p l e R s m args below meth c w nL n k Q (pc + 3) ls st X) : V p l e R s m args below meth c w nL n k Q pc ls (.int (nI b) :: .int (nI a) :: st) X :=
  V_icmp_le C hd ht (fun q => kt ((nI_leI ha hb).mp q)) (fun q => kf (Nat.not_le.mp (fun z => q ((nI_leI ha hb).mpr z))))
theorem V_icmp_ltN (C : CX p s m args meth c w cc nL own ret) {a b : Nat} {off : Int} {tgt : Nat} (hd : decode cc pc = .ok (.if_icmp .lt off, 3)) (ht : (pc : Int) + off = (tgt : Int)) (ha : a < 2 ^ 31) (hb : b < 2 ^ 31) (kt : a < b → V p l e R s m args below meth c w nL n k Q tgt ls st X) (kf : b ≤ a → V p l e R s m args below meth c w nL n k Q (pc + 3) ls st X) : V p l e R s m args below meth c w nL n k Q pc ls (.int (nI b) :: .int (nI a) :: st) X :=
  V_icmp_lt C hd ht (fun q => kt ((nI_ltI ha hb).mp q)) (fun q => kf (Nat.not_lt.mp (fun z => q ((nI_ltI ha hb).mpr z))))
theorem V_icmp_gtN (C : CX p s m args meth c w cc nL own ret) {a b : Nat} {off : Int} {tgt : Nat} (hd : decode cc pc = .ok (.if_icmp .gt off, 3)) (ht : (pc : Int) + off = (tgt : Int)) (ha : a < 2 ^ 31) (hb : b < 2 ^ 31) (kt : b < a → V p l e R s m args below meth c w nL n k Q tgt ls st X) (kf : a ≤ b → V p l e R s m args below meth c w nL n k Q (pc + 3) ls st X) : V p l e R s m args below meth c w nL n k Q pc ls (.int (nI b) :: .int (nI a) :: st) X :=
  V_icmp_gt C hd ht (fun q => kt ((nI_ltI hb ha).mp q)) (fun q => kf (Nat.not_lt.mp (fun z => q ((nI_ltI hb ha).mpr z))))
theorem V_icmp_eqN (C : CX p s m args meth c w cc nL own ret) {a b : Nat} {off : Int} {tgt : Nat} (hd : decode cc pc = .ok (.if_icmp .eq off, 3)) (ht : (pc : Int) + off = (tgt : Int)) (ha : a < 2 ^ 31) (hb : b < 2 ^ 31) (kt : a = b → V p l e R s m args below meth c w nL n k Q tgt ls st X) (kf : a ≠ b → V p l e R s m args below meth c w nL n k Q (pc + 3) ls st X) : V p l e R s m args below meth c w nL n k Q pc ls (.int (nI b) :: .int (nI a) :: st) X :=
  V_icmp_eq C hd ht (fun q => kt ((nI_eq ha hb).mp q)) (fun q => kf (fun z => q ((nI_eq ha hb).mpr z)))
theorem V_icmp_neN (C : CX p s m args meth c w cc nL own ret) {a b : Nat} {off : Int} {tgt : Nat} (hd : decode cc pc = .ok (.if_icmp .ne off, 3)) (ht : (pc : Int) + off = (tgt : Int)) (ha : a < 2 ^ 31) (hb : b < 2 ^ 31) (kt : a ≠ b → V p l e R s m args below meth c w nL n k Q tgt ls st X) (kf : a = b → V p l e R s m args below meth c w nL n k Q (pc + 3) ls st X) : V p l e R s m args below meth c w nL n k Q pc ls (.int (nI b) :: .int (nI a) :: st) X :=
  V_icmp_ne C hd ht (fun q => kt (fun z => q ((nI_eq ha hb).mpr z))) (fun q => kf ((nI_eq ha hb).mp q))
theorem nz_eq {a : Nat} (ha : a < 2 ^ 31) : nI a = 0 ↔ a = 0 := nI_eq ha (b := 0) (by decide)
theorem nz_lt {a : Nat} (ha : a < 2 ^ 31) : ¬ nI a < 0 := nI_pos ha
theorem nz_gt {a : Nat} (ha : a < 2 ^ 31) : 0 < nI a ↔ 0 < a := nI_ltI (a := 0) (by decide) ha
theorem nz_le {a : Nat} (ha : a < 2 ^ 31) : nI a ≤ 0 ↔ a = 0 := (nI_leI (b := 0) ha (by decide)).trans (by omega)
theorem V_if_eqN (C : CX p s m args meth c w cc nL own ret) {a : Nat} {off : Int} {tgt : Nat} (hd : decode cc pc = .ok (.ifCond .eq off, 3)) (ht : (pc : Int) + off = (tgt : Int)) (ha : a < 2 ^ 31) (kt : a = 0 → V p l e R s m args below meth c w nL n k Q tgt ls st X) (kf : a ≠ 0 → V p l e R s m args below meth c w nL n k Q (pc + 3) ls st X) : V p l e R s m args below meth c w nL n k Q pc ls (.int (nI a) :: st) X :=
  V_if_eq C hd ht (fun q => kt ((nz_eq ha).mp q)) (fun q => kf (fun z => q ((nz_eq ha).mpr z)))
theorem V_if_neN (C : CX p s m args meth c w cc nL own ret) {a : Nat} {off : Int} {tgt : Nat} (hd : decode cc pc = .ok (.ifCond .ne off, 3)) (ht : (pc : Int) + off = (tgt : Int)) (ha : a < 2 ^ 31) (kt : a ≠ 0 → V p l e R s m args below meth c w nL n k Q tgt ls st X) (kf : a = 0 → V p l e R s m args below meth c w nL n k Q (pc + 3) ls st X) : V p l e R s m args below meth c w nL n k Q pc ls (.int (nI a) :: st) X :=
  V_if_ne C hd ht (fun q => kt (fun z => q ((nz_eq ha).mpr z))) (fun q => kf ((nz_eq ha).mp q))
theorem V_if_gtN (C : CX p s m args meth c w cc nL own ret) {a : Nat} {off : Int} {tgt : Nat} (hd : decode cc pc = .ok (.ifCond .gt off, 3)) (ht : (pc : Int) + off = (tgt : Int)) (ha : a < 2 ^ 31) (kt : 0 < a → V p l e R s m args below meth c w nL n k Q tgt ls st X) (kf : a = 0 → V p l e R s m args below meth c w nL n k Q (pc + 3) ls st X) : V p l e R s m args below meth c w nL n k Q pc ls (.int (nI a) :: st) X :=
  V_if_gt C hd ht (fun q => kt ((nz_gt ha).mp q)) (fun q => kf (Nat.le_zero.mp (Nat.not_lt.mp (fun z => q ((nz_gt ha).mpr z)))))
theorem V_if_leN (C : CX p s m args meth c w cc nL own ret) {a : Nat} {off : Int} {tgt : Nat} (hd : decode cc pc = .ok (.ifCond .le off, 3)) (ht : (pc : Int) + off = (tgt : Int)) (ha : a < 2 ^ 31) (kt : a = 0 → V p l e R s m args below meth c w nL n k Q tgt ls st X) (kf : 0 < a → V p l e R s m args below meth c w nL n k Q (pc + 3) ls st X) : V p l e R s m args below meth c w nL n k Q pc ls (.int (nI a) :: st) X :=
  V_if_le C hd ht (fun q => kt ((nz_le ha).mp q)) (fun q => kf (Nat.pos_of_ne_zero (fun z => q ((nz_le ha).mpr z))))
theorem V_if_ltN (C : CX p s m args meth c w cc nL own ret) {a : Nat} {off : Int} {tgt : Nat} (hd : decode cc pc = .ok (.ifCond .lt off, 3)) (ht : (pc : Int) + off = (tgt : Int)) (ha : a < 2 ^ 31) (kf : V p l e R s m args below meth c w nL n k Q (pc + 3) ls st X) : V p l e R s m args below meth c w nL n k Q pc ls (.int (nI a) :: st) X :=
  V_if_lt C hd ht (fun q => absurd q (nz_lt ha)) (fun _ => kf)
theorem V_if_geN (C : CX p s m args meth c w cc nL own ret) {a : Nat} {off : Int} {tgt : Nat} (hd : decode cc pc = .ok (.ifCond .ge off, 3)) (ht : (pc : Int) + off = (tgt : Int)) (ha : a < 2 ^ 31) (kt : V p l e R s m args below meth c w nL n k Q tgt ls st X) : V p l e R s m args below meth c w nL n k Q pc ls (.int (nI a) :: st) X :=
  V_if_ge C hd ht (fun _ => kt) (fun q => absurd (nI_pos' ha) q)
/-- contracts by what they hand back -/
abbrev CtI (w : Wt) (l : Launch) (y : MethodName) (bytes : ByteArray) (maxL : Nat) (ret : Option FieldType) (fr lo : Nat) (as : List Value) (X : Mem) (q : Int32 → Mem → Prop) : Prop := Ct w l y bytes maxL ret fr lo as X (fun r X' => ∃ v, r = some (.int v) ∧ q v X')
abbrev CtU (w : Wt) (l : Launch) (y : MethodName) (bytes : ByteArray) (maxL : Nat) (ret : Option FieldType) (fr lo : Nat) (as : List Value) (X : Mem) (q : Mem → Prop) : Prop := Ct w l y bytes maxL ret fr lo as X (fun r X' => r = none ∧ q X')
/-- the end that a walk of such a method comes to -/
def EI (w : Wt) (below : List Frame) (s : State) (args : Array Value) (n k : Nat) (q : Int32 → Mem → Prop) : State → Prop := MQ below (QN w s.heap.size (fun r X' => ∃ v, r = some (.int v) ∧ q v X')) args s n k (AA w s.heap.size)
def EU (w : Wt) (below : List Frame) (s : State) (args : Array Value) (n k : Nat) (q : Mem → Prop) : State → Prop := MQ below (QN w s.heap.size (fun r X' => r = none ∧ q X')) args s n k (AA w s.heap.size)
theorem CtI_of {y : MethodName} {bytes : ByteArray} {maxL fr lo : Nat} {as : List Value} {q : Int32 → Mem → Prop} (hy : plainName y.cls = true) (ha : as.length ≤ maxL) (hc : ∀ v ∈ as, v.category = 1) {ls : List (Option Value)} (hls : ls0 as maxL = ls) {args : Array Value} (hargs : as.toArray = args) {own : String} (hown : y.cls = own)
    (body : ∀ (p : Program) (e : Env) (s : State) (m : MethodId) (below : List Frame) (meth : Method) (c : Code), CX p s m args meth c w bytes maxL own ret → V p l e ({ frames := fr, cells := 0, slots := 0, locals := lo } : Room) s m args below meth c w maxL 0 0 (EI w below s args 0 0 q) 0 ls [] X) : CtI w l y bytes maxL ret fr lo as X q := by
  subst hls
  subst hargs
  subst hown
  exact Ct_of hy ha hc body
theorem CtU_of {y : MethodName} {bytes : ByteArray} {maxL fr lo : Nat} {as : List Value} {q : Mem → Prop} (hy : plainName y.cls = true) (ha : as.length ≤ maxL) (hc : ∀ v ∈ as, v.category = 1) {ls : List (Option Value)} (hls : ls0 as maxL = ls) {args : Array Value} (hargs : as.toArray = args) {own : String} (hown : y.cls = own)
    (body : ∀ (p : Program) (e : Env) (s : State) (m : MethodId) (below : List Frame) (meth : Method) (c : Code), CX p s m args meth c w bytes maxL own ret → V p l e ({ frames := fr, cells := 0, slots := 0, locals := lo } : Room) s m args below meth c w maxL 0 0 (EU w below s args 0 0 q) 0 ls [] X) : CtU w l y bytes maxL ret fr lo as X q := by
  subst hls
  subst hargs
  subst hown
  exact Ct_of hy ha hc body
theorem V_ireturnI {q : Int32 → Mem → Prop} {v : Int32} (C : CX p s m args meth c w cc nL own (some .int)) (hd : decode cc pc = .ok (.ireturn, 1)) (hq : q v X) : V p l e R s m args below meth c w nL n k (EI w below s args n k q) pc ls [.int v] X := V_ireturn C hd ⟨v, rfl, hq⟩
theorem V_zreturnI {q : Int32 → Mem → Prop} {v : Int32} (C : CX p s m args meth c w cc nL own (some .boolean)) (hd : decode cc pc = .ok (.ireturn, 1)) (hz : v = 0 ∨ v = 1) (hq : q v X) : V p l e R s m args below meth c w nL n k (EI w below s args n k q) pc ls [.int v] X := V_zreturn C hd hz ⟨v, rfl, hq⟩
theorem V_returnU {q : Mem → Prop} (C : CX p s m args meth c w cc nL own none) (hd : decode cc pc = .ok (.return_, 1)) (hq : q X) : V p l e R s m args below meth c w nL n k (EU w below s args n k q) pc ls [] X := V_return C hd ⟨rfl, hq⟩
theorem V_callVI {y : MethodName} {bytes : ByteArray} {maxL fr lo na idx ci p0 : Nat} {rt : Option FieldType} {fl : List (Option Nat)} {rest : List Value} {q : Int32 → Mem → Prop} (C : CX p s m args meth c w cc nL own ret) (As : List Value) (f : MI own idx y bytes maxL rt na) (hM : CtI w l y bytes maxL rt fr lo (.ref (w.2.1 p0) :: As) X q) (hd : decode cc pc = .ok (.invokevirtual idx, 3)) (hs : sh p0 = .inr (ci, fl)) (h0 : p0 < 117) (hc : (vwCl[ci]?).map (fun q => q.1) = some y.cls) (hst : st = As.reverse ++ .ref (w.2.1 p0) :: rest) (hn : As.length = na) (hW : (rest.map fun v => v.category).sum ≤ 8) (hR1 : fr + 1 ≤ R.frames) (hR2 : 8 + (maxL + 11) + lo ≤ R.locals) (hnk : n ≤ R.cells ∧ k ≤ R.slots)
    (kk : ∀ (v : Int32) (X1 : Mem), q v X1 → V p l e R s m args below meth c w nL n k Q (pc + 3) ls (.int v :: rest) X1) : V p l e R s m args below meth c w nL n k Q pc ls st X := V_callV C f hM hd h0 hs hc hst hn hW ⟨hR1, hR2⟩ hnk (fun r X1 h => by
  obtain ⟨v, rfl, h⟩ := h
  exact kk v X1 h)
theorem V_callSI {y : MethodName} {bytes : ByteArray} {maxL fr lo na idx : Nat} {rt : Option FieldType} {rest : List Value} {q : Int32 → Mem → Prop} (C : CX p s m args meth c w cc nL own ret) (As : List Value) (f : MS own idx y bytes maxL rt na) (hM : CtI w l y bytes maxL rt fr lo As X q) (hd : decode cc pc = .ok (.invokestatic idx, 3)) (hst : st = As.reverse ++ rest) (hn : As.length = na) (hW : (rest.map fun v => v.category).sum ≤ 8) (hR1 : fr + 1 ≤ R.frames) (hR2 : 8 + (maxL + 11) + lo ≤ R.locals) (hnk : n ≤ R.cells ∧ k ≤ R.slots)
    (kk : ∀ (v : Int32) (X1 : Mem), q v X1 → V p l e R s m args below meth c w nL n k Q (pc + 3) ls (.int v :: rest) X1) : V p l e R s m args below meth c w nL n k Q pc ls st X := V_callS C f hM hd hst hn hW ⟨hR1, hR2⟩ hnk (fun r X1 h => by
  obtain ⟨v, rfl, h⟩ := h
  exact kk v X1 h)
theorem V_callVU {y : MethodName} {bytes : ByteArray} {maxL fr lo na idx ci p0 : Nat} {rt : Option FieldType} {fl : List (Option Nat)} {rest : List Value} {q : Mem → Prop} (C : CX p s m args meth c w cc nL own ret) (As : List Value) (f : MI own idx y bytes maxL rt na) (hM : CtU w l y bytes maxL rt fr lo (.ref (w.2.1 p0) :: As) X q) (hd : decode cc pc = .ok (.invokevirtual idx, 3)) (hs : sh p0 = .inr (ci, fl)) (h0 : p0 < 117) (hc : (vwCl[ci]?).map (fun q => q.1) = some y.cls) (hst : st = As.reverse ++ .ref (w.2.1 p0) :: rest) (hn : As.length = na) (hW : (rest.map fun v => v.category).sum ≤ 8) (hR1 : fr + 1 ≤ R.frames) (hR2 : 8 + (maxL + 11) + lo ≤ R.locals) (hnk : n ≤ R.cells ∧ k ≤ R.slots)
    (kk : ∀ (X1 : Mem), q X1 → V p l e R s m args below meth c w nL n k Q (pc + 3) ls rest X1) : V p l e R s m args below meth c w nL n k Q pc ls st X := V_callV C f hM hd h0 hs hc hst hn hW ⟨hR1, hR2⟩ hnk (fun r X1 h => by
  obtain ⟨rfl, h⟩ := h
  exact kk X1 h)
theorem V_callSU {y : MethodName} {bytes : ByteArray} {maxL fr lo na idx : Nat} {rt : Option FieldType} {rest : List Value} {q : Mem → Prop} (C : CX p s m args meth c w cc nL own ret) (As : List Value) (f : MS own idx y bytes maxL rt na) (hM : CtU w l y bytes maxL rt fr lo As X q) (hd : decode cc pc = .ok (.invokestatic idx, 3)) (hst : st = As.reverse ++ rest) (hn : As.length = na) (hW : (rest.map fun v => v.category).sum ≤ 8) (hR1 : fr + 1 ≤ R.frames) (hR2 : 8 + (maxL + 11) + lo ≤ R.locals) (hnk : n ≤ R.cells ∧ k ≤ R.slots)
    (kk : ∀ (X1 : Mem), q X1 → V p l e R s m args below meth c w nL n k Q (pc + 3) ls rest X1) : V p l e R s m args below meth c w nL n k Q pc ls st X := V_callS C f hM hd hst hn hW ⟨hR1, hR2⟩ hnk (fun r X1 h => by
  obtain ⟨rfl, h⟩ := h
  exact kk X1 h)
/-- an answer that is a boolean: 1 where P, 0 else -/
def bI (P : Prop) (r : Int32) : Prop := (r = 1 ∧ P) ∨ (r = 0 ∧ ¬ P)
theorem bI.z {P : Prop} {r : Int32} (h : bI P r) : r = 0 ∨ r = 1 := by rcases h with h | h; exact Or.inr h.1; exact Or.inl h.1
theorem bI.eq0 {P : Prop} {r : Int32} (h : bI P r) : r = 0 ↔ ¬ P := by
  rcases h with ⟨rfl, h⟩ | ⟨rfl, h⟩
  · exact ⟨fun q => absurd q (by decide), fun q => absurd h q⟩
  · exact ⟨fun _ => h, fun _ => rfl⟩
theorem bI.ne0 {P : Prop} {r : Int32} (h : bI P r) : ¬ r = 0 ↔ P := by
  rcases h with ⟨rfl, h⟩ | ⟨rfl, h⟩
  · exact ⟨fun _ => h, fun _ => by decide⟩
  · exact ⟨fun q => absurd rfl q, fun q => absurd q h⟩
theorem bI.congr {P P' : Prop} {r : Int32} (h : bI P r) (e : P ↔ P') : bI P' r := by
  rcases h with ⟨h1, h⟩ | ⟨h1, h⟩
  · exact Or.inl ⟨h1, e.mp h⟩
  · exact Or.inr ⟨h1, fun q => h (e.mpr q)⟩
theorem bI.same {P P' : Prop} {r r' : Int32} (h : bI P r) (h' : bI P' r') (e : P ↔ P') : r = r' := by
  rcases h with ⟨rfl, h⟩ | ⟨rfl, h⟩ <;> rcases h' with ⟨rfl, h'⟩ | ⟨rfl, h'⟩
  · rfl
  · exact absurd (e.mp h) h'
  · exact absurd (e.mpr h') h
  · rfl
theorem bI.t {P : Prop} (h : P) : bI P 1 := Or.inl ⟨rfl, h⟩
theorem bI.f {P : Prop} (h : ¬ P) : bI P 0 := Or.inr ⟨rfl, h⟩
theorem V_kill {i : Nat} {ls1 : List (Option Value)} (hl : ls.set i none = ls1) (kk : V p l e R s m args below meth c w nL n k Q pc ls1 st X) : V p l e R s m args below meth c w nL n k Q pc ls st X := by
  intro H locs L hP hS hL
  refine kk H locs L hP hS ⟨hL.1, hL.2.1, fun j v hj => ?_⟩
  subst hl
  rw [List.getElem?_set] at hj
  split at hj
  · split at hj <;> cases hj
  · exact hL.2.2 j v hj
theorem V_if_eqB (C : CX p s m args meth c w cc nL own ret) {P : Prop} {x : Int32} {off : Int} {tgt : Nat} (hb : bI P x) (hd : decode cc pc = .ok (.ifCond .eq off, 3)) (ht : (pc : Int) + off = (tgt : Int)) (kt : ¬ P → V p l e R s m args below meth c w nL n k Q tgt ls st X) (kf : P → V p l e R s m args below meth c w nL n k Q (pc + 3) ls st X) : V p l e R s m args below meth c w nL n k Q pc ls (.int x :: st) X :=
  V_if_eq C hd ht (fun q => kt (hb.eq0.mp q)) (fun q => kf (hb.ne0.mp q))
theorem V_if_neB (C : CX p s m args meth c w cc nL own ret) {P : Prop} {x : Int32} {off : Int} {tgt : Nat} (hb : bI P x) (hd : decode cc pc = .ok (.ifCond .ne off, 3)) (ht : (pc : Int) + off = (tgt : Int)) (kt : P → V p l e R s m args below meth c w nL n k Q tgt ls st X) (kf : ¬ P → V p l e R s m args below meth c w nL n k Q (pc + 3) ls st X) : V p l e R s m args below meth c w nL n k Q pc ls (.int x :: st) X :=
  V_if_ne C hd ht (fun q => kt (hb.ne0.mp q)) (fun q => kf (hb.eq0.mp q))
end VR2
end
section
def LiesIn (v l ov ol : Int32) : Prop := ol ≤ l ∧ v >>> ((8 - ol) &&& 31) = ov >>> ((8 - ol) &&& 31)
def Btw (v lo hi : Int32) : Prop := lo ≤ v ∧ v ≤ hi
def q_X1_firstBits (v : Int32) (b : Int32) (X : Mem) : Int32 → Mem → Prop := fun r X' => r = v >>> ((8 - b) &&& 31) ∧ X' = X
set_option maxHeartbeats 4000000 in
set_option maxRecDepth 100000 in
theorem k_X1_firstBits (w : Wt) (l : Launch) (v : Int32) (b : Int32) (X : Mem) : CtI w l yX1_firstBits cX1_firstBits 2 (some .int) 1 40 [.int v, .int b] X (q_X1_firstBits v b X) := by
  refine CtI_of (by decide +kernel) (Nat.le_of_ble_eq_true rfl) (List.forall_mem_cons.mpr ⟨rfl, (List.forall_mem_cons.mpr ⟨rfl, (fun _ h => nomatch h)⟩)⟩) (ls := [some (.int v), some (.int b)]) rfl (args := (#[.int v, .int b] : Array Value)) rfl (own := RX1) rfl ?_
  intro p e s m below meth c C
  refine V_iload_n C dX1_firstBits_0 rfl ?_
  refine V_bipush (v := (8 : Int32)) C dX1_firstBits_1 (by decide) ?_
  refine V_iload_n C dX1_firstBits_3 rfl ?_
  refine V_isub C dX1_firstBits_4 ?_
  refine V_ishr C dX1_firstBits_5 ?_
  exact V_ireturnI C dX1_firstBits_6 ⟨rfl, rfl⟩
def q_X1_liesIn (v : Int32) (b : Int32) (ov : Int32) (ob : Int32) (X : Mem) : Int32 → Mem → Prop := fun r X' => bI (LiesIn v b ov ob) r ∧ X' = X
set_option maxHeartbeats 4000000 in
set_option maxRecDepth 100000 in
theorem k_X1_liesIn (w : Wt) (l : Launch) (v : Int32) (b : Int32) (ov : Int32) (ob : Int32) (X : Mem) : CtI w l yX1_liesIn cX1_liesIn 4 (some .boolean) 2 80 [.int v, .int b, .int ov, .int ob] X (q_X1_liesIn v b ov ob X) := by
  refine CtI_of (by decide +kernel) (Nat.le_of_ble_eq_true rfl) (List.forall_mem_cons.mpr ⟨rfl, (List.forall_mem_cons.mpr ⟨rfl, (List.forall_mem_cons.mpr ⟨rfl, (List.forall_mem_cons.mpr ⟨rfl, (fun _ h => nomatch h)⟩)⟩)⟩)⟩) (ls := [some (.int v), some (.int b), some (.int ov), some (.int ob)]) rfl (args := (#[.int v, .int b, .int ov, .int ob] : Array Value)) rfl (own := RX1) rfl ?_
  intro p e s m below meth c C
  refine V_iload_n C dX1_liesIn_0 rfl ?_
  refine V_iload_n C dX1_liesIn_1 rfl ?_
  refine V_icmp_lt (x := b) (y := ob) (tgt := 22) C dX1_liesIn_2 (by decide) (fun h2_1 => ?_) (fun h2_1 => ?_)
  · refine V_iconst (v := (0 : Int32)) C dX1_liesIn_22 (by decide) ?_
    exact V_zreturnI C dX1_liesIn_23 (Or.inl rfl) ⟨bI.f (by simp_all [LiesIn, ← Int32.not_lt]), rfl⟩
  · refine V_iload_n C dX1_liesIn_5 rfl ?_
    refine V_iload_n C dX1_liesIn_6 rfl ?_
    refine V_callSI C [.int v, .int ob] ms_X1_9 (k_X1_firstBits w l v ob X ) dX1_liesIn_7 rfl rfl (Nat.le_of_ble_eq_true rfl) (Nat.le_of_ble_eq_true rfl) (Nat.le_of_ble_eq_true rfl) ⟨Nat.le_refl _, Nat.le_refl _⟩ (fun v2 X2 q2 => ?_)
    obtain ⟨ev2, eX2⟩ := q2; subst v2; subst X2
    refine V_iload_n C dX1_liesIn_10 rfl ?_
    refine V_iload_n C dX1_liesIn_11 rfl ?_
    refine V_callSI C [.int ov, .int ob] ms_X1_9 (k_X1_firstBits w l ov ob X ) dX1_liesIn_12 rfl rfl (Nat.le_of_ble_eq_true rfl) (Nat.le_of_ble_eq_true rfl) (Nat.le_of_ble_eq_true rfl) ⟨Nat.le_refl _, Nat.le_refl _⟩ (fun v3 X3 q3 => ?_)
    obtain ⟨ev3, eX3⟩ := q3; subst v3; subst X3
    refine V_icmp_ne (x := v >>> ((8 - ob) &&& 31)) (y := ov >>> ((8 - ob) &&& 31)) (tgt := 22) C dX1_liesIn_15 (by decide) (fun h15_4 => ?_) (fun h15_4 => ?_)
    · refine V_iconst (v := (0 : Int32)) C dX1_liesIn_22 (by decide) ?_
      exact V_zreturnI C dX1_liesIn_23 (Or.inl rfl) ⟨bI.f (by simp_all [LiesIn, ← Int32.not_lt]), rfl⟩
    · refine V_iconst (v := (1 : Int32)) C dX1_liesIn_18 (by decide) ?_
      refine V_goto (tgt := 23) C dX1_liesIn_19 (by decide) ?_
      exact V_zreturnI C dX1_liesIn_23 (Or.inr rfl) ⟨bI.t (by simp_all [LiesIn, ← Int32.not_lt]), rfl⟩
def q_X10_isBetween (v : Int32) (lo : Int32) (hi : Int32) (X : Mem) : Int32 → Mem → Prop := fun r X' => bI (Btw v lo hi) r ∧ X' = X
set_option maxHeartbeats 4000000 in
set_option maxRecDepth 100000 in
theorem k_X10_isBetween (w : Wt) (l : Launch) (v : Int32) (lo : Int32) (hi : Int32) (X : Mem) : CtI w l yX10_isBetween cX10_isBetween 3 (some .boolean) 1 40 [.int v, .int lo, .int hi] X (q_X10_isBetween v lo hi X) := by
  refine CtI_of (by decide +kernel) (Nat.le_of_ble_eq_true rfl) (List.forall_mem_cons.mpr ⟨rfl, (List.forall_mem_cons.mpr ⟨rfl, (List.forall_mem_cons.mpr ⟨rfl, (fun _ h => nomatch h)⟩)⟩)⟩) (ls := [some (.int v), some (.int lo), some (.int hi)]) rfl (args := (#[.int v, .int lo, .int hi] : Array Value)) rfl (own := RX10) rfl ?_
  intro p e s m below meth c C
  refine V_iload_n C dX10_isBetween_0 rfl ?_
  refine V_iload_n C dX10_isBetween_1 rfl ?_
  refine V_icmp_lt (x := v) (y := lo) (tgt := 14) C dX10_isBetween_2 (by decide) (fun h2_1 => ?_) (fun h2_1 => ?_)
  · refine V_iconst (v := (0 : Int32)) C dX10_isBetween_14 (by decide) ?_
    exact V_zreturnI C dX10_isBetween_15 (Or.inl rfl) ⟨bI.f (by simp_all [Btw, ← Int32.not_lt]), rfl⟩
  · refine V_iload_n C dX10_isBetween_5 rfl ?_
    refine V_iload_n C dX10_isBetween_6 rfl ?_
    refine V_icmp_gt (x := v) (y := hi) (tgt := 14) C dX10_isBetween_7 (by decide) (fun h7_2 => ?_) (fun h7_2 => ?_)
    · refine V_iconst (v := (0 : Int32)) C dX10_isBetween_14 (by decide) ?_
      exact V_zreturnI C dX10_isBetween_15 (Or.inl rfl) ⟨bI.f (by simp_all [Btw, ← Int32.not_lt]), rfl⟩
    · refine V_iconst (v := (1 : Int32)) C dX10_isBetween_10 (by decide) ?_
      refine V_goto (tgt := 15) C dX10_isBetween_11 (by decide) ?_
      exact V_zreturnI C dX10_isBetween_15 (Or.inr rfl) ⟨bI.t (by simp_all [Btw, ← Int32.not_lt]), rfl⟩
def q_X10_lies (v : Int32) (b : Int32) (ov : Int32) (ob : Int32) (X : Mem) : Int32 → Mem → Prop := fun r X' => bI (LiesIn v b ov ob) r ∧ X' = X
set_option maxHeartbeats 4000000 in
set_option maxRecDepth 100000 in
theorem k_X10_lies (w : Wt) (l : Launch) (v : Int32) (b : Int32) (ov : Int32) (ob : Int32) (X : Mem) : CtI w l yX10_lies cX10_lies 4 (some .boolean) 1 40 [.int v, .int b, .int ov, .int ob] X (q_X10_lies v b ov ob X) := by
  refine CtI_of (by decide +kernel) (Nat.le_of_ble_eq_true rfl) (List.forall_mem_cons.mpr ⟨rfl, (List.forall_mem_cons.mpr ⟨rfl, (List.forall_mem_cons.mpr ⟨rfl, (List.forall_mem_cons.mpr ⟨rfl, (fun _ h => nomatch h)⟩)⟩)⟩)⟩) (ls := [some (.int v), some (.int b), some (.int ov), some (.int ob)]) rfl (args := (#[.int v, .int b, .int ov, .int ob] : Array Value)) rfl (own := RX10) rfl ?_
  intro p e s m below meth c C
  refine V_iload_n C dX10_lies_0 rfl ?_
  refine V_iload_n C dX10_lies_1 rfl ?_
  refine V_icmp_lt (x := b) (y := ob) (tgt := 24) C dX10_lies_2 (by decide) (fun h2_1 => ?_) (fun h2_1 => ?_)
  · refine V_iconst (v := (0 : Int32)) C dX10_lies_24 (by decide) ?_
    exact V_zreturnI C dX10_lies_25 (Or.inl rfl) ⟨bI.f (by simp_all [LiesIn, ← Int32.not_lt]), rfl⟩
  · refine V_iload_n C dX10_lies_5 rfl ?_
    refine V_bipush (v := (8 : Int32)) C dX10_lies_6 (by decide) ?_
    refine V_iload_n C dX10_lies_8 rfl ?_
    refine V_isub C dX10_lies_9 ?_
    refine V_ishr C dX10_lies_10 ?_
    refine V_iload_n C dX10_lies_11 rfl ?_
    refine V_bipush (v := (8 : Int32)) C dX10_lies_12 (by decide) ?_
    refine V_iload_n C dX10_lies_14 rfl ?_
    refine V_isub C dX10_lies_15 ?_
    refine V_ishr C dX10_lies_16 ?_
    refine V_icmp_ne (x := v >>> (((8 : Int32) - ob) &&& 31)) (y := ov >>> (((8 : Int32) - ob) &&& 31)) (tgt := 24) C dX10_lies_17 (by decide) (fun h17_2 => ?_) (fun h17_2 => ?_)
    · refine V_iconst (v := (0 : Int32)) C dX10_lies_24 (by decide) ?_
      exact V_zreturnI C dX10_lies_25 (Or.inl rfl) ⟨bI.f (by simp_all [LiesIn, ← Int32.not_lt]), rfl⟩
    · refine V_iconst (v := (1 : Int32)) C dX10_lies_20 (by decide) ?_
      refine V_goto (tgt := 25) C dX10_lies_21 (by decide) ?_
      exact V_zreturnI C dX10_lies_25 (Or.inr rfl) ⟨bI.t (by simp_all [LiesIn, ← Int32.not_lt]), rfl⟩
def q_X10_isFine (v : Int32) (X : Mem) : Int32 → Mem → Prop := fun r X' => bI (v = 0) r ∧ X' = ma X 85 (upd (X 85) 0 v)
set_option maxHeartbeats 4000000 in
set_option maxRecDepth 100000 in
theorem k_X10_isFine (w : Wt) (l : Launch) (v : Int32) (X : Mem) : CtI w l yX10_isFine cX10_isFine 2 (some .boolean) 1 40 [.ref (w.2.1 85), .int v] X (q_X10_isFine v X) := by
  refine CtI_of (by decide +kernel) (Nat.le_of_ble_eq_true rfl) (List.forall_mem_cons.mpr ⟨rfl, (List.forall_mem_cons.mpr ⟨rfl, (fun _ h => nomatch h)⟩)⟩) (ls := [some (.ref (w.2.1 85)), some (.int v)]) rfl (args := (#[.ref (w.2.1 85), .int v] : Array Value)) rfl (own := RX10) rfl ?_
  intro p e s m below meth c C
  refine V_aload_n C dX10_isFine_0 rfl ?_
  refine V_iload_n C dX10_isFine_1 rfl ?_
  refine V_put C fp_X10_105 dX10_isFine_2 (by decide) sh_85 rfl ?_
  refine V_iload_n C dX10_isFine_5 rfl ?_
  refine V_if_ne (x := v) (tgt := 13) C dX10_isFine_6 (by decide) (fun h6_1 => ?_) (fun h6_1 => ?_)
  · refine V_iconst (v := (0 : Int32)) C dX10_isFine_13 (by decide) ?_
    exact V_zreturnI C dX10_isFine_14 (Or.inl rfl) ⟨bI.f (by simp_all [← Int32.not_lt]), rfl⟩
  · refine V_iconst (v := (1 : Int32)) C dX10_isFine_9 (by decide) ?_
    refine V_goto (tgt := 14) C dX10_isFine_10 (by decide) ?_
    exact V_zreturnI C dX10_isFine_14 (Or.inr rfl) ⟨bI.t (by simp_all [← Int32.not_lt]), rfl⟩
def q_X7_mix (d : Int32) (v : Int32) (X : Mem) : Int32 → Mem → Prop := fun r X' => r = (263 * d + v + 1) - (263 * d + v + 1) / 65521 * 65521 ∧ X' = X
set_option maxHeartbeats 4000000 in
set_option maxRecDepth 100000 in
theorem k_X7_mix (w : Wt) (l : Launch) (d : Int32) (v : Int32) (X : Mem) : CtI w l yX7_mix cX7_mix 2 (some .int) 1 40 [.int d, .int v] X (q_X7_mix d v X) := by
  refine CtI_of (by decide +kernel) (Nat.le_of_ble_eq_true rfl) (List.forall_mem_cons.mpr ⟨rfl, (List.forall_mem_cons.mpr ⟨rfl, (fun _ h => nomatch h)⟩)⟩) (ls := [some (.int d), some (.int v)]) rfl (args := (#[.int d, .int v] : Array Value)) rfl (own := RX7) rfl ?_
  intro p e s m below meth c C
  refine V_sipush (v := (263 : Int32)) C dX7_mix_0 (by decide) ?_
  refine V_iload_n C dX7_mix_3 rfl ?_
  refine V_imul C dX7_mix_4 ?_
  refine V_iload_n C dX7_mix_5 rfl ?_
  refine V_iadd C dX7_mix_6 ?_
  refine V_iconst (v := (1 : Int32)) C dX7_mix_7 (by decide) ?_
  refine V_iadd C dX7_mix_8 ?_
  refine V_ldc C kc_X7_51 dX7_mix_9 ?_
  refine V_irem C dX7_mix_11 (by decide) ?_
  exact V_ireturnI C dX7_mix_12 ⟨rfl, rfl⟩
def q_X10_mixes (d : Int32) (v : Int32) (X : Mem) : Int32 → Mem → Prop := fun r X' => r = (263 * d + v + 1) - (263 * d + v + 1) / 65521 * 65521 ∧ X' = X
set_option maxHeartbeats 4000000 in
set_option maxRecDepth 100000 in
theorem k_X10_mixes (w : Wt) (l : Launch) (d : Int32) (v : Int32) (X : Mem) : CtI w l yX10_mixes cX10_mixes 2 (some .int) 1 40 [.int d, .int v] X (q_X10_mixes d v X) := by
  refine CtI_of (by decide +kernel) (Nat.le_of_ble_eq_true rfl) (List.forall_mem_cons.mpr ⟨rfl, (List.forall_mem_cons.mpr ⟨rfl, (fun _ h => nomatch h)⟩)⟩) (ls := [some (.int d), some (.int v)]) rfl (args := (#[.int d, .int v] : Array Value)) rfl (own := RX10) rfl ?_
  intro p e s m below meth c C
  refine V_sipush (v := (263 : Int32)) C dX10_mixes_0 (by decide) ?_
  refine V_iload_n C dX10_mixes_3 rfl ?_
  refine V_imul C dX10_mixes_4 ?_
  refine V_iload_n C dX10_mixes_5 rfl ?_
  refine V_iadd C dX10_mixes_6 ?_
  refine V_iconst (v := (1 : Int32)) C dX10_mixes_7 (by decide) ?_
  refine V_iadd C dX10_mixes_8 ?_
  refine V_ldc C kc_X10_128 dX10_mixes_9 ?_
  refine V_irem C dX10_mixes_11 (by decide) ?_
  exact V_ireturnI C dX10_mixes_12 ⟨rfl, rfl⟩
end
section
theorem zz_end : True := trivial
end
