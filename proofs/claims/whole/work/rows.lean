section
-- ===== PART A: goes FIRST, ahead of the names: the tables' words, and 'selects' of the private methods out of them =====
/-- a private method of a class that the tables say can be made, by its rows of tables_1 -/
def lw_okq (q : MethodName × Nat) : Prop := (q.1.cls ≠ "java/lang/invoke/MethodHandle" ∧ q.1.cls ≠ "java/lang/invoke/VarHandle") ∧ Cond.instantiable q.1.cls q.2 ∈ tables_1 ∧ Cond.privateMethod q.1 ∈ tables_1 ∧ Cond.instanceMethod q.1 ∈ tables_1
theorem lw_p0 : lw_okq (⟨"Tagwranglery$Scanner", "takesFigure", "(C)Z"⟩, 5) := ⟨⟨by decide +kernel, by decide +kernel⟩, List.mem_of_getElem? (i := 65) (by decide +kernel), List.mem_of_getElem? (i := 238) (by decide +kernel), List.mem_of_getElem? (i := 239) (by decide +kernel)⟩
theorem lw_p1 : lw_okq (⟨"Tagwranglery$Scanner", "takesItem", "(C)Z"⟩, 5) := ⟨⟨by decide +kernel, by decide +kernel⟩, List.mem_of_getElem? (i := 65) (by decide +kernel), List.mem_of_getElem? (i := 248) (by decide +kernel), List.mem_of_getElem? (i := 249) (by decide +kernel)⟩
theorem lw_p2 : lw_okq (⟨"Tagwranglery$Scanner", "takesLink", "(C)Z"⟩, 5) := ⟨⟨by decide +kernel, by decide +kernel⟩, List.mem_of_getElem? (i := 65) (by decide +kernel), List.mem_of_getElem? (i := 255) (by decide +kernel), List.mem_of_getElem? (i := 256) (by decide +kernel)⟩
theorem lw_p3 : lw_okq (⟨"Tagwranglery$Gifts", "findWays", "(LTagwranglery$Tags;)V"⟩, 4) := ⟨⟨by decide +kernel, by decide +kernel⟩, List.mem_of_getElem? (i := 123) (by decide +kernel), List.mem_of_getElem? (i := 271) (by decide +kernel), List.mem_of_getElem? (i := 272) (by decide +kernel)⟩
theorem lw_p4 : lw_okq (⟨"Tagwranglery$Gifts", "findReceivers", "(LTagwranglery$Tags;)V"⟩, 4) := ⟨⟨by decide +kernel, by decide +kernel⟩, List.mem_of_getElem? (i := 123) (by decide +kernel), List.mem_of_getElem? (i := 275) (by decide +kernel), List.mem_of_getElem? (i := 276) (by decide +kernel)⟩
theorem lw_p5 : lw_okq (⟨"java/lang/Throwable", "fillInStackTrace", "(I)Ljava/lang/Throwable;"⟩, 6) := ⟨⟨by decide +kernel, by decide +kernel⟩, List.mem_of_getElem? (i := 350) (by decide +kernel), List.mem_of_getElem? (i := 348) (by decide +kernel), List.mem_of_getElem? (i := 349) (by decide +kernel)⟩
theorem lw_p6 : lw_okq (⟨"Tagwranglery", "workAt", "(I)LTagwranglery$Work;"⟩, 13) := ⟨⟨by decide +kernel, by decide +kernel⟩, List.mem_of_getElem? (i := 24) (by decide +kernel), List.mem_of_getElem? (i := 503) (by decide +kernel), List.mem_of_getElem? (i := 504) (by decide +kernel)⟩
theorem lw_p7 : lw_okq (⟨"Tagwranglery", "checkWork", "(I)V"⟩, 13) := ⟨⟨by decide +kernel, by decide +kernel⟩, List.mem_of_getElem? (i := 24) (by decide +kernel), List.mem_of_getElem? (i := 507) (by decide +kernel), List.mem_of_getElem? (i := 508) (by decide +kernel)⟩
theorem lw_p8 : lw_okq (⟨"Tagwranglery", "checkTag", "(I)V"⟩, 13) := ⟨⟨by decide +kernel, by decide +kernel⟩, List.mem_of_getElem? (i := 24) (by decide +kernel), List.mem_of_getElem? (i := 630) (by decide +kernel), List.mem_of_getElem? (i := 631) (by decide +kernel)⟩
theorem lw_p9 : lw_okq (⟨"Tagwranglery", "letTaggedWorksWait", "()V"⟩, 13) := ⟨⟨by decide +kernel, by decide +kernel⟩, List.mem_of_getElem? (i := 24) (by decide +kernel), List.mem_of_getElem? (i := 644) (by decide +kernel), List.mem_of_getElem? (i := 645) (by decide +kernel)⟩
theorem lw_p10 : lw_okq (⟨"Tagwranglery$Tags", "findAbove", "()V"⟩, 4) := ⟨⟨by decide +kernel, by decide +kernel⟩, List.mem_of_getElem? (i := 38) (by decide +kernel), List.mem_of_getElem? (i := 665) (by decide +kernel), List.mem_of_getElem? (i := 666) (by decide +kernel)⟩
theorem lw_p11 : lw_okq (⟨"Tagwranglery", "countWith", "(I)I"⟩, 13) := ⟨⟨by decide +kernel, by decide +kernel⟩, List.mem_of_getElem? (i := 24) (by decide +kernel), List.mem_of_getElem? (i := 703) (by decide +kernel), List.mem_of_getElem? (i := 704) (by decide +kernel)⟩
theorem lw_p12 : lw_okq (⟨"Tagwranglery", "countFiledUnder", "(I)I"⟩, 13) := ⟨⟨by decide +kernel, by decide +kernel⟩, List.mem_of_getElem? (i := 24) (by decide +kernel), List.mem_of_getElem? (i := 707) (by decide +kernel), List.mem_of_getElem? (i := 708) (by decide +kernel)⟩
theorem lw_p13 : lw_okq (⟨"Tagwranglery", "placesOf", "(LTagwranglery$Work;Z)I"⟩, 13) := ⟨⟨by decide +kernel, by decide +kernel⟩, List.mem_of_getElem? (i := 24) (by decide +kernel), List.mem_of_getElem? (i := 739) (by decide +kernel), List.mem_of_getElem? (i := 740) (by decide +kernel)⟩
theorem lw_p14 : lw_okq (⟨"Tagwranglery", "checkQuery", "()V"⟩, 13) := ⟨⟨by decide +kernel, by decide +kernel⟩, List.mem_of_getElem? (i := 24) (by decide +kernel), List.mem_of_getElem? (i := 773) (by decide +kernel), List.mem_of_getElem? (i := 774) (by decide +kernel)⟩
theorem lw_p15 : lw_okq (⟨"Tagwranglery", "found", "(IZ)I"⟩, 13) := ⟨⟨by decide +kernel, by decide +kernel⟩, List.mem_of_getElem? (i := 24) (by decide +kernel), List.mem_of_getElem? (i := 778) (by decide +kernel), List.mem_of_getElem? (i := 779) (by decide +kernel)⟩
def lw_privs_1 : List (MethodName × Nat) := [(⟨"Tagwranglery$Scanner", "takesFigure", "(C)Z"⟩, 5), (⟨"Tagwranglery$Scanner", "takesItem", "(C)Z"⟩, 5), (⟨"Tagwranglery$Scanner", "takesLink", "(C)Z"⟩, 5), (⟨"Tagwranglery$Gifts", "findWays", "(LTagwranglery$Tags;)V"⟩, 4), (⟨"Tagwranglery$Gifts", "findReceivers", "(LTagwranglery$Tags;)V"⟩, 4), (⟨"java/lang/Throwable", "fillInStackTrace", "(I)Ljava/lang/Throwable;"⟩, 6), (⟨"Tagwranglery", "workAt", "(I)LTagwranglery$Work;"⟩, 13), (⟨"Tagwranglery", "checkWork", "(I)V"⟩, 13), (⟨"Tagwranglery", "checkTag", "(I)V"⟩, 13), (⟨"Tagwranglery", "letTaggedWorksWait", "()V"⟩, 13), (⟨"Tagwranglery$Tags", "findAbove", "()V"⟩, 4), (⟨"Tagwranglery", "countWith", "(I)I"⟩, 13), (⟨"Tagwranglery", "countFiledUnder", "(I)I"⟩, 13), (⟨"Tagwranglery", "placesOf", "(LTagwranglery$Work;Z)I"⟩, 13), (⟨"Tagwranglery", "checkQuery", "()V"⟩, 13), (⟨"Tagwranglery", "found", "(IZ)I"⟩, 13)]
theorem lw_r1 : ∀ q ∈ lw_privs_1, lw_okq q := List.forall_mem_cons.mpr ⟨lw_p0, List.forall_mem_cons.mpr ⟨lw_p1, List.forall_mem_cons.mpr ⟨lw_p2, List.forall_mem_cons.mpr ⟨lw_p3, List.forall_mem_cons.mpr ⟨lw_p4, List.forall_mem_cons.mpr ⟨lw_p5, List.forall_mem_cons.mpr ⟨lw_p6, List.forall_mem_cons.mpr ⟨lw_p7, List.forall_mem_cons.mpr ⟨lw_p8, List.forall_mem_cons.mpr ⟨lw_p9, List.forall_mem_cons.mpr ⟨lw_p10, List.forall_mem_cons.mpr ⟨lw_p11, List.forall_mem_cons.mpr ⟨lw_p12, List.forall_mem_cons.mpr ⟨lw_p13, List.forall_mem_cons.mpr ⟨lw_p14, List.forall_mem_cons.mpr ⟨lw_p15, fun _ h => absurd h List.not_mem_nil⟩⟩⟩⟩⟩⟩⟩⟩⟩⟩⟩⟩⟩⟩⟩⟩
theorem lw_p16 : lw_okq (⟨"Tagwranglery$Sieve", "clear", "()V"⟩, 4) := ⟨⟨by decide +kernel, by decide +kernel⟩, List.mem_of_getElem? (i := 103) (by decide +kernel), List.mem_of_getElem? (i := 787) (by decide +kernel), List.mem_of_getElem? (i := 788) (by decide +kernel)⟩
theorem lw_p17 : lw_okq (⟨"Tagwranglery", "worksOfItem", "(CIIZ)I"⟩, 13) := ⟨⟨by decide +kernel, by decide +kernel⟩, List.mem_of_getElem? (i := 24) (by decide +kernel), List.mem_of_getElem? (i := 808) (by decide +kernel), List.mem_of_getElem? (i := 809) (by decide +kernel)⟩
theorem lw_p18 : lw_okq (⟨"Tagwranglery", "isTagSo", "(LTagwranglery$Work;IZ)Z"⟩, 13) := ⟨⟨by decide +kernel, by decide +kernel⟩, List.mem_of_getElem? (i := 24) (by decide +kernel), List.mem_of_getElem? (i := 812) (by decide +kernel), List.mem_of_getElem? (i := 813) (by decide +kernel)⟩
theorem lw_p19 : lw_okq (⟨"Tagwranglery", "worksSeenBy", "(I)I"⟩, 13) := ⟨⟨by decide +kernel, by decide +kernel⟩, List.mem_of_getElem? (i := 24) (by decide +kernel), List.mem_of_getElem? (i := 818) (by decide +kernel), List.mem_of_getElem? (i := 819) (by decide +kernel)⟩
theorem lw_p20 : lw_okq (⟨"Tagwranglery", "countAheadOf", "(II)I"⟩, 13) := ⟨⟨by decide +kernel, by decide +kernel⟩, List.mem_of_getElem? (i := 24) (by decide +kernel), List.mem_of_getElem? (i := 830) (by decide +kernel), List.mem_of_getElem? (i := 831) (by decide +kernel)⟩
theorem lw_p21 : lw_okq (⟨"Tagwranglery$Gifts", "lowestReceiver", "(II)I"⟩, 4) := ⟨⟨by decide +kernel, by decide +kernel⟩, List.mem_of_getElem? (i := 123) (by decide +kernel), List.mem_of_getElem? (i := 897) (by decide +kernel), List.mem_of_getElem? (i := 898) (by decide +kernel)⟩
theorem lw_p22 : lw_okq (⟨"Tagwranglery", "commentAt", "(I)LTagwranglery$Comment;"⟩, 13) := ⟨⟨by decide +kernel, by decide +kernel⟩, List.mem_of_getElem? (i := 24) (by decide +kernel), List.mem_of_getElem? (i := 915) (by decide +kernel), List.mem_of_getElem? (i := 916) (by decide +kernel)⟩
theorem lw_p23 : lw_okq (⟨"Tagwranglery", "mayComment", "(LTagwranglery$Work;ILTagwranglery$Comment;)Z"⟩, 13) := ⟨⟨by decide +kernel, by decide +kernel⟩, List.mem_of_getElem? (i := 24) (by decide +kernel), List.mem_of_getElem? (i := 921) (by decide +kernel), List.mem_of_getElem? (i := 922) (by decide +kernel)⟩
theorem lw_p24 : lw_okq (⟨"Tagwranglery", "isBlockedByAny", "(II)Z"⟩, 13) := ⟨⟨by decide +kernel, by decide +kernel⟩, List.mem_of_getElem? (i := 24) (by decide +kernel), List.mem_of_getElem? (i := 925) (by decide +kernel), List.mem_of_getElem? (i := 926) (by decide +kernel)⟩
theorem lw_p25 : lw_okq (⟨"Tagwranglery", "isBlockedBy", "(II)Z"⟩, 13) := ⟨⟨by decide +kernel, by decide +kernel⟩, List.mem_of_getElem? (i := 24) (by decide +kernel), List.mem_of_getElem? (i := 929) (by decide +kernel), List.mem_of_getElem? (i := 930) (by decide +kernel)⟩
theorem lw_p26 : lw_okq (⟨"Tagwranglery", "isReadBy", "(ILTagwranglery$Comment;LTagwranglery$Work;)Z"⟩, 13) := ⟨⟨by decide +kernel, by decide +kernel⟩, List.mem_of_getElem? (i := 24) (by decide +kernel), List.mem_of_getElem? (i := 933) (by decide +kernel), List.mem_of_getElem? (i := 934) (by decide +kernel)⟩
theorem lw_p27 : lw_okq (⟨"Tagwranglery", "countKudos", "(LTagwranglery$Work;)I"⟩, 13) := ⟨⟨by decide +kernel, by decide +kernel⟩, List.mem_of_getElem? (i := 24) (by decide +kernel), List.mem_of_getElem? (i := 992) (by decide +kernel), List.mem_of_getElem? (i := 993) (by decide +kernel)⟩
theorem lw_p28 : lw_okq (⟨"Tagwranglery", "newChapters", "(II)I"⟩, 13) := ⟨⟨by decide +kernel, by decide +kernel⟩, List.mem_of_getElem? (i := 24) (by decide +kernel), List.mem_of_getElem? (i := 1017) (by decide +kernel), List.mem_of_getElem? (i := 1018) (by decide +kernel)⟩
theorem lw_p29 : lw_okq (⟨"TagwrangleryModel", "holds", "(I)Z"⟩, 47) := ⟨⟨by decide +kernel, by decide +kernel⟩, List.mem_of_getElem? (i := 1042) (by decide +kernel), List.mem_of_getElem? (i := 1201) (by decide +kernel), List.mem_of_getElem? (i := 1202) (by decide +kernel)⟩
theorem lw_p30 : lw_okq (⟨"TagwrangleryModel", "isWork", "(I)Z"⟩, 47) := ⟨⟨by decide +kernel, by decide +kernel⟩, List.mem_of_getElem? (i := 1042) (by decide +kernel), List.mem_of_getElem? (i := 1227) (by decide +kernel), List.mem_of_getElem? (i := 1228) (by decide +kernel)⟩
theorem lw_p31 : lw_okq (⟨"TagwrangleryModel", "isSeen", "(II)Z"⟩, 47) := ⟨⟨by decide +kernel, by decide +kernel⟩, List.mem_of_getElem? (i := 1042) (by decide +kernel), List.mem_of_getElem? (i := 1265) (by decide +kernel), List.mem_of_getElem? (i := 1266) (by decide +kernel)⟩
def lw_privs_2 : List (MethodName × Nat) := [(⟨"Tagwranglery$Sieve", "clear", "()V"⟩, 4), (⟨"Tagwranglery", "worksOfItem", "(CIIZ)I"⟩, 13), (⟨"Tagwranglery", "isTagSo", "(LTagwranglery$Work;IZ)Z"⟩, 13), (⟨"Tagwranglery", "worksSeenBy", "(I)I"⟩, 13), (⟨"Tagwranglery", "countAheadOf", "(II)I"⟩, 13), (⟨"Tagwranglery$Gifts", "lowestReceiver", "(II)I"⟩, 4), (⟨"Tagwranglery", "commentAt", "(I)LTagwranglery$Comment;"⟩, 13), (⟨"Tagwranglery", "mayComment", "(LTagwranglery$Work;ILTagwranglery$Comment;)Z"⟩, 13), (⟨"Tagwranglery", "isBlockedByAny", "(II)Z"⟩, 13), (⟨"Tagwranglery", "isBlockedBy", "(II)Z"⟩, 13), (⟨"Tagwranglery", "isReadBy", "(ILTagwranglery$Comment;LTagwranglery$Work;)Z"⟩, 13), (⟨"Tagwranglery", "countKudos", "(LTagwranglery$Work;)I"⟩, 13), (⟨"Tagwranglery", "newChapters", "(II)I"⟩, 13), (⟨"TagwrangleryModel", "holds", "(I)Z"⟩, 47), (⟨"TagwrangleryModel", "isWork", "(I)Z"⟩, 47), (⟨"TagwrangleryModel", "isSeen", "(II)Z"⟩, 47)]
theorem lw_r2 : ∀ q ∈ lw_privs_2, lw_okq q := List.forall_mem_cons.mpr ⟨lw_p16, List.forall_mem_cons.mpr ⟨lw_p17, List.forall_mem_cons.mpr ⟨lw_p18, List.forall_mem_cons.mpr ⟨lw_p19, List.forall_mem_cons.mpr ⟨lw_p20, List.forall_mem_cons.mpr ⟨lw_p21, List.forall_mem_cons.mpr ⟨lw_p22, List.forall_mem_cons.mpr ⟨lw_p23, List.forall_mem_cons.mpr ⟨lw_p24, List.forall_mem_cons.mpr ⟨lw_p25, List.forall_mem_cons.mpr ⟨lw_p26, List.forall_mem_cons.mpr ⟨lw_p27, List.forall_mem_cons.mpr ⟨lw_p28, List.forall_mem_cons.mpr ⟨lw_p29, List.forall_mem_cons.mpr ⟨lw_p30, List.forall_mem_cons.mpr ⟨lw_p31, fun _ h => absurd h List.not_mem_nil⟩⟩⟩⟩⟩⟩⟩⟩⟩⟩⟩⟩⟩⟩⟩⟩
theorem lw_p32 : lw_okq (⟨"TagwrangleryModel", "isOwner", "(II)Z"⟩, 47) := ⟨⟨by decide +kernel, by decide +kernel⟩, List.mem_of_getElem? (i := 1042) (by decide +kernel), List.mem_of_getElem? (i := 1269) (by decide +kernel), List.mem_of_getElem? (i := 1270) (by decide +kernel)⟩
theorem lw_p33 : lw_okq (⟨"TagwrangleryModel", "areTold", "(II)Z"⟩, 47) := ⟨⟨by decide +kernel, by decide +kernel⟩, List.mem_of_getElem? (i := 1042) (by decide +kernel), List.mem_of_getElem? (i := 1277) (by decide +kernel), List.mem_of_getElem? (i := 1278) (by decide +kernel)⟩
theorem lw_p34 : lw_okq (⟨"TagwrangleryModel", "isTag", "(I)Z"⟩, 47) := ⟨⟨by decide +kernel, by decide +kernel⟩, List.mem_of_getElem? (i := 1042) (by decide +kernel), List.mem_of_getElem? (i := 1289) (by decide +kernel), List.mem_of_getElem? (i := 1290) (by decide +kernel)⟩
theorem lw_p35 : lw_okq (⟨"TagwrangleryModel", "letsWait", "()V"⟩, 47) := ⟨⟨by decide +kernel, by decide +kernel⟩, List.mem_of_getElem? (i := 1042) (by decide +kernel), List.mem_of_getElem? (i := 1293) (by decide +kernel), List.mem_of_getElem? (i := 1294) (by decide +kernel)⟩
theorem lw_p36 : lw_okq (⟨"TagwrangleryModel", "aboveOf", "(I)I"⟩, 47) := ⟨⟨by decide +kernel, by decide +kernel⟩, List.mem_of_getElem? (i := 1042) (by decide +kernel), List.mem_of_getElem? (i := 1301) (by decide +kernel), List.mem_of_getElem? (i := 1302) (by decide +kernel)⟩
theorem lw_p37 : lw_okq (⟨"TagwrangleryModel", "meaning", "(I)I"⟩, 47) := ⟨⟨by decide +kernel, by decide +kernel⟩, List.mem_of_getElem? (i := 1042) (by decide +kernel), List.mem_of_getElem? (i := 1313) (by decide +kernel), List.mem_of_getElem? (i := 1314) (by decide +kernel)⟩
theorem lw_p38 : lw_okq (⟨"TagwrangleryModel", "files", "(I)V"⟩, 47) := ⟨⟨by decide +kernel, by decide +kernel⟩, List.mem_of_getElem? (i := 1042) (by decide +kernel), List.mem_of_getElem? (i := 1321) (by decide +kernel), List.mem_of_getElem? (i := 1322) (by decide +kernel)⟩
theorem lw_p39 : lw_okq (⟨"TagwrangleryModel", "belongs", "(I)I"⟩, 47) := ⟨⟨by decide +kernel, by decide +kernel⟩, List.mem_of_getElem? (i := 1042) (by decide +kernel), List.mem_of_getElem? (i := 1325) (by decide +kernel), List.mem_of_getElem? (i := 1326) (by decide +kernel)⟩
theorem lw_p40 : lw_okq (⟨"TagwrangleryModel", "faultOf", "()I"⟩, 47) := ⟨⟨by decide +kernel, by decide +kernel⟩, List.mem_of_getElem? (i := 1042) (by decide +kernel), List.mem_of_getElem? (i := 1360) (by decide +kernel), List.mem_of_getElem? (i := 1361) (by decide +kernel)⟩
theorem lw_p41 : lw_okq (⟨"TagwrangleryModel", "searchOf", "(IZ)I"⟩, 47) := ⟨⟨by decide +kernel, by decide +kernel⟩, List.mem_of_getElem? (i := 1042) (by decide +kernel), List.mem_of_getElem? (i := 1371) (by decide +kernel), List.mem_of_getElem? (i := 1372) (by decide +kernel)⟩
theorem lw_p42 : lw_okq (⟨"TagwrangleryModel", "isSo", "(IIZ)Z"⟩, 47) := ⟨⟨by decide +kernel, by decide +kernel⟩, List.mem_of_getElem? (i := 1042) (by decide +kernel), List.mem_of_getElem? (i := 1375) (by decide +kernel), List.mem_of_getElem? (i := 1376) (by decide +kernel)⟩
theorem lw_p43 : lw_okq (⟨"TagwrangleryModel", "opens", "()V"⟩, 47) := ⟨⟨by decide +kernel, by decide +kernel⟩, List.mem_of_getElem? (i := 1042) (by decide +kernel), List.mem_of_getElem? (i := 1379) (by decide +kernel), List.mem_of_getElem? (i := 1380) (by decide +kernel)⟩
theorem lw_p44 : lw_okq (⟨"TagwrangleryModel", "gets", "(Z)V"⟩, 47) := ⟨⟨by decide +kernel, by decide +kernel⟩, List.mem_of_getElem? (i := 1042) (by decide +kernel), List.mem_of_getElem? (i := 1383) (by decide +kernel), List.mem_of_getElem? (i := 1384) (by decide +kernel)⟩
theorem lw_p45 : lw_okq (⟨"TagwrangleryModel", "isOfTag", "(IIZ)Z"⟩, 47) := ⟨⟨by decide +kernel, by decide +kernel⟩, List.mem_of_getElem? (i := 1042) (by decide +kernel), List.mem_of_getElem? (i := 1387) (by decide +kernel), List.mem_of_getElem? (i := 1388) (by decide +kernel)⟩
theorem lw_p46 : lw_okq (⟨"TagwrangleryModel", "latest", "(I)I"⟩, 47) := ⟨⟨by decide +kernel, by decide +kernel⟩, List.mem_of_getElem? (i := 1042) (by decide +kernel), List.mem_of_getElem? (i := 1395) (by decide +kernel), List.mem_of_getElem? (i := 1396) (by decide +kernel)⟩
theorem lw_p47 : lw_okq (⟨"TagwrangleryModel", "outDay", "(II)I"⟩, 47) := ⟨⟨by decide +kernel, by decide +kernel⟩, List.mem_of_getElem? (i := 1042) (by decide +kernel), List.mem_of_getElem? (i := 1399) (by decide +kernel), List.mem_of_getElem? (i := 1400) (by decide +kernel)⟩
def lw_privs_3 : List (MethodName × Nat) := [(⟨"TagwrangleryModel", "isOwner", "(II)Z"⟩, 47), (⟨"TagwrangleryModel", "areTold", "(II)Z"⟩, 47), (⟨"TagwrangleryModel", "isTag", "(I)Z"⟩, 47), (⟨"TagwrangleryModel", "letsWait", "()V"⟩, 47), (⟨"TagwrangleryModel", "aboveOf", "(I)I"⟩, 47), (⟨"TagwrangleryModel", "meaning", "(I)I"⟩, 47), (⟨"TagwrangleryModel", "files", "(I)V"⟩, 47), (⟨"TagwrangleryModel", "belongs", "(I)I"⟩, 47), (⟨"TagwrangleryModel", "faultOf", "()I"⟩, 47), (⟨"TagwrangleryModel", "searchOf", "(IZ)I"⟩, 47), (⟨"TagwrangleryModel", "isSo", "(IIZ)Z"⟩, 47), (⟨"TagwrangleryModel", "opens", "()V"⟩, 47), (⟨"TagwrangleryModel", "gets", "(Z)V"⟩, 47), (⟨"TagwrangleryModel", "isOfTag", "(IIZ)Z"⟩, 47), (⟨"TagwrangleryModel", "latest", "(I)I"⟩, 47), (⟨"TagwrangleryModel", "outDay", "(II)I"⟩, 47)]
theorem lw_r3 : ∀ q ∈ lw_privs_3, lw_okq q := List.forall_mem_cons.mpr ⟨lw_p32, List.forall_mem_cons.mpr ⟨lw_p33, List.forall_mem_cons.mpr ⟨lw_p34, List.forall_mem_cons.mpr ⟨lw_p35, List.forall_mem_cons.mpr ⟨lw_p36, List.forall_mem_cons.mpr ⟨lw_p37, List.forall_mem_cons.mpr ⟨lw_p38, List.forall_mem_cons.mpr ⟨lw_p39, List.forall_mem_cons.mpr ⟨lw_p40, List.forall_mem_cons.mpr ⟨lw_p41, List.forall_mem_cons.mpr ⟨lw_p42, List.forall_mem_cons.mpr ⟨lw_p43, List.forall_mem_cons.mpr ⟨lw_p44, List.forall_mem_cons.mpr ⟨lw_p45, List.forall_mem_cons.mpr ⟨lw_p46, List.forall_mem_cons.mpr ⟨lw_p47, fun _ h => absurd h List.not_mem_nil⟩⟩⟩⟩⟩⟩⟩⟩⟩⟩⟩⟩⟩⟩⟩⟩
theorem lw_p48 : lw_okq (⟨"TagwrangleryModel", "counts", "()V"⟩, 47) := ⟨⟨by decide +kernel, by decide +kernel⟩, List.mem_of_getElem? (i := 1042) (by decide +kernel), List.mem_of_getElem? (i := 1411) (by decide +kernel), List.mem_of_getElem? (i := 1412) (by decide +kernel)⟩
theorem lw_p49 : lw_okq (⟨"TagwrangleryModel", "suits", "(II)Z"⟩, 47) := ⟨⟨by decide +kernel, by decide +kernel⟩, List.mem_of_getElem? (i := 1042) (by decide +kernel), List.mem_of_getElem? (i := 1415) (by decide +kernel), List.mem_of_getElem? (i := 1416) (by decide +kernel)⟩
theorem lw_p50 : lw_okq (⟨"TagwrangleryModel", "canComment", "(III)Z"⟩, 47) := ⟨⟨by decide +kernel, by decide +kernel⟩, List.mem_of_getElem? (i := 1042) (by decide +kernel), List.mem_of_getElem? (i := 1431) (by decide +kernel), List.mem_of_getElem? (i := 1432) (by decide +kernel)⟩
theorem lw_p51 : lw_okq (⟨"TagwrangleryModel", "isBlocked", "(II)Z"⟩, 47) := ⟨⟨by decide +kernel, by decide +kernel⟩, List.mem_of_getElem? (i := 1042) (by decide +kernel), List.mem_of_getElem? (i := 1435) (by decide +kernel), List.mem_of_getElem? (i := 1436) (by decide +kernel)⟩
theorem lw_p52 : lw_okq (⟨"TagwrangleryModel", "isRead", "(II)Z"⟩, 47) := ⟨⟨by decide +kernel, by decide +kernel⟩, List.mem_of_getElem? (i := 1042) (by decide +kernel), List.mem_of_getElem? (i := 1439) (by decide +kernel), List.mem_of_getElem? (i := 1440) (by decide +kernel)⟩
theorem lw_p53 : lw_okq (⟨"TagwrangleryModel", "gave", "(I)I"⟩, 47) := ⟨⟨by decide +kernel, by decide +kernel⟩, List.mem_of_getElem? (i := 1042) (by decide +kernel), List.mem_of_getElem? (i := 1455) (by decide +kernel), List.mem_of_getElem? (i := 1456) (by decide +kernel)⟩
theorem lw_p54 : lw_okq (⟨"TagwrangleryModel", "isNews", "(III)Z"⟩, 47) := ⟨⟨by decide +kernel, by decide +kernel⟩, List.mem_of_getElem? (i := 1042) (by decide +kernel), List.mem_of_getElem? (i := 1471) (by decide +kernel), List.mem_of_getElem? (i := 1472) (by decide +kernel)⟩
def lw_privs_4 : List (MethodName × Nat) := [(⟨"TagwrangleryModel", "counts", "()V"⟩, 47), (⟨"TagwrangleryModel", "suits", "(II)Z"⟩, 47), (⟨"TagwrangleryModel", "canComment", "(III)Z"⟩, 47), (⟨"TagwrangleryModel", "isBlocked", "(II)Z"⟩, 47), (⟨"TagwrangleryModel", "isRead", "(II)Z"⟩, 47), (⟨"TagwrangleryModel", "gave", "(I)I"⟩, 47), (⟨"TagwrangleryModel", "isNews", "(III)Z"⟩, 47)]
theorem lw_r4 : ∀ q ∈ lw_privs_4, lw_okq q := List.forall_mem_cons.mpr ⟨lw_p48, List.forall_mem_cons.mpr ⟨lw_p49, List.forall_mem_cons.mpr ⟨lw_p50, List.forall_mem_cons.mpr ⟨lw_p51, List.forall_mem_cons.mpr ⟨lw_p52, List.forall_mem_cons.mpr ⟨lw_p53, List.forall_mem_cons.mpr ⟨lw_p54, fun _ h => absurd h List.not_mem_nil⟩⟩⟩⟩⟩⟩⟩
def lw_privs : List (MethodName × Nat) := lw_privs_1 ++ (lw_privs_2 ++ (lw_privs_3 ++ (lw_privs_4)))
def lw_tbl : List Cond := k2_sels lw_privs ++ tables_1
theorem lw_privs_ok : ∀ q ∈ lw_privs, lw_okq q := by
  show ∀ q ∈ lw_privs_1 ++ (lw_privs_2 ++ (lw_privs_3 ++ (lw_privs_4))), lw_okq q
  exact List.forall_mem_append.mpr ⟨lw_r1, List.forall_mem_append.mpr ⟨lw_r2, List.forall_mem_append.mpr ⟨lw_r3, lw_r4⟩⟩⟩
-- ===== end of PART A; then your names; then what follows =====
end
section
/-! ===== BEGIN words of one list among another's, by their places ===== -/
theorem goodIn_r {big : List Cond} (ws : List Cond) (ps : List Nat) (hp : ws = ps.filterMap (fun i => big[i]?)) (h : ws.all goodWord = true) : GoodIn big ws := by
  intro w hw
  have h1 := List.all_eq_true.mp h w hw
  rw [hp] at hw
  obtain ⟨i, -, hi⟩ := List.mem_filterMap.mp hw
  have hm : w ∈ big := by first | exact List.mem_of_getElem? hi | exact List.getElem?_mem hi
  exact ⟨hm, good_of_word h1⟩
theorem goodIn_app {big a b : List Cond} (ha : GoodIn big a) (hb : GoodIn big b) : GoodIn big (a ++ b) := fun w h => (List.mem_append.mp h).elim (ha w) (hb w)
theorem goodIn_ca {big a b : List Cond} {c : Cond} (ha : GoodIn big (c :: a)) (hb : GoodIn big b) : GoodIn big (c :: (a ++ b)) := fun w h => (List.mem_cons.mp h).elim (fun e => ha w (List.mem_cons.mpr (Or.inl e))) (fun h => (List.mem_append.mp h).elim (fun h => ha w (List.mem_cons.mpr (Or.inr h))) (hb w))
theorem goodIn_sub {big ws : List Cond} (hm : ∀ w ∈ ws, w ∈ big) (h : ws.all goodWord = true) : GoodIn big ws := fun w hw => ⟨hm w hw, good_of_word (List.all_eq_true.mp h w hw)⟩
/-! ===== END ===== -/
/-! ===== BEGIN exceptions that leave a method, and their catching by the caller (launches without stack traces) ===== -/
section VXA
/-! The laws vx_back, vx_callV, vx_callS, vx_callSW, vx_throw0, vx_throwS follow proofs of the library, with one case more: JvmDerived/Free/Laws.lean (Back.of_free), Shelf42/LK1.lean (callV, callS), Shelf/KitTraced.lean (throwNew0V, throwNewS). -/
/-- where a method has thrown q: the class by its name, the cell, what was written, the world -/
def vx_T (XC : String → State → State → Prop) (st : State) (q : Addr) (t : State) (mc ms : Nat) (free : Addr → Prop) : Prop :=
  ∃ (E : String) (ce : Cell) (L : List Loc), XC E st t ∧ t.heap[q]? = some ce ∧ ce.vm = .none ∧ st.vm.findClass E = some ce.cls ∧ st.WarmedH t.vm ∧ st.sameButNew ({ t with vm := st.vm } : State) L mc ms ∧ ∀ z ∈ L, free z.base
def vx_Q (Qc : Array Value → State → Outcome → State → Prop) (XC : String → State → State → Prop) (mc ms : Nat) (free : Addr → Prop) : Array Value → State → Outcome → State → Prop := fun a st o t =>
  (Qc a st o t ∧ ∃ L, FrameEnd st o t L mc ms ∧ ∀ q ∈ L, free q.base) ∨ ∃ q, o = .threw q ∧ vx_T XC st q t mc ms free
/-- a callee that returns or throws -/
def vx_Met (l : Launch) (y : MethodName) (ws : List Cond) (rm : Room) (Pc : Array Value → State → Prop) (Qc : Array Value → State → Outcome → State → Prop) (XC : String → State → State → Prop) (mc ms : Nat) (free : Addr → Prop) : Prop :=
  MetFree l y (headSpec ws rm) Pc (fun _ _ _ _ _ => True) (vx_Q Qc XC mc ms free)
def vx_Post (XC : String → State → State → Prop) (mc ms : Nat) (free : Addr → Prop) : Pt → Array Value → Addr → Pt → Prop := fun A a q B =>
  ∃ (g : JFrame) (mk : MethodId) (t : State) (L : List Loc) (E : String) (ce : Cell), B.U.heap = t.heap ∧ B.U.vm = t.vm ∧ XC E (A.U.calling g mk a) t ∧ t.heap[q]? = some ce ∧ ce.vm = .none ∧ A.U.vm.findClass E = some ce.cls ∧ B.locs = A.locs ++ L ∧ (∀ z ∈ L, free z.base) ∧ B.cells = A.cells + mc ∧ B.slots = A.slots + ms
def vx_Back (l : Launch) (R : Room) (p : Program) (e : Env) (below : List Frame) (s : State) (sargs : Array Value) (y : MethodName) (len W9 : Nat)
    (Pre : Pt → Array Value → Prop) (Post : Pt → Array Value → Option Value → Pt → Prop) (PostX : Pt → Array Value → Addr → Pt → Prop) : Prop :=
  ∀ (m : MethodId) (meth : Method) (c : Code) (A : Pt) (g : JFrame) (ig : Instr) (mk : MethodId) (a : Array Value),
    Stand p l e R s m sargs below meth c A.U A.locs A.cells A.slots → g.method = m → g.locals.size = c.maxLocals → decode c.code g.pc = .ok (ig, len) →
    2 * g.monitorRoom + (g.stack.map fun v => v.category).sum ≤ W9 → A.U.methodNamed? y = some mk → Pre A a →
    (∃ (v : Option Value) (B : Pt), Stand p l e R s m sargs below meth c B.U B.locs B.cells B.slots ∧ Post A a v B ∧
      Steps p.tables e below (doInvoke e (A.U.setTop g) [] mk a).1 (B.U.setTop { g with pc := g.pc + len, stack := v.toList ++ g.stack })) ∨
    (∃ (q : Addr) (B : Pt), Stand p l e R s m sargs below meth c B.U B.locs B.cells B.slots ∧ PostX A a q B ∧
      Steps p.tables e below (doInvoke e (A.U.setTop g) [] mk a).1 ((B.U.setTop g).pushFrame (.throwing q)))
section Payer
variable {l : Launch} {R : Room} {p : Program} {e : Env} {below : List Frame} {s : State} {sargs : Array Value} {y : MethodName} {len W9 : Nat}
theorem vx_back {ws : List Cond} {rm : Room} {Pc : Array Value → State → Prop} {Qc : Array Value → State → Outcome → State → Prop} {XC : String → State → State → Prop} {mc ms : Nat} {free : Addr → Prop} {bytes : ByteArray} {maxL : Nat} {ret : Option FieldType}
    (hM : vx_Met l y ws rm Pc Qc XC mc ms free) (hblind : FrameBlind Pc) (hrc : rm.cells = mc) (hrs : rm.slots = ms)
    (hframes : rm.frames + 1 ≤ R.frames) (hlocals : W9 + (maxL + 11) + rm.locals ≤ R.locals)
    (hws : ∀ w ∈ ws, ∀ a' U, s.WarmedH U.vm → w.before a' U = true) (hcode : Cond.code y bytes maxL ret ∈ ws) (hinit : ∀ a' U, s.WarmedH U.vm → (Cond.initialized y.cls).before a' U = true) :
    vx_Back l R p e below s sargs y len W9 (PreOf R mc ms Pc) (PostOf Qc mc ms free) (vx_Post XC mc ms free) := by
  intro m meth c A g ig mk a X hg hsize hdg hW hn hp
  have h1 : (headSpec ws rm).pre.before a A.U = true := atoms_intro fun w hw => hws w hw _ _ X.warmed
  have h2 : (Cond.code y bytes maxL ret).before a A.U = true := hws _ hcode _ _ X.warmed
  have h3 : (Cond.initialized y.cls).before a A.U = true := hinit _ _ X.warmed
  have h4 : A.cells + (headSpec ws rm).room.cells ≤ R.cells := by rw [show (headSpec ws rm).room.cells = mc from hrc]; exact hp.1
  have h5 : A.slots + (headSpec ws rm).room.slots ≤ R.slots := by rw [show (headSpec ws rm).room.slots = ms from hrs]; exact hp.2.1
  have hPc : Pc a (A.U.calling g mk a) := hblind _ _ _ _ hp.2.2
  obtain ⟨U, Ls, c0, s0⟩ := A
  dsimp only [Pt.U, Pt.locs, Pt.cells, Pt.slots] at h1 h2 h3 h4 h5 X hn hPc ⊢
  obtain ⟨methY, cY, hmY, hcY, -, hlY, -, -, -, -⟩ := Cond.code_spec hn h2
  obtain ⟨kY, hkY, -⟩ := className_of_methodNamed hn
  have hinitY : kY.init = .initialized := Cond.initialized_spec (findClass_of_methodNamed hn) hkY h3
  have h : At U g.method c below := by rw [hg]; exact X.here
  have hlocals9 : W9 + (maxL + 11) + (headSpec ws rm).room.locals ≤ R.locals := hlocals
  have happ : (headSpec ws rm).appliesLoose y e.platform (U.calling g mk a) = true :=
    Spec.appliesLoose_calling (g := g) h hdg hn hkY hinitY
      (X.room_calling (g := g) (R' := (headSpec ws rm).room) hsize hmY hcY hframes (by rw [hlY]; omega) h4 h5) h1
  obtain ⟨mid, hmid⟩ := h.above
  have hfr : (U.setTop g).frames = (.java g :: mid) ++ below := by rw [State.frames_setTop' g h.top, hmid]; rfl
  obtain ⟨o, s₂, hsteps, -, hend, hq⟩ := Steps.callFree hM p X.admits X.cas X.clock (acts := []) hfr happ hPc trivial
  have hq' : vx_Q Qc XC mc ms free a (U.calling g mk a) o s₂ := hq
  rw [State.frames_setTop' g h.top] at hend
  obtain ⟨g₀, hg0⟩ := Option.isSome_iff_exists.mp h.top
  obtain ⟨r, hr⟩ := State.topJava?_eq_some.mp hg0
  have hr' : (({ U with heap := s₂.heap, slotsUsed := s₂.slotsUsed } : State).setVm s₂.vm).frames = .java g₀ :: r := hr
  rcases hq' with ⟨hqc, L, hfe, hL⟩ | ⟨q, rfl, E, ce, L, hx, hce, hcv, hcl, hW₂, hsm, hL⟩
  · obtain ⟨⟨v, rfl⟩, hW₂, e2, q2, q3, q4, q5, q6⟩ := id hfe
    have e3 : s₂ = ({ (U.calling g mk a).setFrames s₂.frames with heap := s₂.heap, slotsUsed := s₂.slotsUsed } : State).setVm s₂.vm := by
      have : s₂ = ({ s₂ with vm := (U.calling g mk a).vm } : State).setVm s₂.vm := rfl
      rw [e2] at this
      exact this
    obtain ⟨c₂, i₂, len₂, hc₂, hd₂, hf₂⟩ := hend
    have hW' : U.WarmedH s₂.vm := hW₂
    have hcc : c₂ = c := by
      have h1 : s₂.code? g.method = U.code? g.method := by
        rw [State.code?_eq, State.code?_eq, hW'.alike.method?]
      exact Option.some.inj (hc₂.symm.trans (h1.trans h.code))
    subst hcc
    have hlen : len₂ = len := by rw [hdg] at hd₂; cases hd₂; rfl
    subst hlen
    have hs₂ : s₂ = (({ U with heap := s₂.heap, slotsUsed := s₂.slotsUsed } : State).setVm s₂.vm).setTop { g with pc := g.pc + len₂, stack := v.toList ++ g.stack } := by
      refine e3.trans ?_
      rw [hf₂, State.calling_eq h.top, State.setFrames_setFrames, State.setTop_of_frames _ hr', hr]
      rfl
    have hsame : U.sameButNew ({ U with heap := s₂.heap, slotsUsed := s₂.slotsUsed } : State) L mc ms := by
      refine ⟨?_, q2, q3, q4, q5, q6⟩
      obtain ⟨t, ht, -⟩ := State.frames_cons hr
      show ({ U with heap := s₂.heap, slotsUsed := s₂.slotsUsed } : State) = { U.setFrames U.frames with heap := s₂.heap, slotsUsed := s₂.slotsUsed }
      rw [State.setFrames_self ht]
    subst hg
    refine Or.inl ⟨v, ⟨(({ U with heap := s₂.heap, slotsUsed := s₂.slotsUsed } : State).setVm s₂.vm), Ls ++ L, c0 + mc, s0 + ms⟩,
      ⟨X.admits, X.cas, X.clock, X.frames, X.room, X.hears, X.method, X.code, (X.here.setHeapUsed s₂.heap s₂.slotsUsed).setVm hW'.alike, X.tail, State.WarmedH.trans X.warmed hW', X.limits, X.bytes, X.same.trans (hsame.setVm s.vm)⟩,
      ⟨g, mk, s₂, L, rfl, rfl, hqc, rfl, hL, rfl, rfl⟩, ?_⟩
    show Steps p.tables e below _ ((({ U with heap := s₂.heap, slotsUsed := s₂.slotsUsed } : State).setVm s₂.vm).setTop { g with pc := g.pc + len₂, stack := v.toList ++ g.stack })
    rw [← hs₂]
    exact hsteps
  · obtain ⟨e2, q2, q3, q4, q5, q6⟩ := id hsm
    have e3 : s₂ = ({ (U.calling g mk a).setFrames s₂.frames with heap := s₂.heap, slotsUsed := s₂.slotsUsed } : State).setVm s₂.vm := by
      have : s₂ = ({ s₂ with vm := (U.calling g mk a).vm } : State).setVm s₂.vm := rfl
      rw [e2] at this
      exact this
    have hf₂ : s₂.frames = .throwing q :: .java g :: U.frames.tail := hend
    have hW' : U.WarmedH s₂.vm := hW₂
    have hs₂ : s₂ = ((({ U with heap := s₂.heap, slotsUsed := s₂.slotsUsed } : State).setVm s₂.vm).setTop g).pushFrame (.throwing q) := by
      refine e3.trans ?_
      rw [hf₂, State.calling_eq h.top, State.setFrames_setFrames, State.pushFrame, State.frames_setTop _ hr', State.setTop_of_frames _ hr', State.setFrames_setFrames, hr]
      rfl
    have hsame : U.sameButNew ({ U with heap := s₂.heap, slotsUsed := s₂.slotsUsed } : State) L mc ms := by
      refine ⟨?_, q2, q3, q4, q5, q6⟩
      obtain ⟨t, ht, -⟩ := State.frames_cons hr
      show ({ U with heap := s₂.heap, slotsUsed := s₂.slotsUsed } : State) = { U.setFrames U.frames with heap := s₂.heap, slotsUsed := s₂.slotsUsed }
      rw [State.setFrames_self ht]
    subst hg
    refine Or.inr ⟨q, ⟨(({ U with heap := s₂.heap, slotsUsed := s₂.slotsUsed } : State).setVm s₂.vm), Ls ++ L, c0 + mc, s0 + ms⟩,
      ⟨X.admits, X.cas, X.clock, X.frames, X.room, X.hears, X.method, X.code, (X.here.setHeapUsed s₂.heap s₂.slotsUsed).setVm hW'.alike, X.tail, State.WarmedH.trans X.warmed hW', X.limits, X.bytes, X.same.trans (hsame.setVm s.vm)⟩,
      ⟨g, mk, s₂, L, E, ce, rfl, rfl, hx, hce, hcv, hcl, rfl, hL, rfl, rfl⟩, ?_⟩
    show Steps p.tables e below _ (((({ U with heap := s₂.heap, slotsUsed := s₂.slotsUsed } : State).setVm s₂.vm).setTop g).pushFrame (.throwing q))
    rw [← hs₂]
    exact hsteps
end Payer
section Calls
variable {p : Program} {l : Launch} {e : Env} {R : Room} {s : State} {m : MethodId} {args : Array Value} {below : List Frame} {meth : Method} {c : Code} {T : State} {locs : List Loc} {cells slots : Nat}
theorem vx_callV (X : Stand p l e R s m args below meth c T locs cells slots) (hexec : p.tables.exec = Jvm.exec) {own C : String} {index : Nat} {y : MethodName} {bytes : ByteArray} {maxL : Nat} {ret : Option FieldType}
    (hown : s.vm.findClass own = some m.cls) (hlink : (Cond.methodLink own index y).before args s = true) (hinst : (Cond.instanceMethod y).before args s = true) (hsel : (Cond.selects C y y).before args s = true)
    (hcode : (Cond.code y bytes maxL ret).before args s = true) (hy : y.cls ≠ "java/lang/invoke/MethodHandle" ∧ y.cls ≠ "java/lang/invoke/VarHandle")
    {W9 : Nat} {Pre : Pt → Array Value → Prop} {Post : Pt → Array Value → Option Value → Pt → Prop} {PostX : Pt → Array Value → Addr → Pt → Prop} (hK : vx_Back l R p e below s args y 3 W9 Pre Post PostX)
    {b : Addr} {cellB : Cell} (hcell : T.heap[b]? = some cellB) (hobj : cellB.vm.isStatics = false) (hcls : s.vm.findClass C = some cellB.cls)
    {g : JFrame} (hg : g.method = m) (hsize : g.locals.size = c.maxLocals) {argsL rest : List Value} (hlen : ∀ sig, parseMethodDescriptor y.desc = some sig → argsL.length = sig.parameters.length)
    (hstack : g.stack = argsL.reverse ++ .ref b :: rest) (hW : 2 * g.monitorRoom + (rest.map fun v => v.category).sum ≤ W9) (hdg : decode c.code g.pc = .ok (.invokevirtual index, 3))
    (hpre : ∀ vm₁, s.WarmedH vm₁ → Pre ⟨T.setVm vm₁, locs, cells, slots⟩ (Value.ref b :: argsL).toArray) :
    (∃ (v : Option Value) (vm₁ : Vm) (B : Pt), s.WarmedH vm₁ ∧ Stand p l e R s m args below meth c B.U B.locs B.cells B.slots ∧ Post ⟨T.setVm vm₁, locs, cells, slots⟩ (Value.ref b :: argsL).toArray v B ∧
      ∀ target, Steps p.tables e below (B.U.setTop { g with pc := g.pc + 3, stack := v.toList ++ rest }) target → Steps p.tables e below (T.setTop g) target) ∨
    (∃ (q : Addr) (vm₁ : Vm) (B : Pt), s.WarmedH vm₁ ∧ Stand p l e R s m args below meth c B.U B.locs B.cells B.slots ∧ PostX ⟨T.setVm vm₁, locs, cells, slots⟩ (Value.ref b :: argsL).toArray q B ∧
      Steps p.tables e below (T.setTop g) ((B.U.setTop { g with stack := rest }).pushFrame (.throwing q))) := by
  obtain ⟨mk, methM, hnamed, hmethM, hstM, habM⟩ := Cond.instanceMethod_spec hinst
  obtain ⟨methM', cM, hmethM', -, -, -, -, -, -, hsigM⟩ := Cond.code_spec hnamed hcode
  cases hmethM.symm.trans hmethM'
  obtain ⟨c2, r2, m2, q1, q2, q3, q4, kP, hkP, hkPi⟩ := Cond.selects_spec hsel
  cases hcls.symm.trans q1
  cases (State.methodFound?_of_named hnamed hy).symm.trans q2
  cases hnamed.symm.trans q3
  have hselP : selectMethod e.platform s.vm cellB.cls mk = .method mk := by rw [Launch.admits_selectMethod X.admits]; exact q4
  obtain ⟨vm₁, X₁, hstep₁⟩ := X.invokevirtual hexec hown hlink hnamed hmethM hstM hkP hkPi hy (a := b) (cell := cellB) hcell
    (fun z h => by rw [h] at hobj; cases hobj) hselP hmethM habM hkP hkPi (g := g) hg (argsL := argsL) (rest := rest) (hlen _ hsigM) hstack hdg
  rcases hK m meth c ⟨T.setVm vm₁, locs, cells, slots⟩ { g with stack := rest } (.invokevirtual index) mk (Value.ref b :: argsL).toArray X₁ hg hsize hdg hW (X₁.named hnamed) (hpre vm₁ X₁.warmed) with ⟨v, B, X', hpost, hsteps⟩ | ⟨q, B, X', hpost, hsteps⟩
  · exact Or.inl ⟨v, vm₁, B, X₁.warmed, X', hpost, fun target h => hstep₁ _ fun acts => by rw [doInvoke_state]; exact hsteps.trans h⟩
  · exact Or.inr ⟨q, vm₁, B, X₁.warmed, X', hpost, hstep₁ _ fun acts => by rw [doInvoke_state]; exact hsteps⟩
theorem vx_callS (X : Stand p l e R s m args below meth c T locs cells slots) (hexec : p.tables.exec = Jvm.exec) {own : String} {index : Nat} {y : MethodName} {bytes : ByteArray} {maxL : Nat} {ret : Option FieldType}
    (hown : s.vm.findClass own = some m.cls) (hlink : (Cond.methodLink own index y).before args s = true) (hstat : (Cond.static y).before args s = true) (hinit : (Cond.initialized y.cls).before args s = true)
    (hcode : (Cond.code y bytes maxL ret).before args s = true) (hy : y.cls ≠ "java/lang/invoke/MethodHandle" ∧ y.cls ≠ "java/lang/invoke/VarHandle")
    {W9 : Nat} {Pre : Pt → Array Value → Prop} {Post : Pt → Array Value → Option Value → Pt → Prop} {PostX : Pt → Array Value → Addr → Pt → Prop} (hK : vx_Back l R p e below s args y 3 W9 Pre Post PostX)
    {g : JFrame} (hg : g.method = m) (hsize : g.locals.size = c.maxLocals) {argsL rest : List Value} (hlen : ∀ sig, parseMethodDescriptor y.desc = some sig → argsL.length = sig.parameters.length)
    (hstack : g.stack = argsL.reverse ++ rest) (hW : 2 * g.monitorRoom + (rest.map fun v => v.category).sum ≤ W9) (hdg : decode c.code g.pc = .ok (.invokestatic index, 3))
    (hpre : ∀ vm₁, s.WarmedH vm₁ → Pre ⟨T.setVm vm₁, locs, cells, slots⟩ argsL.toArray) :
    (∃ (v : Option Value) (vm₁ : Vm) (B : Pt), s.WarmedH vm₁ ∧ Stand p l e R s m args below meth c B.U B.locs B.cells B.slots ∧ Post ⟨T.setVm vm₁, locs, cells, slots⟩ argsL.toArray v B ∧
      ∀ target, Steps p.tables e below (B.U.setTop { g with pc := g.pc + 3, stack := v.toList ++ rest }) target → Steps p.tables e below (T.setTop g) target) ∨
    (∃ (q : Addr) (vm₁ : Vm) (B : Pt), s.WarmedH vm₁ ∧ Stand p l e R s m args below meth c B.U B.locs B.cells B.slots ∧ PostX ⟨T.setVm vm₁, locs, cells, slots⟩ argsL.toArray q B ∧
      Steps p.tables e below (T.setTop g) ((B.U.setTop { g with stack := rest }).pushFrame (.throwing q))) := by
  obtain ⟨mk, hnamed⟩ := Cond.code_named hcode
  obtain ⟨methM, cM, hmethM, -, -, -, -, -, -, hsigM⟩ := Cond.code_spec hnamed hcode
  have hstatic : methM.isStatic = true := Cond.static_spec hnamed hmethM hstat
  obtain ⟨kP, hkP, -⟩ := className_of_methodNamed hnamed
  have hinitP : kP.init = .initialized := Cond.initialized_spec (findClass_of_methodNamed hnamed) hkP hinit
  obtain ⟨vm₁, X₁, hstep₁⟩ := X.invokestatic hexec hown hlink hnamed hmethM hstatic hkP hinitP hy (g := g) hg (argsL := argsL) (rest := rest) (hlen _ hsigM) hstack hdg
  rcases hK m meth c ⟨T.setVm vm₁, locs, cells, slots⟩ { g with stack := rest } (.invokestatic index) mk argsL.toArray X₁ hg hsize hdg hW (X₁.named hnamed) (hpre vm₁ X₁.warmed) with ⟨v, B, X', hpost, hsteps⟩ | ⟨q, B, X', hpost, hsteps⟩
  · exact Or.inl ⟨v, vm₁, B, X₁.warmed, X', hpost, fun target h => hstep₁ _ fun acts => by rw [doInvoke_state]; exact hsteps.trans h⟩
  · exact Or.inr ⟨q, vm₁, B, X₁.warmed, X', hpost, hstep₁ _ fun acts => by rw [doInvoke_state]; exact hsteps⟩
end Calls
theorem vx_cls {s : State} {T : State} {vm₁ : Vm} {E : String} {k : ClassId} (hW : s.WarmedH vm₁) (h : (T.setVm vm₁).vm.findClass E = some k) : s.vm.findClass E = some k := by
  have h1 : vm₁.findClass E = some k := h
  rw [hW.alike.findClass] at h1
  exact h1
/-- the method's frame g, with q thrown over it -/
def vx_W (p : Program) (l : Launch) (e : Env) (R : Room) (s : State) (m : MethodId) (args : Array Value) (below : List Frame) (meth : Method) (c : Code) (H : Heap) (locs : List Loc) (cells slots : Nat) (Q : State → Prop) (g : JFrame) (q : Addr) : Prop :=
  ∀ T : State, T.heap = H → Stand p l e R s m args below meth c T locs cells slots → ∃ t, Steps p.tables e below ((T.setTop g).pushFrame (.throwing q)) t ∧ Q t
def vx_Run (p : Program) (l : Launch) (e : Env) (R : Room) (s : State) (m : MethodId) (args : Array Value) (below : List Frame) (meth : Method) (c : Code) (H : Heap) (locs : List Loc) (cells slots mc ms : Nat) (g : JFrame) (rest : List Value) (Qa : State → Outcome → State → Prop) (XC : String → State → State → Prop) (free : Addr → Prop) : Prop :=
  ∀ T : State, T.heap = H → Stand p l e R s m args below meth c T locs cells slots →
    (∃ (v : Option Value) (st₀ t T' : State) (L : List Loc), st₀.heap = H ∧ Stand p l e R s m args below meth c T' (locs ++ L) (cells + mc) (slots + ms) ∧ (∀ q ∈ L, free q.base) ∧ T'.heap = t.heap ∧ T'.vm = t.vm ∧ Qa st₀ (.returned v) t ∧
      Goes p e below T g T' { g with pc := g.pc + 3, stack := v.toList ++ rest }) ∨
    (∃ (q : Addr) (st₀ t T' : State) (L : List Loc) (E : String) (ce : Cell), st₀.heap = H ∧ Stand p l e R s m args below meth c T' (locs ++ L) (cells + mc) (slots + ms) ∧ (∀ z ∈ L, free z.base) ∧ T'.heap = t.heap ∧ T'.vm = t.vm ∧ XC E st₀ t ∧ t.heap[q]? = some ce ∧ ce.vm = .none ∧ s.vm.findClass E = some ce.cls ∧
      Steps p.tables e below (T.setTop g) ((T'.setTop { g with stack := rest }).pushFrame (.throwing q)))
def vx_X {S : Type} (px : S → Prop) (B : String → S → State → Prop) (A : Nat → Prop) : String → State → State → Prop := fun E st t => ∃ u : S, px u ∧ B E u t ∧ va_F A st t
section Runs
variable {p : Program} {l : Launch} {e : Env} {R : Room} {s : State} {m : MethodId} {args : Array Value} {below : List Frame} {meth : Method} {c : Code} {H : Heap} {locs : List Loc} {cells slots : Nat}
variable {y : MethodName} {bytes cc : ByteArray} {maxL nL mc ms n index : Nat} {ret : Option FieldType} {ws : List Cond} {rm : Room} {Pc : Array Value → State → Prop} {Qc : Array Value → State → Outcome → State → Prop} {XC : String → State → State → Prop} {free : Addr → Prop} {Ts : List Cond} {own C : String} {b : Addr} {As rest : List Value} {g : JFrame}
theorem vx_callBack (cb : CallB R s args own index y bytes maxL ret ws rm mc ms n) (hM : vx_Met l y ws rm Pc Qc XC mc ms free) (hbl : FrameBlind Pc) : vx_Back l R p e below s args y 3 8 (PreOf R mc ms Pc) (PostOf Qc mc ms free) (vx_Post XC mc ms free) := by
  obtain ⟨hrc, hrs, hfr, hlo, hws, hcw, -, hini, -⟩ := cb
  exact vx_back (bytes := bytes) (maxL := maxL) (ret := ret) hM hbl hrc hrs hfr hlo hws hcw (fun a' U hW => word_at hW (Or.inl (by first | rfl | simp [Cond.onTables, Cond.keeps, Cond.steady])) hini)
theorem vx_runV (S : CallFix p m c cc nL s args Ts own) (hM : vx_Met l y ws rm Pc Qc XC mc ms free) (cw : CallW R s args own C index y bytes maxL ret ws rm mc ms n) (hp : PreV s H C b Pc As)
    (hg : g.method = m) (hn : As.length = n) (hsize : g.locals.size = nL) (hstack : g.stack = As.reverse ++ .ref b :: rest) (hW : 2 * g.monitorRoom + (rest.map fun v => v.category).sum ≤ 8) (hdg : decode cc g.pc = .ok (.invokevirtual index, 3)) (hf : cells + mc ≤ R.cells ∧ slots + ms ≤ R.slots) :
    vx_Run p l e R s m args below meth c H locs cells slots mc ms g rest (Qc (Value.ref b :: As).toArray) XC free := by
  have hK : vx_Back l R p e below s args y 3 8 (PreOf R mc ms Pc) (PostOf Qc mc ms free) (vx_Post XC mc ms free) := vx_callBack cw.1 hM hp.1
  obtain ⟨⟨-, -, -, -, -, -, hcode, -, hy, hlen, hl⟩, hin, hse⟩ := cw
  obtain ⟨hx, hb, hml, ho, -⟩ := S
  obtain ⟨-, ⟨cellB, hcB, hoB, hclB⟩, hPc⟩ := hp
  intro T hT X
  rcases vx_callV X hx (C := C) (bytes := bytes) (maxL := maxL) (ret := ret) ho hl hin hse hcode hy hK (by rw [hT]; exact hcB) hoB hclB hg (hsize.trans hml.symm) (argsL := As) (rest := rest) (fun sig h => hn.trans (hlen sig h)) hstack hW (by rw [hb]; exact hdg)
    (fun vm₁ hW₁ => ⟨hf.1, hf.2, hPc (T.setVm vm₁) hT hW₁⟩) with ⟨v, vm₁, ⟨U', l2, c2, s2⟩, hW₁, X', ⟨g', mk, t, L, e1, e2, hq, h1, hL, h2, h3⟩, st⟩ | ⟨q, vm₁, ⟨U', l2, c2, s2⟩, hW₁, X', ⟨g', mk, t, L, E, ce, e1, e2, hq, hce, hcv, hcl, h1, hL, h2, h3⟩, st⟩
  · dsimp only [Pt.U, Pt.locs, Pt.cells, Pt.slots] at X' e1 e2 h1 h2 h3 st
    subst h1; subst h2; subst h3
    exact Or.inl ⟨v, (T.setVm vm₁).calling g' mk (Value.ref b :: As).toArray, t, U', L, hT, X', hL, e1, e2, hq, st⟩
  · dsimp only [Pt.U, Pt.locs, Pt.cells, Pt.slots] at X' e1 e2 h1 h2 h3 st hcl
    subst h1; subst h2; subst h3
    exact Or.inr ⟨q, (T.setVm vm₁).calling g' mk (Value.ref b :: As).toArray, t, U', L, E, ce, hT, X', hL, e1, e2, hq, hce, hcv, vx_cls hW₁ hcl, st⟩
theorem vx_runS (S : CallFix p m c cc nL s args Ts own) (hM : vx_Met l y ws rm Pc Qc XC mc ms free) (cw : CallB R s args own index y bytes maxL ret ws rm mc ms n ∧ (Cond.static y).before args s = true) (hp : PreS s H Pc As)
    (hg : g.method = m) (hn : As.length = n) (hsize : g.locals.size = nL) (hstack : g.stack = As.reverse ++ rest) (hW : 2 * g.monitorRoom + (rest.map fun v => v.category).sum ≤ 8) (hdg : decode cc g.pc = .ok (.invokestatic index, 3)) (hf : cells + mc ≤ R.cells ∧ slots + ms ≤ R.slots) :
    vx_Run p l e R s m args below meth c H locs cells slots mc ms g rest (Qc As.toArray) XC free := by
  have hK : vx_Back l R p e below s args y 3 8 (PreOf R mc ms Pc) (PostOf Qc mc ms free) (vx_Post XC mc ms free) := vx_callBack cw.1 hM hp.1
  obtain ⟨⟨-, -, -, -, -, -, hcode, hini, hy, hlen, hl⟩, hstt⟩ := cw
  obtain ⟨hx, hb, hml, ho, -⟩ := S
  intro T hT X
  rcases vx_callS X hx (bytes := bytes) (maxL := maxL) (ret := ret) ho hl hstt hini hcode hy hK hg (hsize.trans hml.symm) (argsL := As) (rest := rest) (fun sig h => hn.trans (hlen sig h)) hstack hW (by rw [hb]; exact hdg)
    (fun vm₁ hW₁ => ⟨hf.1, hf.2, hp.2 (T.setVm vm₁) hT hW₁⟩) with ⟨v, vm₁, ⟨U', l2, c2, s2⟩, hW₁, X', ⟨g', mk, t, L, e1, e2, hq, h1, hL, h2, h3⟩, st⟩ | ⟨q, vm₁, ⟨U', l2, c2, s2⟩, hW₁, X', ⟨g', mk, t, L, E, ce, e1, e2, hq, hce, hcv, hcl, h1, hL, h2, h3⟩, st⟩
  · dsimp only [Pt.U, Pt.locs, Pt.cells, Pt.slots] at X' e1 e2 h1 h2 h3 st
    subst h1; subst h2; subst h3
    exact Or.inl ⟨v, (T.setVm vm₁).calling g' mk As.toArray, t, U', L, hT, X', hL, e1, e2, hq, st⟩
  · dsimp only [Pt.U, Pt.locs, Pt.cells, Pt.slots] at X' e1 e2 h1 h2 h3 st hcl
    subst h1; subst h2; subst h3
    exact Or.inr ⟨q, (T.setVm vm₁).calling g' mk As.toArray, t, U', L, E, ce, hT, X', hL, e1, e2, hq, hce, hcv, vx_cls hW₁ hcl, st⟩
end Runs
section Rows
variable {p : Program} {l : Launch} {e : Env} {R : Room} {s : State} {m : MethodId} {args : Array Value} {below : List Frame} {meth : Method} {c : Code} {H : Heap} {locs : List Loc} {cells slots : Nat} {Q : State → Prop}
variable {mc ms : Nat} {free : Addr → Prop} {A0 A1 : Nat → Prop} {H0 : Heap} {a : Array Value} {pc : Nat} {ls : Array Slot} {st0 rest : List Value}
theorem vx_keep {st₀ t T' : State} {L : List Loc} (h0 : st₀.heap = H) (e1 : T'.heap = t.heap) (hS : va_S A0 H0 H locs) (hA : ∀ q, q < H.size → A1 q → A0 q) (hf : ∀ q, free q → A0 q) (hL : ∀ q ∈ L, free q.base) (hF : va_F A1 st₀ t) :
    H.size ≤ T'.heap.size ∧ (∀ q : Nat, q < H.size → ¬ A1 q → T'.heap[q]? = H[q]?) ∧ va_S A0 H0 T'.heap (locs ++ L) := by
  obtain ⟨hz, hk⟩ := hF
  rw [h0] at hz hk
  exact ⟨by rw [e1]; exact hz, fun q h1 h2 => by rw [e1]; exact hk q h1 h2,
    ⟨Nat.le_trans hS.1 (by rw [e1]; exact hz), fun q h1 h2 => by rw [e1, hk q (Nat.lt_of_lt_of_le h1 hS.1) (fun z => h2 (hA q (Nat.lt_of_lt_of_le h1 hS.1) z))]; exact hS.2.1 q h1 h2, fun q hq => by
      rcases List.mem_append.mp hq with h | h
      · exact hS.2.2 q h
      · exact hf _ (hL q h)⟩⟩
theorem vx_calli {S SX : Type} {post : Int32 → S → Prop} {px : SX → Prop} {B : S → State → Prop} {BX : String → SX → State → Prop} {AX : Nat → Prop} (hr : vx_Run p l e R s m args below meth c H locs cells slots mc ms (F0 m pc ls st0) rest (va_Qi post B A1 a) (vx_X px BX AX) free) (hS : va_S A0 H0 H locs) (hA : ∀ q, q < H.size → A1 q → A0 q) (hf : ∀ q, free q → A0 q) (hAX : ∀ q, q < H.size → AX q → A0 q)
    (kx : ∀ (E : String) (ce : Cell) (q9 : Addr) (u : SX) (t : State) (H1 : Heap) (locs1 : List Loc), t.heap = H1 → s.vm.Alike t.vm → px u → BX E u t → H.size ≤ H1.size → (∀ q : Nat, q < H.size → ¬ AX q → H1[q]? = H[q]?) → va_S A0 H0 H1 locs1 → H1[q9]? = some ce → ce.vm = .none → s.vm.findClass E = some ce.cls → vx_W p l e R s m args below meth c H1 locs1 (cells + mc) (slots + ms) Q (F0 m pc ls rest) q9)
    (kk : ∀ (r : Int32) (u : S) (t : State) (H1 : Heap) (locs1 : List Loc), t.heap = H1 → s.vm.Alike t.vm → post r u → B u t → H.size ≤ H1.size → (∀ q : Nat, q < H.size → ¬ A1 q → H1[q]? = H[q]?) → va_S A0 H0 H1 locs1 → W p l e R s m args below meth c H1 locs1 (cells + mc) (slots + ms) Q (F0 m (pc + 3) ls (.int r :: rest))) : W p l e R s m args below meth c H locs cells slots Q (F0 m pc ls st0) := by
  intro T hT X
  rcases hr T hT X with ⟨v, st₀, t, T', L, h0, X', hL, e1, e2, ⟨⟨r, u, hv, hp, hb⟩, hF⟩, st⟩ | ⟨q, st₀, t, T', L, E, ce, h0, X', hL, e1, e2, ⟨u, hp, hb, hF⟩, hce, hcv, hcl, st⟩
  · cases hv
    obtain ⟨k1, k2, k3⟩ := vx_keep h0 e1 hS hA hf hL hF
    obtain ⟨t2, a1, b1⟩ := kk r u t T'.heap (locs ++ L) e1.symm (by rw [← e2]; exact X'.warmed.alike) hp hb k1 k2 k3 T' rfl X'
    exact ⟨t2, st t2 a1, b1⟩
  · obtain ⟨k1, k2, k3⟩ := vx_keep h0 e1 hS hAX hf hL hF
    obtain ⟨t2, a1, b1⟩ := kx E ce q u t T'.heap (locs ++ L) e1.symm (by rw [← e2]; exact X'.warmed.alike) hp hb k1 k2 k3 (by rw [e1]; exact hce) hcv hcl T' rfl X'
    exact ⟨t2, st.trans a1, b1⟩
theorem vx_calll {S SX : Type} {post : Int64 → S → Prop} {px : SX → Prop} {B : S → State → Prop} {BX : String → SX → State → Prop} {AX : Nat → Prop} (hr : vx_Run p l e R s m args below meth c H locs cells slots mc ms (F0 m pc ls st0) rest (va_Ql post B A1 a) (vx_X px BX AX) free) (hS : va_S A0 H0 H locs) (hA : ∀ q, q < H.size → A1 q → A0 q) (hf : ∀ q, free q → A0 q) (hAX : ∀ q, q < H.size → AX q → A0 q)
    (kx : ∀ (E : String) (ce : Cell) (q9 : Addr) (u : SX) (t : State) (H1 : Heap) (locs1 : List Loc), t.heap = H1 → s.vm.Alike t.vm → px u → BX E u t → H.size ≤ H1.size → (∀ q : Nat, q < H.size → ¬ AX q → H1[q]? = H[q]?) → va_S A0 H0 H1 locs1 → H1[q9]? = some ce → ce.vm = .none → s.vm.findClass E = some ce.cls → vx_W p l e R s m args below meth c H1 locs1 (cells + mc) (slots + ms) Q (F0 m pc ls rest) q9)
    (kk : ∀ (r : Int64) (u : S) (t : State) (H1 : Heap) (locs1 : List Loc), t.heap = H1 → s.vm.Alike t.vm → post r u → B u t → H.size ≤ H1.size → (∀ q : Nat, q < H.size → ¬ A1 q → H1[q]? = H[q]?) → va_S A0 H0 H1 locs1 → W p l e R s m args below meth c H1 locs1 (cells + mc) (slots + ms) Q (F0 m (pc + 3) ls (.long r :: rest))) : W p l e R s m args below meth c H locs cells slots Q (F0 m pc ls st0) := by
  intro T hT X
  rcases hr T hT X with ⟨v, st₀, t, T', L, h0, X', hL, e1, e2, ⟨⟨r, u, hv, hp, hb⟩, hF⟩, st⟩ | ⟨q, st₀, t, T', L, E, ce, h0, X', hL, e1, e2, ⟨u, hp, hb, hF⟩, hce, hcv, hcl, st⟩
  · cases hv
    obtain ⟨k1, k2, k3⟩ := vx_keep h0 e1 hS hA hf hL hF
    obtain ⟨t2, a1, b1⟩ := kk r u t T'.heap (locs ++ L) e1.symm (by rw [← e2]; exact X'.warmed.alike) hp hb k1 k2 k3 T' rfl X'
    exact ⟨t2, st t2 a1, b1⟩
  · obtain ⟨k1, k2, k3⟩ := vx_keep h0 e1 hS hAX hf hL hF
    obtain ⟨t2, a1, b1⟩ := kx E ce q u t T'.heap (locs ++ L) e1.symm (by rw [← e2]; exact X'.warmed.alike) hp hb k1 k2 k3 (by rw [e1]; exact hce) hcv hcl T' rfl X'
    exact ⟨t2, st.trans a1, b1⟩
theorem vx_callf {S SX : Type} {post : UInt32 → S → Prop} {px : SX → Prop} {B : S → State → Prop} {BX : String → SX → State → Prop} {AX : Nat → Prop} (hr : vx_Run p l e R s m args below meth c H locs cells slots mc ms (F0 m pc ls st0) rest (va_Qf post B A1 a) (vx_X px BX AX) free) (hS : va_S A0 H0 H locs) (hA : ∀ q, q < H.size → A1 q → A0 q) (hf : ∀ q, free q → A0 q) (hAX : ∀ q, q < H.size → AX q → A0 q)
    (kx : ∀ (E : String) (ce : Cell) (q9 : Addr) (u : SX) (t : State) (H1 : Heap) (locs1 : List Loc), t.heap = H1 → s.vm.Alike t.vm → px u → BX E u t → H.size ≤ H1.size → (∀ q : Nat, q < H.size → ¬ AX q → H1[q]? = H[q]?) → va_S A0 H0 H1 locs1 → H1[q9]? = some ce → ce.vm = .none → s.vm.findClass E = some ce.cls → vx_W p l e R s m args below meth c H1 locs1 (cells + mc) (slots + ms) Q (F0 m pc ls rest) q9)
    (kk : ∀ (r : UInt32) (u : S) (t : State) (H1 : Heap) (locs1 : List Loc), t.heap = H1 → s.vm.Alike t.vm → post r u → B u t → H.size ≤ H1.size → (∀ q : Nat, q < H.size → ¬ A1 q → H1[q]? = H[q]?) → va_S A0 H0 H1 locs1 → W p l e R s m args below meth c H1 locs1 (cells + mc) (slots + ms) Q (F0 m (pc + 3) ls (.float r :: rest))) : W p l e R s m args below meth c H locs cells slots Q (F0 m pc ls st0) := by
  intro T hT X
  rcases hr T hT X with ⟨v, st₀, t, T', L, h0, X', hL, e1, e2, ⟨⟨r, u, hv, hp, hb⟩, hF⟩, st⟩ | ⟨q, st₀, t, T', L, E, ce, h0, X', hL, e1, e2, ⟨u, hp, hb, hF⟩, hce, hcv, hcl, st⟩
  · cases hv
    obtain ⟨k1, k2, k3⟩ := vx_keep h0 e1 hS hA hf hL hF
    obtain ⟨t2, a1, b1⟩ := kk r u t T'.heap (locs ++ L) e1.symm (by rw [← e2]; exact X'.warmed.alike) hp hb k1 k2 k3 T' rfl X'
    exact ⟨t2, st t2 a1, b1⟩
  · obtain ⟨k1, k2, k3⟩ := vx_keep h0 e1 hS hAX hf hL hF
    obtain ⟨t2, a1, b1⟩ := kx E ce q u t T'.heap (locs ++ L) e1.symm (by rw [← e2]; exact X'.warmed.alike) hp hb k1 k2 k3 (by rw [e1]; exact hce) hcv hcl T' rfl X'
    exact ⟨t2, st.trans a1, b1⟩
theorem vx_calld {S SX : Type} {post : UInt64 → S → Prop} {px : SX → Prop} {B : S → State → Prop} {BX : String → SX → State → Prop} {AX : Nat → Prop} (hr : vx_Run p l e R s m args below meth c H locs cells slots mc ms (F0 m pc ls st0) rest (va_Qd post B A1 a) (vx_X px BX AX) free) (hS : va_S A0 H0 H locs) (hA : ∀ q, q < H.size → A1 q → A0 q) (hf : ∀ q, free q → A0 q) (hAX : ∀ q, q < H.size → AX q → A0 q)
    (kx : ∀ (E : String) (ce : Cell) (q9 : Addr) (u : SX) (t : State) (H1 : Heap) (locs1 : List Loc), t.heap = H1 → s.vm.Alike t.vm → px u → BX E u t → H.size ≤ H1.size → (∀ q : Nat, q < H.size → ¬ AX q → H1[q]? = H[q]?) → va_S A0 H0 H1 locs1 → H1[q9]? = some ce → ce.vm = .none → s.vm.findClass E = some ce.cls → vx_W p l e R s m args below meth c H1 locs1 (cells + mc) (slots + ms) Q (F0 m pc ls rest) q9)
    (kk : ∀ (r : UInt64) (u : S) (t : State) (H1 : Heap) (locs1 : List Loc), t.heap = H1 → s.vm.Alike t.vm → post r u → B u t → H.size ≤ H1.size → (∀ q : Nat, q < H.size → ¬ A1 q → H1[q]? = H[q]?) → va_S A0 H0 H1 locs1 → W p l e R s m args below meth c H1 locs1 (cells + mc) (slots + ms) Q (F0 m (pc + 3) ls (.double r :: rest))) : W p l e R s m args below meth c H locs cells slots Q (F0 m pc ls st0) := by
  intro T hT X
  rcases hr T hT X with ⟨v, st₀, t, T', L, h0, X', hL, e1, e2, ⟨⟨r, u, hv, hp, hb⟩, hF⟩, st⟩ | ⟨q, st₀, t, T', L, E, ce, h0, X', hL, e1, e2, ⟨u, hp, hb, hF⟩, hce, hcv, hcl, st⟩
  · cases hv
    obtain ⟨k1, k2, k3⟩ := vx_keep h0 e1 hS hA hf hL hF
    obtain ⟨t2, a1, b1⟩ := kk r u t T'.heap (locs ++ L) e1.symm (by rw [← e2]; exact X'.warmed.alike) hp hb k1 k2 k3 T' rfl X'
    exact ⟨t2, st t2 a1, b1⟩
  · obtain ⟨k1, k2, k3⟩ := vx_keep h0 e1 hS hAX hf hL hF
    obtain ⟨t2, a1, b1⟩ := kx E ce q u t T'.heap (locs ++ L) e1.symm (by rw [← e2]; exact X'.warmed.alike) hp hb k1 k2 k3 (by rw [e1]; exact hce) hcv hcl T' rfl X'
    exact ⟨t2, st.trans a1, b1⟩
theorem vx_callv {S SX : Type} {post : S → Prop} {px : SX → Prop} {B : S → State → Prop} {BX : String → SX → State → Prop} {AX : Nat → Prop} (hr : vx_Run p l e R s m args below meth c H locs cells slots mc ms (F0 m pc ls st0) rest (va_Qv post B A1 a) (vx_X px BX AX) free) (hS : va_S A0 H0 H locs) (hA : ∀ q, q < H.size → A1 q → A0 q) (hf : ∀ q, free q → A0 q) (hAX : ∀ q, q < H.size → AX q → A0 q)
    (kx : ∀ (E : String) (ce : Cell) (q9 : Addr) (u : SX) (t : State) (H1 : Heap) (locs1 : List Loc), t.heap = H1 → s.vm.Alike t.vm → px u → BX E u t → H.size ≤ H1.size → (∀ q : Nat, q < H.size → ¬ AX q → H1[q]? = H[q]?) → va_S A0 H0 H1 locs1 → H1[q9]? = some ce → ce.vm = .none → s.vm.findClass E = some ce.cls → vx_W p l e R s m args below meth c H1 locs1 (cells + mc) (slots + ms) Q (F0 m pc ls rest) q9)
    (kk : ∀ (u : S) (t : State) (H1 : Heap) (locs1 : List Loc), t.heap = H1 → s.vm.Alike t.vm → post u → B u t → H.size ≤ H1.size → (∀ q : Nat, q < H.size → ¬ A1 q → H1[q]? = H[q]?) → va_S A0 H0 H1 locs1 → W p l e R s m args below meth c H1 locs1 (cells + mc) (slots + ms) Q (F0 m (pc + 3) ls (rest))) : W p l e R s m args below meth c H locs cells slots Q (F0 m pc ls st0) := by
  intro T hT X
  rcases hr T hT X with ⟨v, st₀, t, T', L, h0, X', hL, e1, e2, ⟨⟨u, hv, hp, hb⟩, hF⟩, st⟩ | ⟨q, st₀, t, T', L, E, ce, h0, X', hL, e1, e2, ⟨u, hp, hb, hF⟩, hce, hcv, hcl, st⟩
  · cases hv
    obtain ⟨k1, k2, k3⟩ := vx_keep h0 e1 hS hA hf hL hF
    obtain ⟨t2, a1, b1⟩ := kk u t T'.heap (locs ++ L) e1.symm (by rw [← e2]; exact X'.warmed.alike) hp hb k1 k2 k3 T' rfl X'
    exact ⟨t2, st t2 a1, b1⟩
  · obtain ⟨k1, k2, k3⟩ := vx_keep h0 e1 hS hAX hf hL hF
    obtain ⟨t2, a1, b1⟩ := kx E ce q u t T'.heap (locs ++ L) e1.symm (by rw [← e2]; exact X'.warmed.alike) hp hb k1 k2 k3 (by rw [e1]; exact hce) hcv hcl T' rfl X'
    exact ⟨t2, st.trans a1, b1⟩
/-- caught by the row x of this method's table; the rows ahead don't take it -/
theorem vx_catch {own name : String} {E : String} {ce : Cell} {q : Addr} (hown : s.vm.findClass own = some m.cls) (pre : List ExceptionTableEntry) (x : ExceptionTableEntry) (suf : List ExceptionTableEntry) (hsplit : c.exceptionTable.toList = pre ++ x :: suf)
    (hpass : ∀ z ∈ pre, covers z pc = false ∨ (z.catchType ≠ 0 ∧ ∃ nm : String, (Cond.classLink own z.catchType nm).before args s = true ∧ va_Nc E nm s)) (hx : covers x pc = true) (h0 : x.catchType ≠ 0)
    (hlink : (Cond.classLink own x.catchType name).before args s = true) (hcast : (Cond.castable E name).before args s = true) (hcell : H[q]? = some ce) (hv : ce.vm = .none) (hcl : s.vm.findClass E = some ce.cls)
    (kk : W p l e R s m args below meth c H locs cells slots Q (F0 m x.handlerPc ls [.ref q])) : vx_W p l e R s m args below meth c H locs cells slots Q (F0 m pc ls rest) q := by
  intro T hT X
  have hpl : e.platform.magicAccessors = ({} : Platform).magicAccessors := by rw [X.admits.platform]
  obtain ⟨c3, c4, hc3, hc4, hasg⟩ := Cond.castable_spec hcast
  cases Option.some.inj (hc3.symm.trans hcl)
  obtain ⟨c5, hc5, hcl5⟩ := Cond.classLink_spec hown hlink e.platform hpl
  cases Option.some.inj (hc4.symm.trans hc5)
  obtain ⟨vm', X', st⟩ := X.thenCaughtThrough q (g := F0 m pc ls rest) rfl (Steps.refl _) (by rw [hT]; exact hcell) (by rw [hv]; rfl) (by obtain ⟨k9, h9, -⟩ := Vm.findClass_spec hcl; exact ⟨k9, h9⟩) pre x suf hsplit
    (fun z hz => by
      rcases hpass z hz with h | ⟨hz0, nm, hl1, hn1⟩
      · exact Or.inl h
      · obtain ⟨c6, hc6, hcl6⟩ := Cond.classLink_spec hown hl1 e.platform hpl
        obtain ⟨a8, b8, h1, h2, h3⟩ := hn1
        cases Option.some.inj (h1.symm.trans hcl)
        cases Option.some.inj (h2.symm.trans hc6)
        exact Or.inr ⟨hz0, _, hcl6, h3⟩) hx (Or.inr ⟨h0, c4, hcl5, hasg⟩)
  obtain ⟨t, a1, b1⟩ := kk (T.setVm vm') hT X'
  exact ⟨t, st.trans a1, b1⟩
end Rows
section Ends
variable {p : Program} {l : Launch} {e : Env} {R : Room} {s : State} {m : MethodId} {args : Array Value} {below : List Frame} {meth : Method} {c : Code} {H : Heap} {locs : List Loc} {cells slots : Nat} {Q : State → Prop}
variable {mc ms : Nat} {free : Addr → Prop} {A0 A1 : Nat → Prop} {H0 : Heap} {a : Array Value} {ls : Array Slot} {st0 rest : List Value}
variable {Qc : Array Value → State → Outcome → State → Prop} {XC : String → State → State → Prop}
/-- what a body that may throw owes at its end -/
def vx_MQ (below : List Frame) (Qc : Array Value → State → Outcome → State → Prop) (XC : String → State → State → Prop) (a : Array Value) (s : State) (mc ms : Nat) (free : Addr → Prop) : State → Prop := fun t =>
  ∃ o, t.status = .running ∧ Ended t below o ∧ vx_Q Qc XC mc ms free a s o t
theorem vx_ret {g : JFrame} {mc ms : Nat} (k : W p l e R s m args below meth c H locs cells slots (MQ below Qc args s mc ms free) g) : W p l e R s m args below meth c H locs cells slots (vx_MQ below Qc XC args s mc ms free) g := by
  intro T hT X
  obtain ⟨t, a1, o, b1, b2, b3, b4⟩ := k T hT X
  exact ⟨t, a1, o, b1, b2, Or.inl ⟨b3, b4⟩⟩
/-- not caught here: it goes on to the caller -/
theorem vx_widen {g : JFrame} {q : Addr} {k n : Nat} (h1 : cells ≤ k) (h2 : slots ≤ n) (kk : vx_W p l e R s m args below meth c H locs k n Q g q) : vx_W p l e R s m args below meth c H locs cells slots Q g q := fun T hT X => kk T hT (stand_widen X h1 h2)
theorem vx_out {pc : Nat} {E : String} {ce : Cell} {q : Addr} {mc ms : Nat} (hout : ∀ x ∈ c.exceptionTable.toList, covers x pc = false) (hlocks : meth.locks = false) (hcell : H[q]? = some ce) (hv : ce.vm = .none) (hcl : s.vm.findClass E = some ce.cls)
    (hx : ∀ t : State, t.heap = H → s.vm.Alike t.vm → XC E s t) (hf : ∀ z ∈ locs, free z.base) (hc : cells ≤ mc) (hs : slots ≤ ms) :
    vx_W p l e R s m args below meth c H locs cells slots (vx_MQ below Qc XC args s mc ms free) (F0 m pc ls rest) q := by
  intro T hT X
  obtain ⟨st1, hrun, hend, hW, hsm⟩ := X.leaveThrown q (g := F0 m pc ls rest) rfl rfl rfl hout hlocks
  have hcell9 : (T.setFrames (.throwing q :: below)).heap[q]? = some ce := by
    show T.heap[q]? = some ce
    rw [hT]; exact hcell
  exact ⟨_, st1, .threw q, hrun, hend, Or.inr ⟨q, rfl, E, ce, locs, hx _ hT hW.alike, hcell9, hv, hcl, hW, hsm.mono hc hs, hf⟩⟩
theorem vx_frame {U : State} {k n : Nat} (h : s.sameButNew ({ U with vm := s.vm } : State) locs k n) : s.heap.size ≤ U.heap.size ∧ ∀ q : Nat, q < s.heap.size → (∀ z ∈ locs, z.base ≠ q) → U.heap[q]? = s.heap[q]? := by
  obtain ⟨-, h2, -, -, -, h6⟩ := h
  refine ⟨h2, fun q hq hz => ?_⟩
  obtain ⟨c9, e1, e2, e3, e4⟩ := h6 q _ (Array.getElem?_eq_getElem hq)
  have hs : c9.slots = (s.heap[q]).slots := Array.ext_getElem? fun i => e4 i fun hm => hz _ hm rfl
  have h9 : c9 = s.heap[q] := by
    rw [hs] at e2
    exact e2
  have e5 : U.heap[q]? = some c9 := e1
  rw [e5, h9, Array.getElem?_eq_getElem hq]
/-- the words of a throw but the four that speak of the heap -/
def vx_no (w : Cond) : Bool := decide (w ≠ .isRef (.static Bundle.tN "UNASSIGNED_STACK" Bundle.steD)) && decide (w ≠ .isRef (.static Bundle.tN "SUPPRESSED_SENTINEL" Bundle.listD)) && decide (w ≠ .laysStatic Bundle.tN "UNASSIGNED_STACK" Bundle.steD) && decide (w ≠ .laysStatic Bundle.tN "SUPPRESSED_SENTINEL" Bundle.listD)
def vx_at0 (own : String) (ic : Nat) (X : String) (names : List String) : List Cond := (Bundle.ownAtoms0 own ic X names).filter vx_no
def vx_atS (own : String) (ic : Nat) (X : String) (names : List String) : List Cond := (Bundle.ownAtoms own ic X names).filter vx_no
/-- a word that the tables alone decide, or a good one -/
def vx_ot (w : Cond) : Bool := w.onTables || goodWord w
theorem vx_ot_at {args a' : Array Value} {s U : State} {w : Cond} (hW : s.WarmedH U.vm) (hvm : s.vm = U.vm) (hg : vx_ot w = true) (h : w.before args s = true) : w.before a' U = true := by
  simp only [vx_ot, Bool.or_eq_true] at hg
  rcases hg with hg | hg
  · exact va_tabs hg hvm h
  · exact word_at hW (good_of_word hg) h
/-- a list's words: the good ones out of the method's own list, the others by premises of their own -/
theorem vx_hat {args : Array Value} {s : State} {L B : List Cond} (h1 : ∀ w ∈ L.filter goodWord, w.before args s = true) (h2 : ∀ w ∈ L.filter (fun w => !goodWord w), w ∈ B) (h3 : ∀ w ∈ B, w.before args s = true) : ∀ w ∈ L, w.before args s = true := by
  intro w hw
  by_cases g : goodWord w = true
  · exact h1 w (List.mem_filter.mpr ⟨hw, g⟩)
  · refine h3 w (h2 w (List.mem_filter.mpr ⟨hw, ?_⟩))
    show (!goodWord w) = true
    cases hgw : goodWord w
    · rfl
    · exact absurd hgw g
theorem vx_c {args : Array Value} {s : State} {w : Cond} {B : List Cond} (h : w.before args s = true) (t : ∀ w ∈ B, w.before args s = true) : ∀ w' ∈ w :: B, w'.before args s = true := fun w' h' => (List.mem_cons.mp h').elim (fun e => by rw [e]; exact h) (t w')
theorem vx_n {args : Array Value} {s : State} : ∀ w ∈ ([] : List Cond), w.before args s = true := fun _ h => nomatch h
theorem vx_own {args : Array Value} {s : State} {L : List Cond} (h1 : ∀ w ∈ L.filter vx_no, w.before args s = true)
    (hU : (Cond.isRef (.static Bundle.tN "UNASSIGNED_STACK" Bundle.steD)).before args s = true) (hN : (Cond.isRef (.static Bundle.tN "SUPPRESSED_SENTINEL" Bundle.listD)).before args s = true)
    (lU : (Cond.laysStatic Bundle.tN "UNASSIGNED_STACK" Bundle.steD).before args s = true) (lN : (Cond.laysStatic Bundle.tN "SUPPRESSED_SENTINEL" Bundle.listD).before args s = true) : ∀ w ∈ L, w.before args s = true := by
  intro w hw
  by_cases e1 : w = .isRef (.static Bundle.tN "UNASSIGNED_STACK" Bundle.steD)
  · rw [e1]; exact hU
  · by_cases e2 : w = .isRef (.static Bundle.tN "SUPPRESSED_SENTINEL" Bundle.listD)
    · rw [e2]; exact hN
    · by_cases e3 : w = .laysStatic Bundle.tN "UNASSIGNED_STACK" Bundle.steD
      · rw [e3]; exact lU
      · by_cases e4 : w = .laysStatic Bundle.tN "SUPPRESSED_SENTINEL" Bundle.listD
        · rw [e4]; exact lN
        · exact h1 w (List.mem_filter.mpr ⟨hw, by unfold vx_no; rw [decide_eq_true e1, decide_eq_true e2, decide_eq_true e3, decide_eq_true e4]; rfl⟩)
/-- where a static field lies, its class's statics cell in H -/
def vx_L (C n d : String) (A : Nat → Prop) (U : State) (H : Heap) : Prop := ∃ (c : ClassId) (k : Class) (i : Nat) (f : Field) (a : Nat) (cell : Cell), U.vm.findClass C = some c ∧ U.fieldFound? C n d = some (c, k, i, f) ∧ f.isStatic = true ∧ k.statics = some a ∧ H[a]? = some cell ∧ cell.vm.isStatics = true ∧ cell.cls = c ∧ f.slot < cell.slots.size ∧ k.staticTypes[f.slot]? = some f.type ∧ ¬ A a
theorem vx_L.moved {C n d : String} {A : Nat → Prop} {u U : State} {H : Heap} (hvm : u.vm.Alike U.vm) (h : vx_L C n d A u H) : vx_L C n d A U H := by
  obtain ⟨c, k, i, f, a, cell, h1, h2, h3, h4, h5, h6, h7, h8, h9, h10⟩ := h
  obtain ⟨k', hi', he⟩ := State.fieldFound?_setVm hvm h2
  exact ⟨c, k', i, f, a, cell, by rw [hvm.findClass]; exact h1, hi', h3, by rw [he]; exact h4, h5, h6, h7, h8, by rw [he]; exact h9, h10⟩
theorem vx_L.kept {C n d : String} {A : Nat → Prop} {U : State} {H H1 : Heap} (h : vx_L C n d A U H) (hq : ∀ a : Nat, a < H.size → ¬ A a → H1[a]? = H[a]?) : vx_L C n d A U H1 := by
  obtain ⟨c, k, i, f, a, cell, h1, h2, h3, h4, h5, h6, h7, h8, h9, h10⟩ := h
  exact ⟨c, k, i, f, a, cell, h1, h2, h3, h4, by rw [hq a (Array.getElem?_eq_some_iff.mp h5).1 h10]; exact h5, h6, h7, h8, h9, h10⟩
theorem vx_L.narrow {C n d : String} {A B : Nat → Prop} {U : State} {H : Heap} (h : vx_L C n d A U H) (hAB : ∀ q, B q → A q) : vx_L C n d B U H := by
  obtain ⟨c, k, i, f, a, cell, h1, h2, h3, h4, h5, h6, h7, h8, h9, h10⟩ := h
  exact ⟨c, k, i, f, a, cell, h1, h2, h3, h4, h5, h6, h7, h8, h9, fun z => h10 (hAB _ z)⟩
theorem vx_L.word {C n d : String} {A : Nat → Prop} {s : State} {args : Array Value} (h : vx_L C n d A s s.heap) : (Cond.laysStatic C n d).before args s = true := by
  obtain ⟨c, k, i, f, a, cell, h1, h2, h3, h4, h5, h6, h7, h8, h9, -⟩ := h
  show (Cond.laysStatic C n d).holds args s none s [] = true
  exact Cond.laysStatic_of h1 h2 h3 h4 h5 h6 h7 h8 h9
/-- .. and what it holds: null or some reference -/
def vx_Zq (C n d : String) (A : Nat → Prop) (U : State) (H : Heap) : Prop := va_Zq C n d A U H ∧ vx_L C n d A U H
theorem vx_Zq.moved {C n d : String} {A : Nat → Prop} {u U : State} {H : Heap} (hvm : u.vm.Alike U.vm) (h : vx_Zq C n d A u H) : vx_Zq C n d A U H := ⟨va_Zq.moved hvm h.1, vx_L.moved hvm h.2⟩
theorem vx_Zq.kept {C n d : String} {A : Nat → Prop} {U : State} {H H1 : Heap} (h : vx_Zq C n d A U H) (hq : ∀ a : Nat, a < H.size → ¬ A a → H1[a]? = H[a]?) : vx_Zq C n d A U H1 := ⟨va_Zq.kept h.1 hq, vx_L.kept h.2 hq⟩
theorem vx_Zq.narrow {C n d : String} {A B : Nat → Prop} {U : State} {H : Heap} (h : vx_Zq C n d A U H) (hAB : ∀ q, B q → A q) : vx_Zq C n d B U H := ⟨va_Zq.narrow h.1 hAB, vx_L.narrow h.2 hAB⟩
theorem vx_Zqof {args : Array Value} {s : State} {C n d : String} {A : Nat → Prop} (hl : (Cond.laysStatic C n d).before args s = true) (hini : (Cond.initialized C).before args s = true) (h : (Cond.isRef (.static C n d)).before args s = true) (hA : ∀ a : Nat, a < s.heap.size → ¬ A a) : vx_Zq C n d A s s.heap := by
  refine ⟨va_Zqof hl hini h hA, ?_⟩
  obtain ⟨c, k, i, f, a, cell, h1, h2, h3, h4, h5, h6, h7, h8, h9⟩ := Cond.laysStatic_spec hl
  exact ⟨c, k, i, f, a, cell, h1, h2, h3, h4, h5, h6, h7, h8, h9, hA a (Array.getElem?_eq_some_iff.mp h5).1⟩
theorem vx_isRef {C n d : String} {v : Value} {A : Nat → Prop} {s : State} {args : Array Value} (h : va_Z C n d v A s s.heap) (hv : v.isRef = true) : (Cond.isRef (.static C n d)).before args s = true := by
  obtain ⟨cf, kf, fi, f, a, cell, h1, h2, h3, h4, h5, h6, h7, -⟩ := h
  have he : (Term.static C n d).eval args s none [] s = some v := by
    simp [Term.eval, State.fieldNamed?, h1, h2, h4, h5, h6, h7]
  simp only [Cond.before, Cond.holds, Cond.value, he]
  cases v <;> simp_all [Value.isRef]
theorem vx_isRefq {C n d : String} {A : Nat → Prop} {s : State} {args : Array Value} (h : va_Zq C n d A s s.heap) : (Cond.isRef (.static C n d)).before args s = true := by
  rcases h with h | ⟨t, h⟩
  · exact vx_isRef h rfl
  · exact vx_isRef h rfl
/-- the same frame, seen from here: as if the method were called anew in this heap -/
theorem vx_rebase {T : State} (X : Stand p l e R s m args below meth c T locs cells slots) {R' : Room} (hf : R'.frames ≤ R.frames) (hl : R'.locals ≤ R.locals) (hc : cells + R'.cells ≤ R.cells) (hs : slots + R'.slots ≤ R.slots) :
    Stand p l e R' ((T.setVm s.vm).setFrames (.invoking m args :: below)) m args below meth c T [] 0 0 := by
  have htop : (T.setVm s.vm).topJava?.isSome := X.here.top
  have hF : ((T.setVm s.vm).setFrames (.invoking m args :: below)).frames = .invoking m args :: below := State.frames_setFrames _ (State.cur_lt_of_top htop)
  obtain ⟨g₀, hg0⟩ := Option.isSome_iff_exists.mp htop
  obtain ⟨r, hr⟩ := State.topJava?_eq_some.mp hg0
  have hl9 : e.platform.stackLimits (T.setVm s.vm).me = e.platform.stackLimits s.me := X.limits
  have hb9 : (T.setVm s.vm).me.stackBytes = s.me.stackBytes := X.bytes
  refine ⟨X.admits, X.cas, X.clock, hF, ?_, X.hears, X.method, X.code, X.here, X.tail, X.warmed, ?_, ?_, ?_⟩
  · have h := X.room
    have hU : ((T.setVm s.vm).setFrames (.invoking m args :: below)).localsInUse = s.localsInUse := by
      rw [State.localsInUse_invoking hF (meth := meth) (c := c) X.method X.code, State.localsInUse_invoking X.frames X.method X.code]
    simp only [State.hasRoom, Bool.and_eq_true, decide_eq_true_eq] at h ⊢
    obtain ⟨⟨⟨⟨h1, h2, h3, h4, h5, h6⟩, h7⟩, h8⟩, h9⟩ := h
    rw [X.frames, List.length_cons] at h2 h3
    have q1 := X.heapSize
    have q2 := X.used
    simp only [hF, hU, List.length_cons, State.stackLimits_setFrames, State.stackBytes_setFrames, hl9, hb9]
    refine ⟨⟨⟨⟨by omega, by omega, by omega, by omega, by omega, h6⟩, ?_⟩, ?_⟩, X.book⟩
    · show T.heap.size + R'.cells ≤ e.platform.maxCells
      omega
    · show T.slotsUsed + R'.slots ≤ e.platform.maxSlots
      omega
  · rw [State.stackLimits_setFrames]; rfl
  · rw [State.stackBytes_setFrames]; rfl
  · refine ⟨?_, Nat.le_refl _, Nat.le_refl _, ?_, ?_, fun a c9 h9 => ⟨c9, h9, rfl, rfl, fun _ _ => rfl⟩⟩
    · obtain ⟨t, ht, -⟩ := State.frames_cons hr
      show T.setVm s.vm = { ((T.setVm s.vm).setFrames (.invoking m args :: below)).setFrames (T.setVm s.vm).frames with heap := T.heap, slotsUsed := T.slotsUsed }
      rw [State.setFrames_setFrames, State.setFrames_self ht]
      rfl
    · show T.slotsUsed = T.slotsUsed + ((T.heap.toList.drop T.heap.size).map (·.slots.size)).sum
      rw [List.drop_eq_nil_of_le (Nat.le_of_eq Array.length_toList)]
      rfl
    · show ((T.heap.toList.drop T.heap.size).map (·.slots.size)).sum ≤ 0
      rw [List.drop_eq_nil_of_le (Nat.le_of_eq Array.length_toList)]
      exact Nat.le_refl _
/-- 'throw new E()': new; dup; invokespecial; athrow -/
theorem vx_throw0 {cc : ByteArray} {pc : Nat} (hexec : p.tables.exec = Jvm.exec) (hb : c.code = cc) (hl : l.stackTraces = false) {own cls : String} {names : List String} {ik ic mc ms : Nat} {A : Nat → Prop}
    (hown : s.vm.findClass own = some m.cls) (hcls : Bundle.fit cls = true) (hnames : ∀ n ∈ names, Bundle.fit n = true)
    (hk : (Cond.classLink own ik cls).before args s = true) (hini : (Cond.initialized cls).before args s = true) (hat : ∀ w ∈ vx_at0 own ic cls names, w.before args s = true)
    (hgood : ∀ w ∈ Cond.classLink own ik cls :: Cond.initialized cls :: vx_at0 own ic cls names, vx_ot w = true)
    (hU : vx_Zq Bundle.tN "UNASSIGNED_STACK" Bundle.steD A s s.heap) (hN : vx_Zq Bundle.tN "SUPPRESSED_SENTINEL" Bundle.listD A s s.heap) (hS : va_S A s.heap H locs) (hsize : ls.size = c.maxLocals)
    (d0 : decode cc pc = .ok (.new ik, 3)) (d3 : decode cc (pc + 3) = .ok (.dup, 1)) (d4 : decode cc (pc + 4) = .ok (.invokespecial ic, 3)) (d7 : decode cc (pc + 7) = .ok (.athrow, 1))
    (hout : ∀ x ∈ c.exceptionTable.toList, covers x (pc + 7) = false)
    (hRframes : names.length + 3 < R.frames) (hRlocals : (rest.map fun v => v.category).sum + (13 * (names.length + 1) + 42) ≤ R.locals) (hRcells : cells + 1 ≤ R.cells) (hRslots : slots + 6 ≤ R.slots) (hlocks : meth.locks = false)
    (hx : ∀ t : State, s.vm.Alike t.vm → H.size ≤ t.heap.size → (∀ q : Nat, q < H.size → t.heap[q]? = H[q]?) → XC cls s t)
    (hf : ∀ z ∈ locs, free z.base) (hc : cells + 1 ≤ mc) (hs : slots + 6 ≤ ms) :
    W p l e R s m args below meth c H locs cells slots (vx_MQ below Qc XC args s mc ms free) (F0 m pc ls rest) := by
  intro T hT X
  have htr : e.platform.stackTraces = false := (show e.platform.stackTraces = l.stackTraces by rw [X.admits.platform]).trans hl
  have Y := vx_rebase X (R' := { frames := R.frames, locals := R.locals, cells := 1, slots := 6 }) (Nat.le_refl _) (Nat.le_refl _) hRcells hRslots
  obtain ⟨s', hA⟩ : ∃ z, z = (T.setVm s.vm).setFrames (.invoking m args :: below) := ⟨_, rfl⟩
  rw [← hA] at Y
  have hvm : s'.vm = s.vm := by rw [hA]; rfl
  have hhp : s'.heap = H := by rw [hA]; exact hT
  have hW0 : s.WarmedH s'.vm := by rw [hvm]; exact State.WarmedH.refl s
  have hat' : ∀ w ∈ vx_at0 own ic cls names, w.before args s' = true := fun w hw => vx_ot_at hW0 hvm.symm (hgood w (List.mem_cons_of_mem _ (List.mem_cons_of_mem _ hw))) (hat w hw)
  have hk' : (Cond.classLink own ik cls).before args s' = true := vx_ot_at hW0 hvm.symm (hgood _ List.mem_cons_self) hk
  have hini' : (Cond.initialized cls).before args s' = true := vx_ot_at hW0 hvm.symm (hgood _ (List.mem_cons_of_mem _ List.mem_cons_self)) hini
  have hU' : vx_Zq Bundle.tN "UNASSIGNED_STACK" Bundle.steD A s' s'.heap := by rw [hhp]; exact vx_Zq.moved hW0.alike (hU.kept hS.2.1)
  have hN' : vx_Zq Bundle.tN "SUPPRESSED_SENTINEL" Bundle.listD A s' s'.heap := by rw [hhp]; exact vx_Zq.moved hW0.alike (hN.kept hS.2.1)
  have h : ∀ w ∈ Bundle.ownAtoms0 own ic cls names, w.before args s' = true := vx_own hat' (vx_isRefq hU'.1) (vx_isRefq hN'.1) hU'.2.word hN'.2.word
  have hown' : s'.vm.findClass own = some m.cls := by rw [hvm]; exact hown
  have hins : (Cond.instantiable cls 6).before args s' = true := h _ (by simp [Bundle.ownAtoms0])
  obtain ⟨vm₁, cX, kX, hfX, hkX, -, -, X₁, st1⟩ := Y.newCold hexec (own := own) (C := cls) (index := ik) (n := 6) hown' hk' hins hini'
    (g := F0 m pc ls rest) rfl (by rw [hb]; exact d0) (Nat.le_refl _) (Nat.le_refl _)
  generalize hT1 : (T.setVm vm₁).pushCell { cls := cX, slots := kX.instanceTypes.map defaultValue, vm := .none } = T1 at X₁ st1
  have hcat : (Value.ref T.heap.size).category = 1 := rfl
  have hcellA : T1.heap[T.heap.size]? = some (freshCell cX kX) := by rw [← hT1]; exact State.heap_pushCell_size _ _
  have d3' : decode c.code (pc + 3) = .ok (.dup, 1) := by rw [hb]; exact d3
  obtain ⟨U, hsteps, hrun, hend, hW, hsame, ce, hce, hO⟩ := X₁.ctorThrow0 hexec htr (own := own) (cls := cls) (names := names) (ic := ic) hown' hcls hnames h (fun x hx => nomatch hx) hfX hkX hcellA (by rw [hhp, hT]; exact Nat.le_refl _)
    (g := { method := m, pc := pc + 4, locals := ls, stack := .ref T.heap.size :: .ref T.heap.size :: rest, locked := none }) rfl hsize rfl rfl (rest := rest) rfl
    (by rw [hb]; exact d4) (by rw [hb]; exact d7) hout hRframes (by simp only [List.map_cons, List.sum_cons, hcat]; omega) hlocks
  obtain ⟨f1, f2⟩ := vx_frame hsame
  rw [hhp] at f1 f2
  have hWs : s.WarmedH U.vm := State.WarmedH.trans hW0 hW
  have hcl : s.vm.findClass cls = some ce.cls := by
    have h9 := hO.cls
    rw [hvm] at h9
    exact h9
  have hall : s.sameButNew ({ U with vm := s.vm } : State) locs mc ms := by
    subst hA
    obtain ⟨e1, e2⟩ := hsame
    rw [State.setFrames_setFrames] at e1
    have h2 : (T.setVm s.vm).sameButNew ({ U with vm := s.vm } : State) [] (0 + 1) (0 + 6) := ⟨e1, e2⟩
    have h3 := X.same.trans h2
    rw [List.append_nil] at h3
    exact h3.mono hc hs
  refine ⟨U, ?_, .threw T.heap.size, hrun, hend, Or.inr ⟨T.heap.size, rfl, cls, ce, locs, hx U hWs.alike f1 (fun q hq => f2 q hq (fun z hz => nomatch hz)), hce, hO.vm, hcl, hWs, hall, hf⟩⟩
  refine st1 _ ?_
  show Steps p.tables e below (T1.setTop { method := m, pc := pc + 3, locals := ls, stack := .ref T.heap.size :: rest, locked := none }) _
  jvm_step X₁.here [X₁.here.top, hexec, d3', Value.category]
  exact hsteps
/-- 'throw new E("text")': new; dup; ldc; invokespecial; athrow -/
theorem vx_throwS {cc : ByteArray} {pc : Nat} (hexec : p.tables.exec = Jvm.exec) (hb : c.code = cc) (hl : l.stackTraces = false) {own cls text : String} {names : List String} {ik is ic mc ms sa : Nat} {A : Nat → Prop}
    (hown : s.vm.findClass own = some m.cls) (hcls : Bundle.fit cls = true) (hnames : ∀ n ∈ names, Bundle.fit n = true)
    (hk : (Cond.classLink own ik cls).before args s = true) (hini : (Cond.initialized cls).before args s = true) (hstr : vk_R own is text sa s) (hat : ∀ w ∈ vx_atS own ic cls names, w.before args s = true)
    (hgood : ∀ w ∈ Cond.classLink own ik cls :: Cond.initialized cls :: vx_atS own ic cls names, vx_ot w = true)
    (hU : vx_Zq Bundle.tN "UNASSIGNED_STACK" Bundle.steD A s s.heap) (hN : vx_Zq Bundle.tN "SUPPRESSED_SENTINEL" Bundle.listD A s s.heap) (hS : va_S A s.heap H locs) (hsize : ls.size = c.maxLocals)
    (d0 : decode cc pc = .ok (.new ik, 3)) (d3 : decode cc (pc + 3) = .ok (.dup, 1)) (d4 : decode cc (pc + 4) = .ok (.ldc is, 2)) (d6 : decode cc (pc + 6) = .ok (.invokespecial ic, 3)) (d9 : decode cc (pc + 9) = .ok (.athrow, 1))
    (hout : ∀ x ∈ c.exceptionTable.toList, covers x (pc + 9) = false)
    (hRframes : names.length + 3 < R.frames) (hRlocals : (rest.map fun v => v.category).sum + (13 * (names.length + 1) + 43) ≤ R.locals) (hRcells : cells + 1 ≤ R.cells) (hRslots : slots + 6 ≤ R.slots) (hlocks : meth.locks = false)
    (hx : ∀ t : State, s.vm.Alike t.vm → H.size ≤ t.heap.size → (∀ q : Nat, q < H.size → t.heap[q]? = H[q]?) → XC cls s t)
    (hf : ∀ z ∈ locs, free z.base) (hc : cells + 1 ≤ mc) (hs : slots + 6 ≤ ms) :
    W p l e R s m args below meth c H locs cells slots (vx_MQ below Qc XC args s mc ms free) (F0 m pc ls rest) := by
  intro T hT X
  have htr : e.platform.stackTraces = false := (show e.platform.stackTraces = l.stackTraces by rw [X.admits.platform]).trans hl
  have Y := vx_rebase X (R' := { frames := R.frames, locals := R.locals, cells := 1, slots := 6 }) (Nat.le_refl _) (Nat.le_refl _) hRcells hRslots
  obtain ⟨s', hA⟩ : ∃ z, z = (T.setVm s.vm).setFrames (.invoking m args :: below) := ⟨_, rfl⟩
  rw [← hA] at Y
  have hvm : s'.vm = s.vm := by rw [hA]; rfl
  have hhp : s'.heap = H := by rw [hA]; exact hT
  have hW0 : s.WarmedH s'.vm := by rw [hvm]; exact State.WarmedH.refl s
  have hat' : ∀ w ∈ vx_atS own ic cls names, w.before args s' = true := fun w hw => vx_ot_at hW0 hvm.symm (hgood w (List.mem_cons_of_mem _ (List.mem_cons_of_mem _ hw))) (hat w hw)
  have hk' : (Cond.classLink own ik cls).before args s' = true := vx_ot_at hW0 hvm.symm (hgood _ List.mem_cons_self) hk
  have hini' : (Cond.initialized cls).before args s' = true := vx_ot_at hW0 hvm.symm (hgood _ (List.mem_cons_of_mem _ List.mem_cons_self)) hini
  have hU' : vx_Zq Bundle.tN "UNASSIGNED_STACK" Bundle.steD A s' s'.heap := by rw [hhp]; exact vx_Zq.moved hW0.alike (hU.kept hS.2.1)
  have hN' : vx_Zq Bundle.tN "SUPPRESSED_SENTINEL" Bundle.listD A s' s'.heap := by rw [hhp]; exact vx_Zq.moved hW0.alike (hN.kept hS.2.1)
  have h : ∀ w ∈ Bundle.ownAtoms own ic cls names, w.before args s' = true := vx_own hat' (vx_isRefq hU'.1) (vx_isRefq hN'.1) hU'.2.word hN'.2.word
  have hown' : s'.vm.findClass own = some m.cls := by rw [hvm]; exact hown
  have hins : (Cond.instantiable cls 6).before args s' = true := h _ (by simp [Bundle.ownAtoms])
  obtain ⟨vm₁, cX, kX, hfX, hkX, -, -, X₁, st1⟩ := Y.newCold hexec (own := own) (C := cls) (index := ik) (n := 6) hown' hk' hins hini'
    (g := F0 m pc ls rest) rfl (by rw [hb]; exact d0) (Nat.le_refl _) (Nat.le_refl _)
  generalize hT1 : (T.setVm vm₁).pushCell { cls := cX, slots := kX.instanceTypes.map defaultValue, vm := .none } = T1 at X₁ st1
  have hcat : (Value.ref T.heap.size).category = 1 := rfl
  have hcellA : T1.heap[T.heap.size]? = some (freshCell cX kX) := by rw [← hT1]; exact State.heap_pushCell_size _ _
  have d3' : decode c.code (pc + 3) = .ok (.dup, 1) := by rw [hb]; exact d3
  have d4' : decode c.code (pc + 4) = .ok (.ldc is, 2) := by rw [hb]; exact d4
  have hstr' : vk_R own is text sa s' := vk_R.warm hW0 hstr
  obtain ⟨U, hsteps, hrun, hend, hW, hsame, ce, hce, hO⟩ := X₁.ctorThrowS hexec htr (own := own) (cls := cls) (names := names) (ic := ic) hown' hcls hnames h (fun x hx => nomatch hx) hfX hkX hcellA (by rw [hhp, hT]; exact Nat.le_refl _) (msg := .ref sa) rfl
    (g := { method := m, pc := pc + 6, locals := ls, stack := .ref sa :: .ref T.heap.size :: .ref T.heap.size :: rest, locked := none }) rfl hsize rfl rfl (rest := rest) rfl
    (by rw [hb]; exact d6) (by rw [hb]; exact d9) hout hRframes (by simp only [List.map_cons, List.sum_cons, hcat]; omega) hlocks
  obtain ⟨f1, f2⟩ := vx_frame hsame
  rw [hhp] at f1 f2
  have hWs : s.WarmedH U.vm := State.WarmedH.trans hW0 hW
  have hcl : s.vm.findClass cls = some ce.cls := by
    have h9 := hO.cls
    rw [hvm] at h9
    exact h9
  have hall : s.sameButNew ({ U with vm := s.vm } : State) locs mc ms := by
    subst hA
    obtain ⟨e1, e2⟩ := hsame
    rw [State.setFrames_setFrames] at e1
    have h2 : (T.setVm s.vm).sameButNew ({ U with vm := s.vm } : State) [] (0 + 1) (0 + 6) := ⟨e1, e2⟩
    have h3 := X.same.trans h2
    rw [List.append_nil] at h3
    exact h3.mono hc hs
  refine ⟨U, ?_, .threw T.heap.size, hrun, hend, Or.inr ⟨T.heap.size, rfl, cls, ce, locs, hx U hWs.alike f1 (fun q hq => f2 q hq (fun z hz => nomatch hz)), hce, hO.vm, hcl, hWs, hall, hf⟩⟩
  refine st1 _ ?_
  show Steps p.tables e below (T1.setTop { method := m, pc := pc + 3, locals := ls, stack := .ref T.heap.size :: rest, locked := none }) _
  jvm_step X₁.here [X₁.here.top, hexec, d3', Value.category]
  exact X₁.ldcString hexec (own := own) (text := text) (index := is) (a := sa) hown' hstr'.1 hstr'.2
    (g := { method := m, pc := pc + 4, locals := ls, stack := .ref T.heap.size :: .ref T.heap.size :: rest, locked := none }) rfl d4' _ hsteps
/-- 'throw new E("text")', the text by a wide index -/
theorem vx_throwSW {cc : ByteArray} {pc : Nat} (hexec : p.tables.exec = Jvm.exec) (hb : c.code = cc) (hl : l.stackTraces = false) {own cls text : String} {names : List String} {ik is ic mc ms sa : Nat} {A : Nat → Prop}
    (hown : s.vm.findClass own = some m.cls) (hcls : Bundle.fit cls = true) (hnames : ∀ n ∈ names, Bundle.fit n = true)
    (hk : (Cond.classLink own ik cls).before args s = true) (hini : (Cond.initialized cls).before args s = true) (hstr : vk_R own is text sa s) (hat : ∀ w ∈ vx_atS own ic cls names, w.before args s = true)
    (hgood : ∀ w ∈ Cond.classLink own ik cls :: Cond.initialized cls :: vx_atS own ic cls names, vx_ot w = true)
    (hU : vx_Zq Bundle.tN "UNASSIGNED_STACK" Bundle.steD A s s.heap) (hN : vx_Zq Bundle.tN "SUPPRESSED_SENTINEL" Bundle.listD A s s.heap) (hS : va_S A s.heap H locs) (hsize : ls.size = c.maxLocals)
    (d0 : decode cc pc = .ok (.new ik, 3)) (d3 : decode cc (pc + 3) = .ok (.dup, 1)) (d4 : decode cc (pc + 4) = .ok (.ldc_w is, 3)) (d7 : decode cc (pc + 7) = .ok (.invokespecial ic, 3)) (d10 : decode cc (pc + 10) = .ok (.athrow, 1))
    (hout : ∀ x ∈ c.exceptionTable.toList, covers x (pc + 10) = false)
    (hRframes : names.length + 3 < R.frames) (hRlocals : (rest.map fun v => v.category).sum + (13 * (names.length + 1) + 43) ≤ R.locals) (hRcells : cells + 1 ≤ R.cells) (hRslots : slots + 6 ≤ R.slots) (hlocks : meth.locks = false)
    (hx : ∀ t : State, s.vm.Alike t.vm → H.size ≤ t.heap.size → (∀ q : Nat, q < H.size → t.heap[q]? = H[q]?) → XC cls s t)
    (hf : ∀ z ∈ locs, free z.base) (hc : cells + 1 ≤ mc) (hs : slots + 6 ≤ ms) :
    W p l e R s m args below meth c H locs cells slots (vx_MQ below Qc XC args s mc ms free) (F0 m pc ls rest) := by
  intro T hT X
  have htr : e.platform.stackTraces = false := (show e.platform.stackTraces = l.stackTraces by rw [X.admits.platform]).trans hl
  have Y := vx_rebase X (R' := { frames := R.frames, locals := R.locals, cells := 1, slots := 6 }) (Nat.le_refl _) (Nat.le_refl _) hRcells hRslots
  obtain ⟨s', hA⟩ : ∃ z, z = (T.setVm s.vm).setFrames (.invoking m args :: below) := ⟨_, rfl⟩
  rw [← hA] at Y
  have hvm : s'.vm = s.vm := by rw [hA]; rfl
  have hhp : s'.heap = H := by rw [hA]; exact hT
  have hW0 : s.WarmedH s'.vm := by rw [hvm]; exact State.WarmedH.refl s
  have hat' : ∀ w ∈ vx_atS own ic cls names, w.before args s' = true := fun w hw => vx_ot_at hW0 hvm.symm (hgood w (List.mem_cons_of_mem _ (List.mem_cons_of_mem _ hw))) (hat w hw)
  have hk' : (Cond.classLink own ik cls).before args s' = true := vx_ot_at hW0 hvm.symm (hgood _ List.mem_cons_self) hk
  have hini' : (Cond.initialized cls).before args s' = true := vx_ot_at hW0 hvm.symm (hgood _ (List.mem_cons_of_mem _ List.mem_cons_self)) hini
  have hU' : vx_Zq Bundle.tN "UNASSIGNED_STACK" Bundle.steD A s' s'.heap := by rw [hhp]; exact vx_Zq.moved hW0.alike (hU.kept hS.2.1)
  have hN' : vx_Zq Bundle.tN "SUPPRESSED_SENTINEL" Bundle.listD A s' s'.heap := by rw [hhp]; exact vx_Zq.moved hW0.alike (hN.kept hS.2.1)
  have h : ∀ w ∈ Bundle.ownAtoms own ic cls names, w.before args s' = true := vx_own hat' (vx_isRefq hU'.1) (vx_isRefq hN'.1) hU'.2.word hN'.2.word
  have hown' : s'.vm.findClass own = some m.cls := by rw [hvm]; exact hown
  have hins : (Cond.instantiable cls 6).before args s' = true := h _ (by simp [Bundle.ownAtoms])
  obtain ⟨vm₁, cX, kX, hfX, hkX, -, -, X₁, st1⟩ := Y.newCold hexec (own := own) (C := cls) (index := ik) (n := 6) hown' hk' hins hini'
    (g := F0 m pc ls rest) rfl (by rw [hb]; exact d0) (Nat.le_refl _) (Nat.le_refl _)
  generalize hT1 : (T.setVm vm₁).pushCell { cls := cX, slots := kX.instanceTypes.map defaultValue, vm := .none } = T1 at X₁ st1
  have hcat : (Value.ref T.heap.size).category = 1 := rfl
  have hcellA : T1.heap[T.heap.size]? = some (freshCell cX kX) := by rw [← hT1]; exact State.heap_pushCell_size _ _
  have d3' : decode c.code (pc + 3) = .ok (.dup, 1) := by rw [hb]; exact d3
  have d4' : decode c.code (pc + 4) = .ok (.ldc_w is, 3) := by rw [hb]; exact d4
  have hstr' : vk_R own is text sa s' := vk_R.warm hW0 hstr
  obtain ⟨U, hsteps, hrun, hend, hW, hsame, ce, hce, hO⟩ := X₁.ctorThrowS hexec htr (own := own) (cls := cls) (names := names) (ic := ic) hown' hcls hnames h (fun x hx => nomatch hx) hfX hkX hcellA (by rw [hhp, hT]; exact Nat.le_refl _) (msg := .ref sa) rfl
    (g := { method := m, pc := pc + 7, locals := ls, stack := .ref sa :: .ref T.heap.size :: .ref T.heap.size :: rest, locked := none }) rfl hsize rfl rfl (rest := rest) rfl
    (by rw [hb]; exact d7) (by rw [hb]; exact d10) hout hRframes (by simp only [List.map_cons, List.sum_cons, hcat]; omega) hlocks
  obtain ⟨f1, f2⟩ := vx_frame hsame
  rw [hhp] at f1 f2
  have hWs : s.WarmedH U.vm := State.WarmedH.trans hW0 hW
  have hcl : s.vm.findClass cls = some ce.cls := by
    have h9 := hO.cls
    rw [hvm] at h9
    exact h9
  have hall : s.sameButNew ({ U with vm := s.vm } : State) locs mc ms := by
    subst hA
    obtain ⟨e1, e2⟩ := hsame
    rw [State.setFrames_setFrames] at e1
    have h2 : (T.setVm s.vm).sameButNew ({ U with vm := s.vm } : State) [] (0 + 1) (0 + 6) := ⟨e1, e2⟩
    have h3 := X.same.trans h2
    rw [List.append_nil] at h3
    exact h3.mono hc hs
  refine ⟨U, ?_, .threw T.heap.size, hrun, hend, Or.inr ⟨T.heap.size, rfl, cls, ce, locs, hx U hWs.alike f1 (fun q hq => f2 q hq (fun z hz => nomatch hz)), hce, hO.vm, hcl, hWs, hall, hf⟩⟩
  refine st1 _ ?_
  show Steps p.tables e below (T1.setTop { method := m, pc := pc + 3, locals := ls, stack := .ref T.heap.size :: rest, locked := none }) _
  jvm_step X₁.here [X₁.here.top, hexec, d3', Value.category]
  exact X₁.ldcStringW hexec (own := own) (text := text) (index := is) (a := sa) hown' hstr'.1 hstr'.2
    (g := { method := m, pc := pc + 4, locals := ls, stack := .ref T.heap.size :: .ref T.heap.size :: rest, locked := none }) rfl d4' _ hsteps
end Ends
section Bodies
variable {l : Launch}
theorem vx_ofW {y : MethodName} {ws ws' : List Cond} {rm : Room} {Pc : Array Value → State → Prop} {Qc : Array Value → State → Outcome → State → Prop} {XC : String → State → State → Prop} {mc ms : Nat} {free : Addr → Prop} {cc : ByteArray} {maxL : Nat} {ret : Option FieldType}
    (hy : plainName y.cls = true) (hw : ws = Cond.code y cc maxL ret :: ws')
    (body : ∀ p e s m args below meth c s₁, BodyLoose p l y (headSpec ws rm) cc maxL ret e s m args below meth c s₁ → c.maxLocals = maxL → (∀ x ∈ c.exceptionTable.toList, False) → Pc args s →
      W p l e (headSpec ws rm).room s m args below meth c s.heap [] 0 0 (vx_MQ below Qc XC args s mc ms free) (entryFrame m args maxL)) : vx_Met l y ws rm Pc Qc XC mc ms free := by
  refine MetFree.of_bodyS (code := cc) (maxLocals := maxL) (ret := ret) hy ?_ ?_
  · intro args s m h hn
    obtain ⟨meth, c, h1, h2, h3, h4, h5, h6, -, -⟩ := Cond.code_spec hn (atoms_spec (ws := ws) h _ (by rw [hw]; exact List.mem_cons_self))
    exact ⟨meth, c, h1, h2, h3, h4, h5, h6⟩
  · intro p e s m args below meth c s₁ B hml hP _
    have hh0 : s₁.heap = s.heap := by rw [B.state]; rfl
    have ht : ∀ x ∈ c.exceptionTable.toList, False := by
      obtain ⟨meth9, c9, h1, h2, -, -, -, -, h7, -⟩ := Cond.code_spec B.named (atoms_spec (ws := ws) B.pre _ (by rw [hw]; exact List.mem_cons_self))
      cases Option.some.inj (h1.symm.trans B.method)
      cases Option.some.inj (h2.symm.trans (Stand.of_body B).code)
      intro x hx
      rw [Array.isEmpty_iff.mp h7] at hx
      cases hx
    obtain ⟨t, a1, o, b1, b2, b3⟩ := body p e s m args below meth c s₁ B hml ht hP s₁ hh0 (Stand.of_body B)
    exact ⟨t, o, a1, b1, b2, b3⟩
/-- the table of a body with handlers -/
theorem vx_table {p : Program} {x y : MethodName} {S : Spec} {cc bytes : ByteArray} {maxL maxL' : Nat} {ret ret' : Option FieldType} {e : Env} {s s₁ : State} {m : MethodId} {args : Array Value} {below : List Frame} {meth : Method} {c : Code} {hh : List (Nat × Nat × Nat × Nat)}
    (B : BodyLoose p l y S cc maxL ret e s m args below meth c s₁) (h : (Cond.codeWith y bytes maxL' ret' hh).before args s = true) : c.exceptionTable.toList = tableOf hh := by
  obtain ⟨m9, meth9, c9, hn9, h1, h2, -, -, h6, -⟩ := Cond.codeWith_spec h
  cases Option.some.inj (hn9.symm.trans B.named)
  cases Option.some.inj (h1.symm.trans B.method)
  cases Option.some.inj (h2.symm.trans (Stand.of_body B).code)
  rw [← h6, table_eq]
end Bodies
end VXA
/-! ===== END ===== -/
/-! ===== BEGIN a static call of a method with an exception table ===== -/
section VXS
variable {p : Program} {l : Launch} {e : Env} {R : Room} {s : State} {m : MethodId} {args : Array Value} {below : List Frame} {meth : Method} {c : Code} {T : State} {H : Heap} {locs : List Loc} {cells slots : Nat}
abbrev vx_CSW (R : Room) (s : State) (args : Array Value) (own : String) (index : Nat) (y : MethodName) (bytes : ByteArray) (maxL : Nat) (ret : Option FieldType) (hh : List (Nat × Nat × Nat × Nat)) (ws : List Cond) (rm : Room) (mc ms n : Nat) : Prop :=
  (rm.cells = mc ∧ rm.slots = ms ∧ rm.frames + 1 ≤ R.frames ∧ 8 + (maxL + 11) + rm.locals ≤ R.locals ∧ (∀ w ∈ ws, ∀ (a' : Array Value) (U : State), s.WarmedH U.vm → w.before a' U = true) ∧ Cond.codeWith y bytes maxL ret hh ∈ ws) ∧
  (Cond.codeWith y bytes maxL ret hh).before args s = true ∧ (Cond.initialized y.cls).before args s = true ∧ (y.cls ≠ "java/lang/invoke/MethodHandle" ∧ y.cls ≠ "java/lang/invoke/VarHandle") ∧
  (∀ sig, parseMethodDescriptor y.desc = some sig → n = sig.parameters.length) ∧ (Cond.methodLink own index y).before args s = true ∧ (Cond.static y).before args s = true
theorem vx_cwSW {own : String} {index maxL mc ms : Nat} {y : MethodName} {bytes : ByteArray} {ret : Option FieldType} {hh : List (Nat × Nat × Nat × Nat)} {Ts ws ws' : List Cond} {rm : Room} (n : Nat) (ht : ∀ w ∈ Ts, w.before args s = true) (hT : GoodIn Ts (va_wsS own index y ws)) (hw : ws = Cond.codeWith y bytes maxL ret hh :: ws') (hrc : rm.cells = mc) (hrs : rm.slots = ms)
    (hd : y.cls ≠ "java/lang/invoke/MethodHandle" ∧ y.cls ≠ "java/lang/invoke/VarHandle" ∧ (parseMethodDescriptor y.desc).map (fun d => d.parameters.length) = some n) (hR : rm.frames + 1 ≤ R.frames ∧ 8 + (maxL + 11) + rm.locals ≤ R.locals) :
    vx_CSW R s args own index y bytes maxL ret hh ws rm mc ms n := by
  have ok : ∀ w ∈ va_wsS own index y ws, w.before args s = true := fun w h => ht w (hT w h).1
  have hG : GoodIn Ts ws := fun w h => hT w (by unfold va_wsS; exact List.mem_append_right _ h)
  have hc : Cond.codeWith y bytes maxL ret hh ∈ ws := by rw [hw]; exact List.mem_cons_self
  refine ⟨⟨hrc, hrs, hR.1, hR.2, pay_in ht hG, hc⟩, ht _ (hG _ hc).1, ok _ (by simp [va_wsS]), ⟨hd.1, hd.2.1⟩, fun sig h => ?_, ok _ (by simp [va_wsS]), ok _ (by simp [va_wsS])⟩
  have h2 := hd.2.2
  rw [h] at h2
  exact (Option.some.inj h2).symm
theorem vx_callSW (X : Stand p l e R s m args below meth c T locs cells slots) (hexec : p.tables.exec = Jvm.exec) {own : String} {index : Nat} {y : MethodName} {bytes : ByteArray} {maxL : Nat} {ret : Option FieldType} {hh : List (Nat × Nat × Nat × Nat)}
    (hown : s.vm.findClass own = some m.cls) (hlink : (Cond.methodLink own index y).before args s = true) (hstat : (Cond.static y).before args s = true) (hinit : (Cond.initialized y.cls).before args s = true)
    (hcode : (Cond.codeWith y bytes maxL ret hh).before args s = true) (hy : y.cls ≠ "java/lang/invoke/MethodHandle" ∧ y.cls ≠ "java/lang/invoke/VarHandle")
    {W9 : Nat} {Pre : Pt → Array Value → Prop} {Post : Pt → Array Value → Option Value → Pt → Prop} (hK : Back l R p e below s args y 3 W9 Pre Post)
    {g : JFrame} (hg : g.method = m) (hsize : g.locals.size = c.maxLocals) {argsL rest : List Value} (hlen : ∀ sig, parseMethodDescriptor y.desc = some sig → argsL.length = sig.parameters.length)
    (hstack : g.stack = argsL.reverse ++ rest) (hW : 2 * g.monitorRoom + (rest.map fun v => v.category).sum ≤ W9) (hdg : decode c.code g.pc = .ok (.invokestatic index, 3))
    (hpre : ∀ vm₁, s.WarmedH vm₁ → Pre ⟨T.setVm vm₁, locs, cells, slots⟩ argsL.toArray) :
    ∃ (v : Option Value) (vm₁ : Vm) (B : Pt), s.WarmedH vm₁ ∧ Stand p l e R s m args below meth c B.U B.locs B.cells B.slots ∧ Post ⟨T.setVm vm₁, locs, cells, slots⟩ argsL.toArray v B ∧
      ∀ target, Steps p.tables e below (B.U.setTop { g with pc := g.pc + 3, stack := v.toList ++ rest }) target → Steps p.tables e below (T.setTop g) target := by
  obtain ⟨mk, methM, cM, hnamed, hmethM, -, -, -, -, -, -, hsigM⟩ := Cond.codeWith_spec hcode
  have hstatic : methM.isStatic = true := Cond.static_spec hnamed hmethM hstat
  obtain ⟨kP, hkP, -⟩ := className_of_methodNamed hnamed
  have hinitP : kP.init = .initialized := Cond.initialized_spec (findClass_of_methodNamed hnamed) hkP hinit
  obtain ⟨vm₁, X₁, hstep₁⟩ := X.invokestatic hexec hown hlink hnamed hmethM hstatic hkP hinitP hy (g := g) hg (argsL := argsL) (rest := rest) (hlen _ hsigM) hstack hdg
  obtain ⟨v, B, X', hpost, hsteps⟩ := hK m meth c ⟨T.setVm vm₁, locs, cells, slots⟩ { g with stack := rest } (.invokestatic index) mk argsL.toArray X₁ hg hsize hdg hW (X₁.named hnamed) (hpre vm₁ X₁.warmed)
  exact ⟨v, vm₁, B, X₁.warmed, X', hpost, fun target h => hstep₁ _ fun acts => by rw [doInvoke_state]; exact hsteps.trans h⟩
theorem vx_runSW {y : MethodName} {bytes cc : ByteArray} {maxL nL mc ms n index : Nat} {ret : Option FieldType} {hh : List (Nat × Nat × Nat × Nat)} {ws : List Cond} {rm : Room} {Pc : Array Value → State → Prop} {Qc : Array Value → State → Outcome → State → Prop} {free : Addr → Prop} {Ts : List Cond} {own : String} {As rest : List Value} {g : JFrame}
    (S : CallFix p m c cc nL s args Ts own) (hM : Met l y ws rm Pc Qc mc ms free) (cw : vx_CSW R s args own index y bytes maxL ret hh ws rm mc ms n) (hp : PreS s H Pc As)
    (hg : g.method = m) (hn : As.length = n) (hsize : g.locals.size = nL) (hstack : g.stack = As.reverse ++ rest) (hW : 2 * g.monitorRoom + (rest.map fun v => v.category).sum ≤ 8) (hdg : decode cc g.pc = .ok (.invokestatic index, 3)) (hf : cells + mc ≤ R.cells ∧ slots + ms ≤ R.slots) :
    va_Run p l e R s m args below meth c H locs cells slots mc ms g rest (Qc As.toArray) (free) := by
  obtain ⟨⟨hrc, hrs, hfr, hlo, hws, hcw⟩, hcode, hini, hy, hlen, hl, hstt⟩ := cw
  have hK : Back l R p e below s args y 3 8 (PreOf R mc ms Pc) (PostOf Qc mc ms free) := va_backW (hh := hh) (bytes := bytes) (maxL := maxL) (ret := ret) hM hp.1 hrc hrs hfr hlo hws hcw (fun a' U hW => word_at hW (Or.inl (by first | rfl | simp [Cond.onTables, Cond.keeps, Cond.steady])) hini)
  obtain ⟨hx, hb, hml, ho, -⟩ := S
  intro T hT X
  obtain ⟨v, vm₁, ⟨U', l2, c2, s2⟩, hW₁, X', ⟨g', mk, t, L, e1, e2, hq, h1, hL, h2, h3⟩, st⟩ := vx_callSW X hx (hh := hh) (bytes := bytes) (maxL := maxL) (ret := ret) ho hl hstt hini hcode hy hK hg (hsize.trans hml.symm) (argsL := As) (rest := rest) (fun sig h => hn.trans (hlen sig h)) hstack hW (by rw [hb]; exact hdg)
    (fun vm₁ hW₁ => ⟨hf.1, hf.2, hp.2 (T.setVm vm₁) hT hW₁⟩)
  dsimp only [Pt.U, Pt.locs, Pt.cells, Pt.slots] at X' e1 e2 h1 h2 h3 st
  subst h1; subst h2; subst h3
  exact ⟨v, (T.setVm vm₁).calling g' mk As.toArray, t, U', L, hT, X', hL, e1, e2, hq, st⟩
/-- not caught here, past rows that name other classes: it goes on to the caller -/
theorem vx_outP {p : Program} {l : Launch} {e : Env} {R : Room} {s : State} {m : MethodId} {args : Array Value} {below : List Frame} {meth : Method} {c : Code} {H : Heap} {locs : List Loc} {cells slots : Nat} {free : Addr → Prop} {ls : Array Slot} {rest : List Value} {Qc : Array Value → State → Outcome → State → Prop} {XC : String → State → State → Prop}
    {pc : Nat} {own E : String} {ce : Cell} {q : Addr} {mc ms : Nat} (hown : s.vm.findClass own = some m.cls) (hlocks : meth.locks = false)
    (hpass : ∀ z ∈ c.exceptionTable.toList, covers z pc = false ∨ (z.catchType ≠ 0 ∧ ∃ nm : String, (Cond.classLink own z.catchType nm).before args s = true ∧ va_Nc E nm s)) (hcell : H[q]? = some ce) (hv : ce.vm = .none) (hcl : s.vm.findClass E = some ce.cls)
    (hx : ∀ t : State, t.heap = H → s.vm.Alike t.vm → XC E s t) (hf : ∀ z ∈ locs, free z.base) (hc : cells ≤ mc) (hs : slots ≤ ms) :
    vx_W p l e R s m args below meth c H locs cells slots (vx_MQ below Qc XC args s mc ms free) (F0 m pc ls rest) q := by
  intro T hT X
  have hpl : e.platform.magicAccessors = ({} : Platform).magicAccessors := by rw [X.admits.platform]
  obtain ⟨vm', hW', X', st⟩ := X.outThrough hlocks q (g := F0 m pc ls rest) rfl rfl rfl (cell := ce) (by rw [hT]; exact hcell) (by rw [hv]; rfl)
    (by obtain ⟨k9, h9, -⟩ := Vm.findClass_spec hcl; exact ⟨k9, h9⟩) (fun z hz => by
      rcases hpass z hz with h | ⟨hz0, nm, hl1, hn1⟩
      · exact Or.inl h
      · obtain ⟨c6, hc6, hcl6⟩ := Cond.classLink_spec hown hl1 e.platform hpl
        obtain ⟨a8, b8, h1, h2, h3⟩ := hn1
        cases Option.some.inj (h1.symm.trans hcl)
        cases Option.some.inj (h2.symm.trans hc6)
        exact Or.inr ⟨hz0, _, hcl6, h3⟩)
  obtain ⟨g₀, hfr⟩ := X'.frames_eq
  have hcell9 : ((T.setVm vm').setFrames (.throwing q :: below)).heap[q]? = some ce := by
    show T.heap[q]? = some ce
    rw [hT]; exact hcell
  have hend : Ended ((T.setVm vm').setFrames (.throwing q :: below)) below (.threw q) := State.frames_setFrames _ (State.cur_lt_of_frames hfr)
  refine ⟨(T.setVm vm').setFrames (.throwing q :: below), ?_, .threw q, X'.here.running, hend, Or.inr ⟨q, rfl, E, ce, locs, hx _ hT (X'.ends _).1.alike, hcell9, hv, hcl, (X'.ends _).1, (X'.ends _).2.mono hc hs, hf⟩⟩
  rw [X.pushThrowing_eq]
  exact st
/-- a thing of a world lies in the heap -/
theorem vx_lt {D : va_G} {cl : List vw_C} {ws : va_W} {H1 : Heap} (h : va_P D cl ws H1) {k : Nat} {q : Nat × va_E} (hk : ws[k]? = some q) : q.1 < H1.size := (h k q hk).lt
end VXS
/-! ===== END ===== -/
/-! ===== BEGIN methods with a table of their own: called by a name, returning or throwing ===== -/
section VXH
/-! vx_backW, vx_callVX, vx_callSX, vx_callVW, vx_runVW, vx_runVX, vx_runSX, vx_ofWH follow the same proofs as their sisters above (Free/Laws.lean, Shelf42/LK1.lean); vx_outP calls Shelf42/NT130.lean (outThrough). -/
section
variable {l : Launch} {R : Room} {p : Program} {e : Env} {below : List Frame} {s : State} {sargs : Array Value} {y : MethodName} {len W9 : Nat}
theorem vx_backW {ws : List Cond} {rm : Room} {Pc : Array Value → State → Prop} {Qc : Array Value → State → Outcome → State → Prop} {XC : String → State → State → Prop} {mc ms : Nat} {free : Addr → Prop} {bytes : ByteArray} {maxL : Nat} {ret : Option FieldType} {hh : List (Nat × Nat × Nat × Nat)}
    (hM : vx_Met l y ws rm Pc Qc XC mc ms free) (hblind : FrameBlind Pc) (hrc : rm.cells = mc) (hrs : rm.slots = ms)
    (hframes : rm.frames + 1 ≤ R.frames) (hlocals : W9 + (maxL + 11) + rm.locals ≤ R.locals)
    (hws : ∀ w ∈ ws, ∀ a' U, s.WarmedH U.vm → w.before a' U = true) (hcode : Cond.codeWith y bytes maxL ret hh ∈ ws) (hinit : ∀ a' U, s.WarmedH U.vm → (Cond.initialized y.cls).before a' U = true) :
    vx_Back l R p e below s sargs y len W9 (PreOf R mc ms Pc) (PostOf Qc mc ms free) (vx_Post XC mc ms free) := by
  intro m meth c A g ig mk a X hg hsize hdg hW hn hp
  have h1 : (headSpec ws rm).pre.before a A.U = true := atoms_intro fun w hw => hws w hw _ _ X.warmed
  have h2 : (Cond.codeWith y bytes maxL ret hh).before a A.U = true := hws _ hcode _ _ X.warmed
  have h3 : (Cond.initialized y.cls).before a A.U = true := hinit _ _ X.warmed
  have h4 : A.cells + (headSpec ws rm).room.cells ≤ R.cells := by rw [show (headSpec ws rm).room.cells = mc from hrc]; exact hp.1
  have h5 : A.slots + (headSpec ws rm).room.slots ≤ R.slots := by rw [show (headSpec ws rm).room.slots = ms from hrs]; exact hp.2.1
  have hPc : Pc a (A.U.calling g mk a) := hblind _ _ _ _ hp.2.2
  obtain ⟨U, Ls, c0, s0⟩ := A
  dsimp only [Pt.U, Pt.locs, Pt.cells, Pt.slots] at h1 h2 h3 h4 h5 X hn hPc ⊢
  obtain ⟨m9, methY, cY, hn9, hmY, hcY, -, hlY, -⟩ := Cond.codeWith_spec h2
  cases Option.some.inj (hn9.symm.trans hn)
  obtain ⟨kY, hkY, -⟩ := className_of_methodNamed hn
  have hinitY : kY.init = .initialized := Cond.initialized_spec (findClass_of_methodNamed hn) hkY h3
  have h : At U g.method c below := by rw [hg]; exact X.here
  have hlocals9 : W9 + (maxL + 11) + (headSpec ws rm).room.locals ≤ R.locals := hlocals
  have happ : (headSpec ws rm).appliesLoose y e.platform (U.calling g mk a) = true :=
    Spec.appliesLoose_calling (g := g) h hdg hn hkY hinitY
      (X.room_calling (g := g) (R' := (headSpec ws rm).room) hsize hmY hcY hframes (by rw [hlY]; omega) h4 h5) h1
  obtain ⟨mid, hmid⟩ := h.above
  have hfr : (U.setTop g).frames = (.java g :: mid) ++ below := by rw [State.frames_setTop' g h.top, hmid]; rfl
  obtain ⟨o, s₂, hsteps, -, hend, hq⟩ := Steps.callFree hM p X.admits X.cas X.clock (acts := []) hfr happ hPc trivial
  have hq' : vx_Q Qc XC mc ms free a (U.calling g mk a) o s₂ := hq
  rw [State.frames_setTop' g h.top] at hend
  obtain ⟨g₀, hg0⟩ := Option.isSome_iff_exists.mp h.top
  obtain ⟨r, hr⟩ := State.topJava?_eq_some.mp hg0
  have hr' : (({ U with heap := s₂.heap, slotsUsed := s₂.slotsUsed } : State).setVm s₂.vm).frames = .java g₀ :: r := hr
  rcases hq' with ⟨hqc, L, hfe, hL⟩ | ⟨q, rfl, E, ce, L, hx, hce, hcv, hcl, hW₂, hsm, hL⟩
  · obtain ⟨⟨v, rfl⟩, hW₂, e2, q2, q3, q4, q5, q6⟩ := id hfe
    have e3 : s₂ = ({ (U.calling g mk a).setFrames s₂.frames with heap := s₂.heap, slotsUsed := s₂.slotsUsed } : State).setVm s₂.vm := by
      have : s₂ = ({ s₂ with vm := (U.calling g mk a).vm } : State).setVm s₂.vm := rfl
      rw [e2] at this
      exact this
    obtain ⟨c₂, i₂, len₂, hc₂, hd₂, hf₂⟩ := hend
    have hW' : U.WarmedH s₂.vm := hW₂
    have hcc : c₂ = c := by
      have h1 : s₂.code? g.method = U.code? g.method := by
        rw [State.code?_eq, State.code?_eq, hW'.alike.method?]
      exact Option.some.inj (hc₂.symm.trans (h1.trans h.code))
    subst hcc
    have hlen : len₂ = len := by rw [hdg] at hd₂; cases hd₂; rfl
    subst hlen
    have hs₂ : s₂ = (({ U with heap := s₂.heap, slotsUsed := s₂.slotsUsed } : State).setVm s₂.vm).setTop { g with pc := g.pc + len₂, stack := v.toList ++ g.stack } := by
      refine e3.trans ?_
      rw [hf₂, State.calling_eq h.top, State.setFrames_setFrames, State.setTop_of_frames _ hr', hr]
      rfl
    have hsame : U.sameButNew ({ U with heap := s₂.heap, slotsUsed := s₂.slotsUsed } : State) L mc ms := by
      refine ⟨?_, q2, q3, q4, q5, q6⟩
      obtain ⟨t, ht, -⟩ := State.frames_cons hr
      show ({ U with heap := s₂.heap, slotsUsed := s₂.slotsUsed } : State) = { U.setFrames U.frames with heap := s₂.heap, slotsUsed := s₂.slotsUsed }
      rw [State.setFrames_self ht]
    subst hg
    refine Or.inl ⟨v, ⟨(({ U with heap := s₂.heap, slotsUsed := s₂.slotsUsed } : State).setVm s₂.vm), Ls ++ L, c0 + mc, s0 + ms⟩,
      ⟨X.admits, X.cas, X.clock, X.frames, X.room, X.hears, X.method, X.code, (X.here.setHeapUsed s₂.heap s₂.slotsUsed).setVm hW'.alike, X.tail, State.WarmedH.trans X.warmed hW', X.limits, X.bytes, X.same.trans (hsame.setVm s.vm)⟩,
      ⟨g, mk, s₂, L, rfl, rfl, hqc, rfl, hL, rfl, rfl⟩, ?_⟩
    show Steps p.tables e below _ ((({ U with heap := s₂.heap, slotsUsed := s₂.slotsUsed } : State).setVm s₂.vm).setTop { g with pc := g.pc + len₂, stack := v.toList ++ g.stack })
    rw [← hs₂]
    exact hsteps
  · obtain ⟨e2, q2, q3, q4, q5, q6⟩ := id hsm
    have e3 : s₂ = ({ (U.calling g mk a).setFrames s₂.frames with heap := s₂.heap, slotsUsed := s₂.slotsUsed } : State).setVm s₂.vm := by
      have : s₂ = ({ s₂ with vm := (U.calling g mk a).vm } : State).setVm s₂.vm := rfl
      rw [e2] at this
      exact this
    have hf₂ : s₂.frames = .throwing q :: .java g :: U.frames.tail := hend
    have hW' : U.WarmedH s₂.vm := hW₂
    have hs₂ : s₂ = ((({ U with heap := s₂.heap, slotsUsed := s₂.slotsUsed } : State).setVm s₂.vm).setTop g).pushFrame (.throwing q) := by
      refine e3.trans ?_
      rw [hf₂, State.calling_eq h.top, State.setFrames_setFrames, State.pushFrame, State.frames_setTop _ hr', State.setTop_of_frames _ hr', State.setFrames_setFrames, hr]
      rfl
    have hsame : U.sameButNew ({ U with heap := s₂.heap, slotsUsed := s₂.slotsUsed } : State) L mc ms := by
      refine ⟨?_, q2, q3, q4, q5, q6⟩
      obtain ⟨t, ht, -⟩ := State.frames_cons hr
      show ({ U with heap := s₂.heap, slotsUsed := s₂.slotsUsed } : State) = { U.setFrames U.frames with heap := s₂.heap, slotsUsed := s₂.slotsUsed }
      rw [State.setFrames_self ht]
    subst hg
    refine Or.inr ⟨q, ⟨(({ U with heap := s₂.heap, slotsUsed := s₂.slotsUsed } : State).setVm s₂.vm), Ls ++ L, c0 + mc, s0 + ms⟩,
      ⟨X.admits, X.cas, X.clock, X.frames, X.room, X.hears, X.method, X.code, (X.here.setHeapUsed s₂.heap s₂.slotsUsed).setVm hW'.alike, X.tail, State.WarmedH.trans X.warmed hW', X.limits, X.bytes, X.same.trans (hsame.setVm s.vm)⟩,
      ⟨g, mk, s₂, L, E, ce, rfl, rfl, hx, hce, hcv, hcl, rfl, hL, rfl, rfl⟩, ?_⟩
    show Steps p.tables e below _ (((({ U with heap := s₂.heap, slotsUsed := s₂.slotsUsed } : State).setVm s₂.vm).setTop g).pushFrame (.throwing q))
    rw [← hs₂]
    exact hsteps
end
variable {p : Program} {l : Launch} {e : Env} {R : Room} {s : State} {m : MethodId} {args : Array Value} {below : List Frame} {meth : Method} {c : Code} {T : State} {H : Heap} {locs : List Loc} {cells slots : Nat}
theorem vx_callVX (X : Stand p l e R s m args below meth c T locs cells slots) (hexec : p.tables.exec = Jvm.exec) {own C : String} {index : Nat} {y : MethodName} {bytes : ByteArray} {maxL : Nat} {ret : Option FieldType} {hh : List (Nat × Nat × Nat × Nat)}
    (hown : s.vm.findClass own = some m.cls) (hlink : (Cond.methodLink own index y).before args s = true) (hinst : (Cond.instanceMethod y).before args s = true) (hsel : (Cond.selects C y y).before args s = true)
    (hcode : (Cond.codeWith y bytes maxL ret hh).before args s = true) (hy : y.cls ≠ "java/lang/invoke/MethodHandle" ∧ y.cls ≠ "java/lang/invoke/VarHandle")
    {W9 : Nat} {Pre : Pt → Array Value → Prop} {Post : Pt → Array Value → Option Value → Pt → Prop} {PostX : Pt → Array Value → Addr → Pt → Prop} (hK : vx_Back l R p e below s args y 3 W9 Pre Post PostX)
    {b : Addr} {cellB : Cell} (hcell : T.heap[b]? = some cellB) (hobj : cellB.vm.isStatics = false) (hcls : s.vm.findClass C = some cellB.cls)
    {g : JFrame} (hg : g.method = m) (hsize : g.locals.size = c.maxLocals) {argsL rest : List Value} (hlen : ∀ sig, parseMethodDescriptor y.desc = some sig → argsL.length = sig.parameters.length)
    (hstack : g.stack = argsL.reverse ++ .ref b :: rest) (hW : 2 * g.monitorRoom + (rest.map fun v => v.category).sum ≤ W9) (hdg : decode c.code g.pc = .ok (.invokevirtual index, 3))
    (hpre : ∀ vm₁, s.WarmedH vm₁ → Pre ⟨T.setVm vm₁, locs, cells, slots⟩ (Value.ref b :: argsL).toArray) :
    (∃ (v : Option Value) (vm₁ : Vm) (B : Pt), s.WarmedH vm₁ ∧ Stand p l e R s m args below meth c B.U B.locs B.cells B.slots ∧ Post ⟨T.setVm vm₁, locs, cells, slots⟩ (Value.ref b :: argsL).toArray v B ∧
      ∀ target, Steps p.tables e below (B.U.setTop { g with pc := g.pc + 3, stack := v.toList ++ rest }) target → Steps p.tables e below (T.setTop g) target) ∨
    (∃ (q : Addr) (vm₁ : Vm) (B : Pt), s.WarmedH vm₁ ∧ Stand p l e R s m args below meth c B.U B.locs B.cells B.slots ∧ PostX ⟨T.setVm vm₁, locs, cells, slots⟩ (Value.ref b :: argsL).toArray q B ∧
      Steps p.tables e below (T.setTop g) ((B.U.setTop { g with stack := rest }).pushFrame (.throwing q))) := by
  obtain ⟨mk, methM, hnamed, hmethM, hstM, habM⟩ := Cond.instanceMethod_spec hinst
  obtain ⟨m8, methM', cM, hn8, hmethM', -, -, -, -, -, -, hsigM⟩ := Cond.codeWith_spec hcode
  cases Option.some.inj (hn8.symm.trans hnamed)
  cases hmethM.symm.trans hmethM'
  obtain ⟨c2, r2, m2, q1, q2, q3, q4, kP, hkP, hkPi⟩ := Cond.selects_spec hsel
  cases hcls.symm.trans q1
  cases (State.methodFound?_of_named hnamed hy).symm.trans q2
  cases hnamed.symm.trans q3
  have hselP : selectMethod e.platform s.vm cellB.cls mk = .method mk := by rw [Launch.admits_selectMethod X.admits]; exact q4
  obtain ⟨vm₁, X₁, hstep₁⟩ := X.invokevirtual hexec hown hlink hnamed hmethM hstM hkP hkPi hy (a := b) (cell := cellB) hcell
    (fun z h => by rw [h] at hobj; cases hobj) hselP hmethM habM hkP hkPi (g := g) hg (argsL := argsL) (rest := rest) (hlen _ hsigM) hstack hdg
  rcases hK m meth c ⟨T.setVm vm₁, locs, cells, slots⟩ { g with stack := rest } (.invokevirtual index) mk (Value.ref b :: argsL).toArray X₁ hg hsize hdg hW (X₁.named hnamed) (hpre vm₁ X₁.warmed) with ⟨v, B, X', hpost, hsteps⟩ | ⟨q, B, X', hpost, hsteps⟩
  · exact Or.inl ⟨v, vm₁, B, X₁.warmed, X', hpost, fun target h => hstep₁ _ fun acts => by rw [doInvoke_state]; exact hsteps.trans h⟩
  · exact Or.inr ⟨q, vm₁, B, X₁.warmed, X', hpost, hstep₁ _ fun acts => by rw [doInvoke_state]; exact hsteps⟩
theorem vx_callSX (X : Stand p l e R s m args below meth c T locs cells slots) (hexec : p.tables.exec = Jvm.exec) {own : String} {index : Nat} {y : MethodName} {bytes : ByteArray} {maxL : Nat} {ret : Option FieldType} {hh : List (Nat × Nat × Nat × Nat)}
    (hown : s.vm.findClass own = some m.cls) (hlink : (Cond.methodLink own index y).before args s = true) (hstat : (Cond.static y).before args s = true) (hinit : (Cond.initialized y.cls).before args s = true)
    (hcode : (Cond.codeWith y bytes maxL ret hh).before args s = true) (hy : y.cls ≠ "java/lang/invoke/MethodHandle" ∧ y.cls ≠ "java/lang/invoke/VarHandle")
    {W9 : Nat} {Pre : Pt → Array Value → Prop} {Post : Pt → Array Value → Option Value → Pt → Prop} {PostX : Pt → Array Value → Addr → Pt → Prop} (hK : vx_Back l R p e below s args y 3 W9 Pre Post PostX)
    {g : JFrame} (hg : g.method = m) (hsize : g.locals.size = c.maxLocals) {argsL rest : List Value} (hlen : ∀ sig, parseMethodDescriptor y.desc = some sig → argsL.length = sig.parameters.length)
    (hstack : g.stack = argsL.reverse ++ rest) (hW : 2 * g.monitorRoom + (rest.map fun v => v.category).sum ≤ W9) (hdg : decode c.code g.pc = .ok (.invokestatic index, 3))
    (hpre : ∀ vm₁, s.WarmedH vm₁ → Pre ⟨T.setVm vm₁, locs, cells, slots⟩ argsL.toArray) :
    (∃ (v : Option Value) (vm₁ : Vm) (B : Pt), s.WarmedH vm₁ ∧ Stand p l e R s m args below meth c B.U B.locs B.cells B.slots ∧ Post ⟨T.setVm vm₁, locs, cells, slots⟩ argsL.toArray v B ∧
      ∀ target, Steps p.tables e below (B.U.setTop { g with pc := g.pc + 3, stack := v.toList ++ rest }) target → Steps p.tables e below (T.setTop g) target) ∨
    (∃ (q : Addr) (vm₁ : Vm) (B : Pt), s.WarmedH vm₁ ∧ Stand p l e R s m args below meth c B.U B.locs B.cells B.slots ∧ PostX ⟨T.setVm vm₁, locs, cells, slots⟩ argsL.toArray q B ∧
      Steps p.tables e below (T.setTop g) ((B.U.setTop { g with stack := rest }).pushFrame (.throwing q))) := by
  obtain ⟨mk, methM, cM, hnamed, hmethM, -, -, -, -, -, -, hsigM⟩ := Cond.codeWith_spec hcode
  have hstatic : methM.isStatic = true := Cond.static_spec hnamed hmethM hstat
  obtain ⟨kP, hkP, -⟩ := className_of_methodNamed hnamed
  have hinitP : kP.init = .initialized := Cond.initialized_spec (findClass_of_methodNamed hnamed) hkP hinit
  obtain ⟨vm₁, X₁, hstep₁⟩ := X.invokestatic hexec hown hlink hnamed hmethM hstatic hkP hinitP hy (g := g) hg (argsL := argsL) (rest := rest) (hlen _ hsigM) hstack hdg
  rcases hK m meth c ⟨T.setVm vm₁, locs, cells, slots⟩ { g with stack := rest } (.invokestatic index) mk argsL.toArray X₁ hg hsize hdg hW (X₁.named hnamed) (hpre vm₁ X₁.warmed) with ⟨v, B, X', hpost, hsteps⟩ | ⟨q, B, X', hpost, hsteps⟩
  · exact Or.inl ⟨v, vm₁, B, X₁.warmed, X', hpost, fun target h => hstep₁ _ fun acts => by rw [doInvoke_state]; exact hsteps.trans h⟩
  · exact Or.inr ⟨q, vm₁, B, X₁.warmed, X', hpost, hstep₁ _ fun acts => by rw [doInvoke_state]; exact hsteps⟩
theorem vx_callVW (X : Stand p l e R s m args below meth c T locs cells slots) (hexec : p.tables.exec = Jvm.exec) {own C : String} {index : Nat} {y : MethodName} {bytes : ByteArray} {maxL : Nat} {ret : Option FieldType} {hh : List (Nat × Nat × Nat × Nat)}
    (hown : s.vm.findClass own = some m.cls) (hlink : (Cond.methodLink own index y).before args s = true) (hinst : (Cond.instanceMethod y).before args s = true) (hsel : (Cond.selects C y y).before args s = true)
    (hcode : (Cond.codeWith y bytes maxL ret hh).before args s = true) (hy : y.cls ≠ "java/lang/invoke/MethodHandle" ∧ y.cls ≠ "java/lang/invoke/VarHandle")
    {W9 : Nat} {Pre : Pt → Array Value → Prop} {Post : Pt → Array Value → Option Value → Pt → Prop} (hK : Back l R p e below s args y 3 W9 Pre Post)
    {b : Addr} {cellB : Cell} (hcell : T.heap[b]? = some cellB) (hobj : cellB.vm.isStatics = false) (hcls : s.vm.findClass C = some cellB.cls)
    {g : JFrame} (hg : g.method = m) (hsize : g.locals.size = c.maxLocals) {argsL rest : List Value} (hlen : ∀ sig, parseMethodDescriptor y.desc = some sig → argsL.length = sig.parameters.length)
    (hstack : g.stack = argsL.reverse ++ .ref b :: rest) (hW : 2 * g.monitorRoom + (rest.map fun v => v.category).sum ≤ W9) (hdg : decode c.code g.pc = .ok (.invokevirtual index, 3))
    (hpre : ∀ vm₁, s.WarmedH vm₁ → Pre ⟨T.setVm vm₁, locs, cells, slots⟩ (Value.ref b :: argsL).toArray) :
    ∃ (v : Option Value) (vm₁ : Vm) (B : Pt), s.WarmedH vm₁ ∧ Stand p l e R s m args below meth c B.U B.locs B.cells B.slots ∧ Post ⟨T.setVm vm₁, locs, cells, slots⟩ (Value.ref b :: argsL).toArray v B ∧
      ∀ target, Steps p.tables e below (B.U.setTop { g with pc := g.pc + 3, stack := v.toList ++ rest }) target → Steps p.tables e below (T.setTop g) target := by
  obtain ⟨mk, methM, hnamed, hmethM, hstM, habM⟩ := Cond.instanceMethod_spec hinst
  obtain ⟨m8, methM', cM, hn8, hmethM', -, -, -, -, -, -, hsigM⟩ := Cond.codeWith_spec hcode
  cases Option.some.inj (hn8.symm.trans hnamed)
  cases hmethM.symm.trans hmethM'
  obtain ⟨c2, r2, m2, q1, q2, q3, q4, kP, hkP, hkPi⟩ := Cond.selects_spec hsel
  cases hcls.symm.trans q1
  cases (State.methodFound?_of_named hnamed hy).symm.trans q2
  cases hnamed.symm.trans q3
  have hselP : selectMethod e.platform s.vm cellB.cls mk = .method mk := by rw [Launch.admits_selectMethod X.admits]; exact q4
  obtain ⟨vm₁, X₁, hstep₁⟩ := X.invokevirtual hexec hown hlink hnamed hmethM hstM hkP hkPi hy (a := b) (cell := cellB) hcell
    (fun z h => by rw [h] at hobj; cases hobj) hselP hmethM habM hkP hkPi (g := g) hg (argsL := argsL) (rest := rest) (hlen _ hsigM) hstack hdg
  obtain ⟨v, B, X', hpost, hsteps⟩ := hK m meth c ⟨T.setVm vm₁, locs, cells, slots⟩ { g with stack := rest } (.invokevirtual index) mk (Value.ref b :: argsL).toArray X₁ hg hsize hdg hW (X₁.named hnamed) (hpre vm₁ X₁.warmed)
  exact ⟨v, vm₁, B, X₁.warmed, X', hpost, fun target h => hstep₁ _ fun acts => by rw [doInvoke_state]; exact hsteps.trans h⟩
abbrev vx_CVW (R : Room) (s : State) (args : Array Value) (own C : String) (index : Nat) (y : MethodName) (bytes : ByteArray) (maxL : Nat) (ret : Option FieldType) (hh : List (Nat × Nat × Nat × Nat)) (ws : List Cond) (rm : Room) (mc ms n : Nat) : Prop :=
  (rm.cells = mc ∧ rm.slots = ms ∧ rm.frames + 1 ≤ R.frames ∧ 8 + (maxL + 11) + rm.locals ≤ R.locals ∧ (∀ w ∈ ws, ∀ (a' : Array Value) (U : State), s.WarmedH U.vm → w.before a' U = true) ∧ Cond.codeWith y bytes maxL ret hh ∈ ws) ∧
  (Cond.codeWith y bytes maxL ret hh).before args s = true ∧ (Cond.initialized y.cls).before args s = true ∧ (y.cls ≠ "java/lang/invoke/MethodHandle" ∧ y.cls ≠ "java/lang/invoke/VarHandle") ∧
  (∀ sig, parseMethodDescriptor y.desc = some sig → n = sig.parameters.length) ∧ (Cond.methodLink own index y).before args s = true ∧ (Cond.instanceMethod y).before args s = true ∧ (Cond.selects C y y).before args s = true
theorem vx_cwVW {own C : String} {index maxL mc ms : Nat} {y : MethodName} {bytes : ByteArray} {ret : Option FieldType} {hh : List (Nat × Nat × Nat × Nat)} {Ts ws ws' : List Cond} {rm : Room} (n : Nat) (ht : ∀ w ∈ Ts, w.before args s = true) (hT : GoodIn Ts (wsV own index C y ws)) (hw : ws = Cond.codeWith y bytes maxL ret hh :: ws') (hrc : rm.cells = mc) (hrs : rm.slots = ms)
    (hd : y.cls = C ∧ y.cls ≠ "java/lang/invoke/MethodHandle" ∧ y.cls ≠ "java/lang/invoke/VarHandle" ∧ (parseMethodDescriptor y.desc).map (fun d => d.parameters.length) = some n) (hR : rm.frames + 1 ≤ R.frames ∧ 8 + (maxL + 11) + rm.locals ≤ R.locals) :
    vx_CVW R s args own C index y bytes maxL ret hh ws rm mc ms n := by
  obtain ⟨hC, hd⟩ := hd
  subst hC
  have ok : ∀ w ∈ wsV own index y.cls y ws, w.before args s = true := fun w h => ht w (hT w h).1
  have hG : GoodIn Ts ws := fun w h => hT w (by unfold wsV; exact List.mem_append_right _ h)
  have hc : Cond.codeWith y bytes maxL ret hh ∈ ws := by rw [hw]; exact List.mem_cons_self
  refine ⟨⟨hrc, hrs, hR.1, hR.2, pay_in ht hG, hc⟩, ht _ (hG _ hc).1, ok _ (by simp [wsV]), ⟨hd.1, hd.2.1⟩, fun sig h => ?_, ok _ (by simp [wsV]), ok _ (by simp [wsV]), ok _ (by simp [wsV])⟩
  have h2 := hd.2.2
  rw [h] at h2
  exact (Option.some.inj h2).symm
theorem vx_runVW {y : MethodName} {bytes cc : ByteArray} {maxL nL mc ms n index : Nat} {ret : Option FieldType} {hh : List (Nat × Nat × Nat × Nat)} {ws : List Cond} {rm : Room} {Pc : Array Value → State → Prop} {Qc : Array Value → State → Outcome → State → Prop} {free : Addr → Prop} {Ts : List Cond} {own C : String} {b : Addr} {As rest : List Value} {g : JFrame}
    (S : CallFix p m c cc nL s args Ts own) (hM : Met l y ws rm Pc Qc mc ms free) (cw : vx_CVW R s args own C index y bytes maxL ret hh ws rm mc ms n) (hp : PreV s H C b Pc As)
    (hg : g.method = m) (hn : As.length = n) (hsize : g.locals.size = nL) (hstack : g.stack = As.reverse ++ .ref b :: rest) (hW : 2 * g.monitorRoom + (rest.map fun v => v.category).sum ≤ 8) (hdg : decode cc g.pc = .ok (.invokevirtual index, 3)) (hf : cells + mc ≤ R.cells ∧ slots + ms ≤ R.slots) :
    va_Run p l e R s m args below meth c H locs cells slots mc ms g rest (Qc (Value.ref b :: As).toArray) free := by
  obtain ⟨⟨hrc, hrs, hfr, hlo, hws, hcw⟩, hcode, hini, hy, hlen, hl, hin, hse⟩ := cw
  have hK : Back l R p e below s args y 3 8 (PreOf R mc ms Pc) (PostOf Qc mc ms free) := va_backW (hh := hh) (bytes := bytes) (maxL := maxL) (ret := ret) hM hp.1 hrc hrs hfr hlo hws hcw (fun a' U hW => word_at hW (Or.inl (by first | rfl | simp [Cond.onTables, Cond.keeps, Cond.steady])) hini)
  obtain ⟨hx, hb, hml, ho, -⟩ := S
  obtain ⟨-, ⟨cellB, hcB, hoB, hclB⟩, hPc⟩ := hp
  intro T hT X
  obtain ⟨v, vm₁, ⟨U', l2, c2, s2⟩, hW₁, X', ⟨g', mk, t, L, e1, e2, hq, h1, hL, h2, h3⟩, st⟩ := vx_callVW X hx (C := C) (hh := hh) (bytes := bytes) (maxL := maxL) (ret := ret) ho hl hin hse hcode hy hK (by rw [hT]; exact hcB) hoB hclB hg (hsize.trans hml.symm) (argsL := As) (rest := rest) (fun sig h => hn.trans (hlen sig h)) hstack hW (by rw [hb]; exact hdg)
    (fun vm₁ hW₁ => ⟨hf.1, hf.2, hPc (T.setVm vm₁) hT hW₁⟩)
  dsimp only [Pt.U, Pt.locs, Pt.cells, Pt.slots] at X' e1 e2 h1 h2 h3 st
  subst h1; subst h2; subst h3
  exact ⟨v, (T.setVm vm₁).calling g' mk (Value.ref b :: As).toArray, t, U', L, hT, X', hL, e1, e2, hq, st⟩
section
variable {y : MethodName} {bytes cc : ByteArray} {maxL nL mc ms n index : Nat} {ret : Option FieldType} {ws : List Cond} {rm : Room} {Pc : Array Value → State → Prop} {Qc : Array Value → State → Outcome → State → Prop} {XC : String → State → State → Prop} {free : Addr → Prop} {Ts : List Cond} {own C : String} {b : Addr} {As rest : List Value} {g : JFrame}
theorem vx_runVX {hh : List (Nat × Nat × Nat × Nat)} (S : CallFix p m c cc nL s args Ts own) (hM : vx_Met l y ws rm Pc Qc XC mc ms free) (cw : vx_CVW R s args own C index y bytes maxL ret hh ws rm mc ms n) (hp : PreV s H C b Pc As)
    (hg : g.method = m) (hn : As.length = n) (hsize : g.locals.size = nL) (hstack : g.stack = As.reverse ++ .ref b :: rest) (hW : 2 * g.monitorRoom + (rest.map fun v => v.category).sum ≤ 8) (hdg : decode cc g.pc = .ok (.invokevirtual index, 3)) (hf : cells + mc ≤ R.cells ∧ slots + ms ≤ R.slots) :
    vx_Run p l e R s m args below meth c H locs cells slots mc ms g rest (Qc (Value.ref b :: As).toArray) XC free := by
  obtain ⟨⟨hrc, hrs, hfr, hlo, hws, hcw⟩, hcode, hini, hy, hlen, hl, hin, hse⟩ := cw
  have hK : vx_Back l R p e below s args y 3 8 (PreOf R mc ms Pc) (PostOf Qc mc ms free) (vx_Post XC mc ms free) := vx_backW (hh := hh) (bytes := bytes) (maxL := maxL) (ret := ret) hM hp.1 hrc hrs hfr hlo hws hcw (fun a' U hW => word_at hW (Or.inl (by first | rfl | simp [Cond.onTables, Cond.keeps, Cond.steady])) hini)
  obtain ⟨hx, hb, hml, ho, -⟩ := S
  obtain ⟨-, ⟨cellB, hcB, hoB, hclB⟩, hPc⟩ := hp
  intro T hT X
  rcases vx_callVX X hx (C := C) (hh := hh) (bytes := bytes) (maxL := maxL) (ret := ret) ho hl hin hse hcode hy hK (by rw [hT]; exact hcB) hoB hclB hg (hsize.trans hml.symm) (argsL := As) (rest := rest) (fun sig h => hn.trans (hlen sig h)) hstack hW (by rw [hb]; exact hdg)
    (fun vm₁ hW₁ => ⟨hf.1, hf.2, hPc (T.setVm vm₁) hT hW₁⟩) with ⟨v, vm₁, ⟨U', l2, c2, s2⟩, hW₁, X', ⟨g', mk, t, L, e1, e2, hq, h1, hL, h2, h3⟩, st⟩ | ⟨q, vm₁, ⟨U', l2, c2, s2⟩, hW₁, X', ⟨g', mk, t, L, E, ce, e1, e2, hq, hce, hcv, hcl, h1, hL, h2, h3⟩, st⟩
  · dsimp only [Pt.U, Pt.locs, Pt.cells, Pt.slots] at X' e1 e2 h1 h2 h3 st
    subst h1; subst h2; subst h3
    exact Or.inl ⟨v, (T.setVm vm₁).calling g' mk (Value.ref b :: As).toArray, t, U', L, hT, X', hL, e1, e2, hq, st⟩
  · dsimp only [Pt.U, Pt.locs, Pt.cells, Pt.slots] at X' e1 e2 h1 h2 h3 st hcl
    subst h1; subst h2; subst h3
    exact Or.inr ⟨q, (T.setVm vm₁).calling g' mk (Value.ref b :: As).toArray, t, U', L, E, ce, hT, X', hL, e1, e2, hq, hce, hcv, vx_cls hW₁ hcl, st⟩
theorem vx_runSX {hh : List (Nat × Nat × Nat × Nat)} (S : CallFix p m c cc nL s args Ts own) (hM : vx_Met l y ws rm Pc Qc XC mc ms free) (cw : vx_CSW R s args own index y bytes maxL ret hh ws rm mc ms n) (hp : PreS s H Pc As)
    (hg : g.method = m) (hn : As.length = n) (hsize : g.locals.size = nL) (hstack : g.stack = As.reverse ++ rest) (hW : 2 * g.monitorRoom + (rest.map fun v => v.category).sum ≤ 8) (hdg : decode cc g.pc = .ok (.invokestatic index, 3)) (hf : cells + mc ≤ R.cells ∧ slots + ms ≤ R.slots) :
    vx_Run p l e R s m args below meth c H locs cells slots mc ms g rest (Qc As.toArray) XC free := by
  obtain ⟨⟨hrc, hrs, hfr, hlo, hws, hcw⟩, hcode, hini, hy, hlen, hl, hstt⟩ := cw
  have hK : vx_Back l R p e below s args y 3 8 (PreOf R mc ms Pc) (PostOf Qc mc ms free) (vx_Post XC mc ms free) := vx_backW (hh := hh) (bytes := bytes) (maxL := maxL) (ret := ret) hM hp.1 hrc hrs hfr hlo hws hcw (fun a' U hW => word_at hW (Or.inl (by first | rfl | simp [Cond.onTables, Cond.keeps, Cond.steady])) hini)
  obtain ⟨hx, hb, hml, ho, -⟩ := S
  intro T hT X
  rcases vx_callSX X hx (hh := hh) (bytes := bytes) (maxL := maxL) (ret := ret) ho hl hstt hini hcode hy hK hg (hsize.trans hml.symm) (argsL := As) (rest := rest) (fun sig h => hn.trans (hlen sig h)) hstack hW (by rw [hb]; exact hdg)
    (fun vm₁ hW₁ => ⟨hf.1, hf.2, hp.2 (T.setVm vm₁) hT hW₁⟩) with ⟨v, vm₁, ⟨U', l2, c2, s2⟩, hW₁, X', ⟨g', mk, t, L, e1, e2, hq, h1, hL, h2, h3⟩, st⟩ | ⟨q, vm₁, ⟨U', l2, c2, s2⟩, hW₁, X', ⟨g', mk, t, L, E, ce, e1, e2, hq, hce, hcv, hcl, h1, hL, h2, h3⟩, st⟩
  · dsimp only [Pt.U, Pt.locs, Pt.cells, Pt.slots] at X' e1 e2 h1 h2 h3 st
    subst h1; subst h2; subst h3
    exact Or.inl ⟨v, (T.setVm vm₁).calling g' mk As.toArray, t, U', L, hT, X', hL, e1, e2, hq, st⟩
  · dsimp only [Pt.U, Pt.locs, Pt.cells, Pt.slots] at X' e1 e2 h1 h2 h3 st hcl
    subst h1; subst h2; subst h3
    exact Or.inr ⟨q, (T.setVm vm₁).calling g' mk As.toArray, t, U', L, E, ce, hT, X', hL, e1, e2, hq, hce, hcv, vx_cls hW₁ hcl, st⟩
end
end VXH
theorem vx_ofWH {l : Launch} {y : MethodName} {ws ws' : List Cond} {rm : Room} {Pc : Array Value → State → Prop} {Qc : Array Value → State → Outcome → State → Prop} {XC : String → State → State → Prop} {mc ms : Nat} {free : Addr → Prop} {cc : ByteArray} {maxL : Nat} {ret : Option FieldType} {hh : List (Nat × Nat × Nat × Nat)}
    (hy : plainName y.cls = true) (hw : ws = Cond.codeWith y cc maxL ret hh :: ws')
    (body : ∀ p e s m args below meth c s₁, BodyLoose p l y (headSpec ws rm) cc maxL ret e s m args below meth c s₁ → c.maxLocals = maxL → Pc args s →
      W p l e (headSpec ws rm).room s m args below meth c s.heap [] 0 0 (vx_MQ below Qc XC args s mc ms free) (entryFrame m args maxL)) : vx_Met l y ws rm Pc Qc XC mc ms free := by
  refine MetFree.of_bodyS (code := cc) (maxLocals := maxL) (ret := ret) hy ?_ ?_
  · intro args s m h hn
    obtain ⟨m9, meth, c, hn9, h1, h2, h3, h4, -, h5, h6, -⟩ := Cond.codeWith_spec (atoms_spec (ws := ws) h _ (by rw [hw]; exact List.mem_cons_self))
    cases hn.symm.trans hn9
    exact ⟨meth, c, h1, h2, h3, h4, h5, h6⟩
  · intro p e s m args below meth c s₁ B hml hP _
    have hh0 : s₁.heap = s.heap := by rw [B.state]; rfl
    obtain ⟨t, a1, o, b1, b2, b3⟩ := body p e s m args below meth c s₁ B hml hP s₁ hh0 (Stand.of_body B)
    exact ⟨t, o, a1, b1, b2, b3⟩
/-! ===== END ===== -/
end
section
def RX0 : String := "Tagwranglery$Collection"
def TX0 : u_T := fun k => match k with
  | 0 => ("Tagwranglery$Collection", "opens", "I", true)
  | _ => ("Tagwranglery$Collection", "names", "I", true)
def tyX0 : Nat → FieldType := fun k => match k with
  | 0 => .int
  | _ => .int
abbrev wsX00 : List Cond := u_ws RX0 TX0 2
theorem nmX0 : ∀ a, a < 2 → ∀ b, b < 2 → a ≠ b → (TX0 a).2.1 ≠ (TX0 b).2.1 := by decide +kernel
theorem tyX0_ok : ∀ k, k < 2 → parseFieldDescriptor (TX0 k).2.2.1 = some (tyX0 k) := by decide +kernel
abbrev cX0_init : ByteArray := prog_2_method_1_code
def yX0_init : MethodName := ⟨RX0, "<init>", "(II)V"⟩
def RX1 : String := "Tagwranglery$Comment"
def TX1 : u_T := fun k => match k with
  | 0 => ("Tagwranglery$Comment", "work", "I", true)
  | 1 => ("Tagwranglery$Comment", "face", "I", true)
  | 2 => ("Tagwranglery$Comment", "upper", "LTagwranglery$Comment;", true)
  | 3 => ("Tagwranglery$Comment", "frozen", "Z", false)
  | 4 => ("Tagwranglery$Comment", "removed", "Z", false)
  | _ => ("Tagwranglery$Comment", "screened", "Z", false)
def tyX1 : Nat → FieldType := fun k => match k with
  | 0 => .int
  | 1 => .int
  | 2 => .object "Tagwranglery$Comment"
  | 3 => .boolean
  | 4 => .boolean
  | _ => .boolean
abbrev wsX10 : List Cond := u_ws RX1 TX1 6
theorem nmX1 : ∀ a, a < 6 → ∀ b, b < 6 → a ≠ b → (TX1 a).2.1 ≠ (TX1 b).2.1 := by decide +kernel
theorem tyX1_ok : ∀ k, k < 6 → parseFieldDescriptor (TX1 k).2.2.1 = some (tyX1 k) := by decide +kernel
abbrev cX1_init : ByteArray := prog_3_method_1_code
def yX1_init : MethodName := ⟨RX1, "<init>", "(IILTagwranglery$Comment;Z)V"⟩
abbrev cX1_isFrozenHereOrAbove : ByteArray := prog_3_method_2_code
def yX1_isFrozenHereOrAbove : MethodName := ⟨RX1, "isFrozenHereOrAbove", "()Z"⟩
def RX2 : String := "Tagwranglery$Gifts"
def TX2 : u_T := fun k => match k with
  | 0 => ("Tagwranglery$Gifts", "signs", "[LTagwranglery$Sign;", true)
  | 1 => ("Tagwranglery$Gifts", "count", "I", false)
  | 2 => ("Tagwranglery$Gifts", "receivers", "[I", true)
  | _ => ("Tagwranglery$Gifts", "ways", "[I", true)
def tyX2 : Nat → FieldType := fun k => match k with
  | 0 => .array (.object "Tagwranglery$Sign")
  | 1 => .int
  | 2 => .array .int
  | _ => .array .int
abbrev wsX20 : List Cond := u_ws RX2 TX2 4
theorem nmX2 : ∀ a, a < 4 → ∀ b, b < 4 → a ≠ b → (TX2 a).2.1 ≠ (TX2 b).2.1 := by decide +kernel
theorem tyX2_ok : ∀ k, k < 4 → parseFieldDescriptor (TX2 k).2.2.1 = some (tyX2 k) := by decide +kernel
abbrev cX2_init : ByteArray := prog_4_method_1_code
def yX2_init : MethodName := ⟨RX2, "<init>", "()V"⟩
abbrev cX2_hasSignOf : ByteArray := prog_4_method_2_code
def yX2_hasSignOf : MethodName := ⟨RX2, "hasSignOf", "(I)Z"⟩
abbrev cX2_add : ByteArray := prog_4_method_3_code
def yX2_add : MethodName := ⟨RX2, "add", "(LTagwranglery$Sign;)I"⟩
abbrev cX2_countMatches : ByteArray := prog_4_method_4_code
def yX2_countMatches : MethodName := ⟨RX2, "countMatches", "(LTagwranglery$Tags;)I"⟩
abbrev cX2_receiverOf : ByteArray := prog_4_method_5_code
def yX2_receiverOf : MethodName := ⟨RX2, "receiverOf", "(ILTagwranglery$Tags;)I"⟩
abbrev cX2_lowestReceiver : ByteArray := prog_4_method_6_code
def yX2_lowestReceiver : MethodName := ⟨RX2, "lowestReceiver", "(II)I"⟩
abbrev cX2_findWays : ByteArray := prog_4_method_7_code
def yX2_findWays : MethodName := ⟨RX2, "findWays", "(LTagwranglery$Tags;)V"⟩
abbrev cX2_findReceivers : ByteArray := prog_4_method_8_code
def yX2_findReceivers : MethodName := ⟨RX2, "findReceivers", "(LTagwranglery$Tags;)V"⟩
def RX3 : String := "Tagwranglery$Person"
def TX3 : u_T := fun k => match k with
  | 0 => ("Tagwranglery$Person", "blocked", "I", false)
  | 1 => ("Tagwranglery$Person", "workDays", "[I", true)
  | 2 => ("Tagwranglery$Person", "personDays", "[I", true)
  | _ => ("Tagwranglery$Person", "digested", "[I", true)
def tyX3 : Nat → FieldType := fun k => match k with
  | 0 => .int
  | 1 => .array .int
  | 2 => .array .int
  | _ => .array .int
abbrev wsX30 : List Cond := u_ws RX3 TX3 4
theorem nmX3 : ∀ a, a < 4 → ∀ b, b < 4 → a ≠ b → (TX3 a).2.1 ≠ (TX3 b).2.1 := by decide +kernel
theorem tyX3_ok : ∀ k, k < 4 → parseFieldDescriptor (TX3 k).2.2.1 = some (tyX3 k) := by decide +kernel
abbrev cX3_init : ByteArray := prog_5_method_1_code
def yX3_init : MethodName := ⟨RX3, "<init>", "()V"⟩
abbrev cX3_firstDayOfAny : ByteArray := prog_5_method_2_code
def yX3_firstDayOfAny : MethodName := ⟨RX3, "firstDayOfAny", "(I)I"⟩
def RX4 : String := "Tagwranglery$Scanner"
def TX4 : u_T := fun k => match k with
  | 0 => ("Tagwranglery$Scanner", "depth", "I", false)
  | 1 => ("Tagwranglery$Scanner", "wantsItem", "Z", false)
  | 2 => ("Tagwranglery$Scanner", "figuresWanted", "I", false)
  | 3 => ("Tagwranglery$Scanner", "letter", "C", false)
  | _ => ("Tagwranglery$Scanner", "number", "I", false)
def tyX4 : Nat → FieldType := fun k => match k with
  | 0 => .int
  | 1 => .boolean
  | 2 => .int
  | 3 => .char
  | _ => .int
abbrev wsX40 : List Cond := u_ws RX4 TX4 5
theorem nmX4 : ∀ a, a < 5 → ∀ b, b < 5 → a ≠ b → (TX4 a).2.1 ≠ (TX4 b).2.1 := by decide +kernel
theorem tyX4_ok : ∀ k, k < 5 → parseFieldDescriptor (TX4 k).2.2.1 = some (tyX4 k) := by decide +kernel
abbrev cX4_init : ByteArray := prog_6_method_1_code
def yX4_init : MethodName := ⟨RX4, "<init>", "()V"⟩
abbrev cX4_start : ByteArray := prog_6_method_2_code
def yX4_start : MethodName := ⟨RX4, "start", "()V"⟩
abbrev cX4_takes : ByteArray := prog_6_method_3_code
def yX4_takes : MethodName := ⟨RX4, "takes", "(C)Z"⟩
abbrev cX4_isAtEnd : ByteArray := prog_6_method_4_code
def yX4_isAtEnd : MethodName := ⟨RX4, "isAtEnd", "()Z"⟩
abbrev cX4_hasItem : ByteArray := prog_6_method_5_code
def yX4_hasItem : MethodName := ⟨RX4, "hasItem", "(C)Z"⟩
abbrev cX4_takesItem : ByteArray := prog_6_method_6_code
def yX4_takesItem : MethodName := ⟨RX4, "takesItem", "(C)Z"⟩
abbrev cX4_takesFigure : ByteArray := prog_6_method_7_code
def yX4_takesFigure : MethodName := ⟨RX4, "takesFigure", "(C)Z"⟩
abbrev cX4_takesLink : ByteArray := prog_6_method_8_code
def yX4_takesLink : MethodName := ⟨RX4, "takesLink", "(C)Z"⟩
abbrev cX4_isFigure : ByteArray := prog_6_method_9_code
def yX4_isFigure : MethodName := ⟨RX4, "isFigure", "(C)Z"⟩
abbrev cX4_figuresOf : ByteArray := prog_6_method_10_code
def yX4_figuresOf : MethodName := ⟨RX4, "figuresOf", "(C)I"⟩
abbrev cX4_greatestOf : ByteArray := prog_6_method_11_code
def yX4_greatestOf : MethodName := ⟨RX4, "greatestOf", "(C)I"⟩
def RX5 : String := "Tagwranglery$Sieve"
def TX5 : u_T := fun k => match k with
  | 0 => ("Tagwranglery$Sieve", "parts", "[I", true)
  | 1 => ("Tagwranglery$Sieve", "items", "[I", true)
  | 2 => ("Tagwranglery$Sieve", "nots", "[Z", true)
  | _ => ("Tagwranglery$Sieve", "level", "I", false)
def tyX5 : Nat → FieldType := fun k => match k with
  | 0 => .array .int
  | 1 => .array .int
  | 2 => .array .boolean
  | _ => .int
abbrev wsX50 : List Cond := u_ws RX5 TX5 4
theorem nmX5 : ∀ a, a < 4 → ∀ b, b < 4 → a ≠ b → (TX5 a).2.1 ≠ (TX5 b).2.1 := by decide +kernel
theorem tyX5_ok : ∀ k, k < 4 → parseFieldDescriptor (TX5 k).2.2.1 = some (tyX5 k) := by decide +kernel
abbrev cX5_init : ByteArray := prog_7_method_1_code
def yX5_init : MethodName := ⟨RX5, "<init>", "()V"⟩
abbrev cX5_start : ByteArray := prog_7_method_2_code
def yX5_start : MethodName := ⟨RX5, "start", "()V"⟩
abbrev cX5_mark : ByteArray := prog_7_method_3_code
def yX5_mark : MethodName := ⟨RX5, "mark", "(C)V"⟩
abbrev cX5_item : ByteArray := prog_7_method_4_code
def yX5_item : MethodName := ⟨RX5, "item", "(I)V"⟩
abbrev cX5_end : ByteArray := prog_7_method_5_code
def yX5_end : MethodName := ⟨RX5, "end", "()I"⟩
abbrev cX5_clear : ByteArray := prog_7_method_6_code
def yX5_clear : MethodName := ⟨RX5, "clear", "()V"⟩
def RX6 : String := "Tagwranglery$Sign"
def TX6 : u_T := fun k => match k with
  | 0 => ("Tagwranglery$Sign", "person", "I", true)
  | 1 => ("Tagwranglery$Sign", "wishes", "I", true)
  | 2 => ("Tagwranglery$Sign", "offers", "I", true)
  | _ => ("Tagwranglery$Sign", "barred", "I", true)
def tyX6 : Nat → FieldType := fun k => match k with
  | 0 => .int
  | 1 => .int
  | 2 => .int
  | _ => .int
abbrev wsX60 : List Cond := u_ws RX6 TX6 4
theorem nmX6 : ∀ a, a < 4 → ∀ b, b < 4 → a ≠ b → (TX6 a).2.1 ≠ (TX6 b).2.1 := by decide +kernel
theorem tyX6_ok : ∀ k, k < 4 → parseFieldDescriptor (TX6 k).2.2.1 = some (tyX6 k) := by decide +kernel
abbrev cX6_init : ByteArray := prog_8_method_1_code
def yX6_init : MethodName := ⟨RX6, "<init>", "(IIII)V"⟩
abbrev cX6_suits : ByteArray := prog_8_method_2_code
def yX6_suits : MethodName := ⟨RX6, "suits", "(LTagwranglery$Sign;LTagwranglery$Tags;)Z"⟩
def RX7 : String := "Tagwranglery$Tags"
def TX7 : u_T := fun k => match k with
  | 0 => ("Tagwranglery$Tags", "count", "I", false)
  | 1 => ("Tagwranglery$Tags", "meanings", "[I", true)
  | 2 => ("Tagwranglery$Tags", "parents", "[I", true)
  | _ => ("Tagwranglery$Tags", "above", "[I", true)
def tyX7 : Nat → FieldType := fun k => match k with
  | 0 => .int
  | 1 => .array .int
  | 2 => .array .int
  | _ => .array .int
abbrev wsX70 : List Cond := u_ws RX7 TX7 4
theorem nmX7 : ∀ a, a < 4 → ∀ b, b < 4 → a ≠ b → (TX7 a).2.1 ≠ (TX7 b).2.1 := by decide +kernel
theorem tyX7_ok : ∀ k, k < 4 → parseFieldDescriptor (TX7 k).2.2.1 = some (tyX7 k) := by decide +kernel
abbrev cX7_init : ByteArray := prog_9_method_1_code
def yX7_init : MethodName := ⟨RX7, "<init>", "()V"⟩
abbrev cX7_add : ByteArray := prog_9_method_2_code
def yX7_add : MethodName := ⟨RX7, "add", "()I"⟩
abbrev cX7_kindOf : ByteArray := prog_9_method_3_code
def yX7_kindOf : MethodName := ⟨RX7, "kindOf", "(I)I"⟩
abbrev cX7_meaningOf : ByteArray := prog_9_method_4_code
def yX7_meaningOf : MethodName := ⟨RX7, "meaningOf", "(I)I"⟩
abbrev cX7_aboveOf : ByteArray := prog_9_method_5_code
def yX7_aboveOf : MethodName := ⟨RX7, "aboveOf", "(I)I"⟩
abbrev cX7_isAbove : ByteArray := prog_9_method_6_code
def yX7_isAbove : MethodName := ⟨RX7, "isAbove", "(II)Z"⟩
abbrev cX7_isParent : ByteArray := prog_9_method_7_code
def yX7_isParent : MethodName := ⟨RX7, "isParent", "(II)Z"⟩
abbrev cX7_makeMain : ByteArray := prog_9_method_8_code
def yX7_makeMain : MethodName := ⟨RX7, "makeMain", "(I)V"⟩
abbrev cX7_makeAlias : ByteArray := prog_9_method_9_code
def yX7_makeAlias : MethodName := ⟨RX7, "makeAlias", "(II)V"⟩
abbrev cX7_setParent : ByteArray := prog_9_method_10_code
def yX7_setParent : MethodName := ⟨RX7, "setParent", "(IIZ)V"⟩
abbrev cX7_findAbove : ByteArray := prog_9_method_11_code
def yX7_findAbove : MethodName := ⟨RX7, "findAbove", "()V"⟩
abbrev cX7_meaningsOf : ByteArray := prog_9_method_12_code
def yX7_meaningsOf : MethodName := ⟨RX7, "meaningsOf", "(I)I"⟩
abbrev cX7_belongUnder : ByteArray := prog_9_method_13_code
def yX7_belongUnder : MethodName := ⟨RX7, "belongUnder", "(I)I"⟩
def RX8 : String := "Tagwranglery$Tape"
def TX8 : u_T := fun k => match k with
  | 0 => ("Tagwranglery$Tape", "characters", "[C", true)
  | 1 => ("Tagwranglery$Tape", "length", "I", false)
  | _ => ("Tagwranglery$Tape", "scanner", "LTagwranglery$Scanner;", true)
def tyX8 : Nat → FieldType := fun k => match k with
  | 0 => .array .char
  | 1 => .int
  | _ => .object "Tagwranglery$Scanner"
abbrev wsX80 : List Cond := u_ws RX8 TX8 3
theorem nmX8 : ∀ a, a < 3 → ∀ b, b < 3 → a ≠ b → (TX8 a).2.1 ≠ (TX8 b).2.1 := by decide +kernel
theorem tyX8_ok : ∀ k, k < 3 → parseFieldDescriptor (TX8 k).2.2.1 = some (tyX8 k) := by decide +kernel
abbrev cX8_init : ByteArray := prog_10_method_1_code
def yX8_init : MethodName := ⟨RX8, "<init>", "()V"⟩
abbrev cX8_holds : ByteArray := prog_10_method_2_code
def yX8_holds : MethodName := ⟨RX8, "holds", "(C)Z"⟩
abbrev cX8_add : ByteArray := prog_10_method_3_code
def yX8_add : MethodName := ⟨RX8, "add", "(C)V"⟩
abbrev cX8_firstFault : ByteArray := prog_10_method_4_code
def yX8_firstFault : MethodName := ⟨RX8, "firstFault", "()I"⟩
def RX9 : String := "Tagwranglery$Work"
def TX9 : u_T := fun k => match k with
  | 0 => ("Tagwranglery$Work", "rating", "I", true)
  | 1 => ("Tagwranglery$Work", "owners", "I", false)
  | 2 => ("Tagwranglery$Work", "chapterDays", "[I", true)
  | 3 => ("Tagwranglery$Work", "chapterCount", "I", false)
  | 4 => ("Tagwranglery$Work", "postDay", "I", false)
  | 5 => ("Tagwranglery$Work", "locked", "Z", false)
  | 6 => ("Tagwranglery$Work", "collection", "LTagwranglery$Collection;", false)
  | 7 => ("Tagwranglery$Work", "tags", "I", false)
  | 8 => ("Tagwranglery$Work", "filed", "I", false)
  | 9 => ("Tagwranglery$Work", "waits", "Z", false)
  | 10 => ("Tagwranglery$Work", "screens", "Z", false)
  | _ => ("Tagwranglery$Work", "kudos", "I", false)
def tyX9 : Nat → FieldType := fun k => match k with
  | 0 => .int
  | 1 => .int
  | 2 => .array .int
  | 3 => .int
  | 4 => .int
  | 5 => .boolean
  | 6 => .object "Tagwranglery$Collection"
  | 7 => .int
  | 8 => .int
  | 9 => .boolean
  | 10 => .boolean
  | _ => .int
abbrev wsX90 : List Cond := u_ws RX9 TX9 12
theorem nmX9 : ∀ a, a < 12 → ∀ b, b < 12 → a ≠ b → (TX9 a).2.1 ≠ (TX9 b).2.1 := by decide +kernel
theorem tyX9_ok : ∀ k, k < 12 → parseFieldDescriptor (TX9 k).2.2.1 = some (tyX9 k) := by decide +kernel
abbrev cX9_init : ByteArray := prog_11_method_1_code
def yX9_init : MethodName := ⟨RX9, "<init>", "(II)V"⟩
abbrev cX9_isPosted : ByteArray := prog_11_method_2_code
def yX9_isPosted : MethodName := ⟨RX9, "isPosted", "()Z"⟩
abbrev cX9_isOwnedBy : ByteArray := prog_11_method_3_code
def yX9_isOwnedBy : MethodName := ⟨RX9, "isOwnedBy", "(I)Z"⟩
abbrev cX9_isSeenBy : ByteArray := prog_11_method_4_code
def yX9_isSeenBy : MethodName := ⟨RX9, "isSeenBy", "(II)Z"⟩
abbrev cX9_ownersToldTo : ByteArray := prog_11_method_5_code
def yX9_ownersToldTo : MethodName := ⟨RX9, "ownersToldTo", "(II)I"⟩
abbrev cX9_outDay : ByteArray := prog_11_method_6_code
def yX9_outDay : MethodName := ⟨RX9, "outDay", "(I)I"⟩
abbrev cX9_latest : ByteArray := prog_11_method_7_code
def yX9_latest : MethodName := ⟨RX9, "latest", "()I"⟩
abbrev cX9_chaptersOutFrom : ByteArray := prog_11_method_8_code
def yX9_chaptersOutFrom : MethodName := ⟨RX9, "chaptersOutFrom", "(I)I"⟩
abbrev cX9_fileUnder : ByteArray := prog_11_method_9_code
def yX9_fileUnder : MethodName := ⟨RX9, "fileUnder", "(I)V"⟩
def RX10 : String := "Tagwranglery"
def TX10 : u_T := fun k => match k with
  | 0 => ("Tagwranglery", "day", "I", false)
  | 1 => ("Tagwranglery", "sameFaces", "[I", true)
  | 2 => ("Tagwranglery", "people", "[LTagwranglery$Person;", true)
  | 3 => ("Tagwranglery", "works", "[LTagwranglery$Work;", true)
  | 4 => ("Tagwranglery", "workCount", "I", false)
  | 5 => ("Tagwranglery", "collections", "[LTagwranglery$Collection;", true)
  | 6 => ("Tagwranglery", "collectionCount", "I", false)
  | 7 => ("Tagwranglery", "tags", "LTagwranglery$Tags;", true)
  | 8 => ("Tagwranglery", "tape", "LTagwranglery$Tape;", true)
  | 9 => ("Tagwranglery", "sieve", "LTagwranglery$Sieve;", true)
  | 10 => ("Tagwranglery", "gifts", "LTagwranglery$Gifts;", true)
  | 11 => ("Tagwranglery", "comments", "[LTagwranglery$Comment;", true)
  | _ => ("Tagwranglery", "commentCount", "I", false)
def tyX10 : Nat → FieldType := fun k => match k with
  | 0 => .int
  | 1 => .array .int
  | 2 => .array (.object "Tagwranglery$Person")
  | 3 => .array (.object "Tagwranglery$Work")
  | 4 => .int
  | 5 => .array (.object "Tagwranglery$Collection")
  | 6 => .int
  | 7 => .object "Tagwranglery$Tags"
  | 8 => .object "Tagwranglery$Tape"
  | 9 => .object "Tagwranglery$Sieve"
  | 10 => .object "Tagwranglery$Gifts"
  | 11 => .array (.object "Tagwranglery$Comment")
  | _ => .int
abbrev wsX100 : List Cond := u_ws RX10 TX10 13
theorem nmX10 : ∀ a, a < 13 → ∀ b, b < 13 → a ≠ b → (TX10 a).2.1 ≠ (TX10 b).2.1 := by decide +kernel
theorem tyX10_ok : ∀ k, k < 13 → parseFieldDescriptor (TX10 k).2.2.1 = some (tyX10 k) := by decide +kernel
abbrev cX10_init : ByteArray := prog_1_method_1_code
def yX10_init : MethodName := ⟨RX10, "<init>", "()V"⟩
abbrev cX10_pass : ByteArray := prog_1_method_2_code
def yX10_pass : MethodName := ⟨RX10, "pass", "(I)I"⟩
abbrev cX10_block : ByteArray := prog_1_method_3_code
def yX10_block : MethodName := ⟨RX10, "block", "(IIZ)Z"⟩
abbrev cX10_same : ByteArray := prog_1_method_4_code
def yX10_same : MethodName := ⟨RX10, "same", "(II)Z"⟩
abbrev cX10_work : ByteArray := prog_1_method_5_code
def yX10_work : MethodName := ⟨RX10, "work", "(II)I"⟩
abbrev cX10_join : ByteArray := prog_1_method_6_code
def yX10_join : MethodName := ⟨RX10, "join", "(II)I"⟩
abbrev cX10_leave : ByteArray := prog_1_method_7_code
def yX10_leave : MethodName := ⟨RX10, "leave", "(II)I"⟩
abbrev cX10_chapter : ByteArray := prog_1_method_8_code
def yX10_chapter : MethodName := ⟨RX10, "chapter", "(I)I"⟩
abbrev cX10_post : ByteArray := prog_1_method_9_code
def yX10_post : MethodName := ⟨RX10, "post", "(I)I"⟩
abbrev cX10_lock : ByteArray := prog_1_method_10_code
def yX10_lock : MethodName := ⟨RX10, "lock", "(IZ)Z"⟩
abbrev cX10_collection : ByteArray := prog_1_method_11_code
def yX10_collection : MethodName := ⟨RX10, "collection", "(II)I"⟩
abbrev cX10_collect : ByteArray := prog_1_method_12_code
def yX10_collect : MethodName := ⟨RX10, "collect", "(II)V"⟩
abbrev cX10_sees : ByteArray := prog_1_method_13_code
def yX10_sees : MethodName := ⟨RX10, "sees", "(II)Z"⟩
abbrev cX10_owners : ByteArray := prog_1_method_14_code
def yX10_owners : MethodName := ⟨RX10, "owners", "(II)I"⟩
abbrev cX10_tag : ByteArray := prog_1_method_15_code
def yX10_tag : MethodName := ⟨RX10, "tag", "()I"⟩
abbrev cX10_make : ByteArray := prog_1_method_16_code
def yX10_make : MethodName := ⟨RX10, "make", "(I)I"⟩
abbrev cX10_merge : ByteArray := prog_1_method_17_code
def yX10_merge : MethodName := ⟨RX10, "merge", "(II)I"⟩
abbrev cX10_parent : ByteArray := prog_1_method_18_code
def yX10_parent : MethodName := ⟨RX10, "parent", "(IIZ)Z"⟩
abbrev cX10_ofTag : ByteArray := prog_1_method_19_code
def yX10_ofTag : MethodName := ⟨RX10, "ofTag", "(II)I"⟩
abbrev cX10_put : ByteArray := prog_1_method_20_code
def yX10_put : MethodName := ⟨RX10, "put", "(IIZ)Z"⟩
abbrev cX10_wave : ByteArray := prog_1_method_21_code
def yX10_wave : MethodName := ⟨RX10, "wave", "(I)I"⟩
abbrev cX10_waiting : ByteArray := prog_1_method_22_code
def yX10_waiting : MethodName := ⟨RX10, "waiting", "()I"⟩
abbrev cX10_under : ByteArray := prog_1_method_23_code
def yX10_under : MethodName := ⟨RX10, "under", "(IZ)I"⟩
abbrev cX10_type : ByteArray := prog_1_method_24_code
def yX10_type : MethodName := ⟨RX10, "type", "(JI)I"⟩
abbrev cX10_wipe : ByteArray := prog_1_method_25_code
def yX10_wipe : MethodName := ⟨RX10, "wipe", "()I"⟩
abbrev cX10_fault : ByteArray := prog_1_method_26_code
def yX10_fault : MethodName := ⟨RX10, "fault", "()I"⟩
abbrev cX10_search : ByteArray := prog_1_method_27_code
def yX10_search : MethodName := ⟨RX10, "search", "(IZ)I"⟩
abbrev cX10_result : ByteArray := prog_1_method_28_code
def yX10_result : MethodName := ⟨RX10, "result", "(II)I"⟩
abbrev cX10_sign : ByteArray := prog_1_method_29_code
def yX10_sign : MethodName := ⟨RX10, "sign", "(IIII)I"⟩
abbrev cX10_match : ByteArray := prog_1_method_30_code
def yX10_match : MethodName := ⟨RX10, "match", "(I)I"⟩
abbrev cX10_matches : ByteArray := prog_1_method_31_code
def yX10_matches : MethodName := ⟨RX10, "matches", "()I"⟩
abbrev cX10_screen : ByteArray := prog_1_method_32_code
def yX10_screen : MethodName := ⟨RX10, "screen", "(IZ)Z"⟩
abbrev cX10_comment : ByteArray := prog_1_method_33_code
def yX10_comment : MethodName := ⟨RX10, "comment", "(III)I"⟩
abbrev cX10_change : ByteArray := prog_1_method_34_code
def yX10_change : MethodName := ⟨RX10, "change", "(II)Z"⟩
abbrev cX10_reads : ByteArray := prog_1_method_35_code
def yX10_reads : MethodName := ⟨RX10, "reads", "(II)I"⟩
abbrev cX10_kudos : ByteArray := prog_1_method_36_code
def yX10_kudos : MethodName := ⟨RX10, "kudos", "(II)I"⟩
abbrev cX10_liked : ByteArray := prog_1_method_37_code
def yX10_liked : MethodName := ⟨RX10, "liked", "(I)I"⟩
abbrev cX10_subscribe : ByteArray := prog_1_method_38_code
def yX10_subscribe : MethodName := ⟨RX10, "subscribe", "(IZI)Z"⟩
abbrev cX10_news : ByteArray := prog_1_method_39_code
def yX10_news : MethodName := ⟨RX10, "news", "(I)I"⟩
abbrev cX10_digest : ByteArray := prog_1_method_40_code
def yX10_digest : MethodName := ⟨RX10, "digest", "(I)I"⟩
abbrev cX10_checkFace : ByteArray := prog_1_method_41_code
def yX10_checkFace : MethodName := ⟨RX10, "checkFace", "(I)V"⟩
abbrev cX10_checkPerson : ByteArray := prog_1_method_42_code
def yX10_checkPerson : MethodName := ⟨RX10, "checkPerson", "(I)V"⟩
abbrev cX10_checkTag : ByteArray := prog_1_method_43_code
def yX10_checkTag : MethodName := ⟨RX10, "checkTag", "(I)V"⟩
abbrev cX10_checkQuery : ByteArray := prog_1_method_44_code
def yX10_checkQuery : MethodName := ⟨RX10, "checkQuery", "()V"⟩
abbrev cX10_checkWork : ByteArray := prog_1_method_45_code
def yX10_checkWork : MethodName := ⟨RX10, "checkWork", "(I)V"⟩
abbrev cX10_workAt : ByteArray := prog_1_method_46_code
def yX10_workAt : MethodName := ⟨RX10, "workAt", "(I)LTagwranglery$Work;"⟩
abbrev cX10_commentAt : ByteArray := prog_1_method_47_code
def yX10_commentAt : MethodName := ⟨RX10, "commentAt", "(I)LTagwranglery$Comment;"⟩
abbrev cX10_has : ByteArray := prog_1_method_48_code
def yX10_has : MethodName := ⟨RX10, "has", "(II)Z"⟩
abbrev cX10_with : ByteArray := prog_1_method_49_code
def yX10_with : MethodName := ⟨RX10, "with", "(IIZ)I"⟩
abbrev cX10_isWithin : ByteArray := prog_1_method_50_code
def yX10_isWithin : MethodName := ⟨RX10, "isWithin", "(II)Z"⟩
abbrev cX10_letTaggedWorksWait : ByteArray := prog_1_method_51_code
def yX10_letTaggedWorksWait : MethodName := ⟨RX10, "letTaggedWorksWait", "()V"⟩
abbrev cX10_placesOf : ByteArray := prog_1_method_52_code
def yX10_placesOf : MethodName := ⟨RX10, "placesOf", "(LTagwranglery$Work;Z)I"⟩
abbrev cX10_countWith : ByteArray := prog_1_method_53_code
def yX10_countWith : MethodName := ⟨RX10, "countWith", "(I)I"⟩
abbrev cX10_countFiledUnder : ByteArray := prog_1_method_54_code
def yX10_countFiledUnder : MethodName := ⟨RX10, "countFiledUnder", "(I)I"⟩
abbrev cX10_characterAt : ByteArray := prog_1_method_55_code
def yX10_characterAt : MethodName := ⟨RX10, "characterAt", "(JI)C"⟩
abbrev cX10_found : ByteArray := prog_1_method_56_code
def yX10_found : MethodName := ⟨RX10, "found", "(IZ)I"⟩
abbrev cX10_worksOfItem : ByteArray := prog_1_method_57_code
def yX10_worksOfItem : MethodName := ⟨RX10, "worksOfItem", "(CIIZ)I"⟩
abbrev cX10_isTagSo : ByteArray := prog_1_method_58_code
def yX10_isTagSo : MethodName := ⟨RX10, "isTagSo", "(LTagwranglery$Work;IZ)Z"⟩
abbrev cX10_worksSeenBy : ByteArray := prog_1_method_59_code
def yX10_worksSeenBy : MethodName := ⟨RX10, "worksSeenBy", "(I)I"⟩
abbrev cX10_countAheadOf : ByteArray := prog_1_method_60_code
def yX10_countAheadOf : MethodName := ⟨RX10, "countAheadOf", "(II)I"⟩
abbrev cX10_isReadBy : ByteArray := prog_1_method_61_code
def yX10_isReadBy : MethodName := ⟨RX10, "isReadBy", "(ILTagwranglery$Comment;LTagwranglery$Work;)Z"⟩
abbrev cX10_mayComment : ByteArray := prog_1_method_62_code
def yX10_mayComment : MethodName := ⟨RX10, "mayComment", "(LTagwranglery$Work;ILTagwranglery$Comment;)Z"⟩
abbrev cX10_isBlockedByAny : ByteArray := prog_1_method_63_code
def yX10_isBlockedByAny : MethodName := ⟨RX10, "isBlockedByAny", "(II)Z"⟩
abbrev cX10_isBlockedBy : ByteArray := prog_1_method_64_code
def yX10_isBlockedBy : MethodName := ⟨RX10, "isBlockedBy", "(II)Z"⟩
abbrev cX10_countKudos : ByteArray := prog_1_method_65_code
def yX10_countKudos : MethodName := ⟨RX10, "countKudos", "(LTagwranglery$Work;)I"⟩
abbrev cX10_newChapters : ByteArray := prog_1_method_66_code
def yX10_newChapters : MethodName := ⟨RX10, "newChapters", "(II)I"⟩
def RX11 : String := "TagwrangleryModel"
def TX11 : u_T := fun k => match k with
  | 0 => ("TagwrangleryModel", "thrown", "I", false)
  | 1 => ("TagwrangleryModel", "day", "I", false)
  | 2 => ("TagwrangleryModel", "blocks", "[Z", true)
  | 3 => ("TagwrangleryModel", "classes", "[I", true)
  | 4 => ("TagwrangleryModel", "works", "I", false)
  | 5 => ("TagwrangleryModel", "ratings", "[I", true)
  | 6 => ("TagwrangleryModel", "ownersOf", "[I", true)
  | 7 => ("TagwrangleryModel", "chapters", "[I", true)
  | 8 => ("TagwrangleryModel", "chapterDay", "[I", true)
  | 9 => ("TagwrangleryModel", "postedOn", "[I", true)
  | 10 => ("TagwrangleryModel", "areLocked", "[Z", true)
  | 11 => ("TagwrangleryModel", "collectionOf", "[I", true)
  | 12 => ("TagwrangleryModel", "tagsOf", "[I", true)
  | 13 => ("TagwrangleryModel", "filed", "[I", true)
  | 14 => ("TagwrangleryModel", "wait", "[Z", true)
  | 15 => ("TagwrangleryModel", "screens", "[Z", true)
  | 16 => ("TagwrangleryModel", "kudosOf", "[I", true)
  | 17 => ("TagwrangleryModel", "collections", "I", false)
  | 18 => ("TagwrangleryModel", "opens", "[I", true)
  | 19 => ("TagwrangleryModel", "names", "[I", true)
  | 20 => ("TagwrangleryModel", "tags", "I", false)
  | 21 => ("TagwrangleryModel", "kinds", "[I", true)
  | 22 => ("TagwrangleryModel", "mains", "[I", true)
  | 23 => ("TagwrangleryModel", "parents", "[I", true)
  | 24 => ("TagwrangleryModel", "typed", "I", false)
  | 25 => ("TagwrangleryModel", "tape", "[I", true)
  | 26 => ("TagwrangleryModel", "parts", "[Z", true)
  | 27 => ("TagwrangleryModel", "items", "[Z", true)
  | 28 => ("TagwrangleryModel", "nots", "[Z", true)
  | 29 => ("TagwrangleryModel", "deep", "I", false)
  | 30 => ("TagwrangleryModel", "signs", "I", false)
  | 31 => ("TagwrangleryModel", "signOf", "[I", true)
  | 32 => ("TagwrangleryModel", "wishes", "[I", true)
  | 33 => ("TagwrangleryModel", "offers", "[I", true)
  | 34 => ("TagwrangleryModel", "barred", "[I", true)
  | 35 => ("TagwrangleryModel", "fits", "[Z", true)
  | 36 => ("TagwrangleryModel", "ways", "[I", true)
  | 37 => ("TagwrangleryModel", "comments", "I", false)
  | 38 => ("TagwrangleryModel", "commentOn", "[I", true)
  | 39 => ("TagwrangleryModel", "commentBy", "[I", true)
  | 40 => ("TagwrangleryModel", "above", "[I", true)
  | 41 => ("TagwrangleryModel", "areFrozen", "[Z", true)
  | 42 => ("TagwrangleryModel", "areScreened", "[Z", true)
  | 43 => ("TagwrangleryModel", "areRemoved", "[Z", true)
  | 44 => ("TagwrangleryModel", "ofWork", "[I", true)
  | 45 => ("TagwrangleryModel", "ofPerson", "[I", true)
  | _ => ("TagwrangleryModel", "digested", "[Z", true)
def tyX11 : Nat → FieldType := fun k => match k with
  | 0 => .int
  | 1 => .int
  | 2 => .array .boolean
  | 3 => .array .int
  | 4 => .int
  | 5 => .array .int
  | 6 => .array .int
  | 7 => .array .int
  | 8 => .array .int
  | 9 => .array .int
  | 10 => .array .boolean
  | 11 => .array .int
  | 12 => .array .int
  | 13 => .array .int
  | 14 => .array .boolean
  | 15 => .array .boolean
  | 16 => .array .int
  | 17 => .int
  | 18 => .array .int
  | 19 => .array .int
  | 20 => .int
  | 21 => .array .int
  | 22 => .array .int
  | 23 => .array .int
  | 24 => .int
  | 25 => .array .int
  | 26 => .array .boolean
  | 27 => .array .boolean
  | 28 => .array .boolean
  | 29 => .int
  | 30 => .int
  | 31 => .array .int
  | 32 => .array .int
  | 33 => .array .int
  | 34 => .array .int
  | 35 => .array .boolean
  | 36 => .array .int
  | 37 => .int
  | 38 => .array .int
  | 39 => .array .int
  | 40 => .array .int
  | 41 => .array .boolean
  | 42 => .array .boolean
  | 43 => .array .boolean
  | 44 => .array .int
  | 45 => .array .int
  | _ => .array .boolean
abbrev wsX110 : List Cond := u_ws RX11 TX11 47
theorem nmX11 : ∀ a, a < 47 → ∀ b, b < 47 → a ≠ b → (TX11 a).2.1 ≠ (TX11 b).2.1 := by decide +kernel
theorem tyX11_ok : ∀ k, k < 47 → parseFieldDescriptor (TX11 k).2.2.1 = some (tyX11 k) := by decide +kernel
abbrev cX11_init : ByteArray := prog_13_method_1_code
def yX11_init : MethodName := ⟨RX11, "<init>", "()V"⟩
abbrev cX11_thrown : ByteArray := prog_13_method_2_code
def yX11_thrown : MethodName := ⟨RX11, "thrown", "()I"⟩
abbrev cX11_holds : ByteArray := prog_13_method_3_code
def yX11_holds : MethodName := ⟨RX11, "holds", "(I)Z"⟩
abbrev cX11_in : ByteArray := prog_13_method_4_code
def yX11_in : MethodName := ⟨RX11, "in", "(III)Z"⟩
abbrev cX11_isPerson : ByteArray := prog_13_method_5_code
def yX11_isPerson : MethodName := ⟨RX11, "isPerson", "(I)Z"⟩
abbrev cX11_isFace : ByteArray := prog_13_method_6_code
def yX11_isFace : MethodName := ⟨RX11, "isFace", "(I)Z"⟩
abbrev cX11_isWork : ByteArray := prog_13_method_7_code
def yX11_isWork : MethodName := ⟨RX11, "isWork", "(I)Z"⟩
abbrev cX11_isTag : ByteArray := prog_13_method_8_code
def yX11_isTag : MethodName := ⟨RX11, "isTag", "(I)Z"⟩
abbrev cX11_has : ByteArray := prog_13_method_9_code
def yX11_has : MethodName := ⟨RX11, "has", "(II)Z"⟩
abbrev cX11_bits : ByteArray := prog_13_method_10_code
def yX11_bits : MethodName := ⟨RX11, "bits", "(I)I"⟩
abbrev cX11_pass : ByteArray := prog_13_method_11_code
def yX11_pass : MethodName := ⟨RX11, "pass", "(I)I"⟩
abbrev cX11_block : ByteArray := prog_13_method_12_code
def yX11_block : MethodName := ⟨RX11, "block", "(IIZ)Z"⟩
abbrev cX11_same : ByteArray := prog_13_method_13_code
def yX11_same : MethodName := ⟨RX11, "same", "(II)Z"⟩
abbrev cX11_work : ByteArray := prog_13_method_14_code
def yX11_work : MethodName := ⟨RX11, "work", "(II)I"⟩
abbrev cX11_join : ByteArray := prog_13_method_15_code
def yX11_join : MethodName := ⟨RX11, "join", "(II)I"⟩
abbrev cX11_leave : ByteArray := prog_13_method_16_code
def yX11_leave : MethodName := ⟨RX11, "leave", "(II)I"⟩
abbrev cX11_chapter : ByteArray := prog_13_method_17_code
def yX11_chapter : MethodName := ⟨RX11, "chapter", "(I)I"⟩
abbrev cX11_post : ByteArray := prog_13_method_18_code
def yX11_post : MethodName := ⟨RX11, "post", "(I)I"⟩
abbrev cX11_lock : ByteArray := prog_13_method_19_code
def yX11_lock : MethodName := ⟨RX11, "lock", "(IZ)Z"⟩
abbrev cX11_collection : ByteArray := prog_13_method_20_code
def yX11_collection : MethodName := ⟨RX11, "collection", "(II)I"⟩
abbrev cX11_collect : ByteArray := prog_13_method_21_code
def yX11_collect : MethodName := ⟨RX11, "collect", "(II)V"⟩
abbrev cX11_isOwner : ByteArray := prog_13_method_22_code
def yX11_isOwner : MethodName := ⟨RX11, "isOwner", "(II)Z"⟩
abbrev cX11_isSeen : ByteArray := prog_13_method_23_code
def yX11_isSeen : MethodName := ⟨RX11, "isSeen", "(II)Z"⟩
abbrev cX11_areTold : ByteArray := prog_13_method_24_code
def yX11_areTold : MethodName := ⟨RX11, "areTold", "(II)Z"⟩
abbrev cX11_sees : ByteArray := prog_13_method_25_code
def yX11_sees : MethodName := ⟨RX11, "sees", "(II)Z"⟩
abbrev cX11_owners : ByteArray := prog_13_method_26_code
def yX11_owners : MethodName := ⟨RX11, "owners", "(II)I"⟩
abbrev cX11_meaning : ByteArray := prog_13_method_27_code
def yX11_meaning : MethodName := ⟨RX11, "meaning", "(I)I"⟩
abbrev cX11_aboveOf : ByteArray := prog_13_method_28_code
def yX11_aboveOf : MethodName := ⟨RX11, "aboveOf", "(I)I"⟩
abbrev cX11_belongs : ByteArray := prog_13_method_29_code
def yX11_belongs : MethodName := ⟨RX11, "belongs", "(I)I"⟩
abbrev cX11_files : ByteArray := prog_13_method_30_code
def yX11_files : MethodName := ⟨RX11, "files", "(I)V"⟩
abbrev cX11_letsWait : ByteArray := prog_13_method_31_code
def yX11_letsWait : MethodName := ⟨RX11, "letsWait", "()V"⟩
abbrev cX11_tag : ByteArray := prog_13_method_32_code
def yX11_tag : MethodName := ⟨RX11, "tag", "()I"⟩
abbrev cX11_make : ByteArray := prog_13_method_33_code
def yX11_make : MethodName := ⟨RX11, "make", "(I)I"⟩
abbrev cX11_merge : ByteArray := prog_13_method_34_code
def yX11_merge : MethodName := ⟨RX11, "merge", "(II)I"⟩
abbrev cX11_parent : ByteArray := prog_13_method_35_code
def yX11_parent : MethodName := ⟨RX11, "parent", "(IIZ)Z"⟩
abbrev cX11_ofTag : ByteArray := prog_13_method_36_code
def yX11_ofTag : MethodName := ⟨RX11, "ofTag", "(II)I"⟩
abbrev cX11_put : ByteArray := prog_13_method_37_code
def yX11_put : MethodName := ⟨RX11, "put", "(IIZ)Z"⟩
abbrev cX11_wave : ByteArray := prog_13_method_38_code
def yX11_wave : MethodName := ⟨RX11, "wave", "(I)I"⟩
abbrev cX11_waiting : ByteArray := prog_13_method_39_code
def yX11_waiting : MethodName := ⟨RX11, "waiting", "()I"⟩
abbrev cX11_under : ByteArray := prog_13_method_40_code
def yX11_under : MethodName := ⟨RX11, "under", "(IZ)I"⟩
abbrev cX11_isFigure : ByteArray := prog_13_method_41_code
def yX11_isFigure : MethodName := ⟨RX11, "isFigure", "(I)Z"⟩
abbrev cX11_canBe : ByteArray := prog_13_method_42_code
def yX11_canBe : MethodName := ⟨RX11, "canBe", "(I)Z"⟩
abbrev cX11_type : ByteArray := prog_13_method_43_code
def yX11_type : MethodName := ⟨RX11, "type", "(JI)I"⟩
abbrev cX11_wipe : ByteArray := prog_13_method_44_code
def yX11_wipe : MethodName := ⟨RX11, "wipe", "()I"⟩
abbrev cX11_behind : ByteArray := prog_13_method_45_code
def yX11_behind : MethodName := ⟨RX11, "behind", "(II)I"⟩
abbrev cX11_faultOf : ByteArray := prog_13_method_46_code
def yX11_faultOf : MethodName := ⟨RX11, "faultOf", "()I"⟩
abbrev cX11_fault : ByteArray := prog_13_method_47_code
def yX11_fault : MethodName := ⟨RX11, "fault", "()I"⟩
abbrev cX11_gets : ByteArray := prog_13_method_48_code
def yX11_gets : MethodName := ⟨RX11, "gets", "(Z)V"⟩
abbrev cX11_opens : ByteArray := prog_13_method_49_code
def yX11_opens : MethodName := ⟨RX11, "opens", "()V"⟩
abbrev cX11_isOfTag : ByteArray := prog_13_method_50_code
def yX11_isOfTag : MethodName := ⟨RX11, "isOfTag", "(IIZ)Z"⟩
abbrev cX11_isSo : ByteArray := prog_13_method_51_code
def yX11_isSo : MethodName := ⟨RX11, "isSo", "(IIZ)Z"⟩
abbrev cX11_searchOf : ByteArray := prog_13_method_52_code
def yX11_searchOf : MethodName := ⟨RX11, "searchOf", "(IZ)I"⟩
abbrev cX11_search : ByteArray := prog_13_method_53_code
def yX11_search : MethodName := ⟨RX11, "search", "(IZ)I"⟩
abbrev cX11_outDay : ByteArray := prog_13_method_54_code
def yX11_outDay : MethodName := ⟨RX11, "outDay", "(II)I"⟩
abbrev cX11_latest : ByteArray := prog_13_method_55_code
def yX11_latest : MethodName := ⟨RX11, "latest", "(I)I"⟩
abbrev cX11_result : ByteArray := prog_13_method_56_code
def yX11_result : MethodName := ⟨RX11, "result", "(II)I"⟩
abbrev cX11_sign : ByteArray := prog_13_method_57_code
def yX11_sign : MethodName := ⟨RX11, "sign", "(IIII)I"⟩
abbrev cX11_suits : ByteArray := prog_13_method_58_code
def yX11_suits : MethodName := ⟨RX11, "suits", "(II)Z"⟩
abbrev cX11_counts : ByteArray := prog_13_method_59_code
def yX11_counts : MethodName := ⟨RX11, "counts", "()V"⟩
abbrev cX11_match : ByteArray := prog_13_method_60_code
def yX11_match : MethodName := ⟨RX11, "match", "(I)I"⟩
abbrev cX11_matches : ByteArray := prog_13_method_61_code
def yX11_matches : MethodName := ⟨RX11, "matches", "()I"⟩
abbrev cX11_screen : ByteArray := prog_13_method_62_code
def yX11_screen : MethodName := ⟨RX11, "screen", "(IZ)Z"⟩
abbrev cX11_isRead : ByteArray := prog_13_method_63_code
def yX11_isRead : MethodName := ⟨RX11, "isRead", "(II)Z"⟩
abbrev cX11_isBlocked : ByteArray := prog_13_method_64_code
def yX11_isBlocked : MethodName := ⟨RX11, "isBlocked", "(II)Z"⟩
abbrev cX11_canComment : ByteArray := prog_13_method_65_code
def yX11_canComment : MethodName := ⟨RX11, "canComment", "(III)Z"⟩
abbrev cX11_comment : ByteArray := prog_13_method_66_code
def yX11_comment : MethodName := ⟨RX11, "comment", "(III)I"⟩
abbrev cX11_change : ByteArray := prog_13_method_67_code
def yX11_change : MethodName := ⟨RX11, "change", "(II)Z"⟩
abbrev cX11_reads : ByteArray := prog_13_method_68_code
def yX11_reads : MethodName := ⟨RX11, "reads", "(II)I"⟩
abbrev cX11_gave : ByteArray := prog_13_method_69_code
def yX11_gave : MethodName := ⟨RX11, "gave", "(I)I"⟩
abbrev cX11_kudos : ByteArray := prog_13_method_70_code
def yX11_kudos : MethodName := ⟨RX11, "kudos", "(II)I"⟩
abbrev cX11_liked : ByteArray := prog_13_method_71_code
def yX11_liked : MethodName := ⟨RX11, "liked", "(I)I"⟩
abbrev cX11_subscribe : ByteArray := prog_13_method_72_code
def yX11_subscribe : MethodName := ⟨RX11, "subscribe", "(IZI)Z"⟩
abbrev cX11_isNews : ByteArray := prog_13_method_73_code
def yX11_isNews : MethodName := ⟨RX11, "isNews", "(III)Z"⟩
abbrev cX11_news : ByteArray := prog_13_method_74_code
def yX11_news : MethodName := ⟨RX11, "news", "(I)I"⟩
abbrev cX11_digest : ByteArray := prog_13_method_75_code
def yX11_digest : MethodName := ⟨RX11, "digest", "(I)I"⟩
def RJx145de : String := "java/io/Serializable"
def TJx145de : u_T := fun k => match k with
  | _ => ("", "", "", false)
def tyJx145de : Nat → FieldType := fun k => match k with
  | _ => .int
theorem nmJx145de : ∀ a, a < 0 → ∀ b, b < 0 → a ≠ b → (TJx145de a).2.1 ≠ (TJx145de b).2.1 := by decide +kernel
theorem tyJx145de_ok : ∀ k, k < 0 → parseFieldDescriptor (TJx145de k).2.2.1 = some (tyJx145de k) := by decide +kernel
def RJ6 : String := "java/lang/Integer"
def TJ6 : u_T := fun k => match k with
  | _ => ("", "", "", false)
def tyJ6 : Nat → FieldType := fun k => match k with
  | _ => .int
theorem nmJ6 : ∀ a, a < 0 → ∀ b, b < 0 → a ≠ b → (TJ6 a).2.1 ≠ (TJ6 b).2.1 := by decide +kernel
theorem tyJ6_ok : ∀ k, k < 0 → parseFieldDescriptor (TJ6 k).2.2.1 = some (tyJ6 k) := by decide +kernel
abbrev cJ6_bitCount_0f7a4 : ByteArray := prog_18_method_49_code
def yJ6_bitCount_0f7a4 : MethodName := ⟨RJ6, "bitCount", "(I)I"⟩
def RJ9 : String := "java/lang/Math"
def TJ9 : u_T := fun k => match k with
  | _ => ("", "", "", false)
def tyJ9 : Nat → FieldType := fun k => match k with
  | _ => .int
theorem nmJ9 : ∀ a, a < 0 → ∀ b, b < 0 → a ≠ b → (TJ9 a).2.1 ≠ (TJ9 b).2.1 := by decide +kernel
theorem tyJ9_ok : ∀ k, k < 0 → parseFieldDescriptor (TJ9 k).2.2.1 = some (tyJ9 k) := by decide +kernel
abbrev cJ9_max_7cf53 : ByteArray := prog_19_method_65_code
def yJ9_max_7cf53 : MethodName := ⟨RJ9, "max", "(II)I"⟩
abbrev cJ9_min_7cf53 : ByteArray := prog_19_method_69_code
def yJ9_min_7cf53 : MethodName := ⟨RJ9, "min", "(II)I"⟩
def RJ0 : String := "java/lang/String"
def TJ0 : u_T := fun k => match k with
  | _ => ("", "", "", false)
def tyJ0 : Nat → FieldType := fun k => match k with
  | _ => .int
theorem nmJ0 : ∀ a, a < 0 → ∀ b, b < 0 → a ≠ b → (TJ0 a).2.1 ≠ (TJ0 b).2.1 := by decide +kernel
theorem tyJ0_ok : ∀ k, k < 0 → parseFieldDescriptor (TJ0 k).2.2.1 = some (tyJ0 k) := by decide +kernel
def RJ10 : String := "java/lang/System"
def TJ10 : u_T := fun k => match k with
  | _ => ("", "", "", false)
def tyJ10 : Nat → FieldType := fun k => match k with
  | _ => .int
theorem nmJ10 : ∀ a, a < 0 → ∀ b, b < 0 → a ≠ b → (TJ10 a).2.1 ≠ (TJ10 b).2.1 := by decide +kernel
theorem tyJ10_ok : ∀ k, k < 0 → parseFieldDescriptor (TJ10 k).2.2.1 = some (tyJ10 k) := by decide +kernel
def RJ7 : String := "java/util/Arrays"
def TJ7 : u_T := fun k => match k with
  | _ => ("", "", "", false)
def tyJ7 : Nat → FieldType := fun k => match k with
  | _ => .int
theorem nmJ7 : ∀ a, a < 0 → ∀ b, b < 0 → a ≠ b → (TJ7 a).2.1 ≠ (TJ7 b).2.1 := by decide +kernel
theorem tyJ7_ok : ∀ k, k < 0 → parseFieldDescriptor (TJ7 k).2.2.1 = some (tyJ7 k) := by decide +kernel
abbrev cJ7_fill_53178 : ByteArray := prog_24_method_103_code
def yJ7_fill_53178 : MethodName := ⟨RJ7, "fill", "([II)V"⟩
def RL : String := "TagwrangleryLaw"
abbrev cL_pass : ByteArray := method_3_code
def yL_pass : MethodName := ⟨RL, "pass", "(LTagwranglery;I[J)I"⟩
abbrev cL_block : ByteArray := method_4_code
def yL_block : MethodName := ⟨RL, "block", "(LTagwranglery;IIZ[J)I"⟩
abbrev cL_same : ByteArray := method_5_code
def yL_same : MethodName := ⟨RL, "same", "(LTagwranglery;II[J)I"⟩
abbrev cL_work : ByteArray := method_6_code
def yL_work : MethodName := ⟨RL, "work", "(LTagwranglery;II[J)I"⟩
abbrev cL_join : ByteArray := method_7_code
def yL_join : MethodName := ⟨RL, "join", "(LTagwranglery;II[J)I"⟩
abbrev cL_leave : ByteArray := method_8_code
def yL_leave : MethodName := ⟨RL, "leave", "(LTagwranglery;II[J)I"⟩
abbrev cL_chapter : ByteArray := method_9_code
def yL_chapter : MethodName := ⟨RL, "chapter", "(LTagwranglery;I[J)I"⟩
abbrev cL_post : ByteArray := method_10_code
def yL_post : MethodName := ⟨RL, "post", "(LTagwranglery;I[J)I"⟩
abbrev cL_lock : ByteArray := method_11_code
def yL_lock : MethodName := ⟨RL, "lock", "(LTagwranglery;IZ[J)I"⟩
abbrev cL_collection : ByteArray := method_12_code
def yL_collection : MethodName := ⟨RL, "collection", "(LTagwranglery;II[J)I"⟩
abbrev cL_collect : ByteArray := method_13_code
def yL_collect : MethodName := ⟨RL, "collect", "(LTagwranglery;II)I"⟩
abbrev cL_sees : ByteArray := method_14_code
def yL_sees : MethodName := ⟨RL, "sees", "(LTagwranglery;II[J)I"⟩
abbrev cL_owners : ByteArray := method_15_code
def yL_owners : MethodName := ⟨RL, "owners", "(LTagwranglery;II[J)I"⟩
abbrev cL_tag : ByteArray := method_16_code
def yL_tag : MethodName := ⟨RL, "tag", "(LTagwranglery;[J)I"⟩
abbrev cL_make : ByteArray := method_17_code
def yL_make : MethodName := ⟨RL, "make", "(LTagwranglery;I[J)I"⟩
abbrev cL_merge : ByteArray := method_18_code
def yL_merge : MethodName := ⟨RL, "merge", "(LTagwranglery;II[J)I"⟩
abbrev cL_parent : ByteArray := method_19_code
def yL_parent : MethodName := ⟨RL, "parent", "(LTagwranglery;IIZ[J)I"⟩
abbrev cL_ofTag : ByteArray := method_20_code
def yL_ofTag : MethodName := ⟨RL, "ofTag", "(LTagwranglery;II[J)I"⟩
abbrev cL_put : ByteArray := method_21_code
def yL_put : MethodName := ⟨RL, "put", "(LTagwranglery;IIZ[J)I"⟩
abbrev cL_wave : ByteArray := method_22_code
def yL_wave : MethodName := ⟨RL, "wave", "(LTagwranglery;I[J)I"⟩
abbrev cL_under : ByteArray := method_23_code
def yL_under : MethodName := ⟨RL, "under", "(LTagwranglery;IZ[J)I"⟩
abbrev cL_type : ByteArray := method_24_code
def yL_type : MethodName := ⟨RL, "type", "(LTagwranglery;JI[J)I"⟩
abbrev cL_search : ByteArray := method_25_code
def yL_search : MethodName := ⟨RL, "search", "(LTagwranglery;IZ[J)I"⟩
abbrev cL_result : ByteArray := method_26_code
def yL_result : MethodName := ⟨RL, "result", "(LTagwranglery;II[J)I"⟩
abbrev cL_sign : ByteArray := method_27_code
def yL_sign : MethodName := ⟨RL, "sign", "(LTagwranglery;IIII[J)I"⟩
abbrev cL_match : ByteArray := method_28_code
def yL_match : MethodName := ⟨RL, "match", "(LTagwranglery;I[J)I"⟩
abbrev cL_screen : ByteArray := method_29_code
def yL_screen : MethodName := ⟨RL, "screen", "(LTagwranglery;IZ[J)I"⟩
abbrev cL_comment : ByteArray := method_30_code
def yL_comment : MethodName := ⟨RL, "comment", "(LTagwranglery;III[J)I"⟩
abbrev cL_change : ByteArray := method_31_code
def yL_change : MethodName := ⟨RL, "change", "(LTagwranglery;II[J)I"⟩
abbrev cL_reads : ByteArray := method_32_code
def yL_reads : MethodName := ⟨RL, "reads", "(LTagwranglery;II[J)I"⟩
abbrev cL_kudos : ByteArray := method_33_code
def yL_kudos : MethodName := ⟨RL, "kudos", "(LTagwranglery;II[J)I"⟩
abbrev cL_liked : ByteArray := method_34_code
def yL_liked : MethodName := ⟨RL, "liked", "(LTagwranglery;I[J)I"⟩
abbrev cL_subscribe : ByteArray := method_35_code
def yL_subscribe : MethodName := ⟨RL, "subscribe", "(LTagwranglery;IZI[J)I"⟩
abbrev cL_news : ByteArray := method_36_code
def yL_news : MethodName := ⟨RL, "news", "(LTagwranglery;I[J)I"⟩
abbrev cL_digest : ByteArray := method_37_code
def yL_digest : MethodName := ⟨RL, "digest", "(LTagwranglery;I[J)I"⟩
abbrev cL_law : ByteArray := code
def yL_law : MethodName := ⟨RL, "law", "([I)Z"⟩
abbrev vwCl : List vw_C := [(RX0, TX0, 2), (RX1, TX1, 6), (RX2, TX2, 4), (RX3, TX3, 4), (RX4, TX4, 5), (RX5, TX5, 4), (RX6, TX6, 4), (RX7, TX7, 4), (RX8, TX8, 3), (RX9, TX9, 12), (RX10, TX10, 13), (RX11, TX11, 47)]
end
section
/-! the places where objects are made: what is made there. 0: what is thrown; 1: the script -/
def am_kd : Nat → Nat := fun s => match s with
  | 2 => 5
  | 3 => 1
  | 4 => 1
  | 5 => 1
  | 6 => 1
  | 7 => 1
  | 8 => 1
  | 9 => 1
  | 10 => 1
  | 11 => 1
  | 12 => 1
  | 13 => 1
  | 14 => 1
  | 15 => 0
  | 16 => 1
  | 17 => 1
  | 18 => 5
  | 19 => 5
  | 20 => 5
  | 21 => 0
  | 22 => 0
  | 23 => 0
  | 24 => 0
  | 25 => 5
  | 26 => 0
  | 27 => 0
  | 28 => 0
  | 29 => 0
  | 30 => 0
  | 31 => 1
  | 32 => 1
  | 33 => 1
  | 34 => 1
  | 35 => 1
  | 36 => 1
  | 37 => 1
  | 38 => 1
  | 39 => 1
  | 40 => 1
  | 41 => 1
  | 42 => 1
  | 43 => 1
  | 44 => 1
  | 45 => 1
  | 46 => 1
  | 47 => 1
  | 48 => 1
  | 49 => 1
  | 50 => 1
  | 51 => 1
  | 52 => 1
  | 53 => 1
  | 54 => 1
  | 55 => 1
  | 56 => 1
  | 57 => 1
  | 58 => 1
  | 59 => 1
  | 60 => 1
  | 61 => 1
  | 62 => 1
  | 63 => 1
  | 64 => 1
  | 65 => 1
  | 66 => 1
  | 67 => 1
  | 68 => 1
  | 69 => 0
  | 70 => 0
  | 71 => 4
  | _ => 9
def am_ci : Nat → Nat := fun s => match s with
  | 2 => 6
  | 15 => 4
  | 18 => 3
  | 19 => 9
  | 21 => 7
  | 22 => 8
  | 23 => 5
  | 24 => 2
  | 25 => 1
  | 26 => 3
  | 27 => 9
  | 29 => 6
  | 30 => 1
  | 69 => 10
  | 70 => 11
  | _ => 0
def am_ln : Nat → Nat := fun s => match s with
  | 2 => 8
  | 3 => 8
  | 4 => 256
  | 5 => 20
  | 6 => 12
  | 7 => 20
  | 8 => 61
  | 9 => 61
  | 10 => 61
  | 11 => 30
  | 12 => 30
  | 13 => 30
  | 14 => 60
  | 16 => 8
  | 17 => 32
  | 18 => 12
  | 19 => 20
  | 20 => 6
  | 25 => 60
  | 31 => 144
  | 32 => 32
  | 33 => 20
  | 34 => 20
  | 35 => 20
  | 36 => 160
  | 37 => 20
  | 38 => 20
  | 39 => 20
  | 40 => 20
  | 41 => 20
  | 42 => 20
  | 43 => 20
  | 44 => 20
  | 45 => 6
  | 46 => 6
  | 47 => 30
  | 48 => 30
  | 49 => 30
  | 50 => 60
  | 51 => 64
  | 52 => 64
  | 53 => 64
  | 54 => 8
  | 55 => 8
  | 56 => 8
  | 57 => 8
  | 58 => 64
  | 59 => 256
  | 60 => 60
  | 61 => 60
  | 62 => 60
  | 63 => 60
  | 64 => 60
  | 65 => 60
  | 66 => 240
  | 67 => 144
  | 68 => 1920
  | 71 => 1
  | _ => 0
def am_ty : Nat → Nat := fun s => match s with
  | 2 => 8
  | 10 => 1
  | 14 => 2
  | 18 => 4
  | 19 => 5
  | 20 => 6
  | 25 => 7
  | 31 => 1
  | 38 => 1
  | 42 => 1
  | 43 => 1
  | 51 => 1
  | 52 => 1
  | 53 => 1
  | 58 => 1
  | 63 => 1
  | 64 => 1
  | 65 => 1
  | 68 => 1
  | 71 => 3
  | _ => 0
def am_nf : Nat → Nat := fun c => match c with
  | 0 => 2
  | 1 => 6
  | 2 => 4
  | 3 => 4
  | 4 => 5
  | 5 => 4
  | 6 => 4
  | 7 => 4
  | 8 => 3
  | 9 => 12
  | 10 => 13
  | 11 => 47
  | _ => 0
/-- whether a field holds a reference -/
def am_rf : Nat → Nat → Bool := fun c j => match c with
  | 1 => (j == 2)
  | 2 => (j == 0 || j == 2 || j == 3)
  | 3 => (j == 1 || j == 2 || j == 3)
  | 5 => (j == 0 || j == 1 || j == 2)
  | 7 => (j == 1 || j == 2 || j == 3)
  | 8 => (j == 0 || j == 2)
  | 9 => (j == 2 || j == 6)
  | 10 => (j == 1 || j == 2 || j == 3 || j == 5 || j == 7 || j == 8 || j == 9 || j == 10 || j == 11)
  | 11 => (j == 2 || j == 3 || j == 5 || j == 6 || j == 7 || j == 8 || j == 9 || j == 10 || j == 11 || j == 12 || j == 13 || j == 14 || j == 15 || j == 16 || j == 18 || j == 19 || j == 21 || j == 22 || j == 23 || j == 25 || j == 26 || j == 27 || j == 28 || j == 31 || j == 32 || j == 33 || j == 34 || j == 35 || j == 36 || j == 38 || j == 39 || j == 40 || j == 41 || j == 42 || j == 43 || j == 44 || j == 45 || j == 46)
  | _ => false
def am_tyX : Nat → Nat → FieldType := fun c => match c with
  | 0 => tyX0
  | 1 => tyX1
  | 2 => tyX2
  | 3 => tyX3
  | 4 => tyX4
  | 5 => tyX5
  | 6 => tyX6
  | 7 => tyX7
  | 8 => tyX8
  | 9 => tyX9
  | 10 => tyX10
  | 11 => tyX11
  | _ => fun _ => .int
def am_tys (dA : Nat → ClassId) : List (ClassId × FieldType) := [(dA 0, .int), (dA 1, .boolean), (dA 2, .char), (dA 3, .long), (dA 4, .object RX3), (dA 5, .object RX9), (dA 6, .object RX0), (dA 7, .object RX1), (dA 8, .object RX6)]
def am_xn : Nat → String := fun k => match k with
  | 0 => "java/lang/IndexOutOfBoundsException"
  | 1 => "java/lang/IllegalArgumentException"
  | _ => "java/lang/IllegalStateException"
end
section
/-! An abstract machine: a heap of objects by the place where they were made and a serial number. Values: ints, longs, references. -/
abbrev am_V : Type := Int32 ⊕ Int64 ⊕ Option (Nat × Nat)
abbrev am_H : Type := (Nat → Nat) × (Nat → Nat → Nat → Int32) × (Nat → Nat → Nat → Option (Nat × Nat)) × (Nat → Nat → Nat → Int64) × Nat × Nat
def m_nx (h : am_H) : Nat → Nat := h.1
def m_gi (h : am_H) : Nat → Nat → Nat → Int32 := h.2.1
def m_gr (h : am_H) : Nat → Nat → Nat → Option (Nat × Nat) := h.2.2.1
def m_gl (h : am_H) : Nat → Nat → Nat → Int64 := h.2.2.2.1
def m_nc (h : am_H) : Nat := h.2.2.2.2.1
def m_ns (h : am_H) : Nat := h.2.2.2.2.2
def m_si (h : am_H) (s k j : Nat) (v : Int32) : am_H := (h.1, fun a b c => if a = s ∧ b = k ∧ c = j then v else h.2.1 a b c, h.2.2.1, h.2.2.2.1, h.2.2.2.2.1, h.2.2.2.2.2)
def m_sr (h : am_H) (s k j : Nat) (v : Option (Nat × Nat)) : am_H := (h.1, h.2.1, fun a b c => if a = s ∧ b = k ∧ c = j then v else h.2.2.1 a b c, h.2.2.2.1, h.2.2.2.2.1, h.2.2.2.2.2)
def m_sl (h : am_H) (s k j : Nat) (v : Int64) : am_H := (h.1, h.2.1, h.2.2.1, fun a b c => if a = s ∧ b = k ∧ c = j then v else h.2.2.2.1 a b c, h.2.2.2.2.1, h.2.2.2.2.2)
/-- a new object of n slots, made at the place s -/
def m_al (h : am_H) (s n : Nat) : am_H := (fun a => if a = s then h.1 s + 1 else h.1 a, fun a b c => if a = s ∧ b = h.1 s then 0 else h.2.1 a b c, fun a b c => if a = s ∧ b = h.1 s then none else h.2.2.1 a b c, fun a b c => if a = s ∧ b = h.1 s then 0 else h.2.2.2.1 a b c, h.2.2.2.2.1 + 1, h.2.2.2.2.2 + n)
/-- the making of what is thrown -/
def m_th (h : am_H) : am_H := (h.1, h.2.1, h.2.2.1, h.2.2.2.1, h.2.2.2.2.1 + 1, h.2.2.2.2.2 + 6)
/-- what is caught gets a number -/
def m_op (h : am_H) : am_H := (fun a => if a = 0 then h.1 0 + 1 else h.1 a, h.2.1, h.2.2.1, h.2.2.2.1, h.2.2.2.2.1, h.2.2.2.2.2)
/-- n ints of one array onto another one's -/
def m_cp (h : am_H) (s k sp t w dp n : Nat) : am_H := (h.1, fun a b c => if a = t ∧ b = w then (if dp ≤ c ∧ c < dp + n then h.2.1 s k (sp + (c - dp)) else h.2.1 t w c) else h.2.1 a b c, h.2.2.1, h.2.2.2.1, h.2.2.2.2.1, h.2.2.2.2.2)
abbrev am_R : Type := Option (am_H × (Option am_V ⊕ Nat))
def m_rt (h : am_H) (v : Option am_V) : am_R := some (h, .inl v)
def m_ex (h : am_H) (k : Nat) : am_R := some (m_th h, .inr k)
def m_as (o : Option (Nat × Nat)) (k : Nat × Nat → am_R) : am_R := match o with
  | none => none
  | some a => k a
def m_ck (b : Bool) (r : am_R) : am_R := match b with
  | true => r
  | false => none
def m_bI (r : am_R) (k : am_H → Int32 → am_R) : am_R := match r with
  | some (h, .inl (some (.inl x))) => k h x
  | some (h, .inr e) => some (h, .inr e)
  | _ => none
def m_bR (r : am_R) (k : am_H → Option (Nat × Nat) → am_R) : am_R := match r with
  | some (h, .inl (some (.inr (.inr o)))) => k h o
  | some (h, .inr e) => some (h, .inr e)
  | _ => none
def m_bV (r : am_R) (k : am_H → am_R) : am_R := match r with
  | some (h, .inl none) => k h
  | some (h, .inr e) => some (h, .inr e)
  | _ => none
/-- a call under a table: what is thrown goes to kx -/
def m_bIx (r : am_R) (k : am_H → Int32 → am_R) (kx : am_H → Nat → am_R) : am_R := match r with
  | some (h, .inl (some (.inl x))) => k h x
  | some (h, .inr e) => kx (m_op h) e
  | _ => none
def m_bVx (r : am_R) (k : am_H → am_R) (kx : am_H → Nat → am_R) : am_R := match r with
  | some (h, .inl none) => k h
  | some (h, .inr e) => kx (m_op h) e
  | _ => none
def m_in (i : Int32) (n : Nat) : Bool := decide (¬ (i < 0 ∨ n ≤ i.toNatClampNeg))
def m_nz (x : Int32) : Bool := x == 0 || x == 1
def m_nzc (x : Int32) : Bool := (x.toUInt32 % 65536).toInt32 == x
def am_isO (s ci : Nat) : Bool := am_kd s == 0 && am_ci s == ci
def am_isA (s ty : Nat) : Bool := am_kd s == 1 && am_ty s == ty
def am_isL (s : Nat) : Bool := am_kd s == 4 && am_ty s == 3
def am_isR (s : Nat) : Bool := am_kd s == 5
def am_le (h h' : am_H) : Prop := m_nc h ≤ m_nc h' ∧ m_ns h ≤ m_ns h' ∧ ∀ s, m_nx h s ≤ m_nx h' s
theorem am_le.refl (h : am_H) : am_le h h := ⟨Nat.le_refl _, Nat.le_refl _, fun _ => Nat.le_refl _⟩
theorem am_le.trans {a b c : am_H} (h1 : am_le a b) (h2 : am_le b c) : am_le a c := ⟨Nat.le_trans h1.1 h2.1, Nat.le_trans h1.2.1 h2.2.1, fun s => Nat.le_trans (h1.2.2 s) (h2.2.2 s)⟩
theorem am_le_si (h : am_H) (s k j : Nat) (v : Int32) : am_le h (m_si h s k j v) := am_le.refl h
theorem am_le_sr (h : am_H) (s k j : Nat) (v : Option (Nat × Nat)) : am_le h (m_sr h s k j v) := am_le.refl h
theorem am_le_sl (h : am_H) (s k j : Nat) (v : Int64) : am_le h (m_sl h s k j v) := am_le.refl h
theorem am_le_cp (h : am_H) (s k sp t w dp n : Nat) : am_le h (m_cp h s k sp t w dp n) := am_le.refl h
theorem am_le_al (h : am_H) (s n : Nat) : am_le h (m_al h s n) := ⟨Nat.le_succ _, Nat.le_add_right _ _, fun a => by
  show h.1 a ≤ if a = s then h.1 s + 1 else h.1 a
  split
  · next e => rw [e]; exact Nat.le_succ _
  · exact Nat.le_refl _⟩
theorem am_le_th (h : am_H) : am_le h (m_th h) := ⟨Nat.le_succ _, Nat.le_add_right _ _, fun _ => Nat.le_refl _⟩
theorem am_le_op (h : am_H) : am_le h (m_op h) := ⟨Nat.le_refl _, Nat.le_refl _, fun a => by
  show h.1 a ≤ if a = 0 then h.1 0 + 1 else h.1 a
  split
  · next e => rw [e]; exact Nat.le_succ _
  · exact Nat.le_refl _⟩
/-! ## what the abstract heap says of the machine's -/
def am_v (μ : Nat × Nat → Nat) : am_V → Value
  | .inl x => .int x
  | .inr (.inl y) => .long y
  | .inr (.inr o) => va_rf (o.map μ)
def am_fv (μ : Nat × Nat → Nat) (h : am_H) (s k j : Nat) (r : Bool) : Value := match r with
  | true => va_rf ((m_gr h s k j).map μ)
  | false => .int (m_gi h s k j)
def am_fs (μ : Nat × Nat → Nat) (h : am_H) (s k : Nat) : List Value := (List.range (am_nf (am_ci s))).map fun j => am_fv μ h s k j (am_rf (am_ci s) j)
def am_ent (dA : Nat → ClassId) (μ : Nat × Nat → Nat) (h : am_H) (a : Nat × Nat) : va_E := match am_kd a.1 with
  | 0 => .inr (am_ci a.1, am_fs μ h a.1 a.2)
  | 5 => .inl (dA (am_ty a.1), (am_ln a.1, .inr (.inr (.inr (.inr fun j => (m_gr h a.1 a.2 j).map μ)))))
  | 4 => .inl (dA (am_ty a.1), (am_ln a.1, .inr (.inl fun j => m_gl h a.1 a.2 j)))
  | _ => .inl (dA (am_ty a.1), (am_ln a.1, .inl fun j => m_gi h a.1 a.2 j))
def am_ws (dA : Nat → ClassId) (μ : Nat × Nat → Nat) (h : am_H) (L : List (Nat × Nat)) : va_W := L.map fun a => (μ a, am_ent dA μ h a)
/-- a value speaks of what there is -/
def am_clo (h : am_H) : am_V → Prop
  | .inr (.inr (some a)) => a.2 < m_nx h a.1
  | _ => True
def am_cls (h : am_H) (l : List am_V) : Prop := ∀ v ∈ l, am_clo h v
def am_Rel (D : va_G) (dA : Nat → ClassId) (base b n : Nat) (xs : Nat → Int32) (μ : Nat × Nat → Nat) (h : am_H) (H : Heap) : Prop :=
  ∃ L : List (Nat × Nat), va_P D vwCl (am_ws dA μ h L) H ∧ va_D (fun q : Nat => base ≤ q) (am_ws dA μ h L) ∧ L.Nodup ∧ (∀ a : Nat × Nat, a ∈ L ↔ a.2 < m_nx h a.1 ∧ am_kd a.1 ≠ 9) ∧ (∀ (s k j : Nat) (c : Nat × Nat), m_gr h s k j = some c → c.2 < m_nx h c.1) ∧
  μ (1, 0) = b ∧ (∀ j : Nat, m_gi h 1 0 j = xs j) ∧ m_gi h 1 1 0 = Int32.ofNat n ∧ 0 < m_nx h 1
def am_ext (μ : Nat × Nat → Nat) (h : am_H) (μ' : Nat × Nat → Nat) : Prop := ∀ a : Nat × Nat, a.2 < m_nx h a.1 → μ' a = μ a
theorem am_ext.refl (μ : Nat × Nat → Nat) (h : am_H) : am_ext μ h μ := fun _ _ => rfl
theorem am_ext.trans {μ μ1 μ2 : Nat × Nat → Nat} {h h1 : am_H} (e1 : am_ext μ h μ1) (hl : am_le h h1) (e2 : am_ext μ1 h1 μ2) : am_ext μ h μ2 := fun a ha => by
  rw [e2 a (Nat.lt_of_lt_of_le ha (hl.2.2 a.1)), e1 a ha]
theorem am_clo.mono {h h1 : am_H} (hl : am_le h h1) {v : am_V} (c : am_clo h v) : am_clo h1 v := by
  rcases v with x | y | _ | a
  · trivial
  · trivial
  · trivial
  · exact Nat.lt_of_lt_of_le c (hl.2.2 a.1)
theorem am_cls.mono {h h1 : am_H} (hl : am_le h h1) {l : List am_V} (c : am_cls h l) : am_cls h1 l := fun v hv => (c v hv).mono hl
theorem am_v_ext {μ μ1 : Nat × Nat → Nat} {h : am_H} (e : am_ext μ h μ1) {v : am_V} (c : am_clo h v) : am_v μ1 v = am_v μ v := by
  rcases v with x | y | _ | a
  · rfl
  · rfl
  · rfl
  · show va_rf (some (μ1 a)) = va_rf (some (μ a))
    rw [e a c]
theorem am_vs_ext {μ μ1 : Nat × Nat → Nat} {h : am_H} (e : am_ext μ h μ1) : ∀ {l : List am_V}, am_cls h l → l.map (am_v μ1) = l.map (am_v μ)
  | [], _ => rfl
  | v :: l, c => by
    rw [List.map_cons, List.map_cons, am_v_ext e (c v List.mem_cons_self), am_vs_ext e (fun w hw => c w (List.mem_cons_of_mem _ hw))]
theorem am_cls.tail {h : am_H} {v : am_V} {l : List am_V} (c : am_cls h (v :: l)) : am_cls h l := fun w hw => c w (List.mem_cons_of_mem _ hw)
theorem am_cls.head {h : am_H} {v : am_V} {l : List am_V} (c : am_cls h (v :: l)) : am_clo h v := c v List.mem_cons_self
theorem am_cls.cons {h : am_H} {v : am_V} {l : List am_V} (c1 : am_clo h v) (c : am_cls h l) : am_cls h (v :: l) := fun w hw => by
  rcases List.mem_cons.mp hw with rfl | hw
  · exact c1
  · exact c w hw
/-! locals -/
def am_pr (μ : Nat × Nat → Nat) : Nat → List (Option am_V) → List (Nat × Value)
  | _, [] => []
  | j, none :: l => am_pr μ (j + 1) l
  | j, some v :: l => (j, am_v μ v) :: am_pr μ (j + 1) l
theorem am_pr_mem {μ : Nat × Nat → Nat} : ∀ {l : List (Option am_V)} {k j : Nat} {w : Value}, (j, w) ∈ am_pr μ k l ↔ ∃ (i : Nat) (v : am_V), j = k + i ∧ l[i]? = some (some v) ∧ w = am_v μ v
  | [], k, j, w => by simp [am_pr]
  | none :: l, k, j, w => by
    rw [am_pr, am_pr_mem]
    constructor
    · rintro ⟨i, v, h1, h2, h3⟩
      exact ⟨i + 1, v, by omega, by simpa using h2, h3⟩
    · rintro ⟨i, v, h1, h2, h3⟩
      cases i with
      | zero => simp at h2
      | succ i => exact ⟨i, v, by omega, by simpa using h2, h3⟩
  | some u :: l, k, j, w => by
    rw [am_pr, List.mem_cons, am_pr_mem]
    constructor
    · rintro (h | ⟨i, v, h1, h2, h3⟩)
      · simp only [Prod.mk.injEq] at h
        exact ⟨0, u, by omega, by simp, h.2⟩
      · exact ⟨i + 1, v, by omega, by simpa using h2, h3⟩
    · rintro ⟨i, v, h1, h2, h3⟩
      cases i with
      | zero =>
        left
        simp only [List.getElem?_cons_zero, Option.some.injEq] at h2
        subst h2
        rw [h1, h3]; rfl
      | succ i => exact Or.inr ⟨i, v, by omega, by simpa using h2, h3⟩
/-- a local that a long stands in goes when its second half is written -/
def am_nl (x : Option am_V) : Option am_V := match x with
  | some (.inr (.inl _)) => none
  | x => x
def am_set : List (Option am_V) → Nat → am_V → List (Option am_V)
  | [], _, _ => []
  | _ :: l, 0, v => some v :: l
  | x :: l, 1, v => am_nl x :: am_set l 0 v
  | x :: l, i + 2, v => x :: am_set l (i + 1) v
theorem am_set_get : ∀ {l : List (Option am_V)} {i j : Nat} {v w : am_V}, (am_set l i v)[j]? = some (some w) → (j = i ∧ w = v) ∨ (j ≠ i ∧ l[j]? = some (some w) ∧ (j + 1 = i → ∀ y, w ≠ .inr (.inl y)))
  | [], i, j, v, w, h => by simp [am_set] at h
  | x :: l, 0, j, v, w, h => by
    cases j with
    | zero => simp [am_set] at h; exact Or.inl ⟨rfl, h.symm⟩
    | succ j => exact Or.inr ⟨by omega, by simpa [am_set] using h, by omega⟩
  | x :: l, 1, j, v, w, h => by
    cases j with
    | zero =>
      refine Or.inr ⟨by omega, ?_, fun _ y hy => ?_⟩
      · rcases x with _ | a | a | a <;> simp [am_set, am_nl] at h ⊢ <;> exact h
      · subst hy
        rcases x with _ | a | a | a <;> simp [am_set, am_nl] at h
    | succ j =>
      rcases am_set_get (l := l) (i := 0) (j := j) (v := v) (w := w) (by simpa [am_set] using h) with ⟨h1, h2⟩ | ⟨h1, h2, h3⟩
      · exact Or.inl ⟨by omega, h2⟩
      · exact Or.inr ⟨by omega, by simpa using h2, by omega⟩
  | x :: l, i + 2, j, v, w, h => by
    cases j with
    | zero => exact Or.inr ⟨by omega, by simpa [am_set] using h, by omega⟩
    | succ j =>
      rcases am_set_get (l := l) (i := i + 1) (j := j) (v := v) (w := w) (by simpa [am_set] using h) with ⟨h1, h2⟩ | ⟨h1, h2, h3⟩
      · exact Or.inl ⟨by omega, h2⟩
      · exact Or.inr ⟨by omega, by simpa using h2, fun hj => h3 (by omega)⟩
def am_Ls (nL : Nat) (μ : Nat × Nat → Nat) (h : am_H) (lv : List (Option am_V)) (ls : Array Slot) : Prop := lv_has ls nL (am_pr μ 0 lv) ∧ ∀ (i : Nat) (v : am_V), lv[i]? = some (some v) → am_clo h v
theorem am_Ls.get {nL : Nat} {μ : Nat × Nat → Nat} {h : am_H} {lv : List (Option am_V)} {ls : Array Slot} (a : am_Ls nL μ h lv ls) {i : Nat} {v : am_V} (hi : lv[i]? = some (some v)) : ls[i]? = some (.val (am_v μ v)) :=
  a.1.2.2 (i, am_v μ v) (am_pr_mem.mpr ⟨i, v, by omega, hi, rfl⟩)
theorem am_v_cat {μ : Nat × Nat → Nat} {v : am_V} (h : ∀ y, v ≠ .inr (.inl y)) : (am_v μ v).category = 1 := by
  rcases v with x | y | _ | a
  · rfl
  · exact absurd rfl (h y)
  · rfl
  · rfl
theorem am_Ls.put {nL : Nat} {μ : Nat × Nat → Nat} {h : am_H} {lv : List (Option am_V)} {ls ls' : Array Slot} (a : am_Ls nL μ h lv ls) {i : Nat} {v : am_V} (c : am_clo h v)
    (hl : lv_has ls' nL ((i, am_v μ v) :: (am_pr μ 0 lv).filter (fun q => !(q.1 == i) && !(q.1 + 1 == i && q.2.category == 2)))) : am_Ls nL μ h (am_set lv i v) ls' := by
  refine ⟨⟨hl.1, hl.2.1, fun q hq => ?_⟩, fun j w hj => ?_⟩
  · obtain ⟨j, w⟩ := q
    obtain ⟨k, u, h1, h2, h3⟩ := am_pr_mem.mp hq
    rw [Nat.zero_add] at h1
    subst h1
    rcases am_set_get h2 with ⟨e1, e2⟩ | ⟨e1, e2, e3⟩
    · subst e1; subst e2
      rw [h3]
      exact hl.2.2 _ List.mem_cons_self
    · refine hl.2.2 _ (List.mem_cons_of_mem _ (List.mem_filter.mpr ⟨am_pr_mem.mpr ⟨j, u, by omega, e2, h3⟩, ?_⟩))
      by_cases hji : j + 1 = i
      · have := am_v_cat (μ := μ) (e3 hji)
        simp [e1, h3, this]
      · simp [e1, hji]
  · rcases am_set_get hj with ⟨e1, e2⟩ | ⟨e1, e2, e3⟩
    · rw [e2]; exact c
    · exact a.2 _ _ e2
/-- fewer locals -/
def am_leL : List (Option am_V) → List (Option am_V) → Prop
  | [], _ => True
  | none :: l, [] => am_leL l []
  | none :: l, _ :: l' => am_leL l l'
  | some _ :: _, [] => False
  | some v :: l, x :: l' => x = some v ∧ am_leL l l'
theorem am_leL_get : ∀ {l l' : List (Option am_V)}, am_leL l l' → ∀ {i : Nat} {v : am_V}, l[i]? = some (some v) → l'[i]? = some (some v)
  | [], _, _, i, v, h => by simp at h
  | none :: l, [], hl, i, v, h => by
    cases i with
    | zero => simp at h
    | succ i =>
      have := am_leL_get (l := l) (l' := []) hl (by simpa using h)
      simp at this
  | none :: l, _ :: l', hl, i, v, h => by
    cases i with
    | zero => simp at h
    | succ i => simpa using am_leL_get (l := l) (l' := l') hl (by simpa using h)
  | some _ :: _, [], hl, i, v, h => absurd hl id
  | some u :: l, x :: l', hl, i, v, h => by
    cases i with
    | zero =>
      simp only [List.getElem?_cons_zero, Option.some.injEq] at h ⊢
      rw [hl.1, h]
    | succ i => simpa using am_leL_get (l := l) (l' := l') hl.2 (by simpa using h)
theorem am_Ls.sub {nL : Nat} {μ : Nat × Nat → Nat} {h : am_H} {lv lv' : List (Option am_V)} {ls : Array Slot} (a : am_Ls nL μ h lv ls) (hl : am_leL lv' lv) : am_Ls nL μ h lv' ls :=
  ⟨⟨a.1.1, a.1.2.1, fun q hq => by
    obtain ⟨j, w⟩ := q
    obtain ⟨k, u, h1, h2, h3⟩ := am_pr_mem.mp hq
    exact a.1.2.2 _ (am_pr_mem.mpr ⟨k, u, h1, am_leL_get hl h2, h3⟩)⟩, fun i v h => a.2 i v (am_leL_get hl h)⟩
theorem am_Ls.move {nL : Nat} {μ μ1 : Nat × Nat → Nat} {h h1 : am_H} {lv : List (Option am_V)} {ls : Array Slot} (a : am_Ls nL μ h lv ls) (e : am_ext μ h μ1) (hl : am_le h h1) : am_Ls nL μ1 h1 lv ls :=
  ⟨⟨a.1.1, a.1.2.1, fun q hq => by
    obtain ⟨j, w⟩ := q
    obtain ⟨k, u, q1, q2, q3⟩ := am_pr_mem.mp hq
    rw [am_v_ext e (a.2 k u q2)] at q3
    exact a.1.2.2 _ (am_pr_mem.mpr ⟨k, u, q1, q2, q3⟩)⟩, fun i v hv => (a.2 i v hv).mono hl⟩
end
section
/-! the list of all that is there, one of them changed -/
theorem am_ws_at {dA : Nat → ClassId} {μ : Nat × Nat → Nat} {h : am_H} {L : List (Nat × Nat)} {i : Nat} {a : Nat × Nat} (hi : L[i]? = some a) : (am_ws dA μ h L)[i]? = some (μ a, am_ent dA μ h a) := by
  rw [am_ws, List.getElem?_map, hi]; rfl
theorem am_ws_set {dA : Nat → ClassId} {μ : Nat × Nat → Nat} {h h1 : am_H} {L : List (Nat × Nat)} {i : Nat} {a : Nat × Nat} (hi : L[i]? = some a) (hn : L.Nodup) (he : ∀ a' : Nat × Nat, a' ≠ a → am_ent dA μ h1 a' = am_ent dA μ h a') :
    (am_ws dA μ h L).set i (μ a, am_ent dA μ h1 a) = am_ws dA μ h1 L := by
  apply List.ext_getElem?
  intro j
  by_cases hj : i = j
  · subst hj
    have hlt : i < (am_ws dA μ h L).length := by
      rw [am_ws, List.length_map]; exact (List.getElem?_eq_some_iff.mp hi).1
    rw [List.getElem?_set_self hlt, am_ws_at hi]
  · rw [List.getElem?_set_ne hj]
    rw [am_ws, am_ws, List.getElem?_map, List.getElem?_map]
    cases hLj : L[j]? with
    | none => rfl
    | some c =>
      have hne : c ≠ a := by
        intro hc
        subst hc
        have h1 := List.getElem?_eq_some_iff.mp hi
        have h2 := List.getElem?_eq_some_iff.mp hLj
        obtain ⟨p1, e1⟩ := h1
        obtain ⟨p2, e2⟩ := h2
        rcases Nat.lt_or_gt_of_ne hj with q | q
        · exact List.pairwise_iff_getElem.mp hn i j p1 p2 q (e1.trans e2.symm)
        · exact List.pairwise_iff_getElem.mp hn j i p2 p1 q (e2.trans e1.symm)
      show some (μ c, am_ent dA μ h c) = some (μ c, am_ent dA μ h1 c)
      rw [he c hne]
theorem am_ent_eq {dA : Nat → ClassId} {μ μ1 : Nat × Nat → Nat} {h h1 : am_H} {a : Nat × Nat} (e1 : ∀ j, m_gi h1 a.1 a.2 j = m_gi h a.1 a.2 j) (e2 : ∀ j, (m_gr h1 a.1 a.2 j).map μ1 = (m_gr h a.1 a.2 j).map μ) (e3 : ∀ j, m_gl h1 a.1 a.2 j = m_gl h a.1 a.2 j) : am_ent dA μ1 h1 a = am_ent dA μ h a := by
  have hf : am_fs μ1 h1 a.1 a.2 = am_fs μ h a.1 a.2 := by
    unfold am_fs
    congr 1
    funext j
    cases am_rf (am_ci a.1) j
    · show Value.int _ = Value.int _
      rw [e1]
    · show va_rf _ = va_rf _
      rw [e2]
  unfold am_ent
  split
  · rw [hf]
  · rw [show (fun j => (m_gr h1 a.1 a.2 j).map μ1) = fun j => (m_gr h a.1 a.2 j).map μ from funext e2]
  · rw [show (fun j => m_gl h1 a.1 a.2 j) = fun j => m_gl h a.1 a.2 j from funext e3]
  · rw [show (fun j => m_gi h1 a.1 a.2 j) = fun j => m_gi h a.1 a.2 j from funext e1]
theorem m_gi_si (h : am_H) (s k j : Nat) (v : Int32) (a b c : Nat) : m_gi (m_si h s k j v) a b c = if a = s ∧ b = k ∧ c = j then v else m_gi h a b c := rfl
theorem m_gr_sr (h : am_H) (s k j : Nat) (v : Option (Nat × Nat)) (a b c : Nat) : m_gr (m_sr h s k j v) a b c = if a = s ∧ b = k ∧ c = j then v else m_gr h a b c := rfl
theorem m_gl_sl (h : am_H) (s k j : Nat) (v : Int64) (a b c : Nat) : m_gl (m_sl h s k j v) a b c = if a = s ∧ b = k ∧ c = j then v else m_gl h a b c := rfl
theorem am_pr_ne {a c : Nat × Nat} (h : a ≠ c) : ¬ (a.1 = c.1 ∧ a.2 = c.2) := fun q => h (Prod.ext q.1 q.2)
theorem am_ent_si {dA : Nat → ClassId} {μ : Nat × Nat → Nat} {h : am_H} {a : Nat × Nat} {j : Nat} {v : Int32} (a' : Nat × Nat) (hn : a' ≠ a) : am_ent dA μ (m_si h a.1 a.2 j v) a' = am_ent dA μ h a' :=
  am_ent_eq (fun i => by rw [m_gi_si, if_neg (fun q => am_pr_ne hn ⟨q.1, q.2.1⟩)]) (fun _ => rfl) (fun _ => rfl)
theorem am_ent_sr {dA : Nat → ClassId} {μ : Nat × Nat → Nat} {h : am_H} {a : Nat × Nat} {j : Nat} {v : Option (Nat × Nat)} (a' : Nat × Nat) (hn : a' ≠ a) : am_ent dA μ (m_sr h a.1 a.2 j v) a' = am_ent dA μ h a' :=
  am_ent_eq (fun _ => rfl) (fun i => by rw [m_gr_sr, if_neg (fun q => am_pr_ne hn ⟨q.1, q.2.1⟩)]) (fun _ => rfl)
theorem am_ent_sl {dA : Nat → ClassId} {μ : Nat × Nat → Nat} {h : am_H} {a : Nat × Nat} {j : Nat} {v : Int64} (a' : Nat × Nat) (hn : a' ≠ a) : am_ent dA μ (m_sl h a.1 a.2 j v) a' = am_ent dA μ h a' :=
  am_ent_eq (fun _ => rfl) (fun _ => rfl) (fun i => by rw [m_gl_sl, if_neg (fun q => am_pr_ne hn ⟨q.1, q.2.1⟩)])
/-! ## a method's body, told by what the abstract machine does -/
/-- name, code, words of locals, what it returns, its table -/
abbrev am_M : Type := MethodName × ByteArray × Nat × Option FieldType × List (Nat × Nat × Nat × Nat)
/-- words that stay when the tables get warmer -/
def am_gw : Cond → Bool
  | .methodLinkNest _ _ _ _ => true
  | .declares _ => true
  | .castable _ _ => true
  | .arrayOver (.object _) => true
  | .stringRef _ _ _ => true
  | w => goodWord w
theorem am_gw_warm {w : Cond} (hg : am_gw w = true) {s U : State} (hW : s.WarmedH U.vm) {args a' : Array Value} (h : w.before args s = true) : w.before a' U = true := by
  unfold am_gw at hg
  split at hg
  · exact va_Nw.use rfl (va_Nw.warmM hW (va_Nw.of rfl h))
  · exact va_Nw.use rfl (va_Nw.warmD hW (va_Nw.of rfl h))
  · exact va_Nw.use rfl (va_Nw.warmC hW (va_Nw.of rfl h))
  · exact va_AO.use (va_AO.moved hW.alike (va_AO.of h))
  · have h1 := Cond.stringRef_warmed hW h
    have hv : (s.setVm U.vm).vm = U.vm := rfl
    simp only [Cond.before, Cond.holds, Cond.value, State.names, State.poolOf?, State.resolvedAt?, hv] at h1 ⊢
    exact h1
  · exact word_at hW (good_of_word hg) h
def am_T : List Cond := lw_tbl.filter am_gw
def am_cw (M : am_M) : Cond := match M.2.2.2.2 with
  | [] => .code M.1 M.2.1 M.2.2.1 M.2.2.2.1
  | hh => .codeWith M.1 M.2.1 M.2.2.1 M.2.2.2.1 hh
def am_w (M : am_M) : List Cond := am_cw M :: am_T
def am_Ncs (U : State) : Prop := ∀ i j : Nat, i < 3 → j < 3 → i ≠ j → va_Nc (am_xn i) (am_xn j) U
def am_Wd (D : va_G) (dA : Nat → ClassId) (base b n : Nat) (xs : Nat → Int32) (U : State) (H : Heap) : Prop :=
  va_K D vwCl (am_tys dA) U ∧ vx_Zq Bundle.tN "UNASSIGNED_STACK" Bundle.steD (fun q : Nat => base ≤ q) U H ∧ vx_Zq Bundle.tN "SUPPRESSED_SENTINEL" Bundle.listD (fun q : Nat => base ≤ q) U H ∧ (va_X b n xs U H ∧ n ≤ 2560) ∧ b < base ∧ base ≤ H.size ∧ am_Ncs U
def am_Cx (l : Launch) (D : va_G) (dA : Nat → ClassId) (base b n : Nat) (xs : Nat → Int32) (M : am_M) (d : Nat) (p : Program) (R : Room) (s : State) (m : MethodId) (args : Array Value) (meth : Method) (c : Code) (mc ms : Nat) : Prop :=
  p.tables.exec = Jvm.exec ∧ c.code = M.2.1 ∧ c.maxLocals = M.2.2.1 ∧ meth.sig.returnType = M.2.2.2.1 ∧ s.vm.findClass M.1.cls = some m.cls ∧ meth.locks = false ∧ meth.name = M.1.name ∧ (∀ w ∈ am_T, w.before args s = true) ∧
  c.exceptionTable.toList = tableOf M.2.2.2.2 ∧ l.stackTraces = false ∧ (d ≤ R.frames ∧ 36 * d ≤ R.locals ∧ mc ≤ R.cells ∧ ms ≤ R.slots) ∧ am_Wd D dA base b n xs s s.heap
def am_Fin (D : va_G) (dA : Nat → ClassId) (base b n : Nat) (xs : Nat → Int32) (s : State) (args : Array Value) (μ : Nat × Nat → Nat) (h h' : am_H) (o : Option am_V ⊕ Nat) (Qc : Array Value → State → Outcome → State → Prop) (XC : String → State → State → Prop) : Prop :=
  ∀ (μ' : Nat × Nat → Nat) (t : State), am_ext μ h μ' → am_Rel D dA base b n xs μ' h' t.heap → s.vm.Alike t.vm → va_F (fun q : Nat => base ≤ q) s t →
    (∀ v : Option am_V, o = .inl v → (∀ w, v = some w → am_clo h' w) → Qc args s (.returned (v.map (am_v μ'))) t) ∧ (∀ k : Nat, o = .inr k → XC (am_xn k) s t)
def Sim (M : am_M) (d pc : Nat) (lv : List (Option am_V)) (st : List am_V) (h : am_H) (r : am_R) : Prop :=
  ∀ (h' : am_H) (o : Option am_V ⊕ Nat), r = some (h', o) → am_le h h' ∧
  ∀ (l : Launch) (D : va_G) (dA : Nat → ClassId) (base b n : Nat) (xs : Nat → Int32) (p : Program) (e : Env) (R : Room) (s : State) (m : MethodId) (args : Array Value) (below : List Frame) (meth : Method) (c : Code) (mc ms : Nat) (Qc : Array Value → State → Outcome → State → Prop) (XC : String → State → State → Prop),
    am_Cx l D dA base b n xs M d p R s m args meth c mc ms →
    ∀ (μ : Nat × Nat → Nat) (H : Heap) (locs : List Loc) (cells slots : Nat) (ls : Array Slot),
      am_Rel D dA base b n xs μ h H → va_S (fun q : Nat => base ≤ q) s.heap H locs → am_Ls M.2.2.1 μ h lv ls → am_cls h st →
      cells + (m_nc h' - m_nc h) = mc → slots + (m_ns h' - m_ns h) = ms → am_Fin D dA base b n xs s args μ h h' o Qc XC →
      W p l e R s m args below meth c H locs cells slots (vx_MQ below Qc XC args s mc ms (fun q : Nat => base ≤ q)) (F0 m pc ls (st.map (am_v μ)))
theorem sim_none {M : am_M} {d pc : Nat} {lv : List (Option am_V)} {st : List am_V} {h : am_H} : Sim M d pc lv st h none := fun h' o e => by cases e
theorem sim_lv {M : am_M} {d pc : Nat} {lv lv' : List (Option am_V)} {st : List am_V} {h : am_H} {r : am_R} (hl : am_leL lv' lv) (k : Sim M d pc lv' st h r) : Sim M d pc lv st h r := by
  intro h' o e
  obtain ⟨q1, q2⟩ := k h' o e
  exact ⟨q1, fun l D dA base b n xs p e R s m args below meth c mc ms Qc XC C μ H locs cells slots ls a1 a2 a3 => q2 l D dA base b n xs p e R s m args below meth c mc ms Qc XC C μ H locs cells slots ls a1 a2 (a3.sub hl)⟩
/-- a step that writes nothing but the stack -/
theorem sim_go {M : am_M} {d pc pc' : Nat} {lv : List (Option am_V)} {st st' : List am_V} {h : am_H} {r : am_R}
    (hc : am_cls h st → (∀ (i : Nat) (v : am_V), lv[i]? = some (some v) → am_clo h v) → am_cls h st')
    (go : ∀ (l : Launch) (p : Program) (e : Env) (R : Room) (s : State) (m : MethodId) (args : Array Value) (below : List Frame) (meth : Method) (c : Code) (Q : State → Prop) (μ : Nat × Nat → Nat) (H : Heap) (locs : List Loc) (cells slots : Nat) (ls : Array Slot),
      p.tables.exec = Jvm.exec → c.code = M.2.1 → s.vm.findClass M.1.cls = some m.cls → (∀ w ∈ am_T, w.before args s = true) → am_Ls M.2.2.1 μ h lv ls →
      W p l e R s m args below meth c H locs cells slots Q (F0 m pc' ls (st'.map (am_v μ))) → W p l e R s m args below meth c H locs cells slots Q (F0 m pc ls (st.map (am_v μ))))
    (k : Sim M d pc' lv st' h r) : Sim M d pc lv st h r := by
  intro h' o e
  obtain ⟨q1, q2⟩ := k h' o e
  refine ⟨q1, fun l D dA base b n xs p e R s m args below meth c mc ms Qc XC C μ H locs cells slots ls a1 a2 a3 a4 a5 a6 a7 => ?_⟩
  exact go l p e R s m args below meth c _ μ H locs cells slots ls C.1 C.2.1 C.2.2.2.2.1 C.2.2.2.2.2.2.2.1 a3 (q2 l D dA base b n xs p e R s m args below meth c mc ms Qc XC C μ H locs cells slots ls a1 a2 a3 (hc a4 a3.2) a5 a6 a7)
section SimRows
variable {M : am_M} {d pc : Nat} {lv : List (Option am_V)} {st : List am_V} {h : am_H} {r : am_R}
theorem am_clo_i {h : am_H} {x : Int32} : am_clo h (.inl x) := trivial
theorem am_clo_l {h : am_H} {x : Int64} : am_clo h (.inr (.inl x)) := trivial
theorem am_clo_n {h : am_H} : am_clo h (.inr (.inr none)) := trivial
theorem sim_iconst {n : Int} (v : Int32) (d0 : decode M.2.1 pc = .ok (.iconst n, 1)) (hv : Int32.ofInt n = v) (k : Sim M d (pc + 1) lv (.inl v :: st) h r) : Sim M d pc lv st h r :=
  sim_go (fun c _ => c.cons am_clo_i) (fun _ _ _ _ _ _ _ _ _ _ _ _ _ _ _ _ _ hx hb _ _ _ k => lv_iconst hx hb d0 hv k) k
theorem sim_bipush {n : Int} (v : Int32) (d0 : decode M.2.1 pc = .ok (.bipush n, 2)) (hv : (Int8.ofInt n).toInt32 = v) (k : Sim M d (pc + 2) lv (.inl v :: st) h r) : Sim M d pc lv st h r :=
  sim_go (fun c _ => c.cons am_clo_i) (fun _ _ _ _ _ _ _ _ _ _ _ _ _ _ _ _ _ hx hb _ _ _ k => lv_bipush hx hb d0 hv k) k
theorem sim_sipush {n : Int} (v : Int32) (d0 : decode M.2.1 pc = .ok (.sipush n, 3)) (hv : (Int16.ofInt n).toInt32 = v) (k : Sim M d (pc + 3) lv (.inl v :: st) h r) : Sim M d pc lv st h r :=
  sim_go (fun c _ => c.cons am_clo_i) (fun _ _ _ _ _ _ _ _ _ _ _ _ _ _ _ _ _ hx hb _ _ _ k => lv_sipush hx hb d0 hv k) k
theorem sim_lconst {n : Fin 2} (v : Int64) (d0 : decode M.2.1 pc = .ok (.lconst n, 1)) (hv : Int64.ofNat (n : Nat) = v) (k : Sim M d (pc + 1) lv (.inr (.inl v) :: st) h r) : Sim M d pc lv st h r :=
  sim_go (fun c _ => c.cons am_clo_l) (fun _ _ _ _ _ _ _ _ _ _ _ _ _ _ _ _ _ hx hb _ _ _ k => lv_lconst hx hb d0 hv k) k
theorem am_Tw {args : Array Value} {s : State} (ht : ∀ w ∈ am_T, w.before args s = true) {w : Cond} {i : Nat} (hw : lw_tbl[i]? = some w) (hg : am_gw w = true) : w.before args s = true :=
  ht w (List.mem_filter.mpr ⟨List.mem_of_getElem? hw, hg⟩)
theorem sim_ldc {i ix : Nat} (v : Int32) (d0 : decode M.2.1 pc = .ok (.ldc ix, 2)) (hw : lw_tbl[i]? = some (.constant M.1.cls ix v)) (k : Sim M d (pc + 2) lv (.inl v :: st) h r) : Sim M d pc lv st h r :=
  sim_go (fun c _ => c.cons am_clo_i) (fun _ _ _ _ _ _ _ _ _ _ _ _ _ _ _ _ _ hx hb ho ht _ k => lv_ldc hx hb ho (am_Tw ht hw rfl) d0 k) k
theorem sim_ldcw {i ix : Nat} (v : Int32) (d0 : decode M.2.1 pc = .ok (.ldc_w ix, 3)) (hw : lw_tbl[i]? = some (.constant M.1.cls ix v)) (k : Sim M d (pc + 3) lv (.inl v :: st) h r) : Sim M d pc lv st h r :=
  sim_go (fun c _ => c.cons am_clo_i) (fun _ _ _ _ _ _ _ _ _ _ _ _ _ _ _ _ _ hx hb ho ht _ k => lv_ldcw hx hb ho (am_Tw ht hw rfl) d0 k) k
theorem sim_ldc2 {i ix : Nat} (v : Int64) (d0 : decode M.2.1 pc = .ok (.ldc2_w ix, 3)) (hw : lw_tbl[i]? = some (.constantLong M.1.cls ix v)) (k : Sim M d (pc + 3) lv (.inr (.inl v) :: st) h r) : Sim M d pc lv st h r :=
  sim_go (fun c _ => c.cons am_clo_l) (fun _ _ _ _ _ _ _ _ _ _ _ _ _ _ _ _ _ hx hb ho ht _ k => lv_ldc2 hx hb ho (am_Tw ht hw rfl) d0 k) k
theorem sim_iload_n {i : Fin 4} {x : Int32} (d0 : decode M.2.1 pc = .ok (.iload_n i, 1)) (hl : lv[(i : Nat)]? = some (some (.inl x))) (k : Sim M d (pc + 1) lv (.inl x :: st) h r) : Sim M d pc lv st h r :=
  sim_go (fun c _ => c.cons am_clo_i) (fun _ _ _ _ _ _ _ _ _ _ _ _ _ _ _ _ _ hx hb _ _ a k => lv_iload_n hx hb d0 rfl (a.get hl) k) k
theorem sim_iload {i : Nat} {x : Int32} (d0 : decode M.2.1 pc = .ok (.iload i, 2)) (hl : lv[i]? = some (some (.inl x))) (k : Sim M d (pc + 2) lv (.inl x :: st) h r) : Sim M d pc lv st h r :=
  sim_go (fun c _ => c.cons am_clo_i) (fun _ _ _ _ _ _ _ _ _ _ _ _ _ _ _ _ _ hx hb _ _ a k => lv_iload hx hb d0 (a.get hl) k) k
theorem sim_lload_n {i : Fin 4} {x : Int64} (d0 : decode M.2.1 pc = .ok (.lload_n i, 1)) (hl : lv[(i : Nat)]? = some (some (.inr (.inl x)))) (k : Sim M d (pc + 1) lv (.inr (.inl x) :: st) h r) : Sim M d pc lv st h r :=
  sim_go (fun c _ => c.cons am_clo_l) (fun _ _ _ _ _ _ _ _ _ _ _ _ _ _ _ _ _ hx hb _ _ a k => lv_lload_n hx hb d0 rfl (a.get hl) k) k
theorem sim_aload_n {i : Fin 4} {o : Option (Nat × Nat)} (d0 : decode M.2.1 pc = .ok (.aload_n i, 1)) (hl : lv[(i : Nat)]? = some (some (.inr (.inr o)))) (k : Sim M d (pc + 1) lv (.inr (.inr o) :: st) h r) : Sim M d pc lv st h r :=
  sim_go (fun c c2 => c.cons (c2 _ _ hl)) (fun _ _ _ _ _ _ _ _ _ _ _ _ _ _ _ _ _ hx hb _ _ a k => by
    cases o with
    | none => exact lv_aload_nN hx hb d0 rfl (a.get hl) k
    | some q => exact lv_aload_n hx hb d0 rfl (a.get hl) k) k
theorem sim_aload {i : Nat} {o : Option (Nat × Nat)} (d0 : decode M.2.1 pc = .ok (.aload i, 2)) (hl : lv[i]? = some (some (.inr (.inr o)))) (k : Sim M d (pc + 2) lv (.inr (.inr o) :: st) h r) : Sim M d pc lv st h r :=
  sim_go (fun c c2 => c.cons (c2 _ _ hl)) (fun _ _ _ _ _ _ _ _ _ _ _ _ _ _ _ _ _ hx hb _ _ a k => by
    cases o with
    | none => exact lv_aloadN hx hb d0 (a.get hl) k
    | some q => exact lv_aload hx hb d0 (a.get hl) k) k
theorem sim_null (d0 : decode M.2.1 pc = .ok (.aconst_null, 1)) (k : Sim M d (pc + 1) lv (.inr (.inr none) :: st) h r) : Sim M d pc lv st h r :=
  sim_go (fun c _ => c.cons am_clo_n) (fun _ _ _ _ _ _ _ _ _ _ _ _ _ _ _ _ _ hx hb _ _ _ k => lv_null hx hb d0 k) k
theorem sim_iadd {x y : Int32} (d0 : decode M.2.1 pc = .ok (.iadd, 1)) (k : Sim M d (pc + 1) lv (.inl (x + y) :: st) h r) : Sim M d pc lv (.inl y :: .inl x :: st) h r :=
  sim_go (fun c _ => c.tail.tail.cons am_clo_i) (fun _ _ _ _ _ _ _ _ _ _ _ _ _ _ _ _ _ hx hb _ _ _ k => lv_iadd hx hb d0 k) k
theorem sim_isub {x y : Int32} (d0 : decode M.2.1 pc = .ok (.isub, 1)) (k : Sim M d (pc + 1) lv (.inl (x - y) :: st) h r) : Sim M d pc lv (.inl y :: .inl x :: st) h r :=
  sim_go (fun c _ => c.tail.tail.cons am_clo_i) (fun _ _ _ _ _ _ _ _ _ _ _ _ _ _ _ _ _ hx hb _ _ _ k => lv_isub hx hb d0 k) k
theorem sim_imul {x y : Int32} (d0 : decode M.2.1 pc = .ok (.imul, 1)) (k : Sim M d (pc + 1) lv (.inl (x * y) :: st) h r) : Sim M d pc lv (.inl y :: .inl x :: st) h r :=
  sim_go (fun c _ => c.tail.tail.cons am_clo_i) (fun _ _ _ _ _ _ _ _ _ _ _ _ _ _ _ _ _ hx hb _ _ _ k => lv_imul hx hb d0 k) k
theorem sim_iand {x y : Int32} (d0 : decode M.2.1 pc = .ok (.iand, 1)) (k : Sim M d (pc + 1) lv (.inl (x &&& y) :: st) h r) : Sim M d pc lv (.inl y :: .inl x :: st) h r :=
  sim_go (fun c _ => c.tail.tail.cons am_clo_i) (fun _ _ _ _ _ _ _ _ _ _ _ _ _ _ _ _ _ hx hb _ _ _ k => lv_iand hx hb d0 k) k
theorem sim_ior {x y : Int32} (d0 : decode M.2.1 pc = .ok (.ior, 1)) (k : Sim M d (pc + 1) lv (.inl (x ||| y) :: st) h r) : Sim M d pc lv (.inl y :: .inl x :: st) h r :=
  sim_go (fun c _ => c.tail.tail.cons am_clo_i) (fun _ _ _ _ _ _ _ _ _ _ _ _ _ _ _ _ _ hx hb _ _ _ k => lv_ior hx hb d0 k) k
theorem sim_ixor {x y : Int32} (d0 : decode M.2.1 pc = .ok (.ixor, 1)) (k : Sim M d (pc + 1) lv (.inl (x ^^^ y) :: st) h r) : Sim M d pc lv (.inl y :: .inl x :: st) h r :=
  sim_go (fun c _ => c.tail.tail.cons am_clo_i) (fun _ _ _ _ _ _ _ _ _ _ _ _ _ _ _ _ _ hx hb _ _ _ k => lv_ixor hx hb d0 k) k
theorem sim_ishl {x y : Int32} (d0 : decode M.2.1 pc = .ok (.ishl, 1)) (k : Sim M d (pc + 1) lv (.inl (x <<< (y &&& 31)) :: st) h r) : Sim M d pc lv (.inl y :: .inl x :: st) h r :=
  sim_go (fun c _ => c.tail.tail.cons am_clo_i) (fun _ _ _ _ _ _ _ _ _ _ _ _ _ _ _ _ _ hx hb _ _ _ k => lv_ishl hx hb d0 k) k
theorem sim_ishr {x y : Int32} (d0 : decode M.2.1 pc = .ok (.ishr, 1)) (k : Sim M d (pc + 1) lv (.inl (x >>> (y &&& 31)) :: st) h r) : Sim M d pc lv (.inl y :: .inl x :: st) h r :=
  sim_go (fun c _ => c.tail.tail.cons am_clo_i) (fun _ _ _ _ _ _ _ _ _ _ _ _ _ _ _ _ _ hx hb _ _ _ k => lv_ishr hx hb d0 k) k
def m_ushr (x y : Int32) : Int32 := (x.toUInt32 >>> (y.toUInt32 &&& Int32.toUInt32 31)).toInt32
def m_lushr (x : Int64) (y : Int32) : Int64 := (x.toUInt64 >>> (y.toInt64.toUInt64 &&& Int64.toUInt64 63)).toInt64
def m_i2c (x : Int32) : Int32 := (x.toUInt32 % 65536).toInt32
theorem sim_iushr {x y : Int32} (d0 : decode M.2.1 pc = .ok (.iushr, 1)) (k : Sim M d (pc + 1) lv (.inl (m_ushr x y) :: st) h r) : Sim M d pc lv (.inl y :: .inl x :: st) h r :=
  sim_go (fun c _ => c.tail.tail.cons am_clo_i) (fun _ _ _ _ _ _ _ _ _ _ _ _ _ _ _ _ _ hx hb _ _ _ k => lv_iushr hx hb d0 rfl k) k
theorem sim_lushr {x : Int64} {y : Int32} (d0 : decode M.2.1 pc = .ok (.lushr, 1)) (k : Sim M d (pc + 1) lv (.inr (.inl (m_lushr x y)) :: st) h r) : Sim M d pc lv (.inl y :: .inr (.inl x) :: st) h r :=
  sim_go (fun c _ => c.tail.tail.cons am_clo_l) (fun _ _ _ _ _ _ _ _ _ _ _ _ _ _ _ _ _ hx hb _ _ _ k => lv_lushr hx hb d0 rfl k) k
theorem sim_lshl {x : Int64} {y : Int32} (d0 : decode M.2.1 pc = .ok (.lshl, 1)) (k : Sim M d (pc + 1) lv (.inr (.inl (x <<< (y.toInt64 &&& 63))) :: st) h r) : Sim M d pc lv (.inl y :: .inr (.inl x) :: st) h r :=
  sim_go (fun c _ => c.tail.tail.cons am_clo_l) (fun _ _ _ _ _ _ _ _ _ _ _ _ _ _ _ _ _ hx hb _ _ _ k => lv_lshl hx hb d0 rfl k) k
theorem sim_land {x y : Int64} (d0 : decode M.2.1 pc = .ok (.land, 1)) (k : Sim M d (pc + 1) lv (.inr (.inl (x &&& y)) :: st) h r) : Sim M d pc lv (.inr (.inl y) :: .inr (.inl x) :: st) h r :=
  sim_go (fun c _ => c.tail.tail.cons am_clo_l) (fun _ _ _ _ _ _ _ _ _ _ _ _ _ _ _ _ _ hx hb _ _ _ k => lv_land hx hb d0 k) k
theorem sim_lor {x y : Int64} (d0 : decode M.2.1 pc = .ok (.lor, 1)) (k : Sim M d (pc + 1) lv (.inr (.inl (x ||| y)) :: st) h r) : Sim M d pc lv (.inr (.inl y) :: .inr (.inl x) :: st) h r :=
  sim_go (fun c _ => c.tail.tail.cons am_clo_l) (fun _ _ _ _ _ _ _ _ _ _ _ _ _ _ _ _ _ hx hb _ _ _ k => lv_lor hx hb d0 k) k
theorem sim_i2l {x : Int32} (d0 : decode M.2.1 pc = .ok (.i2l, 1)) (k : Sim M d (pc + 1) lv (.inr (.inl x.toInt64) :: st) h r) : Sim M d pc lv (.inl x :: st) h r :=
  sim_go (fun c _ => c.tail.cons am_clo_l) (fun _ _ _ _ _ _ _ _ _ _ _ _ _ _ _ _ _ hx hb _ _ _ k => lv_i2l hx hb d0 rfl k) k
theorem sim_l2i {x : Int64} (d0 : decode M.2.1 pc = .ok (.l2i, 1)) (k : Sim M d (pc + 1) lv (.inl x.toInt32 :: st) h r) : Sim M d pc lv (.inr (.inl x) :: st) h r :=
  sim_go (fun c _ => c.tail.cons am_clo_i) (fun _ _ _ _ _ _ _ _ _ _ _ _ _ _ _ _ _ hx hb _ _ _ k => lv_l2i hx hb d0 rfl k) k
theorem sim_i2c {x : Int32} (d0 : decode M.2.1 pc = .ok (.i2c, 1)) (k : Sim M d (pc + 1) lv (.inl (m_i2c x) :: st) h r) : Sim M d pc lv (.inl x :: st) h r :=
  sim_go (fun c _ => c.tail.cons am_clo_i) (fun _ _ _ _ _ _ _ _ _ _ _ _ _ _ _ _ _ hx hb _ _ _ k => lv_i2c hx hb d0 rfl k) k
theorem sim_goto {off : Int} (tgt : Nat) (d0 : decode M.2.1 pc = .ok (.goto off, 3)) (ht : (pc : Int) + off = (tgt : Int)) (k : Sim M d tgt lv st h r) : Sim M d pc lv st h r :=
  sim_go (fun c _ => c) (fun _ _ _ _ _ _ _ _ _ _ _ _ _ _ _ _ _ hx hb _ _ _ k => lv_goto hx hb d0 ht k) k
theorem am_cat1 {μ : Nat × Nat → Nat} {x : Int32} : (am_v μ (.inl x)).category = 1 := rfl
theorem am_cat1r {μ : Nat × Nat → Nat} {o : Option (Nat × Nat)} : (am_v μ (.inr (.inr o))).category = 1 := by cases o <;> rfl
theorem sim_dup_r {o : Option (Nat × Nat)} (d0 : decode M.2.1 pc = .ok (.dup, 1)) (k : Sim M d (pc + 1) lv (.inr (.inr o) :: .inr (.inr o) :: st) h r) : Sim M d pc lv (.inr (.inr o) :: st) h r :=
  sim_go (fun c _ => c.cons c.head) (fun _ _ _ _ _ _ _ _ _ _ _ _ _ _ _ _ _ hx hb _ _ _ k => lv_dup hx hb d0 am_cat1r k) k
theorem sim_dup_i {x : Int32} (d0 : decode M.2.1 pc = .ok (.dup, 1)) (k : Sim M d (pc + 1) lv (.inl x :: .inl x :: st) h r) : Sim M d pc lv (.inl x :: st) h r :=
  sim_go (fun c _ => c.cons c.head) (fun _ _ _ _ _ _ _ _ _ _ _ _ _ _ _ _ _ hx hb _ _ _ k => lv_dup hx hb d0 am_cat1 k) k
theorem sim_pop_i {x : Int32} (d0 : decode M.2.1 pc = .ok (.pop, 1)) (k : Sim M d (pc + 1) lv st h r) : Sim M d pc lv (.inl x :: st) h r :=
  sim_go (fun c _ => c.tail) (fun _ _ _ _ _ _ _ _ _ _ _ _ _ _ _ _ _ hx hb _ _ _ k => lv_pop hx hb d0 am_cat1 k) k
theorem sim_dup2 {x : Int32} {o : Option (Nat × Nat)} (d0 : decode M.2.1 pc = .ok (.dup2, 1)) (k : Sim M d (pc + 1) lv (.inl x :: .inr (.inr o) :: .inl x :: .inr (.inr o) :: st) h r) : Sim M d pc lv (.inl x :: .inr (.inr o) :: st) h r :=
  sim_go (fun c _ => (c.cons c.tail.head).cons c.head) (fun _ _ _ _ _ _ _ _ _ _ _ _ _ _ _ _ _ hx hb _ _ _ k => lv_dup2_11 hx hb d0 am_cat1 am_cat1r k) k
theorem sim_lcmp {x y : Int64} (d0 : decode M.2.1 pc = .ok (.lcmp, 1)) (k : Sim M d (pc + 1) lv (.inl (lg_cmp x y) :: st) h r) : Sim M d pc lv (.inr (.inl y) :: .inr (.inl x) :: st) h r :=
  sim_go (fun c _ => c.tail.tail.cons am_clo_i) (fun _ _ _ _ _ _ _ _ _ _ _ _ _ _ _ _ _ hx hb _ _ _ k => W.lcmp hx hb d0 k) k
theorem sim_rw {st' : List am_V} (e : st = st') (k : Sim M d pc lv st' h r) : Sim M d pc lv st h r := e ▸ k
end SimRows
end
section
section SimRows2
variable {M : am_M} {d pc : Nat} {lv : List (Option am_V)} {st : List am_V} {h : am_H} {r : am_R}
/-- a step that writes a local -/
theorem sim_put {pc' i : Nat} {v : am_V} {st' : List am_V}
    (hc : am_cls h st → (∀ (j : Nat) (w : am_V), lv[j]? = some (some w) → am_clo h w) → am_cls h st' ∧ am_clo h v)
    (go : ∀ (l : Launch) (p : Program) (e : Env) (R : Room) (s : State) (m : MethodId) (args : Array Value) (below : List Frame) (meth : Method) (c : Code) (Q : State → Prop) (μ : Nat × Nat → Nat) (H : Heap) (locs : List Loc) (cells slots : Nat) (ls : Array Slot),
      p.tables.exec = Jvm.exec → c.code = M.2.1 → am_Ls M.2.2.1 μ h lv ls →
      (∀ ls' : Array Slot, lv_has ls' M.2.2.1 ((i, am_v μ v) :: (am_pr μ 0 lv).filter (fun q => !(q.1 == i) && !(q.1 + 1 == i && q.2.category == 2))) → W p l e R s m args below meth c H locs cells slots Q (F0 m pc' ls' (st'.map (am_v μ)))) →
      W p l e R s m args below meth c H locs cells slots Q (F0 m pc ls (st.map (am_v μ))))
    (k : Sim M d pc' (am_set lv i v) st' h r) : Sim M d pc lv st h r := by
  intro h' o e
  obtain ⟨q1, q2⟩ := k h' o e
  refine ⟨q1, fun l D dA base b n xs p e R s m args below meth c mc ms Qc XC C μ H locs cells slots ls a1 a2 a3 a4 a5 a6 a7 => ?_⟩
  obtain ⟨c1, c2⟩ := hc a4 a3.2
  exact go l p e R s m args below meth c _ μ H locs cells slots ls C.1 C.2.1 a3 (fun ls' hl => q2 l D dA base b n xs p e R s m args below meth c mc ms Qc XC C μ H locs cells slots ls' a1 a2 (a3.put c2 hl) c1 a5 a6 a7)
theorem sim_istore_n {i : Fin 4} {x : Int32} (d0 : decode M.2.1 pc = .ok (.istore_n i, 1)) (hn : (i : Nat) < M.2.2.1) (k : Sim M d (pc + 1) (am_set lv (i : Nat) (.inl x)) st h r) : Sim M d pc lv (.inl x :: st) h r :=
  sim_put (fun c _ => ⟨c.tail, am_clo_i⟩) (fun _ _ _ _ _ _ _ _ _ _ _ _ _ _ _ _ _ hx hb a kk => lv_istore_n hx hb d0 rfl a.1 hn rfl kk) k
theorem sim_istore {i : Nat} {x : Int32} (d0 : decode M.2.1 pc = .ok (.istore i, 2)) (hn : i < M.2.2.1) (k : Sim M d (pc + 2) (am_set lv i (.inl x)) st h r) : Sim M d pc lv (.inl x :: st) h r :=
  sim_put (fun c _ => ⟨c.tail, am_clo_i⟩) (fun _ _ _ _ _ _ _ _ _ _ _ _ _ _ _ _ _ hx hb a kk => lv_istore hx hb d0 a.1 hn rfl kk) k
theorem sim_astore_n {i : Fin 4} {o : Option (Nat × Nat)} (d0 : decode M.2.1 pc = .ok (.astore_n i, 1)) (hn : (i : Nat) < M.2.2.1) (k : Sim M d (pc + 1) (am_set lv (i : Nat) (.inr (.inr o))) st h r) : Sim M d pc lv (.inr (.inr o) :: st) h r :=
  sim_put (fun c _ => ⟨c.tail, c.head⟩) (fun _ _ _ _ _ _ _ _ _ _ _ _ _ _ _ _ _ hx hb a kk => by
    cases o with
    | none => exact lv_astore_nN hx hb d0 rfl a.1 hn rfl kk
    | some q => exact lv_astore_n hx hb d0 rfl a.1 hn rfl kk) k
theorem sim_astore {i : Nat} {o : Option (Nat × Nat)} (d0 : decode M.2.1 pc = .ok (.astore i, 2)) (hn : i < M.2.2.1) (k : Sim M d (pc + 2) (am_set lv i (.inr (.inr o))) st h r) : Sim M d pc lv (.inr (.inr o) :: st) h r :=
  sim_put (fun c _ => ⟨c.tail, c.head⟩) (fun _ _ _ _ _ _ _ _ _ _ _ _ _ _ _ _ _ hx hb a kk => by
    cases o with
    | none => exact lv_astoreN hx hb d0 a.1 hn rfl kk
    | some q => exact lv_astore hx hb d0 a.1 hn rfl kk) k
theorem sim_iinc {i : Nat} {n : Int} {x : Int32} (z : Int32) (d0 : decode M.2.1 pc = .ok (.iinc i n, 3)) (hl : lv[i]? = some (some (.inl x))) (hz : Int32.ofInt n = z) (hn : i < M.2.2.1) (k : Sim M d (pc + 3) (am_set lv i (.inl (x + z))) st h r) : Sim M d pc lv st h r :=
  sim_put (fun c _ => ⟨c, am_clo_i⟩) (fun _ _ _ _ _ _ _ _ _ _ _ _ _ _ _ _ _ hx hb a kk => by
    obtain ⟨k9, hk9⟩ := List.getElem?_of_mem (am_pr_mem (μ := _) (l := lv) (k := 0) (j := i) (w := .int x) |>.mpr ⟨i, .inl x, by omega, hl, rfl⟩)
    exact lv_iinc hx hb d0 a.1 hk9 (by rw [hz]) hn rfl kk) k
/-! branches -/
theorem sim_br {P : Prop} {tgt ftg : Nat} {st' : List am_V} (hc : am_cls h st → am_cls h st')
    (go : ∀ (l : Launch) (p : Program) (e : Env) (R : Room) (s : State) (m : MethodId) (args : Array Value) (below : List Frame) (meth : Method) (c : Code) (Q : State → Prop) (μ : Nat × Nat → Nat) (H : Heap) (locs : List Loc) (cells slots : Nat) (ls : Array Slot),
      p.tables.exec = Jvm.exec → c.code = M.2.1 →
      (P → W p l e R s m args below meth c H locs cells slots Q (F0 m tgt ls (st'.map (am_v μ)))) → (¬ P → W p l e R s m args below meth c H locs cells slots Q (F0 m ftg ls (st'.map (am_v μ)))) →
      W p l e R s m args below meth c H locs cells slots Q (F0 m pc ls (st.map (am_v μ))))
    (kt : P → Sim M d tgt lv st' h r) (kf : ¬ P → Sim M d ftg lv st' h r) : Sim M d pc lv st h r := by
  intro h' o e
  refine ⟨?_, fun l D dA base b n xs p e9 R s m args below meth c mc ms Qc XC C μ H locs cells slots ls a1 a2 a3 a4 a5 a6 a7 => ?_⟩
  · rcases Classical.em P with q | q
    · exact (kt q h' o e).1
    · exact (kf q h' o e).1
  · exact go l p e9 R s m args below meth c _ μ H locs cells slots ls C.1 C.2.1
      (fun q => (kt q h' o e).2 l D dA base b n xs p e9 R s m args below meth c mc ms Qc XC C μ H locs cells slots ls a1 a2 a3 (hc a4) a5 a6 a7)
      (fun q => (kf q h' o e).2 l D dA base b n xs p e9 R s m args below meth c mc ms Qc XC C μ H locs cells slots ls a1 a2 a3 (hc a4) a5 a6 a7)
theorem sim_ite {P : Prop} [Decidable P] {r1 r2 : am_R} {tgt ftg : Nat} {st' : List am_V} (kk : (P → Sim M d tgt lv st' h (if P then r1 else r2)) → (¬ P → Sim M d ftg lv st' h (if P then r1 else r2)) → Sim M d pc lv st h (if P then r1 else r2))
    (kt : P → Sim M d tgt lv st' h r1) (kf : ¬ P → Sim M d ftg lv st' h r2) : Sim M d pc lv st h (if P then r1 else r2) :=
  kk (fun q => by rw [if_pos q]; exact kt q) (fun q => by rw [if_neg q]; exact kf q)
theorem sim_if_eq {x : Int32} {off : Int} (tgt : Nat) {r1 r2 : am_R} (d0 : decode M.2.1 pc = .ok (.ifCond .eq off, 3)) (ht : (pc : Int) + off = (tgt : Int)) (kt : x = 0 → Sim M d tgt lv st h r1) (kf : ¬ x = 0 → Sim M d (pc + 3) lv st h r2) : Sim M d pc lv (.inl x :: st) h (if x = 0 then r1 else r2) :=
  sim_ite (sim_br (fun c => c.tail) (fun _ _ _ _ _ _ _ _ _ _ _ _ _ _ _ _ _ hx hb kt kf => lv_if_eq hx hb d0 ht kt kf)) kt kf
theorem sim_if_ne {x : Int32} {off : Int} (tgt : Nat) {r1 r2 : am_R} (d0 : decode M.2.1 pc = .ok (.ifCond .ne off, 3)) (ht : (pc : Int) + off = (tgt : Int)) (kt : ¬ x = 0 → Sim M d tgt lv st h r2) (kf : x = 0 → Sim M d (pc + 3) lv st h r1) : Sim M d pc lv (.inl x :: st) h (if x = 0 then r1 else r2) :=
  sim_br (P := ¬ x = 0) (fun c => c.tail) (fun _ _ _ _ _ _ _ _ _ _ _ _ _ _ _ _ _ hx hb kt kf => lv_if_ne hx hb d0 ht kt (fun z => kf (fun y => y z))) (fun q => by rw [if_neg q]; exact kt q) (fun q => by rw [if_pos (Classical.not_not.mp q)]; exact kf (Classical.not_not.mp q))
theorem sim_if_lt {x : Int32} {off : Int} (tgt : Nat) {r1 r2 : am_R} (d0 : decode M.2.1 pc = .ok (.ifCond .lt off, 3)) (ht : (pc : Int) + off = (tgt : Int)) (kt : x < 0 → Sim M d tgt lv st h r1) (kf : ¬ x < 0 → Sim M d (pc + 3) lv st h r2) : Sim M d pc lv (.inl x :: st) h (if x < 0 then r1 else r2) :=
  sim_ite (sim_br (fun c => c.tail) (fun _ _ _ _ _ _ _ _ _ _ _ _ _ _ _ _ _ hx hb kt kf => lv_if_lt hx hb d0 ht kt kf)) kt kf
theorem sim_if_ge {x : Int32} {off : Int} (tgt : Nat) {r1 r2 : am_R} (d0 : decode M.2.1 pc = .ok (.ifCond .ge off, 3)) (ht : (pc : Int) + off = (tgt : Int)) (kt : 0 ≤ x → Sim M d tgt lv st h r1) (kf : ¬ 0 ≤ x → Sim M d (pc + 3) lv st h r2) : Sim M d pc lv (.inl x :: st) h (if 0 ≤ x then r1 else r2) :=
  sim_ite (sim_br (fun c => c.tail) (fun _ _ _ _ _ _ _ _ _ _ _ _ _ _ _ _ _ hx hb kt kf => lv_if_ge hx hb d0 ht kt kf)) kt kf
theorem sim_if_gt {x : Int32} {off : Int} (tgt : Nat) {r1 r2 : am_R} (d0 : decode M.2.1 pc = .ok (.ifCond .gt off, 3)) (ht : (pc : Int) + off = (tgt : Int)) (kt : 0 < x → Sim M d tgt lv st h r1) (kf : ¬ 0 < x → Sim M d (pc + 3) lv st h r2) : Sim M d pc lv (.inl x :: st) h (if 0 < x then r1 else r2) :=
  sim_ite (sim_br (fun c => c.tail) (fun _ _ _ _ _ _ _ _ _ _ _ _ _ _ _ _ _ hx hb kt kf => lv_if_gt hx hb d0 ht kt kf)) kt kf
theorem sim_if_le {x : Int32} {off : Int} (tgt : Nat) {r1 r2 : am_R} (d0 : decode M.2.1 pc = .ok (.ifCond .le off, 3)) (ht : (pc : Int) + off = (tgt : Int)) (kt : x ≤ 0 → Sim M d tgt lv st h r1) (kf : ¬ x ≤ 0 → Sim M d (pc + 3) lv st h r2) : Sim M d pc lv (.inl x :: st) h (if x ≤ 0 then r1 else r2) :=
  sim_ite (sim_br (fun c => c.tail) (fun _ _ _ _ _ _ _ _ _ _ _ _ _ _ _ _ _ hx hb kt kf => lv_if_le hx hb d0 ht kt kf)) kt kf
theorem sim_ic_eq {x y : Int32} {off : Int} (tgt : Nat) {r1 r2 : am_R} (d0 : decode M.2.1 pc = .ok (.if_icmp .eq off, 3)) (ht : (pc : Int) + off = (tgt : Int)) (kt : x = y → Sim M d tgt lv st h r1) (kf : ¬ x = y → Sim M d (pc + 3) lv st h r2) : Sim M d pc lv (.inl y :: .inl x :: st) h (if x = y then r1 else r2) :=
  sim_ite (sim_br (fun c => c.tail.tail) (fun _ _ _ _ _ _ _ _ _ _ _ _ _ _ _ _ _ hx hb kt kf => lv_icmp_eq hx hb d0 ht kt kf)) kt kf
theorem sim_ic_ne {x y : Int32} {off : Int} (tgt : Nat) {r1 r2 : am_R} (d0 : decode M.2.1 pc = .ok (.if_icmp .ne off, 3)) (ht : (pc : Int) + off = (tgt : Int)) (kt : ¬ x = y → Sim M d tgt lv st h r2) (kf : x = y → Sim M d (pc + 3) lv st h r1) : Sim M d pc lv (.inl y :: .inl x :: st) h (if x = y then r1 else r2) :=
  sim_br (P := ¬ x = y) (fun c => c.tail.tail) (fun _ _ _ _ _ _ _ _ _ _ _ _ _ _ _ _ _ hx hb kt kf => lv_icmp_ne hx hb d0 ht kt (fun z => kf (fun y => y z))) (fun q => by rw [if_neg q]; exact kt q) (fun q => by rw [if_pos (Classical.not_not.mp q)]; exact kf (Classical.not_not.mp q))
theorem sim_ic_lt {x y : Int32} {off : Int} (tgt : Nat) {r1 r2 : am_R} (d0 : decode M.2.1 pc = .ok (.if_icmp .lt off, 3)) (ht : (pc : Int) + off = (tgt : Int)) (kt : x < y → Sim M d tgt lv st h r1) (kf : ¬ x < y → Sim M d (pc + 3) lv st h r2) : Sim M d pc lv (.inl y :: .inl x :: st) h (if x < y then r1 else r2) :=
  sim_ite (sim_br (fun c => c.tail.tail) (fun _ _ _ _ _ _ _ _ _ _ _ _ _ _ _ _ _ hx hb kt kf => lv_icmp_lt hx hb d0 ht kt kf)) kt kf
theorem sim_ic_ge {x y : Int32} {off : Int} (tgt : Nat) {r1 r2 : am_R} (d0 : decode M.2.1 pc = .ok (.if_icmp .ge off, 3)) (ht : (pc : Int) + off = (tgt : Int)) (kt : y ≤ x → Sim M d tgt lv st h r1) (kf : ¬ y ≤ x → Sim M d (pc + 3) lv st h r2) : Sim M d pc lv (.inl y :: .inl x :: st) h (if y ≤ x then r1 else r2) :=
  sim_ite (sim_br (fun c => c.tail.tail) (fun _ _ _ _ _ _ _ _ _ _ _ _ _ _ _ _ _ hx hb kt kf => lv_icmp_ge hx hb d0 ht kt kf)) kt kf
theorem sim_ic_gt {x y : Int32} {off : Int} (tgt : Nat) {r1 r2 : am_R} (d0 : decode M.2.1 pc = .ok (.if_icmp .gt off, 3)) (ht : (pc : Int) + off = (tgt : Int)) (kt : y < x → Sim M d tgt lv st h r1) (kf : ¬ y < x → Sim M d (pc + 3) lv st h r2) : Sim M d pc lv (.inl y :: .inl x :: st) h (if y < x then r1 else r2) :=
  sim_ite (sim_br (fun c => c.tail.tail) (fun _ _ _ _ _ _ _ _ _ _ _ _ _ _ _ _ _ hx hb kt kf => lv_icmp_gt hx hb d0 ht kt kf)) kt kf
theorem sim_ic_le {x y : Int32} {off : Int} (tgt : Nat) {r1 r2 : am_R} (d0 : decode M.2.1 pc = .ok (.if_icmp .le off, 3)) (ht : (pc : Int) + off = (tgt : Int)) (kt : x ≤ y → Sim M d tgt lv st h r1) (kf : ¬ x ≤ y → Sim M d (pc + 3) lv st h r2) : Sim M d pc lv (.inl y :: .inl x :: st) h (if x ≤ y then r1 else r2) :=
  sim_ite (sim_br (fun c => c.tail.tail) (fun _ _ _ _ _ _ _ _ _ _ _ _ _ _ _ _ _ hx hb kt kf => lv_icmp_le hx hb d0 ht kt kf)) kt kf
theorem sim_ifnull {o : Option (Nat × Nat)} {off : Int} (tgt : Nat) {r1 r2 : am_R} (d0 : decode M.2.1 pc = .ok (.ifnull off, 3)) (ht : (pc : Int) + off = (tgt : Int)) (kt : o = none → Sim M d tgt lv st h r1) (kf : ¬ o = none → Sim M d (pc + 3) lv st h r2) : Sim M d pc lv (.inr (.inr o) :: st) h (if o = none then r1 else r2) :=
  sim_ite (sim_br (fun c => c.tail) (fun _ _ _ _ _ _ _ _ _ _ _ _ _ _ _ _ _ hx hb kt kf => by
    cases o with
    | none => exact lv_ifnullN hx hb d0 ht (kt rfl)
    | some q => exact lv_ifnull hx hb d0 (kf (fun z => by cases z)))) kt kf
theorem sim_ifnonnull {o : Option (Nat × Nat)} {off : Int} (tgt : Nat) {r1 r2 : am_R} (d0 : decode M.2.1 pc = .ok (.ifnonnull off, 3)) (ht : (pc : Int) + off = (tgt : Int)) (kt : ¬ o = none → Sim M d tgt lv st h r2) (kf : o = none → Sim M d (pc + 3) lv st h r1) : Sim M d pc lv (.inr (.inr o) :: st) h (if o = none then r1 else r2) :=
  sim_br (P := ¬ o = none) (fun c => c.tail) (fun _ _ _ _ _ _ _ _ _ _ _ _ _ _ _ _ _ hx hb kt kf => by
    cases o with
    | none => exact lv_ifnonnullN hx hb d0 (kf (fun z => z rfl))
    | some q => exact lv_ifnonnull hx hb d0 ht (kt (fun z => by cases z))) (fun q => by rw [if_neg q]; exact kt q) (fun q => by rw [if_pos (Classical.not_not.mp q)]; exact kf (Classical.not_not.mp q))
theorem sim_tableIn {x : Int32} (v : Int32) {dflt lo hi off : Int} {offs : Array Int} {len : Nat} (tgt : Nat) (hv : x = v) (d0 : decode M.2.1 pc = .ok (.tableswitch dflt lo hi offs, len)) (h1 : ¬ v.toInt < lo) (h2 : ¬ hi < v.toInt) (ho : offs[(v.toInt - lo).toNat]? = some off) (ht : (pc : Int) + off = (tgt : Int)) (k : Sim M d tgt lv st h r) : Sim M d pc lv (.inl x :: st) h r := by
  subst hv
  exact sim_go (fun c _ => c.tail) (fun _ _ _ _ _ _ _ _ _ _ _ _ _ _ _ _ _ hx hb _ _ _ k => lv_tableIn hx hb d0 h1 h2 ho ht k) k
theorem sim_tableOut {x : Int32} {dflt lo hi : Int} {offs : Array Int} {len : Nat} (tgt : Nat) (d0 : decode M.2.1 pc = .ok (.tableswitch dflt lo hi offs, len)) (h1 : x.toInt < lo ∨ hi < x.toInt) (ht : (pc : Int) + dflt = (tgt : Int)) (k : Sim M d tgt lv st h r) : Sim M d pc lv (.inl x :: st) h r :=
  sim_go (fun c _ => c.tail) (fun _ _ _ _ _ _ _ _ _ _ _ _ _ _ _ _ _ hx hb _ _ _ k => lv_tableOut hx hb d0 h1 ht k) k
theorem am_out {x : Int32} {N : Nat} (hN : N < 1000) (h : ∀ i, i < N → ¬ x = nI i) : x.toInt < 0 ∨ ((N : Int) - 1) < x.toInt := by
  rcases Int.lt_or_le x.toInt 0 with q | q
  · exact Or.inl q
  · right
    rcases Int.lt_or_le ((N : Int) - 1) x.toInt with q2 | q2
    · exact q2
    · exfalso
      refine h x.toInt.toNat (by omega) ?_
      apply Int32.toInt_inj.mp
      rw [nI_toInt (by omega)]
      omega
theorem sim_lookup {x : Int32} {dflt off : Int} {ps : Array (Int × Int)} {len : Nat} (tgt : Nat) (d0 : decode M.2.1 pc = .ok (.lookupswitch dflt ps, len)) (hp : (ps.toList.zip (ps.toList.drop 1)).all (fun (a, next) => a.1 < next.1) = true) (ho : Op.lookupswitch.offset ps.toList dflt x.toInt = off) (ht : (pc : Int) + off = (tgt : Int)) (k : Sim M d tgt lv st h r) : Sim M d pc lv (.inl x :: st) h r :=
  sim_go (fun c _ => c.tail) (fun _ _ _ _ _ _ _ _ _ _ _ _ _ _ _ _ _ hx hb _ _ _ k => lv_lookup hx hb d0 hp ho ht k) k
theorem sim_case {P : Prop} [Decidable P] {r1 r2 : am_R} (kt : P → Sim M d pc lv st h r1) (kf : ¬ P → Sim M d pc lv st h r2) : Sim M d pc lv st h (if P then r1 else r2) := by
  by_cases q : P
  · rw [if_pos q]; exact kt q
  · rw [if_neg q]; exact kf q
/-! guards -/
theorem sim_ck {b : Bool} (k : b = true → Sim M d pc lv st h r) : Sim M d pc lv st h (m_ck b r) := by
  cases b with
  | false => exact sim_none
  | true => exact k rfl
theorem sim_as0 {o : Option (Nat × Nat)} {K : Nat × Nat → am_R} (k : ∀ a, Sim M d pc lv (.inr (.inr (some a)) :: st) h (K a)) : Sim M d pc lv (.inr (.inr o) :: st) h (m_as o K) := by
  cases o with
  | none => exact sim_none
  | some a => exact k a
theorem sim_as1 {o : Option (Nat × Nat)} {v1 : am_V} {K : Nat × Nat → am_R} (k : ∀ a, Sim M d pc lv (v1 :: .inr (.inr (some a)) :: st) h (K a)) : Sim M d pc lv (v1 :: .inr (.inr o) :: st) h (m_as o K) := by
  cases o with
  | none => exact sim_none
  | some a => exact k a
theorem sim_as2 {o : Option (Nat × Nat)} {v1 v2 : am_V} {K : Nat × Nat → am_R} (k : ∀ a, Sim M d pc lv (v1 :: v2 :: .inr (.inr (some a)) :: st) h (K a)) : Sim M d pc lv (v1 :: v2 :: .inr (.inr o) :: st) h (m_as o K) := by
  cases o with
  | none => exact sim_none
  | some a => exact k a
theorem sim_as3 {o : Option (Nat × Nat)} {v1 v2 v3 : am_V} {K : Nat × Nat → am_R} (k : ∀ a, Sim M d pc lv (v1 :: v2 :: v3 :: .inr (.inr (some a)) :: st) h (K a)) : Sim M d pc lv (v1 :: v2 :: v3 :: .inr (.inr o) :: st) h (m_as o K) := by
  cases o with
  | none => exact sim_none
  | some a => exact k a
theorem sim_as4 {o : Option (Nat × Nat)} {v1 v2 v3 v4 : am_V} {K : Nat × Nat → am_R} (k : ∀ a, Sim M d pc lv (v1 :: v2 :: v3 :: v4 :: .inr (.inr (some a)) :: st) h (K a)) : Sim M d pc lv (v1 :: v2 :: v3 :: v4 :: .inr (.inr o) :: st) h (m_as o K) := by
  cases o with
  | none => exact sim_none
  | some a => exact k a
theorem sim_idiv {x y : Int32} (d0 : decode M.2.1 pc = .ok (.idiv, 1)) (k : Sim M d (pc + 1) lv (.inl (x / y) :: st) h r) : Sim M d pc lv (.inl y :: .inl x :: st) h (m_ck (!(y == 0)) r) :=
  sim_ck fun hy => sim_go (fun c _ => c.tail.tail.cons am_clo_i) (fun _ _ _ _ _ _ _ _ _ _ _ _ _ _ _ _ _ hx hb _ _ _ k => lv_idiv hx hb d0 (by simpa using hy) k) k
theorem sim_irem {x y : Int32} (d0 : decode M.2.1 pc = .ok (.irem, 1)) (k : Sim M d (pc + 1) lv (.inl (x - x / y * y) :: st) h r) : Sim M d pc lv (.inl y :: .inl x :: st) h (m_ck (!(y == 0)) r) :=
  sim_ck fun hy => sim_go (fun c _ => c.tail.tail.cons am_clo_i) (fun _ _ _ _ _ _ _ _ _ _ _ _ _ _ _ _ _ hx hb _ _ _ k => lv_irem hx hb d0 (by simpa using hy) k) k
/-! ends -/
theorem am_zero {a b : Nat} {x : Nat} (h : a + (x - x) = b) : a = b := by omega
theorem sim_iret {x : Int32} (d0 : decode M.2.1 pc = .ok (.ireturn, 1)) (hr : M.2.2.2.1 = some .int) : Sim M d pc lv [.inl x] h (m_rt h (some (.inl x))) := by
  intro h' o e
  cases e
  refine ⟨am_le.refl h, fun l D dA base b n xs p e R s m args below meth c mc ms Qc XC C μ H locs cells slots ls a1 a2 a3 a4 a5 a6 a7 => ?_⟩
  cases am_zero a5
  cases am_zero a6
  exact vx_ret (W.iret C.1 C.2.1 (C.2.2.2.1.trans hr) (fun t ht hW => (a7 μ t (am_ext.refl μ h) (by rw [ht]; exact a1) hW.alike (a2.F ht)).1 _ rfl (fun w hw => by cases hw; trivial)) a2.2.2 d0 C.2.2.2.2.2.1)
theorem sim_vret (d0 : decode M.2.1 pc = .ok (.return_, 1)) (hr : M.2.2.2.1 = none) : Sim M d pc lv [] h (m_rt h none) := by
  intro h' o e
  cases e
  refine ⟨am_le.refl h, fun l D dA base b n xs p e R s m args below meth c mc ms Qc XC C μ H locs cells slots ls a1 a2 a3 a4 a5 a6 a7 => ?_⟩
  cases am_zero a5
  cases am_zero a6
  exact vx_ret (W.vret C.1 C.2.1 (C.2.2.2.1.trans hr) (fun t ht hW => (a7 μ t (am_ext.refl μ h) (by rw [ht]; exact a1) hW.alike (a2.F ht)).1 _ rfl (fun w hw => by cases hw)) a2.2.2 d0 C.2.2.2.2.2.1)
theorem am_nz_n {x : Int32} (h : m_nz x = true) : narrow .boolean (.int x) = .int x ∧ fits .boolean (.int x) = true ∧ vp_nar .boolean x = x := by
  have h1 : x = 0 ∨ x = 1 := by simpa [m_nz] using h
  rcases h1 with rfl | rfl <;> decide +kernel
theorem am_nzc_n {x : Int32} (h : m_nzc x = true) : narrow .char (.int x) = .int x ∧ fits .char (.int x) = true ∧ vp_nar .char x = x := by
  have h1 : (x.toUInt32 % 65536).toInt32 = x := by simpa [m_nzc] using h
  rw [← h1]
  exact ⟨pk_nc x, pk_fc x, pk_vc x⟩
theorem sim_zret {x : Int32} (d0 : decode M.2.1 pc = .ok (.ireturn, 1)) (hr : M.2.2.2.1 = some .boolean) : Sim M d pc lv [.inl x] h (m_ck (m_nz x) (m_rt h (some (.inl x)))) := by
  refine sim_ck fun hz => ?_
  intro h' o e
  cases e
  refine ⟨am_le.refl h, fun l D dA base b n xs p e R s m args below meth c mc ms Qc XC C μ H locs cells slots ls a1 a2 a3 a4 a5 a6 a7 => ?_⟩
  cases am_zero a5
  cases am_zero a6
  exact vx_ret (W.zret C.1 C.2.1 (C.2.2.2.1.trans hr) (am_nz_n hz).1 (fun t ht hW => (a7 μ t (am_ext.refl μ h) (by rw [ht]; exact a1) hW.alike (a2.F ht)).1 _ rfl (fun w hw => by cases hw; trivial)) a2.2.2 d0 C.2.2.2.2.2.1)
theorem sim_cret {x : Int32} (d0 : decode M.2.1 pc = .ok (.ireturn, 1)) (hr : M.2.2.2.1 = some .char) : Sim M d pc lv [.inl x] h (m_ck (m_nzc x) (m_rt h (some (.inl x)))) := by
  refine sim_ck fun hz => ?_
  intro h' o e
  cases e
  refine ⟨am_le.refl h, fun l D dA base b n xs p e R s m args below meth c mc ms Qc XC C μ H locs cells slots ls a1 a2 a3 a4 a5 a6 a7 => ?_⟩
  cases am_zero a5
  cases am_zero a6
  exact vx_ret (W.zret C.1 C.2.1 (C.2.2.2.1.trans hr) (am_nzc_n hz).1 (fun t ht hW => (a7 μ t (am_ext.refl μ h) (by rw [ht]; exact a1) hW.alike (a2.F ht)).1 _ rfl (fun w hw => by cases hw; trivial)) a2.2.2 d0 C.2.2.2.2.2.1)
theorem sim_aret {nm : String} {o : Option (Nat × Nat)} (d0 : decode M.2.1 pc = .ok (.areturn, 1)) (hr : M.2.2.2.1 = some (.object nm)) : Sim M d pc lv [.inr (.inr o)] h (m_rt h (some (.inr (.inr o)))) := by
  intro h' o e
  cases e
  refine ⟨am_le.refl h, fun l D dA base b n xs p e R s m args below meth c mc ms Qc XC C μ H locs cells slots ls a1 a2 a3 a4 a5 a6 a7 => ?_⟩
  cases am_zero a5
  cases am_zero a6
  exact vx_ret (W.aret C.1 C.2.1 (C.2.2.2.1.trans hr) (Or.inl ⟨_, rfl⟩) (by
    rcases o with _ | q
    · exact Or.inl rfl
    · exact Or.inr ⟨_, rfl⟩) (fun t ht hW => (a7 μ t (am_ext.refl μ h) (by rw [ht]; exact a1) hW.alike (a2.F ht)).1 _ rfl (fun w hw => by cases hw; exact a4 _ List.mem_cons_self)) a2.2.2 d0 C.2.2.2.2.2.1)
end SimRows2
end
section
/-! ## rows that read and write the heap -/
theorem am_in_T {ws : List Cond} (h1 : ∀ w ∈ ws, w ∈ lw_tbl) (h2 : ∀ w ∈ ws, am_gw w = true) : ∀ w ∈ ws, w ∈ am_T := fun w hw => List.mem_filter.mpr ⟨h1 w hw, h2 w hw⟩
theorem am_u0 : ∀ w ∈ wsX00, w ∈ am_T := am_in_T (by decide +kernel) (by decide +kernel)
theorem am_u1 : ∀ w ∈ wsX10, w ∈ am_T := am_in_T (by decide +kernel) (by decide +kernel)
theorem am_u2 : ∀ w ∈ wsX20, w ∈ am_T := am_in_T (by decide +kernel) (by decide +kernel)
theorem am_u3 : ∀ w ∈ wsX30, w ∈ am_T := am_in_T (by decide +kernel) (by decide +kernel)
theorem am_u4 : ∀ w ∈ wsX40, w ∈ am_T := am_in_T (by decide +kernel) (by decide +kernel)
theorem am_u5 : ∀ w ∈ wsX50, w ∈ am_T := am_in_T (by decide +kernel) (by decide +kernel)
theorem am_u6 : ∀ w ∈ wsX60, w ∈ am_T := am_in_T (by decide +kernel) (by decide +kernel)
theorem am_u7 : ∀ w ∈ wsX70, w ∈ am_T := am_in_T (by decide +kernel) (by decide +kernel)
theorem am_u8 : ∀ w ∈ wsX80, w ∈ am_T := am_in_T (by decide +kernel) (by decide +kernel)
theorem am_u9 : ∀ w ∈ wsX90, w ∈ am_T := am_in_T (by decide +kernel) (by decide +kernel)
theorem am_u10 : ∀ w ∈ wsX100, w ∈ am_T := am_in_T (by decide +kernel) (by decide +kernel)
theorem am_u11 : ∀ w ∈ wsX110, w ∈ am_T := am_in_T (by decide +kernel) (by decide +kernel)
def am_refT : FieldType → Bool
  | .object _ => true
  | .array _ => true
  | _ => false
theorem am_clF {ci : Nat} {C : String} {T : u_T} {N : Nat} (hc : vwCl[ci]? = some (C, T, N)) : N = am_nf ci ∧ (∀ w ∈ u_ws C T N, w ∈ am_T) ∧ (∀ k, k < N → parseFieldDescriptor (T k).2.2.1 = some (am_tyX ci k)) ∧ (∀ a, a < N → ∀ b, b < N → a ≠ b → (T a).2.1 ≠ (T b).2.1) ∧ (∀ k, k < N → am_rf ci k = am_refT (am_tyX ci k)) := by
  match ci, hc with
  | 0, hc => cases hc; exact ⟨rfl, am_u0, tyX0_ok, nmX0, by decide +kernel⟩
  | 1, hc => cases hc; exact ⟨rfl, am_u1, tyX1_ok, nmX1, by decide +kernel⟩
  | 2, hc => cases hc; exact ⟨rfl, am_u2, tyX2_ok, nmX2, by decide +kernel⟩
  | 3, hc => cases hc; exact ⟨rfl, am_u3, tyX3_ok, nmX3, by decide +kernel⟩
  | 4, hc => cases hc; exact ⟨rfl, am_u4, tyX4_ok, nmX4, by decide +kernel⟩
  | 5, hc => cases hc; exact ⟨rfl, am_u5, tyX5_ok, nmX5, by decide +kernel⟩
  | 6, hc => cases hc; exact ⟨rfl, am_u6, tyX6_ok, nmX6, by decide +kernel⟩
  | 7, hc => cases hc; exact ⟨rfl, am_u7, tyX7_ok, nmX7, by decide +kernel⟩
  | 8, hc => cases hc; exact ⟨rfl, am_u8, tyX8_ok, nmX8, by decide +kernel⟩
  | 9, hc => cases hc; exact ⟨rfl, am_u9, tyX9_ok, nmX9, by decide +kernel⟩
  | 10, hc => cases hc; exact ⟨rfl, am_u10, tyX10_ok, nmX10, by decide +kernel⟩
  | 11, hc => cases hc; exact ⟨rfl, am_u11, tyX11_ok, nmX11, by decide +kernel⟩
  | k + 12, hc => simp at hc
end
section
theorem am_isO_of {s ci : Nat} (h : am_isO s ci = true) : am_kd s = 0 ∧ am_ci s = ci := by simpa [am_isO] using h
theorem am_isA_of {s ty : Nat} (h : am_isA s ty = true) : am_kd s = 1 ∧ am_ty s = ty := by simpa [am_isA] using h
theorem am_isL_of {s : Nat} (h : am_isL s = true) : am_kd s = 4 ∧ am_ty s = 3 := by simpa [am_isL] using h
theorem am_isR_of {s : Nat} (h : am_isR s = true) : am_kd s = 5 := by simpa [am_isR] using h
theorem am_in_of {i : Int32} {n : Nat} (h : m_in i n = true) : vp_in i n := by simpa [m_in, vp_in] using h
/-- the entries, by kind -/
theorem am_ent0 {dA : Nat → ClassId} {μ : Nat × Nat → Nat} {h : am_H} {a : Nat × Nat} {ci : Nat} (e : am_isO a.1 ci = true) : am_ent dA μ h a = .inr (ci, am_fs μ h a.1 a.2) := by
  obtain ⟨e1, e2⟩ := am_isO_of e
  unfold am_ent
  rw [e1, e2]
  try rfl
theorem am_ent1 {dA : Nat → ClassId} {μ : Nat × Nat → Nat} {h : am_H} {a : Nat × Nat} {ty : Nat} (e : am_isA a.1 ty = true) : am_ent dA μ h a = .inl (dA ty, (am_ln a.1, .inl fun j => m_gi h a.1 a.2 j)) := by
  obtain ⟨e1, e2⟩ := am_isA_of e
  unfold am_ent
  rw [e1, e2]
  try rfl
theorem am_ent4 {dA : Nat → ClassId} {μ : Nat × Nat → Nat} {h : am_H} {a : Nat × Nat} (e : am_isL a.1 = true) : am_ent dA μ h a = .inl (dA 3, (am_ln a.1, .inr (.inl fun j => m_gl h a.1 a.2 j))) := by
  obtain ⟨e1, e2⟩ := am_isL_of e
  unfold am_ent
  rw [e1, e2]
  try rfl
theorem am_ent5 {dA : Nat → ClassId} {μ : Nat × Nat → Nat} {h : am_H} {a : Nat × Nat} (e : am_isR a.1 = true) : am_ent dA μ h a = .inl (dA (am_ty a.1), (am_ln a.1, .inr (.inr (.inr (.inr fun j => (m_gr h a.1 a.2 j).map μ))))) := by
  have e1 := am_isR_of e
  unfold am_ent
  rw [e1]
  try rfl
theorem am_fs_get {μ : Nat × Nat → Nat} {h : am_H} {s k j ci : Nat} (e : am_ci s = ci) (hj : j < am_nf ci) : (am_fs μ h s k)[j]? = some (am_fv μ h s k j (am_rf ci j)) := by
  subst e
  rw [am_fs, List.getElem?_map, List.getElem?_range hj]; rfl
theorem am_fs_len {μ : Nat × Nat → Nat} {h : am_H} {s k : Nat} : (am_fs μ h s k).length = am_nf (am_ci s) := by rw [am_fs, List.length_map, List.length_range]
theorem am_fs_si {μ : Nat × Nat → Nat} {h : am_H} {s k j ci : Nat} {x : Int32} (e : am_ci s = ci) (hj : j < am_nf ci) (hr : am_rf ci j = false) : (am_fs μ h s k).set j (am_v μ (.inl x)) = am_fs μ (m_si h s k j x) s k := by
  subst e
  apply List.ext_getElem?
  intro i
  by_cases hi : j = i
  · subst hi
    rw [List.getElem?_set_self (by rw [am_fs_len]; exact hj), am_fs_get rfl hj, hr]
    show some (Value.int x) = some (Value.int _)
    rw [m_gi_si, if_pos ⟨rfl, rfl, rfl⟩]
  · rw [List.getElem?_set_ne hi]
    by_cases hl : i < am_nf (am_ci s)
    · rw [am_fs_get rfl hl, am_fs_get rfl hl]
      congr 1
      cases am_rf (am_ci s) i
      · show Value.int _ = Value.int _
        rw [m_gi_si, if_neg (fun q => hi q.2.2.symm)]
      · rfl
    · rw [List.getElem?_eq_none (by rw [am_fs_len]; omega), List.getElem?_eq_none (by rw [am_fs_len]; omega)]
theorem am_fs_sr {μ : Nat × Nat → Nat} {h : am_H} {s k j ci : Nat} {o : Option (Nat × Nat)} (e : am_ci s = ci) (hj : j < am_nf ci) (hr : am_rf ci j = true) : (am_fs μ h s k).set j (am_v μ (.inr (.inr o))) = am_fs μ (m_sr h s k j o) s k := by
  subst e
  apply List.ext_getElem?
  intro i
  by_cases hi : j = i
  · subst hi
    rw [List.getElem?_set_self (by rw [am_fs_len]; exact hj), am_fs_get rfl hj, hr]
    show some (va_rf _) = some (va_rf _)
    rw [m_gr_sr, if_pos ⟨rfl, rfl, rfl⟩]
  · rw [List.getElem?_set_ne hi]
    by_cases hl : i < am_nf (am_ci s)
    · rw [am_fs_get rfl hl, am_fs_get rfl hl]
      congr 1
      cases am_rf (am_ci s) i
      · rfl
      · show va_rf _ = va_rf _
        rw [m_gr_sr, if_neg (fun q => hi q.2.2.symm)]
    · rw [List.getElem?_eq_none (by rw [am_fs_len]; omega), List.getElem?_eq_none (by rw [am_fs_len]; omega)]
section SimMem
variable {M : am_M} {d pc : Nat} {lv : List (Option am_V)} {st : List am_V} {h : am_H} {r : am_R}
/-- a step that reads the thing a -/
theorem sim_rd {pc' : Nat} {st' : List am_V} {a : Nat × Nat} (ha : .inr (.inr (some a)) ∈ st) (hk : am_kd a.1 ≠ 9)
    (hc : am_cls h st → (∀ (s k j : Nat) (c : Nat × Nat), m_gr h s k j = some c → c.2 < m_nx h c.1) → am_cls h st')
    (go : ∀ (l : Launch) (D : va_G) (dA : Nat → ClassId) (p : Program) (e : Env) (R : Room) (s : State) (m : MethodId) (args : Array Value) (below : List Frame) (meth : Method) (c : Code) (Q : State → Prop) (μ : Nat × Nat → Nat) (H : Heap) (locs : List Loc) (cells slots : Nat) (ls : Array Slot) (L : List (Nat × Nat)) (i : Nat),
      p.tables.exec = Jvm.exec → c.code = M.2.1 → s.vm.findClass M.1.cls = some m.cls → (∀ w ∈ am_T, w.before args s = true) → va_K D vwCl (am_tys dA) s → va_P D vwCl (am_ws dA μ h L) H → (am_ws dA μ h L)[i]? = some (μ a, am_ent dA μ h a) →
      W p l e R s m args below meth c H locs cells slots Q (F0 m pc' ls (st'.map (am_v μ))) → W p l e R s m args below meth c H locs cells slots Q (F0 m pc ls (st.map (am_v μ))))
    (k : Sim M d pc' lv st' h r) : Sim M d pc lv st h r := by
  intro h' o e
  obtain ⟨q1, q2⟩ := k h' o e
  refine ⟨q1, fun l D dA base b n xs p e R s m args below meth c mc ms Qc XC C μ H locs cells slots ls a1 a2 a3 a4 a5 a6 a7 => ?_⟩
  obtain ⟨L, b1, b2, b3, b4, b5, b6⟩ := id a1
  obtain ⟨i, hi⟩ := List.getElem?_of_mem ((b4 a).mpr ⟨a4 _ ha, hk⟩)
  exact go l D dA p e R s m args below meth c _ μ H locs cells slots ls L i C.1 C.2.1 C.2.2.2.2.1 C.2.2.2.2.2.2.2.1 C.2.2.2.2.2.2.2.2.2.2.2.1 b1 (am_ws_at hi) (q2 l D dA base b n xs p e R s m args below meth c mc ms Qc XC C μ H locs cells slots ls a1 a2 a3 (hc a4 b5) a5 a6 a7)
theorem am_kd0 {s ci : Nat} (h : am_isO s ci = true) : am_kd s ≠ 9 := by rw [(am_isO_of h).1]; decide
theorem am_kd1 {s ty : Nat} (h : am_isA s ty = true) : am_kd s ≠ 9 := by rw [(am_isA_of h).1]; decide
theorem am_kd4 {s : Nat} (h : am_isL s = true) : am_kd s ≠ 9 := by rw [(am_isL_of h).1]; decide
theorem am_kd5 {s : Nat} (h : am_isR s = true) : am_kd s ≠ 9 := by rw [am_isR_of h]; decide
theorem sim_getI {a : Nat × Nat} {ix i : Nat} (ci j : Nat) {C : String} {T : u_T} {N : Nat} (d0 : decode M.2.1 pc = .ok (.getfield ix, 3)) (hcl : vwCl[ci]? = some (C, T, N)) (hw : lw_tbl[i]? = some (.fieldLink M.1.cls ix (T j).1 (T j).2.1 (T j).2.2.1)) (hj : j < N) (hr : am_rf ci j = false)
    (k : Sim M d (pc + 3) lv (.inl (m_gi h a.1 a.2 j) :: st) h r) : Sim M d pc lv (.inr (.inr (some a)) :: st) h (m_ck (am_isO a.1 ci) r) :=
  sim_ck fun ho => sim_rd (a := a) List.mem_cons_self (am_kd0 ho) (fun c _ => c.tail.cons am_clo_i) (fun l D dA p e R s m args below meth c Q μ H locs cells slots ls L q hx hb hown ht hK hP hq k => by
    obtain ⟨f1, f2, f3, f4, f5⟩ := am_clF hcl
    rw [am_ent0 ho] at hq
    refine va_get hx hb ht f2 hown hK hP q hq hcl j hj (am_Tw ht hw rfl) (fun _ h9 => h9) (am_fs_get (am_isO_of ho).2 (by rw [← f1]; exact hj)) d0 ?_
    rw [hr]
    exact k) k
theorem sim_getR {a : Nat × Nat} {ix i : Nat} (ci j : Nat) {C : String} {T : u_T} {N : Nat} (d0 : decode M.2.1 pc = .ok (.getfield ix, 3)) (hcl : vwCl[ci]? = some (C, T, N)) (hw : lw_tbl[i]? = some (.fieldLink M.1.cls ix (T j).1 (T j).2.1 (T j).2.2.1)) (hj : j < N) (hr : am_rf ci j = true)
    (k : Sim M d (pc + 3) lv (.inr (.inr (m_gr h a.1 a.2 j)) :: st) h r) : Sim M d pc lv (.inr (.inr (some a)) :: st) h (m_ck (am_isO a.1 ci) r) :=
  sim_ck fun ho => sim_rd (a := a) List.mem_cons_self (am_kd0 ho) (fun c g => c.tail.cons (by
      cases hg : m_gr h a.1 a.2 j with
      | none => exact am_clo_n
      | some c => exact g _ _ _ _ hg)) (fun l D dA p e R s m args below meth c Q μ H locs cells slots ls L q hx hb hown ht hK hP hq k => by
    obtain ⟨f1, f2, f3, f4, f5⟩ := am_clF hcl
    rw [am_ent0 ho] at hq
    refine va_get hx hb ht f2 hown hK hP q hq hcl j hj (am_Tw ht hw rfl) (fun _ h9 => h9) (am_fs_get (am_isO_of ho).2 (by rw [← f1]; exact hj)) d0 ?_
    rw [hr]
    exact k) k
theorem sim_iald {a : Nat × Nat} {i : Int32} (d0 : decode M.2.1 pc = .ok (.iaload, 1)) (k : Sim M d (pc + 1) lv (.inl (m_gi h a.1 a.2 i.toNatClampNeg) :: st) h r) : Sim M d pc lv (.inl i :: .inr (.inr (some a)) :: st) h (m_ck (am_isA a.1 0 && m_in i (am_ln a.1)) r) :=
  sim_ck fun ho => by
    obtain ⟨o1, o2⟩ := Bool.and_eq_true_iff.mp ho
    exact sim_rd (a := a) (List.mem_cons_of_mem _ List.mem_cons_self) (am_kd1 o1) (fun c _ => c.tail.tail.cons am_clo_i) (fun l D dA p e R s m args below meth c Q μ H locs cells slots ls L q hx hb hown ht hK hP hq k => by
      rw [am_ent1 o1] at hq
      exact va_iald hx hb hK hP q 0 hq rfl (am_in_of o2) d0 k) k
theorem sim_zald {a : Nat × Nat} {i : Int32} (d0 : decode M.2.1 pc = .ok (.baload, 1)) (k : Sim M d (pc + 1) lv (.inl (m_gi h a.1 a.2 i.toNatClampNeg) :: st) h r) : Sim M d pc lv (.inl i :: .inr (.inr (some a)) :: st) h (m_ck (am_isA a.1 1 && m_in i (am_ln a.1)) r) :=
  sim_ck fun ho => by
    obtain ⟨o1, o2⟩ := Bool.and_eq_true_iff.mp ho
    exact sim_rd (a := a) (List.mem_cons_of_mem _ List.mem_cons_self) (am_kd1 o1) (fun c _ => c.tail.tail.cons am_clo_i) (fun l D dA p e R s m args below meth c Q μ H locs cells slots ls L q hx hb hown ht hK hP hq k => by
      rw [am_ent1 o1] at hq
      exact va_zald hx hb hK hP q 1 hq rfl (am_in_of o2) d0 k) k
theorem sim_cald {a : Nat × Nat} {i : Int32} (d0 : decode M.2.1 pc = .ok (.caload, 1)) (k : Sim M d (pc + 1) lv (.inl (m_gi h a.1 a.2 i.toNatClampNeg) :: st) h r) : Sim M d pc lv (.inl i :: .inr (.inr (some a)) :: st) h (m_ck (am_isA a.1 2 && m_in i (am_ln a.1)) r) :=
  sim_ck fun ho => by
    obtain ⟨o1, o2⟩ := Bool.and_eq_true_iff.mp ho
    exact sim_rd (a := a) (List.mem_cons_of_mem _ List.mem_cons_self) (am_kd1 o1) (fun c _ => c.tail.tail.cons am_clo_i) (fun l D dA p e R s m args below meth c Q μ H locs cells slots ls L q hx hb hown ht hK hP hq k => by
      rw [am_ent1 o1] at hq
      exact va_cald hx hb hK hP q 2 hq rfl (am_in_of o2) d0 k) k
theorem sim_lald {a : Nat × Nat} {i : Int32} (d0 : decode M.2.1 pc = .ok (.laload, 1)) (k : Sim M d (pc + 1) lv (.inr (.inl (m_gl h a.1 a.2 i.toNatClampNeg)) :: st) h r) : Sim M d pc lv (.inl i :: .inr (.inr (some a)) :: st) h (m_ck (am_isL a.1 && m_in i (am_ln a.1)) r) :=
  sim_ck fun ho => by
    obtain ⟨o1, o2⟩ := Bool.and_eq_true_iff.mp ho
    exact sim_rd (a := a) (List.mem_cons_of_mem _ List.mem_cons_self) (am_kd4 o1) (fun c _ => c.tail.tail.cons am_clo_l) (fun l D dA p e R s m args below meth c Q μ H locs cells slots ls L q hx hb hown ht hK hP hq k => by
      rw [am_ent4 o1] at hq
      exact va_lald hx hb hK hP q 3 hq rfl (am_in_of o2) d0 k) k
def am_rty (t : Nat) : Option (Nat × String) := match t with
  | 4 => some (3, RX3)
  | 5 => some (9, RX9)
  | 6 => some (0, RX0)
  | 7 => some (1, RX1)
  | 8 => some (6, RX6)
  | _ => none
theorem am_rty_tys {dA : Nat → ClassId} {t c : Nat} {C : String} (h : am_rty t = some (c, C)) : (am_tys dA)[t]? = some (dA t, .object C) ∧ ∃ T N, vwCl[c]? = some (C, T, N) := by
  match t, h with
  | 4, h => cases h; exact ⟨rfl, _, _, rfl⟩
  | 5, h => cases h; exact ⟨rfl, _, _, rfl⟩
  | 6, h => cases h; exact ⟨rfl, _, _, rfl⟩
  | 7, h => cases h; exact ⟨rfl, _, _, rfl⟩
  | 8, h => cases h; exact ⟨rfl, _, _, rfl⟩
def am_isQ (s t : Nat) : Bool := am_kd s == 5 && am_ty s == t
theorem am_isQ_of {s t : Nat} (h : am_isQ s t = true) : am_isR s = true ∧ am_ty s = t := by simpa [am_isQ, am_isR] using h
theorem sim_aald {a : Nat × Nat} {i : Int32} (t : Nat) {c : Nat} {C : String} (ht : am_rty t = some (c, C)) (d0 : decode M.2.1 pc = .ok (.aaload, 1)) (k : Sim M d (pc + 1) lv (.inr (.inr (m_gr h a.1 a.2 i.toNatClampNeg)) :: st) h r) : Sim M d pc lv (.inl i :: .inr (.inr (some a)) :: st) h (m_ck (am_isQ a.1 t && m_in i (am_ln a.1)) r) :=
  sim_ck fun ho => by
    obtain ⟨o1, o2⟩ := Bool.and_eq_true_iff.mp ho
    obtain ⟨o3, o4⟩ := am_isQ_of o1
    exact sim_rd (a := a) (List.mem_cons_of_mem _ List.mem_cons_self) (am_kd5 o3) (fun c g => c.tail.tail.cons (by
      cases hg : m_gr h a.1 a.2 i.toNatClampNeg with
      | none => exact am_clo_n
      | some c => exact g _ _ _ _ hg)) (fun l D dA p e R s m args below meth c Q μ H locs cells slots ls L q hx hb hown ht9 hK hP hq k => by
      rw [am_ent5 o3, o4] at hq
      exact va_aldq hx hb hK hP q t hq (am_rty_tys ht).1 (am_in_of o2) d0 k) k
theorem sim_alenI {a : Nat × Nat} (v : Int32) (d0 : decode M.2.1 pc = .ok (.arraylength, 1)) (k : Sim M d (pc + 1) lv (.inl (Int32.ofNat (am_ln a.1)) :: st) h r) : Sim M d pc lv (.inr (.inr (some a)) :: st) h (m_ck (am_isA a.1 0) r) :=
  sim_ck fun o1 => sim_rd (a := a) List.mem_cons_self (am_kd1 o1) (fun c _ => c.tail.cons am_clo_i) (fun l D dA p e R s m args below meth c Q μ H locs cells slots ls L q hx hb hown ht hK hP hq k => by
      rw [am_ent1 o1] at hq
      exact va_alen hx hb hK hP q 0 hq (ty := .int) rfl rfl d0 k) k
/-- a step that writes into the thing a -/
theorem sim_wr {pc' : Nat} {st' : List am_V} {a : Nat × Nat} {h1 : am_H} (ha : .inr (.inr (some a)) ∈ st) (hk : am_kd a.1 ≠ 9) (hle : am_le h h1) (hcs : m_nc h1 = m_nc h ∧ m_ns h1 = m_ns h) (hnx : m_nx h1 = m_nx h)
    (hc : am_cls h st → am_cls h st') (hcl : am_cls h st → (∀ (s k j : Nat) (c : Nat × Nat), m_gr h s k j = some c → c.2 < m_nx h c.1) → (∀ (s k j : Nat) (c : Nat × Nat), m_gr h1 s k j = some c → c.2 < m_nx h c.1))
    (he : ∀ (dA : Nat → ClassId) (μ : Nat × Nat → Nat) (a' : Nat × Nat), a' ≠ a → am_ent dA μ h1 a' = am_ent dA μ h a') (hg : ∀ k j, m_gi h1 1 k j = m_gi h 1 k j)
    (go : ∀ (l : Launch) (D : va_G) (dA : Nat → ClassId) (base : Nat) (p : Program) (e : Env) (R : Room) (s : State) (m : MethodId) (args : Array Value) (below : List Frame) (meth : Method) (c : Code) (Q : State → Prop) (μ : Nat × Nat → Nat) (H : Heap) (locs : List Loc) (cells slots : Nat) (ls : Array Slot) (L : List (Nat × Nat)) (i : Nat),
      p.tables.exec = Jvm.exec → c.code = M.2.1 → s.vm.findClass M.1.cls = some m.cls → (∀ w ∈ am_T, w.before args s = true) → meth.name = M.1.name → va_K D vwCl (am_tys dA) s → va_P D vwCl (am_ws dA μ h L) H → va_D (fun q : Nat => base ≤ q) (am_ws dA μ h L) → va_S (fun q : Nat => base ≤ q) s.heap H locs → (am_ws dA μ h L)[i]? = some (μ a, am_ent dA μ h a) →
      (∀ w : Nat × Nat, .inr (.inr (some w)) ∈ st → am_kd w.1 ≠ 9 → ∃ i2 : Nat, (am_ws dA μ h L)[i2]? = some (μ w, am_ent dA μ h w)) →
      (∀ (H1 : Heap) (locs1 : List Loc), va_P D vwCl ((am_ws dA μ h L).set i (μ a, am_ent dA μ h1 a)) H1 → va_D (fun q : Nat => base ≤ q) ((am_ws dA μ h L).set i (μ a, am_ent dA μ h1 a)) → va_S (fun q : Nat => base ≤ q) s.heap H1 locs1 →
        W p l e R s m args below meth c H1 locs1 cells slots Q (F0 m pc' ls (st'.map (am_v μ)))) → W p l e R s m args below meth c H locs cells slots Q (F0 m pc ls (st.map (am_v μ))))
    (k : Sim M d pc' lv st' h1 r) : Sim M d pc lv st h r := by
  intro h' o e
  obtain ⟨q1, q2⟩ := k h' o e
  refine ⟨hle.trans q1, fun l D dA base b n xs p e R s m args below meth c mc ms Qc XC C μ H locs cells slots ls a1 a2 a3 a4 a5 a6 a7 => ?_⟩
  obtain ⟨L, b1, b2, b3, b4, b5, b6, b7, b8, b9⟩ := id a1
  obtain ⟨i, hi⟩ := List.getElem?_of_mem ((b4 a).mpr ⟨a4 _ ha, hk⟩)
  refine go l D dA base p e R s m args below meth c _ μ H locs cells slots ls L i C.1 C.2.1 C.2.2.2.2.1 C.2.2.2.2.2.2.2.1 C.2.2.2.2.2.2.1 C.2.2.2.2.2.2.2.2.2.2.2.1 b1 b2 a2 (am_ws_at hi) (fun w hw hk2 => by
    obtain ⟨i2, hi2⟩ := List.getElem?_of_mem ((b4 w).mpr ⟨a4 _ hw, hk2⟩)
    exact ⟨i2, am_ws_at hi2⟩) (fun H1 locs1 c1 c2 c3 => ?_)
  rw [am_ws_set hi b3 (he dA μ)] at c1 c2
  refine q2 l D dA base b n xs p e R s m args below meth c mc ms Qc XC C μ H1 locs1 cells slots ls ⟨L, c1, c2, b3, by rw [hnx]; exact b4, by rw [hnx]; exact hcl a4 b5, b6, fun j => by rw [hg]; exact b7 j, by rw [hg]; exact b8, by rw [hnx]; exact b9⟩ c3 (a3.move (am_ext.refl μ h) hle) ((hc a4).mono hle) (by rw [hcs.1]; exact a5) (by rw [hcs.2]; exact a6) (fun μ' t e1 e2 e3 e4 => a7 μ' t (fun z hz => e1 z (by rw [hnx]; exact hz)) e2 e3 e4)
theorem am_1 {s : Nat} (h : am_kd s ≠ 9) : ¬ 1 = s := fun e => h (by rw [← e]; rfl)
theorem sim_putI {a : Nat × Nat} {ix i : Nat} {x : Int32} (ci j : Nat) {C : String} {T : u_T} {N : Nat} (d0 : decode M.2.1 pc = .ok (.putfield ix, 3)) (hcl : vwCl[ci]? = some (C, T, N)) (hw : lw_tbl[i]? = some (.fieldLink M.1.cls ix (T j).1 (T j).2.1 (T j).2.2.1)) (hj : j < N) (hr : am_rf ci j = false) (hfin : (T j).2.2.2 = false ∨ ((T j).2.2.2 = true ∧ M.1.name = "<init>" ∧ (T j).1 = M.1.cls))
    (hn : narrow (am_tyX ci j) (.int x) = .int x ∧ fits (am_tyX ci j) (.int x) = true)
    (k : Sim M d (pc + 3) lv st (m_si h a.1 a.2 j x) r) : Sim M d pc lv (.inl x :: .inr (.inr (some a)) :: st) h (m_ck (am_isO a.1 ci) r) :=
  sim_ck fun ho => sim_wr (a := a) (h1 := m_si h a.1 a.2 j x) (List.mem_cons_of_mem _ List.mem_cons_self) (am_kd0 ho) (am_le_si _ _ _ _ _) ⟨rfl, rfl⟩ rfl (fun c => c.tail.tail) (fun _ g => g) (fun dA μ a' hne => am_ent_si a' hne) (fun k9 j9 => by rw [m_gi_si, if_neg (fun q => am_1 (am_kd0 ho) q.1)])
    (fun l D dA base p e R s m args below meth c Q μ H locs cells slots ls L q hx hb hown ht hin hK hP hD hS hq _ kk => by
    obtain ⟨f1, f2, f3, f4, f5⟩ := am_clF hcl
    rw [am_ent0 ho] at hq
    have e2 := (am_isO_of ho).2
    have hj2 : j < am_nf ci := by rw [← f1]; exact hj
    rcases hfin with hfin | ⟨hf1, hf2, hf3⟩
    · refine va_put hx hb ht f2 (am_tyX ci) f3 f4 hown hK hP hD hS q hq hcl j hj (am_Tw ht hw rfl) (fun _ h9 => h9) hfin (f3 j hj) hn.1 hn.2 (by rw [am_fs_len, e2]; exact hj2) d0 (fun H1 locs1 c1 c2 c3 => ?_)
      rw [am_fs_si e2 hj2 hr] at c1 c2
      exact kk H1 locs1 (by rw [am_ent0 ho]; exact c1) (by rw [am_ent0 ho]; exact c2) c3
    · refine va_putF hx hb ht f2 (am_tyX ci) f3 f4 hown hK hP hD hS q hq hcl j hj (am_Tw ht hw rfl) (fun _ h9 => h9) hf1 (hin.trans hf2) hf3 (f3 j hj) hn.1 hn.2 (by rw [am_fs_len, e2]; exact hj2) d0 (fun H1 locs1 c1 c2 c3 => ?_)
      rw [am_fs_si e2 hj2 hr] at c1 c2
      exact kk H1 locs1 (by rw [am_ent0 ho]; exact c1) (by rw [am_ent0 ho]; exact c2) c3) k
theorem sim_putZ {a : Nat × Nat} {ix i : Nat} {x : Int32} (ci j : Nat) {C : String} {T : u_T} {N : Nat} (d0 : decode M.2.1 pc = .ok (.putfield ix, 3)) (hcl : vwCl[ci]? = some (C, T, N)) (hw : lw_tbl[i]? = some (.fieldLink M.1.cls ix (T j).1 (T j).2.1 (T j).2.2.1)) (hj : j < N) (hr : am_rf ci j = false) (hfin : (T j).2.2.2 = false ∨ ((T j).2.2.2 = true ∧ M.1.name = "<init>" ∧ (T j).1 = M.1.cls)) (hty : am_tyX ci j = .boolean)
    (k : Sim M d (pc + 3) lv st (m_si h a.1 a.2 j x) r) : Sim M d pc lv (.inl x :: .inr (.inr (some a)) :: st) h (m_ck (m_nz x) (m_ck (am_isO a.1 ci) r)) :=
  sim_ck fun hz => sim_putI ci j d0 hcl hw hj hr hfin (by rw [hty]; exact ⟨(am_nz_n hz).1, (am_nz_n hz).2.1⟩) k
theorem sim_putC {a : Nat × Nat} {ix i : Nat} {x : Int32} (ci j : Nat) {C : String} {T : u_T} {N : Nat} (d0 : decode M.2.1 pc = .ok (.putfield ix, 3)) (hcl : vwCl[ci]? = some (C, T, N)) (hw : lw_tbl[i]? = some (.fieldLink M.1.cls ix (T j).1 (T j).2.1 (T j).2.2.1)) (hj : j < N) (hr : am_rf ci j = false) (hfin : (T j).2.2.2 = false ∨ ((T j).2.2.2 = true ∧ M.1.name = "<init>" ∧ (T j).1 = M.1.cls)) (hty : am_tyX ci j = .char)
    (k : Sim M d (pc + 3) lv st (m_si h a.1 a.2 j x) r) : Sim M d pc lv (.inl x :: .inr (.inr (some a)) :: st) h (m_ck (m_nzc x) (m_ck (am_isO a.1 ci) r)) :=
  sim_ck fun hz => sim_putI ci j d0 hcl hw hj hr hfin (by rw [hty]; exact ⟨(am_nzc_n hz).1, (am_nzc_n hz).2.1⟩) k
theorem am_fits_r {t : FieldType} {o : Option Nat} (h : am_refT t = true) : narrow t (va_rf o) = va_rf o ∧ fits t (va_rf o) = true := by
  cases t <;> first | (simp [am_refT] at h; done) | (cases o <;> exact ⟨rfl, rfl⟩)
theorem sim_putR {a : Nat × Nat} {ix i : Nat} {o : Option (Nat × Nat)} (ci j : Nat) {C : String} {T : u_T} {N : Nat} (d0 : decode M.2.1 pc = .ok (.putfield ix, 3)) (hcl : vwCl[ci]? = some (C, T, N)) (hw : lw_tbl[i]? = some (.fieldLink M.1.cls ix (T j).1 (T j).2.1 (T j).2.2.1)) (hj : j < N) (hr : am_rf ci j = true) (hfin : (T j).2.2.2 = false ∨ ((T j).2.2.2 = true ∧ M.1.name = "<init>" ∧ (T j).1 = M.1.cls))
    (k : Sim M d (pc + 3) lv st (m_sr h a.1 a.2 j o) r) : Sim M d pc lv (.inr (.inr o) :: .inr (.inr (some a)) :: st) h (m_ck (am_isO a.1 ci) r) :=
  sim_ck fun ho => sim_wr (a := a) (h1 := m_sr h a.1 a.2 j o) (List.mem_cons_of_mem _ List.mem_cons_self) (am_kd0 ho) (am_le_sr _ _ _ _ _) ⟨rfl, rfl⟩ rfl (fun c => c.tail.tail) (fun c g s k j c9 hc9 => by
      rw [m_gr_sr] at hc9
      split at hc9
      · have := c.head
        rw [hc9] at this
        exact this
      · exact g _ _ _ _ hc9) (fun dA μ a' hne => am_ent_sr a' hne) (fun k9 j9 => rfl)
    (fun l D dA base p e R s m args below meth c Q μ H locs cells slots ls L q hx hb hown ht hin hK hP hD hS hq _ kk => by
    obtain ⟨f1, f2, f3, f4, f5⟩ := am_clF hcl
    rw [am_ent0 ho] at hq
    have e2 := (am_isO_of ho).2
    have hj2 : j < am_nf ci := by rw [← f1]; exact hj
    have hn : narrow (am_tyX ci j) (va_rf (o.map μ)) = va_rf (o.map μ) ∧ fits (am_tyX ci j) (va_rf (o.map μ)) = true := am_fits_r ((f5 j hj).symm.trans hr)
    rcases hfin with hfin | ⟨hf1, hf2, hf3⟩
    · refine va_put hx hb ht f2 (am_tyX ci) f3 f4 hown hK hP hD hS q hq hcl j hj (am_Tw ht hw rfl) (fun _ h9 => h9) hfin (f3 j hj) hn.1 hn.2 (by rw [am_fs_len, e2]; exact hj2) d0 (fun H1 locs1 c1 c2 c3 => ?_)
      rw [am_fs_sr e2 hj2 hr] at c1 c2
      exact kk H1 locs1 (by rw [am_ent0 ho]; exact c1) (by rw [am_ent0 ho]; exact c2) c3
    · refine va_putF hx hb ht f2 (am_tyX ci) f3 f4 hown hK hP hD hS q hq hcl j hj (am_Tw ht hw rfl) (fun _ h9 => h9) hf1 (hin.trans hf2) hf3 (f3 j hj) hn.1 hn.2 (by rw [am_fs_len, e2]; exact hj2) d0 (fun H1 locs1 c1 c2 c3 => ?_)
      rw [am_fs_sr e2 hj2 hr] at c1 c2
      exact kk H1 locs1 (by rw [am_ent0 ho]; exact c1) (by rw [am_ent0 ho]; exact c2) c3) k
theorem am_upd_si {h : am_H} {a : Nat × Nat} {j : Nat} {x : Int32} : upd (fun i => m_gi h a.1 a.2 i) j x = fun i => m_gi (m_si h a.1 a.2 j x) a.1 a.2 i := by
  funext i
  show (if i = j then x else _) = _
  rw [m_gi_si]
  by_cases q : i = j
  · rw [if_pos q, if_pos ⟨rfl, rfl, q⟩]
  · rw [if_neg q, if_neg (fun z => q z.2.2)]
theorem sim_iast {a : Nat × Nat} {i x : Int32} (d0 : decode M.2.1 pc = .ok (.iastore, 1)) (k : Sim M d (pc + 1) lv st (m_si h a.1 a.2 i.toNatClampNeg x) r) : Sim M d pc lv (.inl x :: .inl i :: .inr (.inr (some a)) :: st) h (m_ck (am_isA a.1 0 && m_in i (am_ln a.1)) r) :=
  sim_ck fun ho => by
    obtain ⟨o1, o2⟩ := Bool.and_eq_true_iff.mp ho
    exact sim_wr (a := a) (h1 := m_si h a.1 a.2 i.toNatClampNeg x) (List.mem_cons_of_mem _ (List.mem_cons_of_mem _ List.mem_cons_self)) (am_kd1 o1) (am_le_si _ _ _ _ _) ⟨rfl, rfl⟩ rfl (fun c => c.tail.tail.tail) (fun _ g => g) (fun dA μ a' hne => am_ent_si a' hne) (fun k9 j9 => by rw [m_gi_si, if_neg (fun q => am_1 (am_kd1 o1) q.1)])
      (fun l D dA base p e R s m args below meth c Q μ H locs cells slots ls L q hx hb hown ht hin hK hP hD hS hq _ kk => by
      rw [am_ent1 o1] at hq
      refine va_iast hx hb hK hP hD hS q 0 hq rfl (am_in_of o2) d0 (fun H1 locs1 c1 c2 c3 => ?_)
      rw [am_upd_si] at c1 c2
      exact kk H1 locs1 (by rw [am_ent1 o1]; exact c1) (by rw [am_ent1 o1]; exact c2) c3) k
theorem sim_zast {a : Nat × Nat} {i x : Int32} (d0 : decode M.2.1 pc = .ok (.bastore, 1)) (k : Sim M d (pc + 1) lv st (m_si h a.1 a.2 i.toNatClampNeg x) r) : Sim M d pc lv (.inl x :: .inl i :: .inr (.inr (some a)) :: st) h (m_ck (m_nz x) (m_ck (am_isA a.1 1 && m_in i (am_ln a.1)) r)) :=
  sim_ck fun hz => sim_ck fun ho => by
    obtain ⟨o1, o2⟩ := Bool.and_eq_true_iff.mp ho
    exact sim_wr (a := a) (h1 := m_si h a.1 a.2 i.toNatClampNeg x) (List.mem_cons_of_mem _ (List.mem_cons_of_mem _ List.mem_cons_self)) (am_kd1 o1) (am_le_si _ _ _ _ _) ⟨rfl, rfl⟩ rfl (fun c => c.tail.tail.tail) (fun _ g => g) (fun dA μ a' hne => am_ent_si a' hne) (fun k9 j9 => by rw [m_gi_si, if_neg (fun q => am_1 (am_kd1 o1) q.1)])
      (fun l D dA base p e R s m args below meth c Q μ H locs cells slots ls L q hx hb hown ht hin hK hP hD hS hq _ kk => by
      rw [am_ent1 o1] at hq
      refine va_zast hx hb hK hP hD hS q 1 hq rfl (am_in_of o2) d0 (fun H1 locs1 c1 c2 c3 => ?_)
      rw [(am_nz_n hz).2.2, am_upd_si] at c1 c2
      exact kk H1 locs1 (by rw [am_ent1 o1]; exact c1) (by rw [am_ent1 o1]; exact c2) c3) k
theorem sim_cast {a : Nat × Nat} {i x : Int32} (d0 : decode M.2.1 pc = .ok (.castore, 1)) (k : Sim M d (pc + 1) lv st (m_si h a.1 a.2 i.toNatClampNeg x) r) : Sim M d pc lv (.inl x :: .inl i :: .inr (.inr (some a)) :: st) h (m_ck (m_nzc x) (m_ck (am_isA a.1 2 && m_in i (am_ln a.1)) r)) :=
  sim_ck fun hz => sim_ck fun ho => by
    obtain ⟨o1, o2⟩ := Bool.and_eq_true_iff.mp ho
    exact sim_wr (a := a) (h1 := m_si h a.1 a.2 i.toNatClampNeg x) (List.mem_cons_of_mem _ (List.mem_cons_of_mem _ List.mem_cons_self)) (am_kd1 o1) (am_le_si _ _ _ _ _) ⟨rfl, rfl⟩ rfl (fun c => c.tail.tail.tail) (fun _ g => g) (fun dA μ a' hne => am_ent_si a' hne) (fun k9 j9 => by rw [m_gi_si, if_neg (fun q => am_1 (am_kd1 o1) q.1)])
      (fun l D dA base p e R s m args below meth c Q μ H locs cells slots ls L q hx hb hown ht hin hK hP hD hS hq _ kk => by
      rw [am_ent1 o1] at hq
      refine va_cast hx hb hK hP hD hS q 2 hq rfl (am_in_of o2) d0 (fun H1 locs1 c1 c2 c3 => ?_)
      rw [(am_nzc_n hz).2.2, am_upd_si] at c1 c2
      exact kk H1 locs1 (by rw [am_ent1 o1]; exact c1) (by rw [am_ent1 o1]; exact c2) c3) k
theorem sim_last {a : Nat × Nat} {i : Int32} {x : Int64} (d0 : decode M.2.1 pc = .ok (.lastore, 1)) (k : Sim M d (pc + 1) lv st (m_sl h a.1 a.2 i.toNatClampNeg x) r) : Sim M d pc lv (.inr (.inl x) :: .inl i :: .inr (.inr (some a)) :: st) h (m_ck (am_isL a.1 && m_in i (am_ln a.1)) r) :=
  sim_ck fun ho => by
    obtain ⟨o1, o2⟩ := Bool.and_eq_true_iff.mp ho
    exact sim_wr (a := a) (h1 := m_sl h a.1 a.2 i.toNatClampNeg x) (List.mem_cons_of_mem _ (List.mem_cons_of_mem _ List.mem_cons_self)) (am_kd4 o1) (am_le_sl _ _ _ _ _) ⟨rfl, rfl⟩ rfl (fun c => c.tail.tail.tail) (fun _ g => g) (fun dA μ a' hne => am_ent_sl a' hne) (fun k9 j9 => rfl)
      (fun l D dA base p e R s m args below meth c Q μ H locs cells slots ls L q hx hb hown ht hin hK hP hD hS hq _ kk => by
      rw [am_ent4 o1] at hq
      refine va_last hx hb hK hP hD hS q 3 hq rfl (am_in_of o2) d0 (fun H1 locs1 c1 c2 c3 => ?_)
      rw [show vp_updL (fun j => m_gl h a.1 a.2 j) i.toNatClampNeg x = fun j => m_gl (m_sl h a.1 a.2 i.toNatClampNeg x) a.1 a.2 j from by
        funext z
        show (if z = i.toNatClampNeg then x else _) = _
        rw [m_gl_sl]
        by_cases q : z = i.toNatClampNeg
        · rw [if_pos q, if_pos ⟨rfl, rfl, q⟩]
        · rw [if_neg q, if_neg (fun z => q z.2.2)]] at c1 c2
      exact kk H1 locs1 (by rw [am_ent4 o1]; exact c1) (by rw [am_ent4 o1]; exact c2) c3) k
theorem sim_aast {a w : Nat × Nat} {i : Int32} (t : Nat) {c : Nat} {C : String} (ht0 : am_rty t = some (c, C)) (d0 : decode M.2.1 pc = .ok (.aastore, 1)) (k : Sim M d (pc + 1) lv st (m_sr h a.1 a.2 i.toNatClampNeg (some w)) r) : Sim M d pc lv (.inr (.inr (some w)) :: .inl i :: .inr (.inr (some a)) :: st) h (m_ck (am_isO w.1 c && (am_isQ a.1 t && m_in i (am_ln a.1))) r) :=
  sim_ck fun ho0 => by
    obtain ⟨ho9, ho⟩ := Bool.and_eq_true_iff.mp ho0
    obtain ⟨o1, o2⟩ := Bool.and_eq_true_iff.mp ho
    obtain ⟨o3, o4⟩ := am_isQ_of o1
    exact sim_wr (a := a) (h1 := m_sr h a.1 a.2 i.toNatClampNeg (some w)) (List.mem_cons_of_mem _ (List.mem_cons_of_mem _ List.mem_cons_self)) (am_kd5 o3) (am_le_sr _ _ _ _ _) ⟨rfl, rfl⟩ rfl (fun c => c.tail.tail.tail) (fun c g s k j c9 hc9 => by
        rw [m_gr_sr] at hc9
        split at hc9
        · have := c.head
          rw [hc9] at this
          exact this
        · exact g _ _ _ _ hc9) (fun dA μ a' hne => am_ent_sr a' hne) (fun k9 j9 => rfl)
      (fun l D dA base p e R s m args below meth c Q μ H locs cells slots ls L q hx hb hown ht hin hK hP hD hS hq hwx kk => by
      obtain ⟨i2, hi2⟩ := hwx w List.mem_cons_self (am_kd0 ho9)
      obtain ⟨g1, T, N, g2⟩ := am_rty_tys (dA := dA) ht0
      rw [am_ent0 ho9] at hi2
      rw [am_ent5 o3, o4] at hq
      refine va_astq hx hb hK hP hD hS q t i2 _ hq g1 hi2 g2 (am_in_of o2) d0 (fun H1 locs1 c1 c2 c3 => ?_)
      rw [show va_up (fun j => (m_gr h a.1 a.2 j).map μ) i.toNatClampNeg (some (μ w)) = fun j => (m_gr (m_sr h a.1 a.2 i.toNatClampNeg (some w)) a.1 a.2 j).map μ from by
        funext z
        show (if z = i.toNatClampNeg then _ else _) = _
        rw [m_gr_sr]
        by_cases q : z = i.toNatClampNeg
        · rw [if_pos q, if_pos ⟨rfl, rfl, q⟩]; rfl
        · rw [if_neg q, if_neg (fun z => q z.2.2)]] at c1 c2
      exact kk H1 locs1 (by rw [am_ent5 o3, o4]; exact c1) (by rw [am_ent5 o3, o4]; exact c2) c3) k
end SimMem
end
section
/-! ## rows that make things, throw, call -/
def am_up (μ : Nat × Nat → Nat) (a : Nat × Nat) (q : Nat) : Nat × Nat → Nat := fun z => if z = a then q else μ z
theorem am_up_ne {μ : Nat × Nat → Nat} {a z : Nat × Nat} {q : Nat} (h : z ≠ a) : am_up μ a q z = μ z := if_neg h
theorem am_up_eq {μ : Nat × Nat → Nat} {a : Nat × Nat} {q : Nat} : am_up μ a q a = q := if_pos rfl
theorem m_nx_al (h : am_H) (s n a : Nat) : m_nx (m_al h s n) a = if a = s then m_nx h s + 1 else m_nx h a := rfl
theorem m_gi_al (h : am_H) (s n a b c : Nat) : m_gi (m_al h s n) a b c = if a = s ∧ b = m_nx h s then 0 else m_gi h a b c := rfl
theorem m_gr_al (h : am_H) (s n a b c : Nat) : m_gr (m_al h s n) a b c = if a = s ∧ b = m_nx h s then none else m_gr h a b c := rfl
theorem m_gl_al (h : am_H) (s n a b c : Nat) : m_gl (m_al h s n) a b c = if a = s ∧ b = m_nx h s then 0 else m_gl h a b c := rfl
theorem am_lt_ne {h : am_H} {s : Nat} {a : Nat × Nat} (ha : a.2 < m_nx h a.1) : a ≠ (s, m_nx h s) := fun e => by
  rw [e] at ha
  exact Nat.lt_irrefl _ ha
theorem am_up_ext {h : am_H} {μ : Nat × Nat → Nat} {s q : Nat} : am_ext μ h (am_up μ (s, m_nx h s) q) := fun a ha => am_up_ne (am_lt_ne ha)
theorem am_ws_al {dA : Nat → ClassId} {μ : Nat × Nat → Nat} {h : am_H} {L : List (Nat × Nat)} {s n q : Nat} (hL : ∀ a ∈ L, a.2 < m_nx h a.1) (hcl : ∀ (s k j : Nat) (c : Nat × Nat), m_gr h s k j = some c → c.2 < m_nx h c.1) :
    am_ws dA μ h L ++ [(q, am_ent dA (am_up μ (s, m_nx h s) q) (m_al h s n) (s, m_nx h s))] = am_ws dA (am_up μ (s, m_nx h s) q) (m_al h s n) (L ++ [(s, m_nx h s)]) := by
  unfold am_ws
  rw [List.map_append]
  congr 1
  · apply List.map_congr_left
    intro a ha
    have hne := am_lt_ne (s := s) (hL a ha)
    have h2 : ¬ (a.1 = s ∧ a.2 = m_nx h s) := fun z => hne (Prod.ext z.1 z.2)
    rw [am_up_ne hne, am_ent_eq (μ1 := am_up μ (s, m_nx h s) q) (h1 := m_al h s n) (h := h) (μ := μ) (fun j => by rw [m_gi_al, if_neg h2]) (fun j => by
      rw [m_gr_al, if_neg h2]
      cases hg : m_gr h a.1 a.2 j with
      | none => rfl
      | some c => exact congrArg some (am_up_ne (am_lt_ne (hcl _ _ _ _ hg)))) (fun j => by rw [m_gl_al, if_neg h2])]
  · show _ = [((am_up μ (s, m_nx h s) q) (s, m_nx h s), _)]
    rw [am_up_eq]
theorem am_Rel_al {D : va_G} {dA : Nat → ClassId} {base b n0 : Nat} {xs : Nat → Int32} {μ : Nat × Nat → Nat} {h : am_H} {s n q : Nat} {L : List (Nat × Nat)} {H1 : Heap} (hs : am_kd s ≠ 9)
    (b3 : L.Nodup) (b4 : ∀ a : Nat × Nat, a ∈ L ↔ a.2 < m_nx h a.1 ∧ am_kd a.1 ≠ 9) (b5 : ∀ (s k j : Nat) (c : Nat × Nat), m_gr h s k j = some c → c.2 < m_nx h c.1) (b6 : μ (1, 0) = b) (b7 : ∀ j : Nat, m_gi h 1 0 j = xs j) (b8 : m_gi h 1 1 0 = Int32.ofNat n0) (b9 : 0 < m_nx h 1)
    (c1 : va_P D vwCl (am_ws dA μ h L ++ [(q, am_ent dA (am_up μ (s, m_nx h s) q) (m_al h s n) (s, m_nx h s))]) H1) (c2 : va_D (fun q : Nat => base ≤ q) (am_ws dA μ h L ++ [(q, am_ent dA (am_up μ (s, m_nx h s) q) (m_al h s n) (s, m_nx h s))])) :
    am_Rel D dA base b n0 xs (am_up μ (s, m_nx h s) q) (m_al h s n) H1 := by
  have hL : ∀ a ∈ L, a.2 < m_nx h a.1 := fun a ha => ((b4 a).mp ha).1
  have h1s : ¬ 1 = s := am_1 hs
  rw [am_ws_al hL b5] at c1 c2
  refine ⟨L ++ [(s, m_nx h s)], c1, c2, ?_, fun a => ?_, fun s' k j c hc => ?_, ?_, fun j => ?_, ?_, ?_⟩
  · rw [List.nodup_append]
    refine ⟨b3, by simp, fun a ha c hc => ?_⟩
    simp only [List.mem_singleton] at hc
    rw [hc]
    exact am_lt_ne (hL a ha)
  · rw [List.mem_append, b4 a, List.mem_singleton, m_nx_al]
    constructor
    · rintro (⟨z1, z2⟩ | z)
      · refine ⟨?_, z2⟩
        split
        · next e => rw [e] at z1; omega
        · exact z1
      · subst z
        exact ⟨by rw [if_pos rfl]; exact Nat.lt_succ_self _, hs⟩
    · rintro ⟨z1, z2⟩
      split at z1
      · next e =>
        rcases Nat.lt_or_ge a.2 (m_nx h s) with g | g
        · exact Or.inl ⟨by rw [e]; exact g, z2⟩
        · exact Or.inr (Prod.ext e (by omega))
      · exact Or.inl ⟨z1, z2⟩
  · rw [m_gr_al] at hc
    split at hc
    · cases hc
    · exact Nat.lt_of_lt_of_le (b5 _ _ _ _ hc) ((am_le_al h s n).2.2 _)
  · rw [am_up_ne (fun z => h1s (congrArg Prod.fst z))]; exact b6
  · rw [m_gi_al, if_neg (fun z => h1s z.1)]; exact b7 j
  · rw [m_gi_al, if_neg (fun z => h1s z.1)]; exact b8
  · rw [m_nx_al, if_neg h1s]; exact b9
section SimMake
variable {M : am_M} {d pc : Nat} {lv : List (Option am_V)} {st : List am_V} {h : am_H} {r : am_R}
theorem sim_al {pc' s n : Nat} {st' : List am_V} (hs : am_kd s ≠ 9) (hc : am_cls h st → am_cls h st')
    (go : ∀ (l : Launch) (D : va_G) (dA : Nat → ClassId) (base : Nat) (p : Program) (e : Env) (R : Room) (s0 : State) (m : MethodId) (args : Array Value) (below : List Frame) (meth : Method) (c : Code) (Q : State → Prop) (μ : Nat × Nat → Nat) (H : Heap) (locs : List Loc) (cells slots : Nat) (ls : Array Slot) (L : List (Nat × Nat)),
      p.tables.exec = Jvm.exec → c.code = M.2.1 → s0.vm.findClass M.1.cls = some m.cls → (∀ w ∈ am_T, w.before args s0 = true) → va_K D vwCl (am_tys dA) s0 → va_P D vwCl (am_ws dA μ h L) H → va_D (fun q : Nat => base ≤ q) (am_ws dA μ h L) → va_S (fun q : Nat => base ≤ q) s0.heap H locs → (∀ q : Nat, s0.heap.size ≤ q → base ≤ q) → cells + 1 ≤ R.cells → slots + n ≤ R.slots →
      (∀ (q : Nat) (H1 : Heap), va_P D vwCl (am_ws dA μ h L ++ [(q, am_ent dA (am_up μ (s, m_nx h s) q) (m_al h s n) (s, m_nx h s))]) H1 → va_D (fun q : Nat => base ≤ q) (am_ws dA μ h L ++ [(q, am_ent dA (am_up μ (s, m_nx h s) q) (m_al h s n) (s, m_nx h s))]) → va_S (fun q : Nat => base ≤ q) s0.heap H1 locs →
        W p l e R s0 m args below meth c H1 locs (cells + 1) (slots + n) Q (F0 m pc' ls (.ref q :: st'.map (am_v μ)))) → W p l e R s0 m args below meth c H locs cells slots Q (F0 m pc ls (st.map (am_v μ))))
    (k : Sim M d pc' lv (.inr (.inr (some (s, m_nx h s))) :: st') (m_al h s n) r) : Sim M d pc lv st h r := by
  intro h' o e
  obtain ⟨q1, q2⟩ := k h' o e
  have hle := am_le_al h s n
  refine ⟨hle.trans q1, fun l D dA base b n0 xs p e R s0 m args below meth c mc ms Qc XC C μ H locs cells slots ls a1 a2 a3 a4 a5 a6 a7 => ?_⟩
  obtain ⟨L, b1, b2, b3, b4, b5, b6, b7, b8, b9⟩ := id a1
  have hnc : m_nc (m_al h s n) = m_nc h + 1 := rfl
  have hns : m_ns (m_al h s n) = m_ns h + n := rfl
  have hq1 := q1.1
  have hq2 := q1.2.1
  have hR1 := C.2.2.2.2.2.2.2.2.2.2.1.2.2.1
  have hR2 := C.2.2.2.2.2.2.2.2.2.2.1.2.2.2
  refine go l D dA base p e R s0 m args below meth c _ μ H locs cells slots ls L C.1 C.2.1 C.2.2.2.2.1 C.2.2.2.2.2.2.2.1 C.2.2.2.2.2.2.2.2.2.2.2.1 b1 b2 a2 (fun q hq => Nat.le_trans C.2.2.2.2.2.2.2.2.2.2.2.2.2.2.2.2.1 hq) (by omega) (by omega) (fun q H1 c1 c2 c3 => ?_)
  have hrel := am_Rel_al hs b3 b4 b5 b6 b7 b8 b9 c1 c2
  have K := q2 l D dA base b n0 xs p e R s0 m args below meth c mc ms Qc XC C (am_up μ (s, m_nx h s) q) H1 locs (cells + 1) (slots + n) ls hrel c3 (a3.move am_up_ext hle)
    (((hc a4).mono hle).cons (show m_nx h s < m_nx (m_al h s n) s by rw [m_nx_al, if_pos rfl]; exact Nat.lt_succ_self _)) (by omega) (by omega) (fun μ' t e1 e2 e3 e4 => a7 μ' t (am_up_ext.trans hle e1) e2 e3 e4)
  rw [List.map_cons, am_vs_ext am_up_ext (hc a4)] at K
  rw [show am_v (am_up μ (s, m_nx h s) q) (.inr (.inr (some (s, m_nx h s)))) = .ref q from by show Value.ref (am_up μ (s, m_nx h s) q (s, m_nx h s)) = _; rw [am_up_eq]] at K
  exact K
theorem am_clD {ci : Nat} {C : String} {T : u_T} {N : Nat} (hc : vwCl[ci]? = some (C, T, N)) : ∀ k, k < N → defaultValue (am_tyX ci k) = (match am_rf ci k with | true => Value.null | false => Value.int 0) := by
  match ci, hc with
  | 0, hc => cases hc; decide +kernel
  | 1, hc => cases hc; decide +kernel
  | 2, hc => cases hc; decide +kernel
  | 3, hc => cases hc; decide +kernel
  | 4, hc => cases hc; decide +kernel
  | 5, hc => cases hc; decide +kernel
  | 6, hc => cases hc; decide +kernel
  | 7, hc => cases hc; decide +kernel
  | 8, hc => cases hc; decide +kernel
  | 9, hc => cases hc; decide +kernel
  | 10, hc => cases hc; decide +kernel
  | 11, hc => cases hc; decide +kernel
  | k + 12, hc => simp at hc
theorem sim_new {ix i1 i2 i3 : Nat} (s ci : Nat) {C : String} {T : u_T} (N : Nat) (d0 : decode M.2.1 pc = .ok (.new ix, 3)) (hcl : vwCl[ci]? = some (C, T, N)) (hs : am_isO s ci = true) (w1 : lw_tbl[i1]? = some (.classLink M.1.cls ix C)) (w2 : lw_tbl[i2]? = some (.instantiable C N)) (w3 : lw_tbl[i3]? = some (.initialized C))
    (k : Sim M d (pc + 3) lv (.inr (.inr (some (s, m_nx h s))) :: st) (m_al h s N) r) : Sim M d pc lv st h r :=
  sim_al (am_kd0 hs) (fun c => c) (fun l D dA base p e R s0 m args below meth c Q μ H locs cells slots ls L hx hb hown ht hK hP hD hS hA hcc hss kk => by
    obtain ⟨f1, f2, f3, f4, f5⟩ := am_clF hcl
    refine va_new (fs := am_fs (am_up μ (s, m_nx h s) 0) (m_al h s N) s (m_nx h s)) hx hb ht f2 (am_tyX ci) f3 hown (am_Tw ht w1 rfl) (am_Tw ht w2 rfl) (am_Tw ht w3 rfl) hK hP hD hS hA hcl (fun j hj => ?_) hcc hss d0 (fun q H1 c1 c2 c3 => kk q H1 ?_ ?_ c3)
    · have e2 := (am_isO_of hs).2
      rw [vp_V, List.getD_eq_getElem?_getD, am_fs_get e2 (by rw [← f1]; exact hj), am_clD hcl j hj]
      cases am_rf ci j
      · show Value.int 0 = Value.int _
        rw [m_gi_al, if_pos ⟨rfl, rfl⟩]
      · show Value.null = va_rf _
        rw [m_gr_al, if_pos ⟨rfl, rfl⟩]; rfl
    all_goals
      rw [am_ent0 (a := (s, m_nx h s)) hs]
      have hfs : am_fs (am_up μ (s, m_nx h s) q) (m_al h s N) s (m_nx h s) = am_fs (am_up μ (s, m_nx h s) 0) (m_al h s N) s (m_nx h s) := by
        unfold am_fs
        congr 1
        funext j
        cases am_rf (am_ci s) j
        · rfl
        · show va_rf _ = va_rf _
          rw [m_gr_al, if_pos ⟨rfl, rfl⟩]; rfl
      rw [hfs]
      assumption) k
theorem am_cA {D : va_G} {dA : Nat → ClassId} {s0 : State} {ty : FieldType} {t : Nat} {cA : ClassId} (hK : va_K D vwCl (am_tys dA) s0) (hK1 : va_K D vwCl (am_tys dA ++ [(cA, ty)]) s0) (ht : (am_tys dA)[t]? = some (dA t, ty)) : cA = dA t := by
  have h1 := (hK.2 t _ ht).2
  have h2 := (hK1.2 (am_tys dA).length (cA, ty) (by rw [List.getElem?_append_right (Nat.le_refl _), Nat.sub_self]; rfl)).2
  cases ty with
  | object C =>
    obtain ⟨_, _, _, _, _, g1⟩ := h1
    obtain ⟨_, _, _, _, _, g2⟩ := h2
    exact Option.some.inj (g2.symm.trans g1)
  | _ =>
    have g1 : s0.vm.findClass _ = some (dA t) := h1
    have g2 : s0.vm.findClass _ = some cA := h2
    exact Option.some.inj (g2.symm.trans g1)
theorem m_nlt {n : Int32} {N : Nat} (hn : n = nI N) (hN : N < 2 ^ 31) : ¬ n < 0 ∧ n.toNatClampNeg = N := by
  subst hn
  exact ⟨nI_pos hN, nI_clamp hN⟩
theorem sim_newI {atype : ArrayType} {i1 : Nat} {n : Int32} (s t : Nat) {ty : FieldType} (N : Nat) (d0 : decode M.2.1 pc = .ok (.newarray atype, 2)) (hty : newarray.typeOf atype = ty) (hs : am_isA s t = true) (hN : am_ln s = N) (hn : n = nI N) (hN2 : N ≤ 100000) (ht : ∀ dA : Nat → ClassId, (am_tys dA)[t]? = some (dA t, ty)) (hdf : defaultValue ty = .int 0) (hcb : componentBytes ty ≤ 8) (w1 : lw_tbl[i1]? = some (.arrayClass ty))
    (k : Sim M d (pc + 2) lv (.inr (.inr (some (s, m_nx h s))) :: st) (m_al h s N) r) : Sim M d pc lv (.inl n :: st) h r :=
  sim_al (am_kd1 hs) (fun c => c.tail) (fun l D dA base p e R s0 m args below meth c Q μ H locs cells slots ls L hx hb hown ht9 hK hP hD hS hA hcc hss kk => by
    obtain ⟨z1, z2⟩ := m_nlt hn (by omega)
    subst hty
    refine va_newa (atype := atype) (a0 := (am_ln s, .inl fun j => m_gi (m_al h s N) s (m_nx h s) j)) (N' := N) hx hb (am_Tw ht9 w1 rfl) rfl hK hP hD hS hA (fun cA => ?_) z1 z2 (Nat.le_trans (Nat.mul_le_mul hN2 hcb) (Nat.le_of_ble_eq_true rfl)) hcc hss d0 (fun q cA H1 hK1 c1 c2 c3 => ?_)
    · rw [vp_cell_i, hN]
      congr 1
      funext j
      rw [m_gi_al, if_pos ⟨rfl, rfl⟩, hdf]
    · cases am_cA hK hK1 (ht dA)
      exact kk q H1 (by rw [am_ent1 (a := (s, m_nx h s)) hs]; exact c1) (by rw [am_ent1 (a := (s, m_nx h s)) hs]; exact c2) c3) k
theorem sim_newL {i1 : Nat} {n : Int32} (s N : Nat) (d0 : decode M.2.1 pc = .ok (.newarray .long, 2)) (hs : am_isL s = true) (hN : am_ln s = N) (hn : n = nI N) (hN2 : N ≤ 100000) (w1 : lw_tbl[i1]? = some (.arrayClass .long))
    (k : Sim M d (pc + 2) lv (.inr (.inr (some (s, m_nx h s))) :: st) (m_al h s N) r) : Sim M d pc lv (.inl n :: st) h r :=
  sim_al (am_kd4 hs) (fun c => c.tail) (fun l D dA base p e R s0 m args below meth c Q μ H locs cells slots ls L hx hb hown ht9 hK hP hD hS hA hcc hss kk => by
    obtain ⟨z1, z2⟩ := m_nlt hn (by omega)
    refine va_newa (atype := .long) (ty := .long) (a0 := (am_ln s, .inr (.inl fun j => m_gl (m_al h s N) s (m_nx h s) j))) (N' := N) hx hb (am_Tw ht9 w1 rfl) rfl hK hP hD hS hA (fun cA => ?_) z1 z2 (Nat.le_trans (Nat.mul_le_mul hN2 (show componentBytes .long ≤ 8 by decide)) (Nat.le_of_ble_eq_true rfl)) hcc hss d0 (fun q cA H1 hK1 c1 c2 c3 => ?_)
    · rw [vp_cell_l, hN]
      congr 1
      funext j
      rw [m_gl_al, if_pos ⟨rfl, rfl⟩]; rfl
    · cases am_cA hK hK1 (t := 3) rfl
      exact kk q H1 (by rw [am_ent4 (a := (s, m_nx h s)) hs]; exact c1) (by rw [am_ent4 (a := (s, m_nx h s)) hs]; exact c2) c3) k
theorem sim_newR {ix i1 i2 c0 : Nat} {n : Int32} (s t N : Nat) {C : String} (d0 : decode M.2.1 pc = .ok (.anewarray ix, 3)) (ht : am_rty t = some (c0, C)) (hs : am_isQ s t = true) (hN : am_ln s = N) (hn : n = nI N) (hN2 : N ≤ 100000) (w1 : lw_tbl[i1]? = some (.classLink M.1.cls ix C)) (w2 : lw_tbl[i2]? = some (.arrayOver (.object C)))
    (k : Sim M d (pc + 3) lv (.inr (.inr (some (s, m_nx h s))) :: st) (m_al h s N) r) : Sim M d pc lv (.inl n :: st) h r :=
  sim_al (am_kd5 (am_isQ_of hs).1) (fun c => c.tail) (fun l D dA base p e R s0 m args below meth c Q μ H locs cells slots ls L hx hb hown ht9 hK hP hD hS hA hcc hss kk => by
    obtain ⟨z1, z2⟩ := m_nlt hn (by omega)
    obtain ⟨o3, o4⟩ := am_isQ_of hs
    refine va_newq (N' := N) hx hb hown (am_Tw ht9 w1 rfl) (va_AO.of (am_Tw ht9 w2 rfl)) hK hP hD hS hA z1 z2 (Nat.le_trans (Nat.mul_le_mul_right 4 hN2) (Nat.le_of_ble_eq_true rfl)) hcc hss d0 (fun q cA H1 hK1 c1 c2 c3 => ?_)
    cases am_cA hK hK1 (am_rty_tys ht).1
    have he : am_ent dA (am_up μ (s, m_nx h s) q) (m_al h s N) (s, m_nx h s) = .inl (dA t, N, .inr (.inr (.inr (.inr (fun _ => none))))) := by
      rw [am_ent5 (a := (s, m_nx h s)) o3]
      show Sum.inl (dA (am_ty s), am_ln s, _) = _
      rw [o4, hN]
      congr 7
      funext j
      rw [m_gr_al, if_pos ⟨rfl, rfl⟩]; rfl
    exact kk q H1 (by rw [he]; exact c1) (by rw [he]; exact c2) c3) k
end SimMake
end
section
/-! ## contracts and calls -/
theorem am_Wd.moved {D : va_G} {dA : Nat → ClassId} {base b n : Nat} {xs : Nat → Int32} {u U : State} {H : Heap} (hvm : u.vm.Alike U.vm) (h : am_Wd D dA base b n xs u H) : am_Wd D dA base b n xs U H :=
  ⟨va_K.moved hvm h.1, vx_Zq.moved hvm h.2.1, vx_Zq.moved hvm h.2.2.1, ⟨va_X.moved hvm h.2.2.2.1.1, h.2.2.2.1.2⟩, h.2.2.2.2.1, h.2.2.2.2.2.1, fun i j hi hj hij => va_Nc.moved hvm (h.2.2.2.2.2.2 i j hi hj hij)⟩
theorem am_Wd.kept {D : va_G} {dA : Nat → ClassId} {base b n : Nat} {xs : Nat → Int32} {U : State} {H H1 : Heap} (h : am_Wd D dA base b n xs U H) (hz : H.size ≤ H1.size) (hq : ∀ a : Nat, a < H.size → ¬ base ≤ a → H1[a]? = H[a]?) : am_Wd D dA base b n xs U H1 :=
  ⟨h.1, vx_Zq.kept h.2.1 hq, vx_Zq.kept h.2.2.1 hq, ⟨va_X.kept h.2.2.2.1.1 (hq b (Nat.lt_of_lt_of_le h.2.2.2.2.1 h.2.2.2.2.2.1) (Nat.not_le.mpr h.2.2.2.2.1)), h.2.2.2.1.2⟩, h.2.2.2.2.1, Nat.le_trans h.2.2.2.2.2.1 hz, h.2.2.2.2.2.2⟩
def am_Pc (D : va_G) (dA : Nat → ClassId) (base b n : Nat) (xs : Nat → Int32) (μ : Nat × Nat → Nat) (h : am_H) (As : List am_V) : Array Value → State → Prop := fun v U =>
  v = (As.map (am_v μ)).toArray ∧ am_Wd D dA base b n xs U U.heap ∧ am_Rel D dA base b n xs μ h U.heap
def am_Qc (D : va_G) (dA : Nat → ClassId) (base b n : Nat) (xs : Nat → Int32) (μ : Nat × Nat → Nat) (h h' : am_H) (o : Option am_V ⊕ Nat) : Array Value → State → Outcome → State → Prop := fun _ st oc t =>
  ∃ (v : Option am_V) (μ' : Nat × Nat → Nat), o = .inl v ∧ oc = .returned (v.map (am_v μ')) ∧ am_ext μ h μ' ∧ am_Rel D dA base b n xs μ' h' t.heap ∧ (∀ w, v = some w → am_clo h' w) ∧ va_F (fun q : Nat => base ≤ q) st t
def am_XC (D : va_G) (dA : Nat → ClassId) (base b n : Nat) (xs : Nat → Int32) (μ : Nat × Nat → Nat) (h h' : am_H) (o : Option am_V ⊕ Nat) : String → State → State → Prop := fun E st t =>
  ∃ (k : Nat) (μ' : Nat × Nat → Nat), o = .inr k ∧ E = am_xn k ∧ am_ext μ h μ' ∧ am_Rel D dA base b n xs μ' h' t.heap ∧ va_F (fun q : Nat => base ≤ q) st t
def am_rm (d mc ms : Nat) : Room := { frames := d, locals := 36 * d, cells := mc, slots := ms }
def am_Con (M : am_M) (d : Nat) (As : List am_V) (h : am_H) (r : am_R) : Prop := ∀ (h' : am_H) (o : Option am_V ⊕ Nat), r = some (h', o) → am_le h h' ∧ (am_cls h As →
  ∀ (l : Launch) (D : va_G) (dA : Nat → ClassId) (base b n : Nat) (xs : Nat → Int32) (μ : Nat × Nat → Nat), l.stackTraces = false →
    vx_Met l M.1 (am_w M) (am_rm d (m_nc h' - m_nc h) (m_ns h' - m_ns h)) (am_Pc D dA base b n xs μ h As) (am_Qc D dA base b n xs μ h h' o) (am_XC D dA base b n xs μ h h' o) (m_nc h' - m_nc h) (m_ns h' - m_ns h) (fun q : Nat => base ≤ q))
theorem am_Pc.blind {D : va_G} {dA : Nat → ClassId} {base b n : Nat} {xs : Nat → Int32} {μ : Nat × Nat → Nat} {h : am_H} {As : List am_V} : FrameBlind (am_Pc D dA base b n xs μ h As) := fun a U g mk q =>
  ⟨q.1, am_Wd.moved (u := U) (U := U.calling g mk a) (Vm.Alike.refl U.vm) q.2.1, q.2.2⟩
/-- the locals at the entry -/
def am_lv0 : List am_V → List (Option am_V)
  | [] => []
  | .inr (.inl y) :: l => some (.inr (.inl y)) :: none :: am_lv0 l
  | v :: l => some v :: am_lv0 l
def am_lvN (nL : Nat) (As : List am_V) : List (Option am_V) := am_lv0 As ++ List.replicate (nL - (am_lv0 As).length) none
theorem am_pr_app {μ : Nat × Nat → Nat} : ∀ {l l' : List (Option am_V)} {k : Nat}, am_pr μ k (l ++ l') = am_pr μ k l ++ am_pr μ (k + l.length) l'
  | [], _, _ => rfl
  | none :: l, l', k => by
    rw [List.cons_append, am_pr, am_pr, am_pr_app, List.length_cons, show k + 1 + l.length = k + (l.length + 1) by omega]
  | some v :: l, l', k => by
    rw [List.cons_append, am_pr, am_pr, am_pr_app, List.length_cons, show k + 1 + l.length = k + (l.length + 1) by omega]; rfl
theorem am_pr_none {μ : Nat × Nat → Nat} : ∀ {n k : Nat}, am_pr μ k (List.replicate n none) = []
  | 0, _ => rfl
  | n + 1, k => by rw [List.replicate_succ, am_pr, am_pr_none]
theorem am_pr_lv0 {μ : Nat × Nat → Nat} : ∀ {As : List am_V} {k : Nat}, am_pr μ k (am_lv0 As) = lv_args k (As.map (am_v μ))
  | [], _ => rfl
  | .inr (.inl y) :: l, k => by
    rw [List.map_cons, lv_args, am_lv0, am_pr, am_pr, am_pr_lv0, if_pos (show (am_v μ (.inr (.inl y))).category = 2 from rfl)]
  | .inl x :: l, k => by
    rw [List.map_cons, lv_args, am_lv0, am_pr, am_pr_lv0, if_neg (show ¬ (am_v μ (.inl x)).category = 2 by rw [am_cat1]; decide)]
    intro y hy; cases hy
  | .inr (.inr o) :: l, k => by
    rw [List.map_cons, lv_args, am_lv0, am_pr, am_pr_lv0, if_neg (show ¬ (am_v μ (.inr (.inr o))).category = 2 by rw [am_cat1r]; decide)]
    intro y hy; cases hy
theorem am_lv0_mem : ∀ {As : List am_V} {v : am_V}, some v ∈ am_lv0 As → v ∈ As
  | [], v, h => by simp [am_lv0] at h
  | .inr (.inl y) :: l, v, h => by
    simp only [am_lv0, List.mem_cons, Option.some.injEq, reduceCtorEq, false_or] at h
    rcases h with h | h
    · rw [h]; exact List.mem_cons_self
    · exact List.mem_cons_of_mem _ (am_lv0_mem h)
  | .inl x :: l, v, h => by
    simp only [am_lv0, List.mem_cons, Option.some.injEq] at h
    rcases h with h | h
    · rw [h]; exact List.mem_cons_self
    · exact List.mem_cons_of_mem _ (am_lv0_mem h)
  | .inr (.inr o) :: l, v, h => by
    simp only [am_lv0, List.mem_cons, Option.some.injEq] at h
    rcases h with h | h
    · rw [h]; exact List.mem_cons_self
    · exact List.mem_cons_of_mem _ (am_lv0_mem h)
theorem am_Ls0 {nL : Nat} {μ : Nat × Nat → Nat} {h : am_H} {As : List am_V} {ls : Array Slot} (hl : lv_has ls nL (lv_args 0 (As.map (am_v μ)))) (hc : am_cls h As) : am_Ls nL μ h (am_lvN nL As) ls := by
  refine ⟨?_, fun i v hi => ?_⟩
  · rw [am_lvN, am_pr_app, am_pr_none, List.append_nil, am_pr_lv0]
    exact hl
  · have := List.mem_of_getElem? hi
    rw [am_lvN, List.mem_append] at this
    rcases this with h1 | h1
    · exact hc v (am_lv0_mem h1)
    · exact absurd (List.eq_of_mem_replicate h1) (by simp)
theorem am_sl_len {μ : Nat × Nat → Nat} : ∀ {As : List am_V}, (lg_sl (As.map (am_v μ))).length = (am_lv0 As).length
  | [] => rfl
  | .inr (.inl y) :: l => by
    have := am_sl_len (μ := μ) (As := l)
    simp only [lg_sl, List.map_cons, List.flatMap_cons, List.length_append, am_lv0, List.length_cons] at this ⊢
    rw [if_pos (show (am_v μ (.inr (.inl y))).category = 2 from rfl), this]
    simp; omega
  | .inl x :: l => by
    have := am_sl_len (μ := μ) (As := l)
    simp only [lg_sl, List.map_cons, List.flatMap_cons, List.length_append, am_lv0, List.length_cons] at this ⊢
    rw [if_neg (show ¬ (am_v μ (.inl x)).category = 2 by rw [am_cat1]; decide), this]
    simp; omega
  | .inr (.inr o) :: l => by
    have := am_sl_len (μ := μ) (As := l)
    simp only [lg_sl, List.map_cons, List.flatMap_cons, List.length_append, am_lv0, List.length_cons] at this ⊢
    rw [if_neg (show ¬ (am_v μ (.inr (.inr o))).category = 2 by rw [am_cat1r]; decide), this]
    simp; omega
theorem am_body {M : am_M} {d : Nat} {As : List am_V} {h : am_H} {r : am_R} (hsz : (am_lv0 As).length ≤ M.2.2.1) (k : Sim M d 0 (am_lvN M.2.2.1 As) [] h r) {h' : am_H} {o : Option am_V ⊕ Nat} (e : r = some (h', o)) (hcl : am_cls h As)
    {l : Launch} {D : va_G} {dA : Nat → ClassId} {base b n : Nat} {xs : Nat → Int32} {μ : Nat × Nat → Nat} (hst : l.stackTraces = false) {p : Program} {e9 : Env} {s : State} {m : MethodId} {args : Array Value} {below : List Frame} {meth : Method} {c : Code} {s₁ : State}
    (B : BodyLoose p l M.1 (headSpec (am_w M) (am_rm d (m_nc h' - m_nc h) (m_ns h' - m_ns h))) M.2.1 M.2.2.1 M.2.2.2.1 e9 s m args below meth c s₁) (hml : c.maxLocals = M.2.2.1) (htab : c.exceptionTable.toList = tableOf M.2.2.2.2) (hv : am_Pc D dA base b n xs μ h As args s) :
    W p l e9 (headSpec (am_w M) (am_rm d (m_nc h' - m_nc h) (m_ns h' - m_ns h))).room s m args below meth c s.heap [] 0 0 (vx_MQ below (am_Qc D dA base b n xs μ h h' o) (am_XC D dA base b n xs μ h h' o) args s (m_nc h' - m_nc h) (m_ns h' - m_ns h) (fun q : Nat => base ≤ q)) (entryFrame m args M.2.2.1) := by
  obtain ⟨q1, q2⟩ := k h' o e
  obtain ⟨rfl, hW, hR⟩ := hv
  have hts := atoms_spec (ws := am_w M) B.pre
  rw [lg_entry_eq]
  have hl := lv_entry (As.map (am_v μ)) (n := M.2.2.1) (by rw [am_sl_len]; exact hsz)
  generalize (lg_sl (As.map (am_v μ)) ++ List.replicate (M.2.2.1 - (lg_sl (As.map (am_v μ))).length) Slot.unset).toArray = ls at hl ⊢
  exact q2 l D dA base b n xs p e9 _ s m _ below meth c (m_nc h' - m_nc h) (m_ns h' - m_ns h) _ _ ⟨B.exec, B.bytes, hml, B.returns, findClass_of_methodNamed B.named, B.notSynchronized, (name_of_methodNamed B.named B.method).1, fun w hw => hts w (List.mem_cons_of_mem _ hw), htab, hst, ⟨Nat.le_refl _, Nat.le_refl _, Nat.le_refl _, Nat.le_refl _⟩, hW⟩
    μ s.heap [] 0 0 ls hR va_S.rf (am_Ls0 hl hcl) (fun v hv => by cases hv) (Nat.zero_add _) (Nat.zero_add _)
    (fun μ' t e1 e2 e3 e4 => ⟨fun v ho hcl => ⟨v, μ', ho, rfl, e1, e2, hcl, e4⟩, fun k ho => ⟨k, μ', ho, rfl, e1, e2, e4⟩⟩)
theorem am_con {y : MethodName} {cc : ByteArray} {nL : Nat} {ret : Option FieldType} {d : Nat} {As : List am_V} {h : am_H} {r : am_R} (hpl : plainName y.cls = true) (hsz : (am_lv0 As).length ≤ nL) (k : Sim (y, cc, nL, ret, []) d 0 (am_lvN nL As) [] h r) : am_Con (y, cc, nL, ret, []) d As h r := by
  intro h' o e
  refine ⟨(k h' o e).1, fun hcl l D dA base b n xs μ hst => ?_⟩
  refine vx_ofW (cc := cc) (maxL := nL) (ret := ret) hpl rfl ?_
  intro p e9 s m args below meth c s₁ B hml htab hv
  exact am_body (M := (y, cc, nL, ret, [])) hsz k e hcl hst B hml (by
    show c.exceptionTable.toList = []
    cases hx : c.exceptionTable.toList with
    | nil => rfl
    | cons x l => exact (htab x (by rw [hx]; exact List.mem_cons_self)).elim) hv
theorem am_conX {y : MethodName} {cc : ByteArray} {nL : Nat} {ret : Option FieldType} {x0 : Nat × Nat × Nat × Nat} {hh : List (Nat × Nat × Nat × Nat)} {d : Nat} {As : List am_V} {h : am_H} {r : am_R} (hpl : plainName y.cls = true) (hsz : (am_lv0 As).length ≤ nL) (k : Sim (y, cc, nL, ret, x0 :: hh) d 0 (am_lvN nL As) [] h r) : am_Con (y, cc, nL, ret, x0 :: hh) d As h r := by
  intro h' o e
  refine ⟨(k h' o e).1, fun hcl l D dA base b n xs μ hst => ?_⟩
  refine vx_ofWH (cc := cc) (maxL := nL) (ret := ret) (hh := x0 :: hh) hpl rfl ?_
  intro p e9 s m args below meth c s₁ B hml hv
  exact am_body (M := (y, cc, nL, ret, x0 :: hh)) hsz k e hcl hst B hml (vx_table (x := y) (y := y) (bytes := cc) (maxL' := nL) (ret' := ret) (hh := x0 :: hh) B (atoms_spec (ws := am_w (y, cc, nL, ret, x0 :: hh)) B.pre _ List.mem_cons_self)) hv
/-- thrown over the frame -/
def SimX (M : am_M) (d pc : Nat) (lv : List (Option am_V)) (h1 : am_H) (kx : Nat) (r : am_R) : Prop :=
  ∀ (h' : am_H) (o : Option am_V ⊕ Nat), r = some (h', o) → am_le h1 h' ∧
  ∀ (l : Launch) (D : va_G) (dA : Nat → ClassId) (base b n : Nat) (xs : Nat → Int32) (p : Program) (e : Env) (R : Room) (s : State) (m : MethodId) (args : Array Value) (below : List Frame) (meth : Method) (c : Code) (mc ms : Nat) (Qc : Array Value → State → Outcome → State → Prop) (XC : String → State → State → Prop),
    am_Cx l D dA base b n xs M d p R s m args meth c mc ms →
    ∀ (μ : Nat × Nat → Nat) (H : Heap) (locs : List Loc) (cells slots : Nat) (ls : Array Slot) (rest : List Value) (q : Addr) (ce : Cell),
      am_Rel D dA base b n xs μ h1 H → va_S (fun q : Nat => base ≤ q) s.heap H locs → am_Ls M.2.2.1 μ h1 lv ls →
      cells + (m_nc h' - m_nc h1) = mc → slots + (m_ns h' - m_ns h1) = ms → am_Fin D dA base b n xs s args μ h1 h' o Qc XC →
      H[q]? = some ce → ce.vm = .none → s.vm.findClass (am_xn kx) = some ce.cls →
      vx_W p l e R s m args below meth c H locs cells slots (vx_MQ below Qc XC args s mc ms (fun q : Nat => base ≤ q)) (F0 m pc ls rest) q
theorem simx_out {y : MethodName} {cc : ByteArray} {nL : Nat} {ret : Option FieldType} {d pc : Nat} {lv : List (Option am_V)} {h1 : am_H} {kx : Nat} : SimX (y, cc, nL, ret, []) d pc lv h1 kx (some (h1, .inr kx)) := by
  intro h' o e
  cases e
  refine ⟨am_le.refl _, fun l D dA base b n xs p e R s m args below meth c mc ms Qc XC C μ H locs cells slots ls rest q ce a1 a2 a3 a5 a6 a7 g1 g2 g3 => ?_⟩
  refine vx_out (E := am_xn kx) (ce := ce) (fun x hx => ?_) C.2.2.2.2.2.1 g1 g2 g3 (fun t ht hv => (a7 μ t (am_ext.refl _ _) (by rw [ht]; exact a1) hv (a2.F ht)).2 kx rfl) a2.2.2 (by omega) (by omega)
  have h9 : c.exceptionTable.toList = [] := C.2.2.2.2.2.2.2.2.1
  rw [h9] at hx
  cases hx
/-- the heart of every call -/
theorem sim_core {M M1 : am_M} {d pc : Nat} {lv : List (Option am_V)} {st rest : List am_V} {h : am_H} {r r1 : am_R}
    (hrest : am_cls h st → am_cls h rest) (hle1 : ∀ h1 o1, r1 = some (h1, o1) → am_le h h1) (hnone : r1 = none → r = none)
    (hret : ∀ h1 v, r1 = some (h1, .inl v) → Sim M d (pc + 3) lv (v.toList ++ rest) h1 r) (hexc : ∀ h1 k, r1 = some (h1, .inr k) → SimX M d pc lv h1 k r)
    (hrun : ¬ r = none → ∀ (h1 : am_H) (o1 : Option am_V ⊕ Nat), r1 = some (h1, o1) → ∀ (l : Launch) (D : va_G) (dA : Nat → ClassId) (base b n : Nat) (xs : Nat → Int32) (p : Program) (e : Env) (R : Room) (s : State) (m : MethodId) (args : Array Value) (below : List Frame) (meth : Method) (c : Code) (mc ms : Nat),
      am_Cx l D dA base b n xs M d p R s m args meth c mc ms → ∀ (μ : Nat × Nat → Nat) (H : Heap) (locs : List Loc) (cells slots : Nat) (ls : Array Slot),
      am_Rel D dA base b n xs μ h H → va_S (fun q : Nat => base ≤ q) s.heap H locs → am_Ls M.2.2.1 μ h lv ls → am_cls h st → cells + (m_nc h1 - m_nc h) ≤ mc → slots + (m_ns h1 - m_ns h) ≤ ms →
      ∃ a0, vx_Run p l e R s m args below meth c H locs cells slots (m_nc h1 - m_nc h) (m_ns h1 - m_ns h) (F0 m pc ls (st.map (am_v μ))) (rest.map (am_v μ)) (am_Qc D dA base b n xs μ h h1 o1 a0) (am_XC D dA base b n xs μ h h1 o1) (fun q : Nat => base ≤ q)) :
    Sim M d pc lv st h r := by
  intro h' o e
  rcases hr1 : r1 with _ | ⟨h1, o1⟩
  · rw [hnone hr1] at e; cases e
  have hl1 := hle1 h1 o1 hr1
  have hboth : am_le h1 h' := by
    rcases o1 with v | k
    · exact (hret h1 v hr1 h' o e).1
    · exact (hexc h1 k hr1 h' o e).1
  refine ⟨hl1.trans hboth, fun l D dA base b n xs p e9 R s m args below meth c mc ms Qc XC C μ H locs cells slots ls a1 a2 a3 a4 a5 a6 a7 => ?_⟩
  have z1 := hl1.1
  have z2 := hl1.2.1
  have z3 := hboth.1
  have z4 := hboth.2.1
  obtain ⟨a0, run⟩ := hrun (by rw [e]; exact fun z => by cases z) h1 o1 hr1 l D dA base b n xs p e9 R s m args below meth c mc ms C μ H locs cells slots ls a1 a2 a3 a4 (by omega) (by omega)
  intro T hT X
  rcases run T hT X with ⟨v', st₀, t, T', L, h0, X', hL, e1, e2, ⟨v, μ', ho, hov, ex, hRel, hcl, hF⟩, go⟩ | ⟨q, st₀, t, T', L, E, ce, h0, X', hL, e1, e2, ⟨k, μ', ho, hE, ex, hRel, hF⟩, hce, hcv, hcls, go⟩
  · subst ho
    cases hov
    obtain ⟨k1, k2, k3⟩ := vx_keep h0 e1 a2 (fun q _ h => h) (fun q h => h) hL hF
    have K := (hret h1 v hr1 h' o e).2 l D dA base b n xs p e9 R s m args below meth c mc ms Qc XC C μ' T'.heap (locs ++ L) (cells + (m_nc h1 - m_nc h)) (slots + (m_ns h1 - m_ns h)) ls (by rw [e1]; exact hRel) k3 (a3.move ex hl1)
      (fun w hw => by
        rcases List.mem_append.mp hw with g | g
        · cases v with
          | none => cases g
          | some u =>
            simp only [Option.toList, List.mem_singleton] at g
            rw [g]; exact hcl u rfl
        · exact (hrest a4 w g).mono hl1) (by omega) (by omega) (fun μ2 t2 f1 f2 f3 f4 => a7 μ2 t2 (ex.trans hl1 f1) f2 f3 f4)
    rw [List.map_append, am_vs_ext ex (hrest a4)] at K
    have hv : v.toList.map (am_v μ') = (v.map (am_v μ')).toList := by cases v <;> rfl
    rw [hv] at K
    obtain ⟨t2, g1, g2⟩ := K T' rfl X'
    exact ⟨t2, go t2 g1, g2⟩
  · subst ho
    obtain ⟨k1, k2, k3⟩ := vx_keep h0 e1 a2 (fun q _ h => h) (fun q h => h) hL hF
    have K := (hexc h1 k hr1 h' o e).2 l D dA base b n xs p e9 R s m args below meth c mc ms Qc XC C μ' T'.heap (locs ++ L) (cells + (m_nc h1 - m_nc h)) (slots + (m_ns h1 - m_ns h)) ls (rest.map (am_v μ)) q ce (by rw [e1]; exact hRel) k3 (a3.move ex hl1) (by omega) (by omega) (fun μ2 t2 f1 f2 f3 f4 => a7 μ2 t2 (ex.trans hl1 f1) f2 f3 f4) (by rw [e1]; exact hce) hcv (by rw [← hE]; exact hcls)
    obtain ⟨t2, g1, g2⟩ := K T' rfl X'
    exact ⟨t2, go.trans g1, g2⟩
theorem am_run_of {p : Program} {l : Launch} {e : Env} {R : Room} {s : State} {m : MethodId} {args : Array Value} {below : List Frame} {meth : Method} {c : Code} {H : Heap} {locs : List Loc} {cells slots mc ms : Nat} {g : JFrame} {rest : List Value} {Qa : State → Outcome → State → Prop} {XC : String → State → State → Prop} {free : Addr → Prop}
    (h : va_Run p l e R s m args below meth c H locs cells slots mc ms g rest Qa free) : vx_Run p l e R s m args below meth c H locs cells slots mc ms g rest Qa XC free := fun T hT X => Or.inl (h T hT X)
theorem am_met_of {l : Launch} {y : MethodName} {ws : List Cond} {rm : Room} {Pc : Array Value → State → Prop} {Qc : Array Value → State → Outcome → State → Prop} {XC : String → State → State → Prop} {mc ms : Nat} {free : Addr → Prop} (h : vx_Met l y ws rm Pc Qc XC mc ms free) (hx : ∀ E st t, ¬ XC E st t) : Met l y ws rm Pc Qc mc ms free :=
  MetFree.mono h (fun _ _ h => h) (fun _ _ _ _ _ h => h) (fun a s o t hP hq => by
    rcases hq with h | ⟨q, -, E, ce, L, h, -⟩
    · exact h
    · exact (hx _ _ _ h).elim)
end
section
section SimCalls
variable {M : am_M} {d pc : Nat} {lv : List (Option am_V)} {st rest : List am_V} {h : am_H} {r r1 : am_R}
def am_wd (l : List am_V) : Nat := match l with
  | [] => 0
  | .inr (.inl _) :: l => 2 + am_wd l
  | _ :: l => 1 + am_wd l
theorem am_wd_eq {μ : Nat × Nat → Nat} : ∀ {l : List am_V}, ((l.map (am_v μ)).map fun v => v.category).sum = am_wd l
  | [] => rfl
  | .inr (.inl y) :: l => by rw [List.map_cons, List.map_cons, List.sum_cons, am_wd_eq (l := l)]; rfl
  | .inl x :: l => by
    rw [List.map_cons, List.map_cons, List.sum_cons, am_wd_eq (l := l), am_cat1, am_wd]
    intro y hy; cases hy
  | .inr (.inr o) :: l => by
    rw [List.map_cons, List.map_cons, List.sum_cons, am_wd_eq (l := l), am_cat1r, am_wd]
    intro y hy; cases hy
/-- what the tables say of a method that is called: kd 0 static, 1 a constructor, 2 by the receiver -/
def am_Cal (M1 : am_M) (n kd : Nat) : Prop := am_cw M1 ∈ am_T ∧ Cond.initialized M1.1.cls ∈ am_T ∧ (kd = 0 → Cond.static M1.1 ∈ am_T) ∧ (kd ≠ 0 → Cond.instanceMethod M1.1 ∈ am_T) ∧ (kd = 1 → M1.1.name = "<init>") ∧ (kd = 2 → Cond.selects M1.1.cls M1.1 M1.1 ∈ am_T) ∧
  (M1.1.cls ≠ "java/lang/invoke/MethodHandle" ∧ M1.1.cls ≠ "java/lang/invoke/VarHandle") ∧ (parseMethodDescriptor M1.1.desc).map (fun d => d.parameters.length) = some n ∧ M1.2.2.1 ≤ 17
theorem am_hws {M1 : am_M} {n kd : Nat} (hc : am_Cal M1 n kd) {args : Array Value} {s : State} (ht : ∀ w ∈ am_T, w.before args s = true) : ∀ w ∈ am_w M1, ∀ (a' : Array Value) (U : State), s.WarmedH U.vm → w.before a' U = true := by
  intro w hw a' U hW
  have hm : w ∈ am_T := by
    rcases List.mem_cons.mp hw with e | e
    · rw [e]; exact hc.1
    · exact e
  exact am_gw_warm (List.mem_filter.mp hm).2 hW (ht w hm)
theorem am_len {y : MethodName} {n : Nat} (h : (parseMethodDescriptor y.desc).map (fun d => d.parameters.length) = some n) : ∀ sig, parseMethodDescriptor y.desc = some sig → n = sig.parameters.length := fun sig e => by
  rw [e] at h
  exact (Option.some.inj h).symm
theorem am_PcU {l : Launch} {D : va_G} {dA : Nat → ClassId} {base b n : Nat} {xs : Nat → Int32} {p : Program} {R : Room} {s : State} {m : MethodId} {args : Array Value} {meth : Method} {c : Code} {mc ms : Nat} {μ : Nat × Nat → Nat} {H : Heap} {locs : List Loc} {As : List am_V}
    (C : am_Cx l D dA base b n xs M d p R s m args meth c mc ms) (hR : am_Rel D dA base b n xs μ h H) (hS : va_S (fun q : Nat => base ≤ q) s.heap H locs) : ∀ U : State, U.heap = H → s.WarmedH U.vm → am_Pc D dA base b n xs μ h As (As.map (am_v μ)).toArray U := fun U hU hW =>
  ⟨rfl, by rw [hU]; exact (C.2.2.2.2.2.2.2.2.2.2.2.kept hS.1 hS.2.1).moved hW.alike, by rw [hU]; exact hR⟩
theorem sim_static {y : MethodName} {bytes : ByteArray} {nL1 ix i n : Nat} {ret1 : Option FieldType} {As : List am_V} (d1 : Nat) (d0 : decode M.2.1 pc = .ok (.invokestatic ix, 3)) (con : am_Con (y, bytes, nL1, ret1, []) d1 As h r1) (hc : am_Cal (y, bytes, nL1, ret1, []) n 0) (wl : lw_tbl[i]? = some (.methodLink M.1.cls ix y)) (hst : st = As.reverse ++ rest) (hn : As.length = n) (hd : d1 + 1 ≤ d) (hw : am_wd rest ≤ 8)
    (hnone : r1 = none → r = none) (hret : ∀ h1 v, r1 = some (h1, .inl v) → Sim M d (pc + 3) lv (v.toList ++ rest) h1 r) (hexc : ∀ h1 k, r1 = some (h1, .inr k) → SimX M d pc lv h1 k r) : Sim M d pc lv st h r := by
  subst hst
  refine sim_core (M1 := M) (rest := rest) (fun c w hw => c w (List.mem_append_right _ hw)) (fun h1 o1 e => (con h1 o1 e).1) hnone hret hexc ?_
  intro hrn h1 o1 e1 l D dA base b n0 xs p e R s m args below meth c mc ms C μ H locs cells slots ls a1 a2 a3 a4 a5 a6
  have hAs : am_cls h As := fun w hw => a4 w (List.mem_append_left _ (List.mem_reverse.mpr hw))
  have hts := C.2.2.2.2.2.2.2.1
  have hRm := C.2.2.2.2.2.2.2.2.2.2.1
  refine ⟨(As.map (am_v μ)).toArray, vx_runS (g := F0 m pc ls ((As.reverse ++ rest).map (am_v μ))) (As := As.map (am_v μ)) (n := n) (Ts := am_T) ⟨C.1, C.2.1, C.2.2.1, C.2.2.2.2.1, hts⟩ ((con h1 o1 e1).2 hAs l D dA base b n0 xs μ C.2.2.2.2.2.2.2.2.2.1)
    ⟨⟨rfl, rfl, Nat.le_trans hd hRm.1, Nat.le_trans (by have := hc.2.2.2.2.2.2.2.2; show 8 + (nL1 + 11) + 36 * d1 ≤ 36 * d; have h9 : nL1 ≤ 17 := this; omega) hRm.2.1, am_hws hc hts, List.mem_cons_self, hts _ hc.1, hts _ hc.2.1, hc.2.2.2.2.2.2.1, am_len hc.2.2.2.2.2.2.2.1, am_Tw hts wl rfl⟩, hts _ (hc.2.2.1 rfl)⟩
    ⟨am_Pc.blind, am_PcU C a1 a2⟩ rfl (by rw [List.length_map]; exact hn) a3.1.1 (by rw [List.map_append, List.map_reverse]) (lv_room (by rw [am_wd_eq]; exact hw)) d0 ⟨Nat.le_trans a5 hRm.2.2.1, Nat.le_trans a6 hRm.2.2.2⟩⟩
theorem sim_staticX {y : MethodName} {bytes : ByteArray} {nL1 ix i n : Nat} {ret1 : Option FieldType} {x0 : Nat × Nat × Nat × Nat} {hh : List (Nat × Nat × Nat × Nat)} {As : List am_V} (d1 : Nat) (d0 : decode M.2.1 pc = .ok (.invokestatic ix, 3)) (con : am_Con (y, bytes, nL1, ret1, x0 :: hh) d1 As h r1) (hc : am_Cal (y, bytes, nL1, ret1, x0 :: hh) n 0) (wl : lw_tbl[i]? = some (.methodLink M.1.cls ix y)) (hst : st = As.reverse ++ rest) (hn : As.length = n) (hd : d1 + 1 ≤ d) (hw : am_wd rest ≤ 8)
    (hnone : r1 = none → r = none) (hret : ∀ h1 v, r1 = some (h1, .inl v) → Sim M d (pc + 3) lv (v.toList ++ rest) h1 r) (hexc : ∀ h1 k, r1 = some (h1, .inr k) → SimX M d pc lv h1 k r) : Sim M d pc lv st h r := by
  subst hst
  refine sim_core (M1 := M) (rest := rest) (fun c w hw => c w (List.mem_append_right _ hw)) (fun h1 o1 e => (con h1 o1 e).1) hnone hret hexc ?_
  intro hrn h1 o1 e1 l D dA base b n0 xs p e R s m args below meth c mc ms C μ H locs cells slots ls a1 a2 a3 a4 a5 a6
  have hAs : am_cls h As := fun w hw => a4 w (List.mem_append_left _ (List.mem_reverse.mpr hw))
  have hts := C.2.2.2.2.2.2.2.1
  have hRm := C.2.2.2.2.2.2.2.2.2.2.1
  refine ⟨(As.map (am_v μ)).toArray, vx_runSX (hh := x0 :: hh) (g := F0 m pc ls ((As.reverse ++ rest).map (am_v μ))) (As := As.map (am_v μ)) (n := n) (Ts := am_T) ⟨C.1, C.2.1, C.2.2.1, C.2.2.2.2.1, hts⟩ ((con h1 o1 e1).2 hAs l D dA base b n0 xs μ C.2.2.2.2.2.2.2.2.2.1)
    ⟨⟨rfl, rfl, Nat.le_trans hd hRm.1, Nat.le_trans (by have := hc.2.2.2.2.2.2.2.2; show 8 + (nL1 + 11) + 36 * d1 ≤ 36 * d; have h9 : nL1 ≤ 17 := this; omega) hRm.2.1, am_hws hc hts, List.mem_cons_self⟩, hts _ hc.1, hts _ hc.2.1, hc.2.2.2.2.2.2.1, am_len hc.2.2.2.2.2.2.2.1, am_Tw hts wl rfl, hts _ (hc.2.2.1 rfl)⟩
    ⟨am_Pc.blind, am_PcU C a1 a2⟩ rfl (by rw [List.length_map]; exact hn) a3.1.1 (by rw [List.map_append, List.map_reverse]) (lv_room (by rw [am_wd_eq]; exact hw)) d0 ⟨Nat.le_trans a5 hRm.2.2.1, Nat.le_trans a6 hRm.2.2.2⟩⟩
theorem am_recv {D : va_G} {dA : Nat → ClassId} {base b n : Nat} {xs : Nat → Int32} {μ : Nat × Nat → Nat} {H : Heap} {s : State} {a : Nat × Nat} {ci : Nat} {C : String} {T : u_T} {N : Nat} (hK : va_K D vwCl (am_tys dA) s) (hR : am_Rel D dA base b n xs μ h H) (hcl : vwCl[ci]? = some (C, T, N)) (ho : am_isO a.1 ci = true) (ha : a.2 < m_nx h a.1) : ∃ cellB : Cell, H[μ a]? = some cellB ∧ cellB.vm.isStatics = false ∧ s.vm.findClass C = some cellB.cls := by
  obtain ⟨L, b1, b2, b3, b4, b5⟩ := hR
  obtain ⟨i, hi⟩ := List.getElem?_of_mem ((b4 a).mpr ⟨ha, am_kd0 ho⟩)
  have h1 := am_ws_at (dA := dA) (μ := μ) (h := h) hi
  rw [am_ent0 ho] at h1
  exact va_recv hK b1 hcl h1
theorem sim_virt {y : MethodName} {bytes : ByteArray} {nL1 ix i n ci : Nat} {ret1 : Option FieldType} {As : List am_V} {a : Nat × Nat} {C : String} {T : u_T} {N : Nat} (d1 : Nat) (ho : am_isO a.1 ci = true) (d0 : decode M.2.1 pc = .ok (.invokevirtual ix, 3)) (con : am_Con (y, bytes, nL1, ret1, []) d1 (.inr (.inr (some a)) :: As) h r1) (hc : am_Cal (y, bytes, nL1, ret1, []) n 2) (hcl : vwCl[ci]? = some (C, T, N)) (hyc : y.cls = C) (wl : lw_tbl[i]? = some (.methodLink M.1.cls ix y)) (hst : st = As.reverse ++ .inr (.inr (some a)) :: rest) (hn : As.length = n) (hd : d1 + 1 ≤ d) (hw : am_wd rest ≤ 8)
    (hnone : r1 = none → r = none) (hret : ∀ h1 v, r1 = some (h1, .inl v) → Sim M d (pc + 3) lv (v.toList ++ rest) h1 r) (hexc : ∀ h1 k, r1 = some (h1, .inr k) → SimX M d pc lv h1 k r) : Sim M d pc lv st h r := by
  subst hst
  refine sim_core (M1 := M) (rest := rest) (fun c w hw => c w (List.mem_append_right _ (List.mem_cons_of_mem _ hw))) (fun h1 o1 e => (con h1 o1 e).1) hnone hret hexc ?_
  intro hrn h1 o1 e1 l D dA base b n0 xs p e R s m args below meth c mc ms C9 μ H locs cells slots ls a1 a2 a3 a4 a5 a6
  have hra : am_clo h (.inr (.inr (some a))) := a4 _ (List.mem_append_right _ List.mem_cons_self)
  have hAs : am_cls h (.inr (.inr (some a)) :: As) := am_cls.cons hra (fun w hw => a4 w (List.mem_append_left _ (List.mem_reverse.mpr hw)))
  have hts := C9.2.2.2.2.2.2.2.1
  have hRm := C9.2.2.2.2.2.2.2.2.2.2.1
  have hsel := hts _ (hc.2.2.2.2.2.1 rfl)
  have hsel : (Cond.selects C y y).before args s = true := hyc ▸ hsel
  refine ⟨(((.inr (.inr (some a)) : am_V) :: As).map (am_v μ)).toArray, vx_runV (C := C) (g := F0 m pc ls ((As.reverse ++ .inr (.inr (some a)) :: rest).map (am_v μ))) (As := As.map (am_v μ)) (b := μ a) (n := n) (Ts := am_T) ⟨C9.1, C9.2.1, C9.2.2.1, C9.2.2.2.2.1, hts⟩ ((con h1 o1 e1).2 hAs l D dA base b n0 xs μ C9.2.2.2.2.2.2.2.2.2.1)
    ⟨⟨rfl, rfl, Nat.le_trans hd hRm.1, Nat.le_trans (by have := hc.2.2.2.2.2.2.2.2; show 8 + (nL1 + 11) + 36 * d1 ≤ 36 * d; have h9 : nL1 ≤ 17 := this; omega) hRm.2.1, am_hws hc hts, List.mem_cons_self, hts _ hc.1, hts _ hc.2.1, hc.2.2.2.2.2.2.1, am_len hc.2.2.2.2.2.2.2.1, am_Tw hts wl rfl⟩, hts _ (hc.2.2.2.1 (by decide)), hsel⟩
    ⟨am_Pc.blind, am_recv C9.2.2.2.2.2.2.2.2.2.2.2.1 a1 hcl ho hra, am_PcU (As := .inr (.inr (some a)) :: As) C9 a1 a2⟩ rfl (by rw [List.length_map]; exact hn) a3.1.1 (by rw [List.map_append, List.map_reverse]; rfl) (lv_room (by rw [am_wd_eq]; exact hw)) d0 ⟨Nat.le_trans a5 hRm.2.2.1, Nat.le_trans a6 hRm.2.2.2⟩⟩
/-- calls of what cannot throw -/
theorem am_noX {D : va_G} {dA : Nat → ClassId} {base b n : Nat} {xs : Nat → Int32} {μ : Nat × Nat → Nat} {h h' : am_H} {v : Option am_V} : ∀ E st t, ¬ am_XC D dA base b n xs μ h h' (.inl v) E st t := fun E st t ⟨k, μ', e, _⟩ => by cases e
theorem sim_ctor {y : MethodName} {bytes : ByteArray} {nL1 ix i n : Nat} {As : List am_V} {a : Nat × Nat} (d1 : Nat) (d0 : decode M.2.1 pc = .ok (.invokespecial ix, 3)) (con : am_Con (y, bytes, nL1, none, []) d1 (.inr (.inr (some a)) :: As) h r1) (hc : am_Cal (y, bytes, nL1, none, []) n 1) (wl : lw_tbl[i]? = some (.methodLink M.1.cls ix y)) (hst : st = As.reverse ++ .inr (.inr (some a)) :: rest) (hn : As.length = n) (hd : d1 + 1 ≤ d) (hw : am_wd rest ≤ 8)
    (hnone : r1 = none → r = none) (hnx : ∀ h1 k, r1 = some (h1, .inr k) → r = none) (hret : ∀ h1 v, r1 = some (h1, .inl v) → Sim M d (pc + 3) lv (v.toList ++ rest) h1 r) : Sim M d pc lv st h r := by
  subst hst
  refine sim_core (M1 := M) (rest := rest) (fun c w hw => c w (List.mem_append_right _ (List.mem_cons_of_mem _ hw))) (fun h1 o1 e => (con h1 o1 e).1) hnone hret (fun h1 k e => by rw [hnx h1 k e]; exact fun h' o e => by cases e) ?_
  intro hrn h1 o1 e1 l D dA base b n0 xs p e R s m args below meth c mc ms C9 μ H locs cells slots ls a1 a2 a3 a4 a5 a6
  have hra : am_clo h (.inr (.inr (some a))) := a4 _ (List.mem_append_right _ List.mem_cons_self)
  have hAs : am_cls h (.inr (.inr (some a)) :: As) := am_cls.cons hra (fun w hw => a4 w (List.mem_append_left _ (List.mem_reverse.mpr hw)))
  have hts := C9.2.2.2.2.2.2.2.1
  have hRm := C9.2.2.2.2.2.2.2.2.2.2.1
  rcases o1 with v | k
  · refine ⟨(((.inr (.inr (some a)) : am_V) :: As).map (am_v μ)).toArray, am_run_of (va_runI (g := F0 m pc ls ((As.reverse ++ .inr (.inr (some a)) :: rest).map (am_v μ))) (As := As.map (am_v μ)) (b := μ a) (n := n) (Ts := am_T) ⟨C9.1, C9.2.1, C9.2.2.1, C9.2.2.2.2.1, hts⟩ (am_met_of ((con h1 _ e1).2 hAs l D dA base b n0 xs μ C9.2.2.2.2.2.2.2.2.2.1) am_noX)
      ⟨⟨rfl, rfl, Nat.le_trans hd hRm.1, Nat.le_trans (by have := hc.2.2.2.2.2.2.2.2; show 8 + (nL1 + 11) + 36 * d1 ≤ 36 * d; have h9 : nL1 ≤ 17 := this; omega) hRm.2.1, am_hws hc hts, List.mem_cons_self, hts _ hc.1, hts _ hc.2.1, hc.2.2.2.2.2.2.1, am_len hc.2.2.2.2.2.2.2.1, am_Tw hts wl rfl⟩, hc.2.2.2.2.1 rfl, hts _ (hc.2.2.2.1 (by decide))⟩
      ⟨am_Pc.blind, am_PcU (As := .inr (.inr (some a)) :: As) C9 a1 a2⟩ rfl (by rw [List.length_map]; exact hn) a3.1.1 (by rw [List.map_append, List.map_reverse]; rfl) (lv_room (by rw [am_wd_eq]; exact hw)) d0 ⟨Nat.le_trans a5 hRm.2.2.1, Nat.le_trans a6 hRm.2.2.2⟩)⟩
  · exact absurd (hnx h1 k e1) hrn
theorem sim_ctorN {y : MethodName} {host : String} {bytes : ByteArray} {nL1 ix i n : Nat} {As : List am_V} {a : Nat × Nat} (d1 : Nat) (d0 : decode M.2.1 pc = .ok (.invokespecial ix, 3)) (con : am_Con (y, bytes, nL1, none, []) d1 (.inr (.inr (some a)) :: As) h r1) (hc : am_Cal (y, bytes, nL1, none, []) n 1) (wl : lw_tbl[i]? = some (.methodLinkNest M.1.cls ix y host)) (hst : st = As.reverse ++ .inr (.inr (some a)) :: rest) (hn : As.length = n) (hd : d1 + 1 ≤ d) (hw : am_wd rest ≤ 8)
    (hnone : r1 = none → r = none) (hnx : ∀ h1 k, r1 = some (h1, .inr k) → r = none) (hret : ∀ h1 v, r1 = some (h1, .inl v) → Sim M d (pc + 3) lv (v.toList ++ rest) h1 r) : Sim M d pc lv st h r := by
  subst hst
  refine sim_core (M1 := M) (rest := rest) (fun c w hw => c w (List.mem_append_right _ (List.mem_cons_of_mem _ hw))) (fun h1 o1 e => (con h1 o1 e).1) hnone hret (fun h1 k e => by rw [hnx h1 k e]; exact fun h' o e => by cases e) ?_
  intro hrn h1 o1 e1 l D dA base b n0 xs p e R s m args below meth c mc ms C9 μ H locs cells slots ls a1 a2 a3 a4 a5 a6
  have hra : am_clo h (.inr (.inr (some a))) := a4 _ (List.mem_append_right _ List.mem_cons_self)
  have hAs : am_cls h (.inr (.inr (some a)) :: As) := am_cls.cons hra (fun w hw => a4 w (List.mem_append_left _ (List.mem_reverse.mpr hw)))
  have hts := C9.2.2.2.2.2.2.2.1
  have hRm := C9.2.2.2.2.2.2.2.2.2.2.1
  rcases o1 with v | k
  · refine ⟨(((.inr (.inr (some a)) : am_V) :: As).map (am_v μ)).toArray, am_run_of (va_runIN (g := F0 m pc ls ((As.reverse ++ .inr (.inr (some a)) :: rest).map (am_v μ))) (As := As.map (am_v μ)) (b := μ a) (n := n) (Ts := am_T) ⟨C9.1, C9.2.1, C9.2.2.1, C9.2.2.2.2.1, hts⟩ (am_met_of ((con h1 _ e1).2 hAs l D dA base b n0 xs μ C9.2.2.2.2.2.2.2.2.2.1) am_noX)
      ⟨⟨⟨rfl, rfl, Nat.le_trans hd hRm.1, Nat.le_trans (by have := hc.2.2.2.2.2.2.2.2; show 8 + (nL1 + 11) + 36 * d1 ≤ 36 * d; have h9 : nL1 ≤ 17 := this; omega) hRm.2.1, am_hws hc hts, List.mem_cons_self⟩, hts _ hc.1, hts _ hc.2.1, hc.2.2.2.2.2.2.1, am_len hc.2.2.2.2.2.2.2.1, am_Tw hts wl rfl⟩, hc.2.2.2.2.1 rfl, hts _ (hc.2.2.2.1 (by decide))⟩
      ⟨am_Pc.blind, am_PcU (As := .inr (.inr (some a)) :: As) C9 a1 a2⟩ rfl (by rw [List.length_map]; exact hn) a3.1.1 (by rw [List.map_append, List.map_reverse]; rfl) (lv_room (by rw [am_wd_eq]; exact hw)) d0 ⟨Nat.le_trans a5 hRm.2.2.1, Nat.le_trans a6 hRm.2.2.2⟩)⟩
  · exact absurd (hnx h1 k e1) hrn
theorem sim_staticN {y : MethodName} {host : String} {bytes : ByteArray} {nL1 ix i n : Nat} {ret1 : Option FieldType} {As : List am_V} (d1 : Nat) (d0 : decode M.2.1 pc = .ok (.invokestatic ix, 3)) (con : am_Con (y, bytes, nL1, ret1, []) d1 As h r1) (hc : am_Cal (y, bytes, nL1, ret1, []) n 0) (wl : lw_tbl[i]? = some (.methodLinkNest M.1.cls ix y host)) (hst : st = As.reverse ++ rest) (hn : As.length = n) (hd : d1 + 1 ≤ d) (hw : am_wd rest ≤ 8)
    (hnone : r1 = none → r = none) (hnx : ∀ h1 k, r1 = some (h1, .inr k) → r = none) (hret : ∀ h1 v, r1 = some (h1, .inl v) → Sim M d (pc + 3) lv (v.toList ++ rest) h1 r) : Sim M d pc lv st h r := by
  subst hst
  refine sim_core (M1 := M) (rest := rest) (fun c w hw => c w (List.mem_append_right _ hw)) (fun h1 o1 e => (con h1 o1 e).1) hnone hret (fun h1 k e => by rw [hnx h1 k e]; exact fun h' o e => by cases e) ?_
  intro hrn h1 o1 e1 l D dA base b n0 xs p e R s m args below meth c mc ms C9 μ H locs cells slots ls a1 a2 a3 a4 a5 a6
  have hAs : am_cls h As := fun w hw => a4 w (List.mem_append_left _ (List.mem_reverse.mpr hw))
  have hts := C9.2.2.2.2.2.2.2.1
  have hRm := C9.2.2.2.2.2.2.2.2.2.2.1
  rcases o1 with v | k
  · refine ⟨(As.map (am_v μ)).toArray, am_run_of (va_runSN (g := F0 m pc ls ((As.reverse ++ rest).map (am_v μ))) (As := As.map (am_v μ)) (n := n) (Ts := am_T) ⟨C9.1, C9.2.1, C9.2.2.1, C9.2.2.2.2.1, hts⟩ (am_met_of ((con h1 _ e1).2 hAs l D dA base b n0 xs μ C9.2.2.2.2.2.2.2.2.2.1) am_noX)
      ⟨⟨⟨rfl, rfl, Nat.le_trans hd hRm.1, Nat.le_trans (by have := hc.2.2.2.2.2.2.2.2; show 8 + (nL1 + 11) + 36 * d1 ≤ 36 * d; have h9 : nL1 ≤ 17 := this; omega) hRm.2.1, am_hws hc hts, List.mem_cons_self⟩, hts _ hc.1, hts _ hc.2.1, hc.2.2.2.2.2.2.1, am_len hc.2.2.2.2.2.2.2.1, am_Tw hts wl rfl⟩, hts _ (hc.2.2.1 rfl), trivial⟩
      ⟨am_Pc.blind, am_PcU C9 a1 a2⟩ rfl (by rw [List.length_map]; exact hn) a3.1.1 (by rw [List.map_append, List.map_reverse]) (lv_room (by rw [am_wd_eq]; exact hw)) d0 ⟨Nat.le_trans a5 hRm.2.2.1, Nat.le_trans a6 hRm.2.2.2⟩)⟩
  · exact absurd (hnx h1 k e1) hrn
/-- Object's own constructor -/
theorem sim_obj {ix i j : Nat} {a : Nat × Nat} (d0 : decode M.2.1 pc = .ok (.invokespecial ix, 3)) (wl : lw_tbl[i]? = some (.methodLink M.1.cls ix objectInit)) (wi : Cond.instanceMethod objectInit ∈ am_T) (wc : Cond.code objectInit ⟨#[0xb1]⟩ 1 none ∈ am_T) (hd : 1 ≤ d) (hw : am_wd st ≤ 8) (k : Sim M d (pc + 3) lv st h r) : Sim M d pc lv (.inr (.inr (some a)) :: st) h r := by
  intro h' o e
  obtain ⟨q1, q2⟩ := k h' o e
  refine ⟨q1, fun l D dA base b n xs p e9 R s m args below meth c mc ms Qc XC C μ H locs cells slots ls a1 a2 a3 a4 a5 a6 a7 => ?_⟩
  have hts := C.2.2.2.2.2.2.2.1
  have hRm := C.2.2.2.2.2.2.2.2.2.2.1
  have hr := lv_room (m := m) (pc := pc) (ls := ls) (rest := am_v μ (.inr (.inr (some a))) :: st.map (am_v μ)) (st := st.map (am_v μ)) (by rw [am_wd_eq]; exact hw)
  have hl9 : 36 * d ≤ R.locals := hRm.2.1
  refine W.objInit C.1 C.2.1 C.2.2.2.2.1 (am_Tw hts wl rfl) (hts _ wi) (hts _ wc) rfl (by rw [C.2.2.1]; exact a3.1.1) rfl d0 (Nat.le_trans hd hRm.1) (Nat.le_trans (Nat.add_le_add_right hr 12) (by omega)) ?_
  exact q2 l D dA base b n xs p e9 R s m args below meth c mc ms Qc XC C μ H locs cells slots ls a1 a2 a3 a4.tail a5 a6 a7
theorem sim_copy {ix i1 i2 i3 i4 : Nat} {a0 a1 : Nat × Nat} {sp dp n : Int32} (d0 : decode M.2.1 pc = .ok (.invokestatic ix, 3)) (w1 : lw_tbl[i1]? = some (.methodLink M.1.cls ix arraycopyName)) (w2 : lw_tbl[i2]? = some (.native arraycopyName)) (w3 : lw_tbl[i3]? = some (.static arraycopyName)) (w4 : lw_tbl[i4]? = some (.initialized "java/lang/System")) (hd : 2 ≤ d) (hw : am_wd st ≤ 8)
    (k : Sim M d (pc + 3) lv st (m_cp h a0.1 a0.2 sp.toNatClampNeg a1.1 a1.2 dp.toNatClampNeg n.toNatClampNeg) r) : Sim M d pc lv (.inl n :: .inl dp :: .inr (.inr (some a1)) :: .inl sp :: .inr (.inr (some a0)) :: st) h
      (m_ck (am_isA a0.1 0 && am_isA a1.1 0 && decide (¬ sp < 0 ∧ ¬ dp < 0 ∧ ¬ n < 0 ∧ sp.toNatClampNeg + n.toNatClampNeg ≤ am_ln a0.1 ∧ dp.toNatClampNeg + n.toNatClampNeg ≤ am_ln a1.1)) r) :=
  sim_ck fun ho => by
    obtain ⟨o1, o2⟩ := Bool.and_eq_true_iff.mp ho
    obtain ⟨o3, o4⟩ := Bool.and_eq_true_iff.mp o1
    obtain ⟨h1, h2, h3, h4, h5⟩ := of_decide_eq_true o2
    intro h' o e
    obtain ⟨q1, q2⟩ := k h' o e
    have hle := am_le_cp h a0.1 a0.2 sp.toNatClampNeg a1.1 a1.2 dp.toNatClampNeg n.toNatClampNeg
    refine ⟨hle.trans q1, fun l D dA base b n9 xs p e9 R s m args below meth c mc ms Qc XC C μ H locs cells slots ls a1' a2 a3 a4 a5 a6 a7 => ?_⟩
    obtain ⟨L, b1, b2, b3, b4, b5, b6, b7, b8, b9⟩ := id a1'
    have hts := C.2.2.2.2.2.2.2.1
    have hRm := C.2.2.2.2.2.2.2.2.2.2.1
    obtain ⟨j0, hj0⟩ := List.getElem?_of_mem ((b4 a0).mpr ⟨a4 (.inr (.inr (some a0))) (by simp), am_kd1 o3⟩)
    obtain ⟨j1, hj1⟩ := List.getElem?_of_mem ((b4 a1).mpr ⟨a4 (.inr (.inr (some a1))) (by simp), am_kd1 o4⟩)
    have e0 := am_ws_at (dA := dA) (μ := μ) (h := h) hj0
    have e1 := am_ws_at (dA := dA) (μ := μ) (h := h) hj1
    rw [am_ent1 o3] at e0
    rw [am_ent1 o4] at e1
    have hl9 : 36 * d ≤ R.locals := hRm.2.1
    refine va_copyi C.1 C.2.1 (by rw [C.2.2.1]; exact a3.1.1.symm) C.2.2.2.2.1 (am_Tw hts w1 rfl) (am_Tw hts w2 rfl) (am_Tw hts w3 rfl) (am_Tw hts w4 rfl) C.2.2.2.2.2.2.2.2.2.2.2.1 b1 b2 a2 j0 j1 0 0 e0 e1 rfl rfl rfl h1 h2 h3 h4 h5 (fun i _ => rfl) (Nat.le_trans (by omega) hRm.1) (by
      rw [am_wd_eq]
      have h9 : nativeFrameWords "java/lang/System" "arraycopy" 5 ≤ 50 := by decide +kernel
      omega) d0 (fun H1 locs1 c1 c2 c3 => ?_)
    have hf : va_cpy (fun j => m_gi h a0.1 a0.2 j) (fun j => m_gi h a1.1 a1.2 j) sp.toNatClampNeg dp.toNatClampNeg n.toNatClampNeg = fun j => m_gi (m_cp h a0.1 a0.2 sp.toNatClampNeg a1.1 a1.2 dp.toNatClampNeg n.toNatClampNeg) a1.1 a1.2 j := by
      funext z
      show _ = (if a1.1 = a1.1 ∧ a1.2 = a1.2 then _ else _)
      rw [if_pos ⟨rfl, rfl⟩]; rfl
    have hent : am_ent dA μ (m_cp h a0.1 a0.2 sp.toNatClampNeg a1.1 a1.2 dp.toNatClampNeg n.toNatClampNeg) a1 = .inl (dA 0, (am_ln a1.1, .inl (va_cpy (fun j => m_gi h a0.1 a0.2 j) (fun j => m_gi h a1.1 a1.2 j) sp.toNatClampNeg dp.toNatClampNeg n.toNatClampNeg))) := by
      rw [am_ent1 o4, hf]
    have hset := am_ws_set (dA := dA) (μ := μ) (h := h) (h1 := m_cp h a0.1 a0.2 sp.toNatClampNeg a1.1 a1.2 dp.toNatClampNeg n.toNatClampNeg) hj1 b3 (fun a' hne => am_ent_eq (fun j => by
      show (if a'.1 = a1.1 ∧ a'.2 = a1.2 then _ else _) = _
      rw [if_neg (am_pr_ne hne)]; rfl) (fun _ => rfl) (fun _ => rfl))
    rw [← hent, hset] at c1 c2
    have g1 : ∀ k j, m_gi (m_cp h a0.1 a0.2 sp.toNatClampNeg a1.1 a1.2 dp.toNatClampNeg n.toNatClampNeg) 1 k j = m_gi h 1 k j := fun k j => by
      show (if 1 = a1.1 ∧ k = a1.2 then _ else _) = _
      rw [if_neg (fun z => am_1 (am_kd1 o4) z.1)]; rfl
    exact q2 l D dA base b n9 xs p e9 R s m args below meth c mc ms Qc XC C μ H1 locs1 cells slots ls ⟨L, c1, c2, b3, b4, b5, b6, fun j => by rw [g1]; exact b7 j, by rw [g1]; exact b8, b9⟩ c3 (a3.move (am_ext.refl μ h) hle) (a4.tail.tail.tail.tail.tail.mono hle) a5 a6 a7
/-! throwing and catching -/
def am_up9 : List String := ["java/lang/RuntimeException", "java/lang/Exception"]
theorem am_str {own tx : String} {k : Nat} {args : Array Value} {s : State} (h : (Cond.stringRef own k tx).before args s = true) : ∃ a, vk_R own k tx a s := by
  cases hc : s.vm.findClass own with
  | none => simp [Cond.before, Cond.holds, Cond.value, hc] at h
  | some cc =>
    have h1 : (Cond.stringRef own k tx).before #[] s = true := h
    obtain ⟨k1, cf, i, a, -, -, -, -, -, he⟩ := Cond.stringRef_spec hc h1
    exact ⟨a, h1, he⟩
theorem sim_throw {y : MethodName} {cc : ByteArray} {nL : Nat} {ret : Option FieldType} {ik is ic i1 i2 i3 : Nat} {tx : String} (kx : Nat) (hkx : kx < 3) (d0 : decode cc pc = .ok (.new ik, 3)) (d3 : decode cc (pc + 3) = .ok (.dup, 1)) (d4 : decode cc (pc + 4) = .ok (.ldc is, 2)) (d6 : decode cc (pc + 6) = .ok (.invokespecial ic, 3)) (d9 : decode cc (pc + 9) = .ok (.athrow, 1))
    (w1 : lw_tbl[i1]? = some (.classLink y.cls ik (am_xn kx))) (w2 : lw_tbl[i2]? = some (.initialized (am_xn kx))) (w3 : lw_tbl[i3]? = some (.stringRef y.cls is tx)) (hat : ∀ w ∈ vx_atS y.cls ic (am_xn kx) am_up9, w ∈ am_T) (hgood : ∀ w ∈ Cond.classLink y.cls ik (am_xn kx) :: Cond.initialized (am_xn kx) :: vx_atS y.cls ic (am_xn kx) am_up9, vx_ot w = true)
    (hd : 6 ≤ d) (hw : am_wd st ≤ 8) : Sim (y, cc, nL, ret, []) d pc lv st h (m_ex h kx) := by
  intro h' o e
  cases e
  have hle := am_le_th h
  refine ⟨hle, fun l D dA base b n xs p e9 R s m args below meth c mc ms Qc XC C μ H locs cells slots ls a1 a2 a3 a4 a5 a6 a7 => ?_⟩
  have hts := C.2.2.2.2.2.2.2.1
  have hRm := C.2.2.2.2.2.2.2.2.2.2.1
  have hWd := C.2.2.2.2.2.2.2.2.2.2.2
  have hl9 : 36 * d ≤ R.locals := hRm.2.1
  have hc9 : m_nc (m_th h) = m_nc h + 1 := rfl
  have hs9 : m_ns (m_th h) = m_ns h + 6 := rfl
  obtain ⟨sa, hsa⟩ := am_str (am_Tw hts w3 rfl)
  have h9 : c.exceptionTable.toList = [] := C.2.2.2.2.2.2.2.2.1
  refine vx_throwS (names := am_up9) (sa := sa) (A := fun q : Nat => base ≤ q) C.1 C.2.1 C.2.2.2.2.2.2.2.2.2.1 C.2.2.2.2.1 (by
    rcases (show kx = 0 ∨ kx = 1 ∨ kx = 2 by omega) with q | q | q <;> subst q <;> decide +kernel) (by decide +kernel) (am_Tw hts w1 rfl) (am_Tw hts w2 rfl) hsa (fun w hw => hts w (hat w hw)) hgood hWd.2.1 hWd.2.2.1 a2 (by rw [C.2.2.1]; exact a3.1.1) d0 d3 d4 d6 d9 (fun x hx => by rw [h9] at hx; cases hx)
    (show 2 + 3 < R.frames from Nat.lt_of_lt_of_le (by omega) hRm.1) (by rw [am_wd_eq]; show _ + (13 * (2 + 1) + 43) ≤ _; omega) (Nat.le_trans (by omega) hRm.2.2.1) (Nat.le_trans (by omega) hRm.2.2.2) C.2.2.2.2.2.1
    (fun t hv hz hk => (a7 μ t (fun _ _ => rfl) ?_ hv ⟨Nat.le_trans a2.1 hz, fun q hq hA => (hk q (Nat.lt_of_lt_of_le hq a2.1)).trans (a2.2.1 q hq hA)⟩).2 kx rfl) a2.2.2 (by omega) (by omega)
  obtain ⟨L, b1, b2, b3, b4, b5, b6, b7, b8, b9⟩ := a1
  exact ⟨L, b1.kept (fun k q hq => hk q.1 ((b1 k q hq).lt)), b2, b3, b4, b5, b6, b7, b8, b9⟩
/-- a table's row takes what is thrown -/
theorem simx_catch {y : MethodName} {cc : ByteArray} {nL : Nat} {ret : Option FieldType} {hh : List (Nat × Nat × Nat × Nat)} {h1 : am_H} {kx : Nat} (pre : List (Nat × Nat × Nat × Nat)) (x : Nat × Nat × Nat × Nat) (suf : List (Nat × Nat × Nat × Nat)) (hsp : hh = pre ++ x :: suf) (hcv : x.1 ≤ pc ∧ pc < x.2.1) (hct : x.2.2.2 ≠ 0) {i1 i2 : Nat}
    (w1 : lw_tbl[i1]? = some (.classLink y.cls x.2.2.2 (am_xn kx))) (w2 : lw_tbl[i2]? = some (.castable (am_xn kx) (am_xn kx))) (hkx : kx < 3) (hpre : ∀ z ∈ pre, z.2.2.2 ≠ 0 ∧ ∃ (j i3 : Nat), j < 3 ∧ j ≠ kx ∧ lw_tbl[i3]? = some (.classLink y.cls z.2.2.2 (am_xn j)))
    (k : Sim (y, cc, nL, ret, hh) d x.2.2.1 lv [.inr (.inr (some (0, m_nx h1 0)))] (m_op h1) r) : SimX (y, cc, nL, ret, hh) d pc lv h1 kx r := by
  intro h' o e
  obtain ⟨q1, q2⟩ := k h' o e
  have hle := am_le_op h1
  refine ⟨hle.trans q1, fun l D dA base b n xs p e9 R s m args below meth c mc ms Qc XC C μ H locs cells slots ls rest q ce a1 a2 a3 a5 a6 a7 g1 g2 g3 => ?_⟩
  have hts := C.2.2.2.2.2.2.2.1
  have hWd := C.2.2.2.2.2.2.2.2.2.2.2
  have ht : c.exceptionTable.toList = tableOf hh := C.2.2.2.2.2.2.2.2.1
  have hext : am_ext μ h1 (am_up μ (0, m_nx h1 0) q) := am_up_ext
  have hcov : ∀ z : Nat × Nat × Nat × Nat, z.1 ≤ pc ∧ pc < z.2.1 → covers ⟨z.1, z.2.1, z.2.2.1, z.2.2.2⟩ pc = true := fun z hz => by simp [covers, hz.1, hz.2]
  refine vx_catch (own := y.cls) (name := am_xn kx) C.2.2.2.2.1 (tableOf pre) ⟨x.1, x.2.1, x.2.2.1, x.2.2.2⟩ (tableOf suf) (by rw [ht, hsp]; simp [tableOf]) (fun z hz => ?_) (hcov x hcv) hct (am_Tw hts w1 rfl) (am_Tw hts w2 rfl) g1 g2 g3 ?_
  · simp only [tableOf, List.mem_map] at hz
    obtain ⟨z0, hz0, rfl⟩ := hz
    obtain ⟨f1, j, i3, f2, f3, f4⟩ := hpre z0 hz0
    exact Or.inr ⟨f1, am_xn j, am_Tw hts f4 rfl, hWd.2.2.2.2.2.2 kx j hkx f2 (fun z => f3 z.symm)⟩
  · obtain ⟨L, b1, b2, b3, b4, b5, b6, b7, b8, b9⟩ := a1
    have hnx : ∀ a, m_nx (m_op h1) a = if a = 0 then m_nx h1 0 + 1 else m_nx h1 a := fun _ => rfl
    have hL : ∀ a ∈ L, a.2 < m_nx h1 a.1 := fun a ha => ((b4 a).mp ha).1
    have hws : am_ws dA (am_up μ (0, m_nx h1 0) q) (m_op h1) L = am_ws dA μ h1 L := by
      unfold am_ws
      apply List.map_congr_left
      intro a ha
      rw [am_up_ne (am_lt_ne (hL a ha)), am_ent_eq (μ1 := am_up μ (0, m_nx h1 0) q) (h1 := m_op h1) (h := h1) (μ := μ) (fun j => rfl) (fun j => by
        show (m_gr h1 a.1 a.2 j).map _ = _
        cases hg : m_gr h1 a.1 a.2 j with
        | none => rfl
        | some c => exact congrArg some (am_up_ne (am_lt_ne (b5 _ _ _ _ hg)))) (fun j => rfl)]
    have K := q2 l D dA base b n xs p e9 R s m args below meth c mc ms Qc XC C (am_up μ (0, m_nx h1 0) q) H locs cells slots ls
      ⟨L, by rw [hws]; exact b1, by rw [hws]; exact b2, b3, fun a => by
        rw [b4 a, hnx]
        by_cases h0 : a.1 = 0
        · have hk9 : am_kd a.1 = 9 := by rw [h0]; rfl
          simp [hk9]
        · rw [if_neg h0], fun s k j c hc => Nat.lt_of_lt_of_le (b5 s k j c hc) (hle.2.2 _), by rw [am_up_ne (fun z => by cases congrArg Prod.fst z)]; exact b6, b7, b8, by rw [hnx, if_neg (by decide)]; exact b9⟩
      a2 (a3.move hext hle) (am_cls.cons (show m_nx h1 0 < m_nx (m_op h1) 0 by rw [hnx, if_pos rfl]; exact Nat.lt_succ_self _) (fun v hv => by cases hv)) a5 a6 (fun μ' t e1 e2 e3 e4 => a7 μ' t (hext.trans hle e1) e2 e3 e4)
    rw [List.map_cons, show am_v (am_up μ (0, m_nx h1 0) q) (.inr (.inr (some (0, m_nx h1 0)))) = .ref q from by show Value.ref (am_up μ (0, m_nx h1 0) q (0, m_nx h1 0)) = _; rw [am_up_eq]] at K
    exact K
end SimCalls
end
section
/-! ## what a caller does with what comes back -/
def m_bJ (r : am_R) (k : am_H → Int32 → am_R) : am_R := match r with
  | some (h, .inl (some (.inl x))) => k h x
  | _ => none
def m_bW (r : am_R) (k : am_H → am_R) : am_R := match r with
  | some (h, .inl none) => k h
  | _ => none
section SimBind
variable {M : am_M} {d pc : Nat} {lv : List (Option am_V)} {rest : List am_V} {r1 : am_R}
theorem am_nI {K : am_H → Int32 → am_R} : r1 = none → m_bI r1 K = none := by rintro rfl; rfl
theorem am_nR {K : am_H → Option (Nat × Nat) → am_R} : r1 = none → m_bR r1 K = none := by rintro rfl; rfl
theorem am_nV {K : am_H → am_R} : r1 = none → m_bV r1 K = none := by rintro rfl; rfl
theorem am_nJ {K : am_H → Int32 → am_R} : r1 = none → m_bJ r1 K = none := by rintro rfl; rfl
theorem am_nW {K : am_H → am_R} : r1 = none → m_bW r1 K = none := by rintro rfl; rfl
theorem am_nIx {K : am_H → Int32 → am_R} {X : am_H → Nat → am_R} : r1 = none → m_bIx r1 K X = none := by rintro rfl; rfl
theorem am_nVx {K : am_H → am_R} {X : am_H → Nat → am_R} : r1 = none → m_bVx r1 K X = none := by rintro rfl; rfl
theorem am_xJ {K : am_H → Int32 → am_R} : ∀ h1 k, r1 = some (h1, .inr k) → m_bJ r1 K = none := by rintro h1 k rfl; rfl
theorem am_xW {K : am_H → am_R} : ∀ h1 k, r1 = some (h1, .inr k) → m_bW r1 K = none := by rintro h1 k rfl; rfl
theorem am_rI {K : am_H → Int32 → am_R} (k : ∀ h1 x, Sim M d pc lv (.inl x :: rest) h1 (K h1 x)) : ∀ h1 v, r1 = some (h1, .inl v) → Sim M d pc lv (v.toList ++ rest) h1 (m_bI r1 K) := by
  rintro h1 v rfl
  rcases v with _ | x | y | o
  · exact sim_none
  · exact k h1 x
  · exact sim_none
  · exact sim_none
theorem am_rJ {K : am_H → Int32 → am_R} (k : ∀ h1 x, Sim M d pc lv (.inl x :: rest) h1 (K h1 x)) : ∀ h1 v, r1 = some (h1, .inl v) → Sim M d pc lv (v.toList ++ rest) h1 (m_bJ r1 K) := by
  rintro h1 v rfl
  rcases v with _ | x | y | o
  · exact sim_none
  · exact k h1 x
  · exact sim_none
  · exact sim_none
theorem am_rIx {K : am_H → Int32 → am_R} {X : am_H → Nat → am_R} (k : ∀ h1 x, Sim M d pc lv (.inl x :: rest) h1 (K h1 x)) : ∀ h1 v, r1 = some (h1, .inl v) → Sim M d pc lv (v.toList ++ rest) h1 (m_bIx r1 K X) := by
  rintro h1 v rfl
  rcases v with _ | x | y | o
  · exact sim_none
  · exact k h1 x
  · exact sim_none
  · exact sim_none
theorem am_rR {K : am_H → Option (Nat × Nat) → am_R} (k : ∀ h1 x, Sim M d pc lv (.inr (.inr x) :: rest) h1 (K h1 x)) : ∀ h1 v, r1 = some (h1, .inl v) → Sim M d pc lv (v.toList ++ rest) h1 (m_bR r1 K) := by
  rintro h1 v rfl
  rcases v with _ | x | y | o
  · exact sim_none
  · exact sim_none
  · exact sim_none
  · exact k h1 o
theorem am_rV {K : am_H → am_R} (k : ∀ h1, Sim M d pc lv rest h1 (K h1)) : ∀ h1 v, r1 = some (h1, .inl v) → Sim M d pc lv (v.toList ++ rest) h1 (m_bV r1 K) := by
  rintro h1 v rfl
  rcases v with _ | x
  · exact k h1
  · exact sim_none
theorem am_rVx {K : am_H → am_R} {X : am_H → Nat → am_R} (k : ∀ h1, Sim M d pc lv rest h1 (K h1)) : ∀ h1 v, r1 = some (h1, .inl v) → Sim M d pc lv (v.toList ++ rest) h1 (m_bVx r1 K X) := by
  rintro h1 v rfl
  rcases v with _ | x
  · exact k h1
  · exact sim_none
theorem am_rW {K : am_H → am_R} (k : ∀ h1, Sim M d pc lv rest h1 (K h1)) : ∀ h1 v, r1 = some (h1, .inl v) → Sim M d pc lv (v.toList ++ rest) h1 (m_bW r1 K) := by
  rintro h1 v rfl
  rcases v with _ | x
  · exact k h1
  · exact sim_none
end SimBind
section SimExc
variable {y : MethodName} {cc : ByteArray} {nL : Nat} {ret : Option FieldType} {d pc : Nat} {lv : List (Option am_V)} {r1 : am_R}
theorem am_eI {K : am_H → Int32 → am_R} : ∀ h1 k, r1 = some (h1, .inr k) → SimX (y, cc, nL, ret, []) d pc lv h1 k (m_bI r1 K) := by rintro h1 k rfl; exact simx_out
theorem am_eR {K : am_H → Option (Nat × Nat) → am_R} : ∀ h1 k, r1 = some (h1, .inr k) → SimX (y, cc, nL, ret, []) d pc lv h1 k (m_bR r1 K) := by rintro h1 k rfl; exact simx_out
theorem am_eV {K : am_H → am_R} : ∀ h1 k, r1 = some (h1, .inr k) → SimX (y, cc, nL, ret, []) d pc lv h1 k (m_bV r1 K) := by rintro h1 k rfl; exact simx_out
end SimExc
section SimScr
variable {M : am_M} {d pc : Nat} {lv : List (Option am_V)} {st : List am_V} {h : am_H} {r : am_R}
theorem am_scr_in {i : Int32} {n : Nat} (hn : n ≤ 2560) (h1 : ¬ i < 0) (h2 : i < Int32.ofNat n) : vp_in i n := by
  obtain ⟨j, hj, rfl⟩ := nI_of h1
  have : j < n := (nI_ltI hj (by omega)).mp h2
  exact vp_in_nI this (by omega)
/-- the script's own rows -/
theorem sim_sld {i : Int32} (d0 : decode M.2.1 pc = .ok (.iaload, 1)) (k : Sim M d (pc + 1) lv (.inl (m_gi h 1 0 i.toNatClampNeg) :: st) h r) : Sim M d pc lv (.inl i :: .inr (.inr (some (1, 0))) :: st) h (m_ck (decide (¬ i < 0 ∧ i < m_gi h 1 1 0)) r) :=
  sim_ck fun ho => by
    obtain ⟨g1, g2⟩ := of_decide_eq_true ho
    intro h' o e
    obtain ⟨q1, q2⟩ := k h' o e
    refine ⟨q1, fun l D dA base b n xs p e R s m args below meth c mc ms Qc XC C μ H locs cells slots ls a1 a2 a3 a4 a5 a6 a7 => ?_⟩
    obtain ⟨L, b1, b2, b3, b4, b5, b6, b7, b8, b9⟩ := id a1
    have hWd := C.2.2.2.2.2.2.2.2.2.2.2
    have K := q2 l D dA base b n xs p e R s m args below meth c mc ms Qc XC C μ H locs cells slots ls a1 a2 a3 (a4.tail.tail.cons am_clo_i) a5 a6 a7
    rw [List.map_cons, show am_v μ (.inl (m_gi h 1 0 i.toNatClampNeg)) = .int (xs i.toNatClampNeg) from by show Value.int _ = _; rw [b7]] at K
    rw [List.map_cons, List.map_cons, show am_v μ (.inr (.inr (some (1, 0)))) = .ref b from by show Value.ref (μ (1, 0)) = _; rw [b6]]
    exact va_sld C.1 C.2.1 hWd.2.2.2.1.1 (Nat.lt_of_lt_of_le hWd.2.2.2.2.1 hWd.2.2.2.2.2.1) (Nat.not_le.mpr hWd.2.2.2.2.1) a2 (am_scr_in hWd.2.2.2.1.2 g1 (by rw [← b8]; exact g2)) d0 K
theorem sim_slen (d0 : decode M.2.1 pc = .ok (.arraylength, 1)) (k : Sim M d (pc + 1) lv (.inl (m_gi h 1 1 0) :: st) h r) : Sim M d pc lv (.inr (.inr (some (1, 0))) :: st) h r := by
  intro h' o e
  obtain ⟨q1, q2⟩ := k h' o e
  refine ⟨q1, fun l D dA base b n xs p e R s m args below meth c mc ms Qc XC C μ H locs cells slots ls a1 a2 a3 a4 a5 a6 a7 => ?_⟩
  obtain ⟨L, b1, b2, b3, b4, b5, b6, b7, b8, b9⟩ := id a1
  have hWd := C.2.2.2.2.2.2.2.2.2.2.2
  have K := q2 l D dA base b n xs p e R s m args below meth c mc ms Qc XC C μ H locs cells slots ls a1 a2 a3 (a4.tail.cons am_clo_i) a5 a6 a7
  rw [List.map_cons, show am_v μ (.inl (m_gi h 1 1 0)) = .int (Int32.ofNat n) from by show Value.int _ = _; rw [b8]] at K
  rw [List.map_cons, show am_v μ (.inr (.inr (some (1, 0)))) = .ref b from by show Value.ref (μ (1, 0)) = _; rw [b6]]
  exact va_slen C.1 C.2.1 hWd.2.2.2.1.1 (Nat.lt_of_lt_of_le hWd.2.2.2.2.1 hWd.2.2.2.2.2.1) (Nat.not_le.mpr hWd.2.2.2.2.1) a2 d0 K
end SimScr
end
section
/-! ## the words that the printed functions are written in -/
def m_gI (o : Option (Nat × Nat)) (ci j : Nat) (h : am_H) (K : Int32 → am_R) : am_R := m_as o fun a => m_ck (am_isO a.1 ci) (K (m_gi h a.1 a.2 j))
def m_gR (o : Option (Nat × Nat)) (ci j : Nat) (h : am_H) (K : Option (Nat × Nat) → am_R) : am_R := m_as o fun a => m_ck (am_isO a.1 ci) (K (m_gr h a.1 a.2 j))
def m_pI (o : Option (Nat × Nat)) (ci j : Nat) (x : Int32) (h : am_H) (K : am_H → am_R) : am_R := m_as o fun a => m_ck (am_isO a.1 ci) (K (m_si h a.1 a.2 j x))
def m_pZ (o : Option (Nat × Nat)) (ci j : Nat) (x : Int32) (h : am_H) (K : am_H → am_R) : am_R := m_as o fun a => m_ck (m_nz x) (m_ck (am_isO a.1 ci) (K (m_si h a.1 a.2 j x)))
def m_pC (o : Option (Nat × Nat)) (ci j : Nat) (x : Int32) (h : am_H) (K : am_H → am_R) : am_R := m_as o fun a => m_ck (m_nzc x) (m_ck (am_isO a.1 ci) (K (m_si h a.1 a.2 j x)))
def m_pR (o : Option (Nat × Nat)) (ci j : Nat) (v : Option (Nat × Nat)) (h : am_H) (K : am_H → am_R) : am_R := m_as o fun a => m_ck (am_isO a.1 ci) (K (m_sr h a.1 a.2 j v))
def m_aI (o : Option (Nat × Nat)) (t : Nat) (i : Int32) (h : am_H) (K : Int32 → am_R) : am_R := m_as o fun a => m_ck (am_isA a.1 t && m_in i (am_ln a.1)) (K (m_gi h a.1 a.2 i.toNatClampNeg))
def m_aL (o : Option (Nat × Nat)) (i : Int32) (h : am_H) (K : Int64 → am_R) : am_R := m_as o fun a => m_ck (am_isL a.1 && m_in i (am_ln a.1)) (K (m_gl h a.1 a.2 i.toNatClampNeg))
def m_aR (o : Option (Nat × Nat)) (t : Nat) (i : Int32) (h : am_H) (K : Option (Nat × Nat) → am_R) : am_R := m_as o fun a => m_ck (am_isQ a.1 t && m_in i (am_ln a.1)) (K (m_gr h a.1 a.2 i.toNatClampNeg))
def m_sI (o : Option (Nat × Nat)) (i x : Int32) (h : am_H) (K : am_H → am_R) : am_R := m_as o fun a => m_ck (am_isA a.1 0 && m_in i (am_ln a.1)) (K (m_si h a.1 a.2 i.toNatClampNeg x))
def m_sZ (o : Option (Nat × Nat)) (i x : Int32) (h : am_H) (K : am_H → am_R) : am_R := m_as o fun a => m_ck (m_nz x) (m_ck (am_isA a.1 1 && m_in i (am_ln a.1)) (K (m_si h a.1 a.2 i.toNatClampNeg x)))
def m_sC (o : Option (Nat × Nat)) (i x : Int32) (h : am_H) (K : am_H → am_R) : am_R := m_as o fun a => m_ck (m_nzc x) (m_ck (am_isA a.1 2 && m_in i (am_ln a.1)) (K (m_si h a.1 a.2 i.toNatClampNeg x)))
def m_sL (o : Option (Nat × Nat)) (i : Int32) (x : Int64) (h : am_H) (K : am_H → am_R) : am_R := m_as o fun a => m_ck (am_isL a.1 && m_in i (am_ln a.1)) (K (m_sl h a.1 a.2 i.toNatClampNeg x))
def m_sR (o : Option (Nat × Nat)) (t c : Nat) (i : Int32) (v : Option (Nat × Nat)) (h : am_H) (K : am_H → am_R) : am_R := m_as o fun a => m_as v fun w => m_ck (am_isO w.1 c && (am_isQ a.1 t && m_in i (am_ln a.1))) (K (m_sr h a.1 a.2 i.toNatClampNeg (some w)))
def m_ao (o : Option (Nat × Nat)) (ci : Nat) (K : Nat × Nat → am_R) : am_R := m_as o fun a => m_ck (am_isO a.1 ci) (K a)
def m_new (s n : Nat) (h : am_H) (K : Nat × Nat → am_H → am_R) : am_R := K (s, m_nx h s) (m_al h s n)
def m_len (o : Option (Nat × Nat)) (K : Int32 → am_R) : am_R := m_as o fun a => m_ck (am_isA a.1 0) (K (Int32.ofNat (am_ln a.1)))
def m_scr (i : Int32) (h : am_H) (K : Int32 → am_R) : am_R := m_ck (decide (¬ i < 0 ∧ i < m_gi h 1 1 0)) (K (m_gi h 1 0 i.toNatClampNeg))
def m_cpy (o0 : Option (Nat × Nat)) (sp : Int32) (o1 : Option (Nat × Nat)) (dp n : Int32) (h : am_H) (K : am_H → am_R) : am_R := m_as o0 fun a0 => m_as o1 fun a1 =>
  m_ck (am_isA a0.1 0 && am_isA a1.1 0 && decide (¬ sp < 0 ∧ ¬ dp < 0 ∧ ¬ n < 0 ∧ sp.toNatClampNeg + n.toNatClampNeg ≤ am_ln a0.1 ∧ dp.toNatClampNeg + n.toNatClampNeg ≤ am_ln a1.1)) (K (m_cp h a0.1 a0.2 sp.toNatClampNeg a1.1 a1.2 dp.toNatClampNeg n.toNatClampNeg))
def m_rz (h : am_H) (x : Int32) : am_R := m_ck (m_nz x) (m_rt h (some (.inl x)))
def m_rc (h : am_H) (x : Int32) : am_R := m_ck (m_nzc x) (m_rt h (some (.inl x)))
def m_ri (h : am_H) (x : Int32) : am_R := m_rt h (some (.inl x))
def m_ra (h : am_H) (o : Option (Nat × Nat)) : am_R := m_rt h (some (.inr (.inr o)))
def m_dv (y : Int32) (r : am_R) : am_R := m_ck (!(y == 0)) r
section SimComb
variable {M : am_M} {d pc : Nat} {lv : List (Option am_V)} {st : List am_V} {h : am_H} {o : Option (Nat × Nat)}
theorem sim_gI {ix i : Nat} {K : Int32 → am_R} (ci j : Nat) {C : String} {T : u_T} {N : Nat} (d0 : decode M.2.1 pc = .ok (.getfield ix, 3)) (hcl : vwCl[ci]? = some (C, T, N)) (hw : lw_tbl[i]? = some (.fieldLink M.1.cls ix (T j).1 (T j).2.1 (T j).2.2.1)) (hj : j < N) (hr : am_rf ci j = false)
    (k : ∀ v, Sim M d (pc + 3) lv (.inl v :: st) h (K v)) : Sim M d pc lv (.inr (.inr o) :: st) h (m_gI o ci j h K) := sim_as0 fun _ => sim_getI ci j d0 hcl hw hj hr (k _)
theorem sim_gR {ix i : Nat} {K : Option (Nat × Nat) → am_R} (ci j : Nat) {C : String} {T : u_T} {N : Nat} (d0 : decode M.2.1 pc = .ok (.getfield ix, 3)) (hcl : vwCl[ci]? = some (C, T, N)) (hw : lw_tbl[i]? = some (.fieldLink M.1.cls ix (T j).1 (T j).2.1 (T j).2.2.1)) (hj : j < N) (hr : am_rf ci j = true)
    (k : ∀ v, Sim M d (pc + 3) lv (.inr (.inr v) :: st) h (K v)) : Sim M d pc lv (.inr (.inr o) :: st) h (m_gR o ci j h K) := sim_as0 fun _ => sim_getR ci j d0 hcl hw hj hr (k _)
theorem sim_pI {ix i : Nat} {x : Int32} {K : am_H → am_R} (ci j : Nat) {C : String} {T : u_T} {N : Nat} (d0 : decode M.2.1 pc = .ok (.putfield ix, 3)) (hcl : vwCl[ci]? = some (C, T, N)) (hw : lw_tbl[i]? = some (.fieldLink M.1.cls ix (T j).1 (T j).2.1 (T j).2.2.1)) (hj : j < N) (hr : am_rf ci j = false) (hfin : (T j).2.2.2 = false ∨ ((T j).2.2.2 = true ∧ M.1.name = "<init>" ∧ (T j).1 = M.1.cls)) (hty : am_tyX ci j = .int)
    (k : ∀ h1, Sim M d (pc + 3) lv st h1 (K h1)) : Sim M d pc lv (.inl x :: .inr (.inr o) :: st) h (m_pI o ci j x h K) := sim_as1 fun _ => sim_putI ci j d0 hcl hw hj hr hfin (by rw [hty]; exact ⟨rfl, rfl⟩) (k _)
theorem sim_pZ {ix i : Nat} {x : Int32} {K : am_H → am_R} (ci j : Nat) {C : String} {T : u_T} {N : Nat} (d0 : decode M.2.1 pc = .ok (.putfield ix, 3)) (hcl : vwCl[ci]? = some (C, T, N)) (hw : lw_tbl[i]? = some (.fieldLink M.1.cls ix (T j).1 (T j).2.1 (T j).2.2.1)) (hj : j < N) (hr : am_rf ci j = false) (hfin : (T j).2.2.2 = false ∨ ((T j).2.2.2 = true ∧ M.1.name = "<init>" ∧ (T j).1 = M.1.cls)) (hty : am_tyX ci j = .boolean)
    (k : ∀ h1, Sim M d (pc + 3) lv st h1 (K h1)) : Sim M d pc lv (.inl x :: .inr (.inr o) :: st) h (m_pZ o ci j x h K) := sim_as1 fun _ => sim_putZ ci j d0 hcl hw hj hr hfin hty (k _)
theorem sim_pC {ix i : Nat} {x : Int32} {K : am_H → am_R} (ci j : Nat) {C : String} {T : u_T} {N : Nat} (d0 : decode M.2.1 pc = .ok (.putfield ix, 3)) (hcl : vwCl[ci]? = some (C, T, N)) (hw : lw_tbl[i]? = some (.fieldLink M.1.cls ix (T j).1 (T j).2.1 (T j).2.2.1)) (hj : j < N) (hr : am_rf ci j = false) (hfin : (T j).2.2.2 = false ∨ ((T j).2.2.2 = true ∧ M.1.name = "<init>" ∧ (T j).1 = M.1.cls)) (hty : am_tyX ci j = .char)
    (k : ∀ h1, Sim M d (pc + 3) lv st h1 (K h1)) : Sim M d pc lv (.inl x :: .inr (.inr o) :: st) h (m_pC o ci j x h K) := sim_as1 fun _ => sim_putC ci j d0 hcl hw hj hr hfin hty (k _)
theorem sim_pR {ix i : Nat} {v : Option (Nat × Nat)} {K : am_H → am_R} (ci j : Nat) {C : String} {T : u_T} {N : Nat} (d0 : decode M.2.1 pc = .ok (.putfield ix, 3)) (hcl : vwCl[ci]? = some (C, T, N)) (hw : lw_tbl[i]? = some (.fieldLink M.1.cls ix (T j).1 (T j).2.1 (T j).2.2.1)) (hj : j < N) (hr : am_rf ci j = true) (hfin : (T j).2.2.2 = false ∨ ((T j).2.2.2 = true ∧ M.1.name = "<init>" ∧ (T j).1 = M.1.cls))
    (k : ∀ h1, Sim M d (pc + 3) lv st h1 (K h1)) : Sim M d pc lv (.inr (.inr v) :: .inr (.inr o) :: st) h (m_pR o ci j v h K) := sim_as1 fun _ => sim_putR ci j d0 hcl hw hj hr hfin (k _)
theorem sim_aI {i : Int32} {K : Int32 → am_R} (d0 : decode M.2.1 pc = .ok (.iaload, 1)) (k : ∀ v, Sim M d (pc + 1) lv (.inl v :: st) h (K v)) : Sim M d pc lv (.inl i :: .inr (.inr o) :: st) h (m_aI o 0 i h K) := sim_as1 fun _ => sim_iald d0 (k _)
theorem sim_aZ {i : Int32} {K : Int32 → am_R} (d0 : decode M.2.1 pc = .ok (.baload, 1)) (k : ∀ v, Sim M d (pc + 1) lv (.inl v :: st) h (K v)) : Sim M d pc lv (.inl i :: .inr (.inr o) :: st) h (m_aI o 1 i h K) := sim_as1 fun _ => sim_zald d0 (k _)
theorem sim_aC {i : Int32} {K : Int32 → am_R} (d0 : decode M.2.1 pc = .ok (.caload, 1)) (k : ∀ v, Sim M d (pc + 1) lv (.inl v :: st) h (K v)) : Sim M d pc lv (.inl i :: .inr (.inr o) :: st) h (m_aI o 2 i h K) := sim_as1 fun _ => sim_cald d0 (k _)
theorem sim_aL {i : Int32} {K : Int64 → am_R} (d0 : decode M.2.1 pc = .ok (.laload, 1)) (k : ∀ v, Sim M d (pc + 1) lv (.inr (.inl v) :: st) h (K v)) : Sim M d pc lv (.inl i :: .inr (.inr o) :: st) h (m_aL o i h K) := sim_as1 fun _ => sim_lald d0 (k _)
theorem sim_aR {i : Int32} {K : Option (Nat × Nat) → am_R} (t : Nat) {c : Nat} {C : String} (ht : am_rty t = some (c, C)) (d0 : decode M.2.1 pc = .ok (.aaload, 1)) (k : ∀ v, Sim M d (pc + 1) lv (.inr (.inr v) :: st) h (K v)) : Sim M d pc lv (.inl i :: .inr (.inr o) :: st) h (m_aR o t i h K) := sim_as1 fun _ => sim_aald t ht d0 (k _)
theorem sim_sI {i x : Int32} {K : am_H → am_R} (d0 : decode M.2.1 pc = .ok (.iastore, 1)) (k : ∀ h1, Sim M d (pc + 1) lv st h1 (K h1)) : Sim M d pc lv (.inl x :: .inl i :: .inr (.inr o) :: st) h (m_sI o i x h K) := sim_as2 fun _ => sim_iast d0 (k _)
theorem sim_sZ {i x : Int32} {K : am_H → am_R} (d0 : decode M.2.1 pc = .ok (.bastore, 1)) (k : ∀ h1, Sim M d (pc + 1) lv st h1 (K h1)) : Sim M d pc lv (.inl x :: .inl i :: .inr (.inr o) :: st) h (m_sZ o i x h K) := sim_as2 fun _ => sim_zast d0 (k _)
theorem sim_sC {i x : Int32} {K : am_H → am_R} (d0 : decode M.2.1 pc = .ok (.castore, 1)) (k : ∀ h1, Sim M d (pc + 1) lv st h1 (K h1)) : Sim M d pc lv (.inl x :: .inl i :: .inr (.inr o) :: st) h (m_sC o i x h K) := sim_as2 fun _ => sim_cast d0 (k _)
theorem sim_sL {i : Int32} {x : Int64} {K : am_H → am_R} (d0 : decode M.2.1 pc = .ok (.lastore, 1)) (k : ∀ h1, Sim M d (pc + 1) lv st h1 (K h1)) : Sim M d pc lv (.inr (.inl x) :: .inl i :: .inr (.inr o) :: st) h (m_sL o i x h K) := sim_as2 fun _ => sim_last d0 (k _)
theorem sim_sR {i : Int32} {v : Option (Nat × Nat)} {K : am_H → am_R} (t : Nat) {c : Nat} {C : String} (ht : am_rty t = some (c, C)) (d0 : decode M.2.1 pc = .ok (.aastore, 1)) (k : ∀ h1, Sim M d (pc + 1) lv st h1 (K h1)) : Sim M d pc lv (.inr (.inr v) :: .inl i :: .inr (.inr o) :: st) h (m_sR o t c i v h K) := sim_as2 fun _ => sim_as0 fun _ => sim_aast t ht d0 (k _)
theorem sim_nw {ix i1 i2 i3 : Nat} {K : Nat × Nat → am_H → am_R} (s ci : Nat) {C : String} {T : u_T} (N : Nat) (d0 : decode M.2.1 pc = .ok (.new ix, 3)) (hcl : vwCl[ci]? = some (C, T, N)) (hs : am_isO s ci = true) (w1 : lw_tbl[i1]? = some (.classLink M.1.cls ix C)) (w2 : lw_tbl[i2]? = some (.instantiable C N)) (w3 : lw_tbl[i3]? = some (.initialized C))
    (k : ∀ a h1, Sim M d (pc + 3) lv (.inr (.inr (some a)) :: st) h1 (K a h1)) : Sim M d pc lv st h (m_new s N h K) := sim_new s ci N d0 hcl hs w1 w2 w3 (k _ _)
theorem sim_nwI {atype : ArrayType} {i1 : Nat} {n : Int32} {K : Nat × Nat → am_H → am_R} (s t : Nat) {ty : FieldType} (N : Nat) (d0 : decode M.2.1 pc = .ok (.newarray atype, 2)) (hty : newarray.typeOf atype = ty) (hs : am_isA s t = true) (hN : am_ln s = N) (hn : n = nI N) (hN2 : N ≤ 100000) (ht : ∀ dA : Nat → ClassId, (am_tys dA)[t]? = some (dA t, ty)) (hdf : defaultValue ty = .int 0) (hcb : componentBytes ty ≤ 8) (w1 : lw_tbl[i1]? = some (.arrayClass ty))
    (k : ∀ a h1, Sim M d (pc + 2) lv (.inr (.inr (some a)) :: st) h1 (K a h1)) : Sim M d pc lv (.inl n :: st) h (m_new s N h K) := sim_newI s t N d0 hty hs hN hn hN2 ht hdf hcb w1 (k _ _)
theorem sim_nwL {i1 : Nat} {n : Int32} {K : Nat × Nat → am_H → am_R} (s N : Nat) (d0 : decode M.2.1 pc = .ok (.newarray .long, 2)) (hs : am_isL s = true) (hN : am_ln s = N) (hn : n = nI N) (hN2 : N ≤ 100000) (w1 : lw_tbl[i1]? = some (.arrayClass .long))
    (k : ∀ a h1, Sim M d (pc + 2) lv (.inr (.inr (some a)) :: st) h1 (K a h1)) : Sim M d pc lv (.inl n :: st) h (m_new s N h K) := sim_newL s N d0 hs hN hn hN2 w1 (k _ _)
theorem sim_nwR {ix i1 i2 c0 : Nat} {n : Int32} {K : Nat × Nat → am_H → am_R} (s t N : Nat) {C : String} (d0 : decode M.2.1 pc = .ok (.anewarray ix, 3)) (ht : am_rty t = some (c0, C)) (hs : am_isQ s t = true) (hN : am_ln s = N) (hn : n = nI N) (hN2 : N ≤ 100000) (w1 : lw_tbl[i1]? = some (.classLink M.1.cls ix C)) (w2 : lw_tbl[i2]? = some (.arrayOver (.object C)))
    (k : ∀ a h1, Sim M d (pc + 3) lv (.inr (.inr (some a)) :: st) h1 (K a h1)) : Sim M d pc lv (.inl n :: st) h (m_new s N h K) := sim_newR s t N d0 ht hs hN hn hN2 w1 w2 (k _ _)
theorem sim_len {K : Int32 → am_R} (d0 : decode M.2.1 pc = .ok (.arraylength, 1)) (k : ∀ v, Sim M d (pc + 1) lv (.inl v :: st) h (K v)) : Sim M d pc lv (.inr (.inr o) :: st) h (m_len o K) := sim_as0 fun _ => sim_alenI 0 d0 (k _)
theorem sim_scr {i : Int32} {K : Int32 → am_R} (d0 : decode M.2.1 pc = .ok (.iaload, 1)) (k : ∀ v, Sim M d (pc + 1) lv (.inl v :: st) h (K v)) : Sim M d pc lv (.inl i :: .inr (.inr (some (1, 0))) :: st) h (m_scr i h K) := sim_sld d0 (k _)
theorem sim_cpy {ix i1 i2 i3 i4 : Nat} {o1 : Option (Nat × Nat)} {sp dp n : Int32} {K : am_H → am_R} (d0 : decode M.2.1 pc = .ok (.invokestatic ix, 3)) (w1 : lw_tbl[i1]? = some (.methodLink M.1.cls ix arraycopyName)) (w2 : lw_tbl[i2]? = some (.native arraycopyName)) (w3 : lw_tbl[i3]? = some (.static arraycopyName)) (w4 : lw_tbl[i4]? = some (.initialized "java/lang/System")) (hd : 2 ≤ d) (hw : am_wd st ≤ 8)
    (k : ∀ h1, Sim M d (pc + 3) lv st h1 (K h1)) : Sim M d pc lv (.inl n :: .inl dp :: .inr (.inr o1) :: .inl sp :: .inr (.inr o) :: st) h (m_cpy o sp o1 dp n h K) := sim_as4 fun _ => sim_as2 fun _ => sim_copy d0 w1 w2 w3 w4 hd hw (k _)
theorem sim_dv {x y : Int32} {r : am_R} (d0 : decode M.2.1 pc = .ok (.idiv, 1)) (k : Sim M d (pc + 1) lv (.inl (x / y) :: st) h r) : Sim M d pc lv (.inl y :: .inl x :: st) h (m_dv y r) := sim_idiv d0 k
theorem sim_rm {x y : Int32} {r : am_R} (d0 : decode M.2.1 pc = .ok (.irem, 1)) (k : Sim M d (pc + 1) lv (.inl (x - x / y * y) :: st) h r) : Sim M d pc lv (.inl y :: .inl x :: st) h (m_dv y r) := sim_irem d0 k
theorem sim_ao0 {ci : Nat} {K : Nat × Nat → am_R} (k : ∀ a, am_isO a.1 ci = true → Sim M d pc lv (.inr (.inr (some a)) :: st) h (K a)) : Sim M d pc lv (.inr (.inr o) :: st) h (m_ao o ci K) := sim_as0 fun a => sim_ck fun e => k a e
theorem sim_ao1 {ci : Nat} {v1 : am_V} {K : Nat × Nat → am_R} (k : ∀ a, am_isO a.1 ci = true → Sim M d pc lv (v1 :: .inr (.inr (some a)) :: st) h (K a)) : Sim M d pc lv (v1 :: .inr (.inr o) :: st) h (m_ao o ci K) := sim_as1 fun a => sim_ck fun e => k a e
theorem sim_ao2 {ci : Nat} {v1 v2 : am_V} {K : Nat × Nat → am_R} (k : ∀ a, am_isO a.1 ci = true → Sim M d pc lv (v1 :: v2 :: .inr (.inr (some a)) :: st) h (K a)) : Sim M d pc lv (v1 :: v2 :: .inr (.inr o) :: st) h (m_ao o ci K) := sim_as2 fun a => sim_ck fun e => k a e
theorem sim_ao3 {ci : Nat} {v1 v2 v3 : am_V} {K : Nat × Nat → am_R} (k : ∀ a, am_isO a.1 ci = true → Sim M d pc lv (v1 :: v2 :: v3 :: .inr (.inr (some a)) :: st) h (K a)) : Sim M d pc lv (v1 :: v2 :: v3 :: .inr (.inr o) :: st) h (m_ao o ci K) := sim_as3 fun a => sim_ck fun e => k a e
theorem sim_ao4 {ci : Nat} {v1 v2 v3 v4 : am_V} {K : Nat × Nat → am_R} (k : ∀ a, am_isO a.1 ci = true → Sim M d pc lv (v1 :: v2 :: v3 :: v4 :: .inr (.inr (some a)) :: st) h (K a)) : Sim M d pc lv (v1 :: v2 :: v3 :: v4 :: .inr (.inr o) :: st) h (m_ao o ci K) := sim_as4 fun a => sim_ck fun e => k a e
theorem am_leT {l : List (Option am_V)} : am_leL [] l := trivial
theorem am_leN {l l' : List (Option am_V)} {x : Option am_V} (h : am_leL l l') : am_leL (none :: l) (x :: l') := h
theorem am_leS {l l' : List (Option am_V)} {v : am_V} (h : am_leL l l') : am_leL (some v :: l) (some v :: l') := ⟨rfl, h⟩
end SimComb
end
