section
-- ===== PART A: goes FIRST, ahead of the names: the tables' words, and 'selects' of the private methods out of them =====
/-- a private method of a class that the tables say can be made, by its rows of tables_1 -/
def lw_okq (q : MethodName × Nat) : Prop := (q.1.cls ≠ "java/lang/invoke/MethodHandle" ∧ q.1.cls ≠ "java/lang/invoke/VarHandle") ∧ Cond.instantiable q.1.cls q.2 ∈ tables_1 ∧ Cond.privateMethod q.1 ∈ tables_1 ∧ Cond.instanceMethod q.1 ∈ tables_1
theorem lw_p0 : lw_okq (⟨"Tagwranglery$Scanner", "takesFigure", "(C)Z"⟩, 5) := ⟨⟨by decide +kernel, by decide +kernel⟩, List.mem_of_getElem? (i := 65) (by decide +kernel), List.mem_of_getElem? (i := 238) (by decide +kernel), List.mem_of_getElem? (i := 239) (by decide +kernel)⟩
theorem lw_p1 : lw_okq (⟨"Tagwranglery$Scanner", "takesItem", "(C)Z"⟩, 5) := ⟨⟨by decide +kernel, by decide +kernel⟩, List.mem_of_getElem? (i := 65) (by decide +kernel), List.mem_of_getElem? (i := 248) (by decide +kernel), List.mem_of_getElem? (i := 249) (by decide +kernel)⟩
theorem lw_p2 : lw_okq (⟨"Tagwranglery$Scanner", "takesLink", "(C)Z"⟩, 5) := ⟨⟨by decide +kernel, by decide +kernel⟩, List.mem_of_getElem? (i := 65) (by decide +kernel), List.mem_of_getElem? (i := 255) (by decide +kernel), List.mem_of_getElem? (i := 256) (by decide +kernel)⟩
theorem lw_p3 : lw_okq (⟨"Tagwranglery$Gifts", "findWays", "(LTagwranglery$Tags;)V"⟩, 4) := ⟨⟨by decide +kernel, by decide +kernel⟩, List.mem_of_getElem? (i := 123) (by decide +kernel), List.mem_of_getElem? (i := 271) (by decide +kernel), List.mem_of_getElem? (i := 272) (by decide +kernel)⟩
theorem lw_p4 : lw_okq (⟨"Tagwranglery$Gifts", "findReceivers", "(LTagwranglery$Tags;)V"⟩, 4) := ⟨⟨by decide +kernel, by decide +kernel⟩, List.mem_of_getElem? (i := 123) (by decide +kernel), List.mem_of_getElem? (i := 275) (by decide +kernel), List.mem_of_getElem? (i := 276) (by decide +kernel)⟩
theorem lw_p5 : lw_okq (⟨"java/lang/Throwable", "fillInStackTrace", "(I)Ljava/lang/Throwable;"⟩, 6) := ⟨⟨by decide +kernel, by decide +kernel⟩, List.mem_of_getElem? (i := 350) (by decide +kernel), List.mem_of_getElem? (i := 348) (by decide +kernel), List.mem_of_getElem? (i := 349) (by decide +kernel)⟩
theorem lw_p6 : lw_okq (⟨"Tagwranglery", "workAt", "(I)LTagwranglery$Work;"⟩, 13) := ⟨⟨by decide +kernel, by decide +kernel⟩, List.mem_of_getElem? (i := 24) (by decide +kernel), List.mem_of_getElem? (i := 503) (by decide +kernel), List.mem_of_getElem? (i := 504) (by decide +kernel)⟩
theorem lw_p7 : lw_okq (⟨"Tagwranglery", "checkWork", "(I)V"⟩, 13) := ⟨⟨by decide +kernel, by decide +kernel⟩, List.mem_of_getElem? (i := 24) (by decide +kernel), List.mem_of_getElem? (i := 507) (by decide +kernel), List.mem_of_getElem? (i := 508) (by decide +kernel)⟩
theorem lw_p8 : lw_okq (⟨"Tagwranglery", "checkTag", "(I)V"⟩, 13) := ⟨⟨by decide +kernel, by decide +kernel⟩, List.mem_of_getElem? (i := 24) (by decide +kernel), List.mem_of_getElem? (i := 630) (by decide +kernel), List.mem_of_getElem? (i := 631) (by decide +kernel)⟩
theorem lw_p9 : lw_okq (⟨"Tagwranglery", "letTaggedWorksWait", "()V"⟩, 13) := ⟨⟨by decide +kernel, by decide +kernel⟩, List.mem_of_getElem? (i := 24) (by decide +kernel), List.mem_of_getElem? (i := 644) (by decide +kernel), List.mem_of_getElem? (i := 645) (by decide +kernel)⟩
theorem lw_p10 : lw_okq (⟨"Tagwranglery$Tags", "findAbove", "()V"⟩, 4) := ⟨⟨by decide +kernel, by decide +kernel⟩, List.mem_of_getElem? (i := 38) (by decide +kernel), List.mem_of_getElem? (i := 665) (by decide +kernel), List.mem_of_getElem? (i := 666) (by decide +kernel)⟩
theorem lw_p11 : lw_okq (⟨"Tagwranglery", "countWith", "(I)I"⟩, 13) := ⟨⟨by decide +kernel, by decide +kernel⟩, List.mem_of_getElem? (i := 24) (by decide +kernel), List.mem_of_getElem? (i := 703) (by decide +kernel), List.mem_of_getElem? (i := 704) (by decide +kernel)⟩
theorem lw_p12 : lw_okq (⟨"Tagwranglery", "countFiledUnder", "(I)I"⟩, 13) := ⟨⟨by decide +kernel, by decide +kernel⟩, List.mem_of_getElem? (i := 24) (by decide +kernel), List.mem_of_getElem? (i := 707) (by decide +kernel), List.mem_of_getElem? (i := 708) (by decide +kernel)⟩
theorem lw_p13 : lw_okq (⟨"Tagwranglery", "placesOf", "(LTagwranglery$Work;Z)I"⟩, 13) := ⟨⟨by decide +kernel, by decide +kernel⟩, List.mem_of_getElem? (i := 24) (by decide +kernel), List.mem_of_getElem? (i := 739) (by decide +kernel), List.mem_of_getElem? (i := 740) (by decide +kernel)⟩
theorem lw_p14 : lw_okq (⟨"Tagwranglery", "checkQuery", "()V"⟩, 13) := ⟨⟨by decide +kernel, by decide +kernel⟩, List.mem_of_getElem? (i := 24) (by decide +kernel), List.mem_of_getElem? (i := 773) (by decide +kernel), List.mem_of_getElem? (i := 774) (by decide +kernel)⟩
theorem lw_p15 : lw_okq (⟨"Tagwranglery", "found", "(IZ)I"⟩, 13) := ⟨⟨by decide +kernel, by decide +kernel⟩, List.mem_of_getElem? (i := 24) (by decide +kernel), List.mem_of_getElem? (i := 778) (by decide +kernel), List.mem_of_getElem? (i := 779) (by decide +kernel)⟩
def lw_privs_1 : List (MethodName × Nat) := [(⟨"Tagwranglery$Scanner", "takesFigure", "(C)Z"⟩, 5), (⟨"Tagwranglery$Scanner", "takesItem", "(C)Z"⟩, 5), (⟨"Tagwranglery$Scanner", "takesLink", "(C)Z"⟩, 5), (⟨"Tagwranglery$Gifts", "findWays", "(LTagwranglery$Tags;)V"⟩, 4), (⟨"Tagwranglery$Gifts", "findReceivers", "(LTagwranglery$Tags;)V"⟩, 4), (⟨"java/lang/Throwable", "fillInStackTrace", "(I)Ljava/lang/Throwable;"⟩, 6), (⟨"Tagwranglery", "workAt", "(I)LTagwranglery$Work;"⟩, 13), (⟨"Tagwranglery", "checkWork", "(I)V"⟩, 13), (⟨"Tagwranglery", "checkTag", "(I)V"⟩, 13), (⟨"Tagwranglery", "letTaggedWorksWait", "()V"⟩, 13), (⟨"Tagwranglery$Tags", "findAbove", "()V"⟩, 4), (⟨"Tagwranglery", "countWith", "(I)I"⟩, 13), (⟨"Tagwranglery", "countFiledUnder", "(I)I"⟩, 13), (⟨"Tagwranglery", "placesOf", "(LTagwranglery$Work;Z)I"⟩, 13), (⟨"Tagwranglery", "checkQuery", "()V"⟩, 13), (⟨"Tagwranglery", "found", "(IZ)I"⟩, 13)]
theorem lw_r1 : ∀ q ∈ lw_privs_1, lw_okq q := List.forall_mem_cons.mpr ⟨lw_p0, List.forall_mem_cons.mpr ⟨lw_p1, List.forall_mem_cons.mpr ⟨lw_p2, List.forall_mem_cons.mpr ⟨lw_p3, List.forall_mem_cons.mpr ⟨lw_p4, List.forall_mem_cons.mpr ⟨lw_p5, List.forall_mem_cons.mpr ⟨lw_p6, List.forall_mem_cons.mpr ⟨lw_p7, List.forall_mem_cons.mpr ⟨lw_p8, List.forall_mem_cons.mpr ⟨lw_p9, List.forall_mem_cons.mpr ⟨lw_p10, List.forall_mem_cons.mpr ⟨lw_p11, List.forall_mem_cons.mpr ⟨lw_p12, List.forall_mem_cons.mpr ⟨lw_p13, List.forall_mem_cons.mpr ⟨lw_p14, List.forall_mem_cons.mpr ⟨lw_p15, fun _ h => absurd h List.not_mem_nil⟩⟩⟩⟩⟩⟩⟩⟩⟩⟩⟩⟩⟩⟩⟩⟩
theorem lw_p16 : lw_okq (⟨"Tagwranglery$Sieve", "clear", "()V"⟩, 4) := ⟨⟨by decide +kernel, by decide +kernel⟩, List.mem_of_getElem? (i := 103) (by decide +kernel), List.mem_of_getElem? (i := 787) (by decide +kernel), List.mem_of_getElem? (i := 788) (by decide +kernel)⟩
theorem lw_p17 : lw_okq (⟨"Tagwranglery", "worksOfItem", "(CIIZ)I"⟩, 13) := ⟨⟨by decide +kernel, by decide +kernel⟩, List.mem_of_getElem? (i := 24) (by decide +kernel), List.mem_of_getElem? (i := 808) (by decide +kernel), List.mem_of_getElem? (i := 809) (by decide +kernel)⟩
theorem lw_p18 : lw_okq (⟨"Tagwranglery", "isTagSo", "(LTagwranglery$Work;IZ)Z"⟩, 13) := ⟨⟨by decide +kernel, by decide +kernel⟩, List.mem_of_getElem? (i := 24) (by decide +kernel), List.mem_of_getElem? (i := 812) (by decide +kernel), List.mem_of_getElem? (i := 813) (by decide +kernel)⟩
theorem lw_p19 : lw_okq (⟨"Tagwranglery", "worksSeenBy", "(I)I"⟩, 13) := ⟨⟨by decide +kernel, by decide +kernel⟩, List.mem_of_getElem? (i := 24) (by decide +kernel), List.mem_of_getElem? (i := 818) (by decide +kernel), List.mem_of_getElem? (i := 819) (by decide +kernel)⟩
theorem lw_p20 : lw_okq (⟨"Tagwranglery", "countAheadOf", "(II)I"⟩, 13) := ⟨⟨by decide +kernel, by decide +kernel⟩, List.mem_of_getElem? (i := 24) (by decide +kernel), List.mem_of_getElem? (i := 830) (by decide +kernel), List.mem_of_getElem? (i := 831) (by decide +kernel)⟩
theorem lw_p21 : lw_okq (⟨"Tagwranglery$Gifts", "lowestReceiver", "(II)I"⟩, 4) := ⟨⟨by decide +kernel, by decide +kernel⟩, List.mem_of_getElem? (i := 123) (by decide +kernel), List.mem_of_getElem? (i := 897) (by decide +kernel), List.mem_of_getElem? (i := 898) (by decide +kernel)⟩
theorem lw_p22 : lw_okq (⟨"Tagwranglery", "commentAt", "(I)LTagwranglery$Comment;"⟩, 13) := ⟨⟨by decide +kernel, by decide +kernel⟩, List.mem_of_getElem? (i := 24) (by decide +kernel), List.mem_of_getElem? (i := 915) (by decide +kernel), List.mem_of_getElem? (i := 916) (by decide +kernel)⟩
theorem lw_p23 : lw_okq (⟨"Tagwranglery", "mayComment", "(LTagwranglery$Work;ILTagwranglery$Comment;)Z"⟩, 13) := ⟨⟨by decide +kernel, by decide +kernel⟩, List.mem_of_getElem? (i := 24) (by decide +kernel), List.mem_of_getElem? (i := 921) (by decide +kernel), List.mem_of_getElem? (i := 922) (by decide +kernel)⟩
theorem lw_p24 : lw_okq (⟨"Tagwranglery", "isBlockedByAny", "(II)Z"⟩, 13) := ⟨⟨by decide +kernel, by decide +kernel⟩, List.mem_of_getElem? (i := 24) (by decide +kernel), List.mem_of_getElem? (i := 925) (by decide +kernel), List.mem_of_getElem? (i := 926) (by decide +kernel)⟩
theorem lw_p25 : lw_okq (⟨"Tagwranglery", "isBlockedBy", "(II)Z"⟩, 13) := ⟨⟨by decide +kernel, by decide +kernel⟩, List.mem_of_getElem? (i := 24) (by decide +kernel), List.mem_of_getElem? (i := 929) (by decide +kernel), List.mem_of_getElem? (i := 930) (by decide +kernel)⟩
theorem lw_p26 : lw_okq (⟨"Tagwranglery", "isReadBy", "(ILTagwranglery$Comment;LTagwranglery$Work;)Z"⟩, 13) := ⟨⟨by decide +kernel, by decide +kernel⟩, List.mem_of_getElem? (i := 24) (by decide +kernel), List.mem_of_getElem? (i := 933) (by decide +kernel), List.mem_of_getElem? (i := 934) (by decide +kernel)⟩
theorem lw_p27 : lw_okq (⟨"Tagwranglery", "countKudos", "(LTagwranglery$Work;)I"⟩, 13) := ⟨⟨by decide +kernel, by decide +kernel⟩, List.mem_of_getElem? (i := 24) (by decide +kernel), List.mem_of_getElem? (i := 992) (by decide +kernel), List.mem_of_getElem? (i := 993) (by decide +kernel)⟩
theorem lw_p28 : lw_okq (⟨"Tagwranglery", "newChapters", "(II)I"⟩, 13) := ⟨⟨by decide +kernel, by decide +kernel⟩, List.mem_of_getElem? (i := 24) (by decide +kernel), List.mem_of_getElem? (i := 1017) (by decide +kernel), List.mem_of_getElem? (i := 1018) (by decide +kernel)⟩
theorem lw_p29 : lw_okq (⟨"TagwrangleryModel", "holds", "(I)Z"⟩, 47) := ⟨⟨by decide +kernel, by decide +kernel⟩, List.mem_of_getElem? (i := 1042) (by decide +kernel), List.mem_of_getElem? (i := 1201) (by decide +kernel), List.mem_of_getElem? (i := 1202) (by decide +kernel)⟩
theorem lw_p30 : lw_okq (⟨"TagwrangleryModel", "isWork", "(I)Z"⟩, 47) := ⟨⟨by decide +kernel, by decide +kernel⟩, List.mem_of_getElem? (i := 1042) (by decide +kernel), List.mem_of_getElem? (i := 1227) (by decide +kernel), List.mem_of_getElem? (i := 1228) (by decide +kernel)⟩
theorem lw_p31 : lw_okq (⟨"TagwrangleryModel", "isSeen", "(II)Z"⟩, 47) := ⟨⟨by decide +kernel, by decide +kernel⟩, List.mem_of_getElem? (i := 1042) (by decide +kernel), List.mem_of_getElem? (i := 1265) (by decide +kernel), List.mem_of_getElem? (i := 1266) (by decide +kernel)⟩
def lw_privs_2 : List (MethodName × Nat) := [(⟨"Tagwranglery$Sieve", "clear", "()V"⟩, 4), (⟨"Tagwranglery", "worksOfItem", "(CIIZ)I"⟩, 13), (⟨"Tagwranglery", "isTagSo", "(LTagwranglery$Work;IZ)Z"⟩, 13), (⟨"Tagwranglery", "worksSeenBy", "(I)I"⟩, 13), (⟨"Tagwranglery", "countAheadOf", "(II)I"⟩, 13), (⟨"Tagwranglery$Gifts", "lowestReceiver", "(II)I"⟩, 4), (⟨"Tagwranglery", "commentAt", "(I)LTagwranglery$Comment;"⟩, 13), (⟨"Tagwranglery", "mayComment", "(LTagwranglery$Work;ILTagwranglery$Comment;)Z"⟩, 13), (⟨"Tagwranglery", "isBlockedByAny", "(II)Z"⟩, 13), (⟨"Tagwranglery", "isBlockedBy", "(II)Z"⟩, 13), (⟨"Tagwranglery", "isReadBy", "(ILTagwranglery$Comment;LTagwranglery$Work;)Z"⟩, 13), (⟨"Tagwranglery", "countKudos", "(LTagwranglery$Work;)I"⟩, 13), (⟨"Tagwranglery", "newChapters", "(II)I"⟩, 13), (⟨"TagwrangleryModel", "holds", "(I)Z"⟩, 47), (⟨"TagwrangleryModel", "isWork", "(I)Z"⟩, 47), (⟨"TagwrangleryModel", "isSeen", "(II)Z"⟩, 47)]
theorem lw_r2 : ∀ q ∈ lw_privs_2, lw_okq q := List.forall_mem_cons.mpr ⟨lw_p16, List.forall_mem_cons.mpr ⟨lw_p17, List.forall_mem_cons.mpr ⟨lw_p18, List.forall_mem_cons.mpr ⟨lw_p19, List.forall_mem_cons.mpr ⟨lw_p20, List.forall_mem_cons.mpr ⟨lw_p21, List.forall_mem_cons.mpr ⟨lw_p22, List.forall_mem_cons.mpr ⟨lw_p23, List.forall_mem_cons.mpr ⟨lw_p24, List.forall_mem_cons.mpr ⟨lw_p25, List.forall_mem_cons.mpr ⟨lw_p26, List.forall_mem_cons.mpr ⟨lw_p27, List.forall_mem_cons.mpr ⟨lw_p28, List.forall_mem_cons.mpr ⟨lw_p29, List.forall_mem_cons.mpr ⟨lw_p30, List.forall_mem_cons.mpr ⟨lw_p31, fun _ h => absurd h List.not_mem_nil⟩⟩⟩⟩⟩⟩⟩⟩⟩⟩⟩⟩⟩⟩⟩⟩
theorem lw_p32 : lw_okq (⟨"TagwrangleryModel", "isOwner", "(II)Z"⟩, 47) := ⟨⟨by decide +kernel, by decide +kernel⟩, List.mem_of_getElem? (i := 1042) (by decide +kernel), List.mem_of_getElem? (i := 1269) (by decide +kernel), List.mem_of_getElem? (i := 1270) (by decide +kernel)⟩
theorem lw_p33 : lw_okq (⟨"TagwrangleryModel", "areTold", "(II)Z"⟩, 47) := ⟨⟨by decide +kernel, by decide +kernel⟩, List.mem_of_getElem? (i := 1042) (by decide +kernel), List.mem_of_getElem? (i := 1277) (by decide +kernel), List.mem_of_getElem? (i := 1278) (by decide +kernel)⟩
theorem lw_p34 : lw_okq (⟨"TagwrangleryModel", "isTag", "(I)Z"⟩, 47) := ⟨⟨by decide +kernel, by decide +kernel⟩, List.mem_of_getElem? (i := 1042) (by decide +kernel), List.mem_of_getElem? (i := 1289) (by decide +kernel), List.mem_of_getElem? (i := 1290) (by decide +kernel)⟩
theorem lw_p35 : lw_okq (⟨"TagwrangleryModel", "letsWait", "()V"⟩, 47) := ⟨⟨by decide +kernel, by decide +kernel⟩, List.mem_of_getElem? (i := 1042) (by decide +kernel), List.mem_of_getElem? (i := 1293) (by decide +kernel), List.mem_of_getElem? (i := 1294) (by decide +kernel)⟩
theorem lw_p36 : lw_okq (⟨"TagwrangleryModel", "aboveOf", "(I)I"⟩, 47) := ⟨⟨by decide +kernel, by decide +kernel⟩, List.mem_of_getElem? (i := 1042) (by decide +kernel), List.mem_of_getElem? (i := 1301) (by decide +kernel), List.mem_of_getElem? (i := 1302) (by decide +kernel)⟩
theorem lw_p37 : lw_okq (⟨"TagwrangleryModel", "meaning", "(I)I"⟩, 47) := ⟨⟨by decide +kernel, by decide +kernel⟩, List.mem_of_getElem? (i := 1042) (by decide +kernel), List.mem_of_getElem? (i := 1313) (by decide +kernel), List.mem_of_getElem? (i := 1314) (by decide +kernel)⟩
theorem lw_p38 : lw_okq (⟨"TagwrangleryModel", "files", "(I)V"⟩, 47) := ⟨⟨by decide +kernel, by decide +kernel⟩, List.mem_of_getElem? (i := 1042) (by decide +kernel), List.mem_of_getElem? (i := 1321) (by decide +kernel), List.mem_of_getElem? (i := 1322) (by decide +kernel)⟩
theorem lw_p39 : lw_okq (⟨"TagwrangleryModel", "belongs", "(I)I"⟩, 47) := ⟨⟨by decide +kernel, by decide +kernel⟩, List.mem_of_getElem? (i := 1042) (by decide +kernel), List.mem_of_getElem? (i := 1325) (by decide +kernel), List.mem_of_getElem? (i := 1326) (by decide +kernel)⟩
theorem lw_p40 : lw_okq (⟨"TagwrangleryModel", "faultOf", "()I"⟩, 47) := ⟨⟨by decide +kernel, by decide +kernel⟩, List.mem_of_getElem? (i := 1042) (by decide +kernel), List.mem_of_getElem? (i := 1360) (by decide +kernel), List.mem_of_getElem? (i := 1361) (by decide +kernel)⟩
theorem lw_p41 : lw_okq (⟨"TagwrangleryModel", "searchOf", "(IZ)I"⟩, 47) := ⟨⟨by decide +kernel, by decide +kernel⟩, List.mem_of_getElem? (i := 1042) (by decide +kernel), List.mem_of_getElem? (i := 1371) (by decide +kernel), List.mem_of_getElem? (i := 1372) (by decide +kernel)⟩
theorem lw_p42 : lw_okq (⟨"TagwrangleryModel", "isSo", "(IIZ)Z"⟩, 47) := ⟨⟨by decide +kernel, by decide +kernel⟩, List.mem_of_getElem? (i := 1042) (by decide +kernel), List.mem_of_getElem? (i := 1375) (by decide +kernel), List.mem_of_getElem? (i := 1376) (by decide +kernel)⟩
theorem lw_p43 : lw_okq (⟨"TagwrangleryModel", "opens", "()V"⟩, 47) := ⟨⟨by decide +kernel, by decide +kernel⟩, List.mem_of_getElem? (i := 1042) (by decide +kernel), List.mem_of_getElem? (i := 1379) (by decide +kernel), List.mem_of_getElem? (i := 1380) (by decide +kernel)⟩
theorem lw_p44 : lw_okq (⟨"TagwrangleryModel", "gets", "(Z)V"⟩, 47) := ⟨⟨by decide +kernel, by decide +kernel⟩, List.mem_of_getElem? (i := 1042) (by decide +kernel), List.mem_of_getElem? (i := 1383) (by decide +kernel), List.mem_of_getElem? (i := 1384) (by decide +kernel)⟩
theorem lw_p45 : lw_okq (⟨"TagwrangleryModel", "isOfTag", "(IIZ)Z"⟩, 47) := ⟨⟨by decide +kernel, by decide +kernel⟩, List.mem_of_getElem? (i := 1042) (by decide +kernel), List.mem_of_getElem? (i := 1387) (by decide +kernel), List.mem_of_getElem? (i := 1388) (by decide +kernel)⟩
theorem lw_p46 : lw_okq (⟨"TagwrangleryModel", "latest", "(I)I"⟩, 47) := ⟨⟨by decide +kernel, by decide +kernel⟩, List.mem_of_getElem? (i := 1042) (by decide +kernel), List.mem_of_getElem? (i := 1395) (by decide +kernel), List.mem_of_getElem? (i := 1396) (by decide +kernel)⟩
theorem lw_p47 : lw_okq (⟨"TagwrangleryModel", "outDay", "(II)I"⟩, 47) := ⟨⟨by decide +kernel, by decide +kernel⟩, List.mem_of_getElem? (i := 1042) (by decide +kernel), List.mem_of_getElem? (i := 1399) (by decide +kernel), List.mem_of_getElem? (i := 1400) (by decide +kernel)⟩
def lw_privs_3 : List (MethodName × Nat) := [(⟨"TagwrangleryModel", "isOwner", "(II)Z"⟩, 47), (⟨"TagwrangleryModel", "areTold", "(II)Z"⟩, 47), (⟨"TagwrangleryModel", "isTag", "(I)Z"⟩, 47), (⟨"TagwrangleryModel", "letsWait", "()V"⟩, 47), (⟨"TagwrangleryModel", "aboveOf", "(I)I"⟩, 47), (⟨"TagwrangleryModel", "meaning", "(I)I"⟩, 47), (⟨"TagwrangleryModel", "files", "(I)V"⟩, 47), (⟨"TagwrangleryModel", "belongs", "(I)I"⟩, 47), (⟨"TagwrangleryModel", "faultOf", "()I"⟩, 47), (⟨"TagwrangleryModel", "searchOf", "(IZ)I"⟩, 47), (⟨"TagwrangleryModel", "isSo", "(IIZ)Z"⟩, 47), (⟨"TagwrangleryModel", "opens", "()V"⟩, 47), (⟨"TagwrangleryModel", "gets", "(Z)V"⟩, 47), (⟨"TagwrangleryModel", "isOfTag", "(IIZ)Z"⟩, 47), (⟨"TagwrangleryModel", "latest", "(I)I"⟩, 47), (⟨"TagwrangleryModel", "outDay", "(II)I"⟩, 47)]
theorem lw_r3 : ∀ q ∈ lw_privs_3, lw_okq q := List.forall_mem_cons.mpr ⟨lw_p32, List.forall_mem_cons.mpr ⟨lw_p33, List.forall_mem_cons.mpr ⟨lw_p34, List.forall_mem_cons.mpr ⟨lw_p35, List.forall_mem_cons.mpr ⟨lw_p36, List.forall_mem_cons.mpr ⟨lw_p37, List.forall_mem_cons.mpr ⟨lw_p38, List.forall_mem_cons.mpr ⟨lw_p39, List.forall_mem_cons.mpr ⟨lw_p40, List.forall_mem_cons.mpr ⟨lw_p41, List.forall_mem_cons.mpr ⟨lw_p42, List.forall_mem_cons.mpr ⟨lw_p43, List.forall_mem_cons.mpr ⟨lw_p44, List.forall_mem_cons.mpr ⟨lw_p45, List.forall_mem_cons.mpr ⟨lw_p46, List.forall_mem_cons.mpr ⟨lw_p47, fun _ h => absurd h List.not_mem_nil⟩⟩⟩⟩⟩⟩⟩⟩⟩⟩⟩⟩⟩⟩⟩⟩
theorem lw_p48 : lw_okq (⟨"TagwrangleryModel", "counts", "()V"⟩, 47) := ⟨⟨by decide +kernel, by decide +kernel⟩, List.mem_of_getElem? (i := 1042) (by decide +kernel), List.mem_of_getElem? (i := 1411) (by decide +kernel), List.mem_of_getElem? (i := 1412) (by decide +kernel)⟩
theorem lw_p49 : lw_okq (⟨"TagwrangleryModel", "suits", "(II)Z"⟩, 47) := ⟨⟨by decide +kernel, by decide +kernel⟩, List.mem_of_getElem? (i := 1042) (by decide +kernel), List.mem_of_getElem? (i := 1415) (by decide +kernel), List.mem_of_getElem? (i := 1416) (by decide +kernel)⟩
theorem lw_p50 : lw_okq (⟨"TagwrangleryModel", "canComment", "(III)Z"⟩, 47) := ⟨⟨by decide +kernel, by decide +kernel⟩, List.mem_of_getElem? (i := 1042) (by decide +kernel), List.mem_of_getElem? (i := 1431) (by decide +kernel), List.mem_of_getElem? (i := 1432) (by decide +kernel)⟩
theorem lw_p51 : lw_okq (⟨"TagwrangleryModel", "isBlocked", "(II)Z"⟩, 47) := ⟨⟨by decide +kernel, by decide +kernel⟩, List.mem_of_getElem? (i := 1042) (by decide +kernel), List.mem_of_getElem? (i := 1435) (by decide +kernel), List.mem_of_getElem? (i := 1436) (by decide +kernel)⟩
theorem lw_p52 : lw_okq (⟨"TagwrangleryModel", "isRead", "(II)Z"⟩, 47) := ⟨⟨by decide +kernel, by decide +kernel⟩, List.mem_of_getElem? (i := 1042) (by decide +kernel), List.mem_of_getElem? (i := 1439) (by decide +kernel), List.mem_of_getElem? (i := 1440) (by decide +kernel)⟩
theorem lw_p53 : lw_okq (⟨"TagwrangleryModel", "gave", "(I)I"⟩, 47) := ⟨⟨by decide +kernel, by decide +kernel⟩, List.mem_of_getElem? (i := 1042) (by decide +kernel), List.mem_of_getElem? (i := 1455) (by decide +kernel), List.mem_of_getElem? (i := 1456) (by decide +kernel)⟩
theorem lw_p54 : lw_okq (⟨"TagwrangleryModel", "isNews", "(III)Z"⟩, 47) := ⟨⟨by decide +kernel, by decide +kernel⟩, List.mem_of_getElem? (i := 1042) (by decide +kernel), List.mem_of_getElem? (i := 1471) (by decide +kernel), List.mem_of_getElem? (i := 1472) (by decide +kernel)⟩
def lw_privs_4 : List (MethodName × Nat) := [(⟨"TagwrangleryModel", "counts", "()V"⟩, 47), (⟨"TagwrangleryModel", "suits", "(II)Z"⟩, 47), (⟨"TagwrangleryModel", "canComment", "(III)Z"⟩, 47), (⟨"TagwrangleryModel", "isBlocked", "(II)Z"⟩, 47), (⟨"TagwrangleryModel", "isRead", "(II)Z"⟩, 47), (⟨"TagwrangleryModel", "gave", "(I)I"⟩, 47), (⟨"TagwrangleryModel", "isNews", "(III)Z"⟩, 47)]
theorem lw_r4 : ∀ q ∈ lw_privs_4, lw_okq q := List.forall_mem_cons.mpr ⟨lw_p48, List.forall_mem_cons.mpr ⟨lw_p49, List.forall_mem_cons.mpr ⟨lw_p50, List.forall_mem_cons.mpr ⟨lw_p51, List.forall_mem_cons.mpr ⟨lw_p52, List.forall_mem_cons.mpr ⟨lw_p53, List.forall_mem_cons.mpr ⟨lw_p54, fun _ h => absurd h List.not_mem_nil⟩⟩⟩⟩⟩⟩⟩
def lw_privs : List (MethodName × Nat) := lw_privs_1 ++ (lw_privs_2 ++ (lw_privs_3 ++ (lw_privs_4)))
def lw_tbl : List Cond := k2_sels lw_privs ++ tables_1
theorem lw_privs_ok : ∀ q ∈ lw_privs, lw_okq q := by
  show ∀ q ∈ lw_privs_1 ++ (lw_privs_2 ++ (lw_privs_3 ++ (lw_privs_4))), lw_okq q
  exact List.forall_mem_append.mpr ⟨lw_r1, List.forall_mem_append.mpr ⟨lw_r2, List.forall_mem_append.mpr ⟨lw_r3, lw_r4⟩⟩⟩
-- ===== end of PART A; then your names; then what follows =====
end
section
/-! ===== BEGIN words of one list among another's, by their places ===== -/
theorem goodIn_r {big : List Cond} (ws : List Cond) (ps : List Nat) (hp : ws = ps.filterMap (fun i => big[i]?)) (h : ws.all goodWord = true) : GoodIn big ws := by
  intro w hw
  have h1 := List.all_eq_true.mp h w hw
  rw [hp] at hw
  obtain ⟨i, -, hi⟩ := List.mem_filterMap.mp hw
  have hm : w ∈ big := by first | exact List.mem_of_getElem? hi | exact List.getElem?_mem hi
  exact ⟨hm, good_of_word h1⟩
theorem goodIn_app {big a b : List Cond} (ha : GoodIn big a) (hb : GoodIn big b) : GoodIn big (a ++ b) := fun w h => (List.mem_append.mp h).elim (ha w) (hb w)
theorem goodIn_ca {big a b : List Cond} {c : Cond} (ha : GoodIn big (c :: a)) (hb : GoodIn big b) : GoodIn big (c :: (a ++ b)) := fun w h => (List.mem_cons.mp h).elim (fun e => ha w (List.mem_cons.mpr (Or.inl e))) (fun h => (List.mem_append.mp h).elim (fun h => ha w (List.mem_cons.mpr (Or.inr h))) (hb w))
theorem goodIn_sub {big ws : List Cond} (hm : ∀ w ∈ ws, w ∈ big) (h : ws.all goodWord = true) : GoodIn big ws := fun w hw => ⟨hm w hw, good_of_word (List.all_eq_true.mp h w hw)⟩
/-! ===== END ===== -/
/-! ===== BEGIN exceptions that leave a method, and their catching by the caller (launches without stack traces) ===== -/
section VXA
/-! The laws vx_back, vx_callV, vx_callS, vx_callSW, vx_throw0, vx_throwS follow proofs of the library, with one case more: JvmDerived/Free/Laws.lean (Back.of_free), Shelf42/LK1.lean (callV, callS), Shelf/KitTraced.lean (throwNew0V, throwNewS). -/
/-- where a method has thrown q: the class by its name, the cell, what was written, the world -/
def vx_T (XC : String → State → State → Prop) (st : State) (q : Addr) (t : State) (mc ms : Nat) (free : Addr → Prop) : Prop :=
  ∃ (E : String) (ce : Cell) (L : List Loc), XC E st t ∧ t.heap[q]? = some ce ∧ ce.vm = .none ∧ st.vm.findClass E = some ce.cls ∧ st.WarmedH t.vm ∧ st.sameButNew ({ t with vm := st.vm } : State) L mc ms ∧ ∀ z ∈ L, free z.base
def vx_Q (Qc : Array Value → State → Outcome → State → Prop) (XC : String → State → State → Prop) (mc ms : Nat) (free : Addr → Prop) : Array Value → State → Outcome → State → Prop := fun a st o t =>
  (Qc a st o t ∧ ∃ L, FrameEnd st o t L mc ms ∧ ∀ q ∈ L, free q.base) ∨ ∃ q, o = .threw q ∧ vx_T XC st q t mc ms free
/-- a callee that returns or throws -/
def vx_Met (l : Launch) (y : MethodName) (ws : List Cond) (rm : Room) (Pc : Array Value → State → Prop) (Qc : Array Value → State → Outcome → State → Prop) (XC : String → State → State → Prop) (mc ms : Nat) (free : Addr → Prop) : Prop :=
  MetFree l y (headSpec ws rm) Pc (fun _ _ _ _ _ => True) (vx_Q Qc XC mc ms free)
def vx_Post (XC : String → State → State → Prop) (mc ms : Nat) (free : Addr → Prop) : Pt → Array Value → Addr → Pt → Prop := fun A a q B =>
  ∃ (g : JFrame) (mk : MethodId) (t : State) (L : List Loc) (E : String) (ce : Cell), B.U.heap = t.heap ∧ B.U.vm = t.vm ∧ XC E (A.U.calling g mk a) t ∧ t.heap[q]? = some ce ∧ ce.vm = .none ∧ A.U.vm.findClass E = some ce.cls ∧ B.locs = A.locs ++ L ∧ (∀ z ∈ L, free z.base) ∧ B.cells = A.cells + mc ∧ B.slots = A.slots + ms
def vx_Back (l : Launch) (R : Room) (p : Program) (e : Env) (below : List Frame) (s : State) (sargs : Array Value) (y : MethodName) (len W9 : Nat)
    (Pre : Pt → Array Value → Prop) (Post : Pt → Array Value → Option Value → Pt → Prop) (PostX : Pt → Array Value → Addr → Pt → Prop) : Prop :=
  ∀ (m : MethodId) (meth : Method) (c : Code) (A : Pt) (g : JFrame) (ig : Instr) (mk : MethodId) (a : Array Value),
    Stand p l e R s m sargs below meth c A.U A.locs A.cells A.slots → g.method = m → g.locals.size = c.maxLocals → decode c.code g.pc = .ok (ig, len) →
    2 * g.monitorRoom + (g.stack.map fun v => v.category).sum ≤ W9 → A.U.methodNamed? y = some mk → Pre A a →
    (∃ (v : Option Value) (B : Pt), Stand p l e R s m sargs below meth c B.U B.locs B.cells B.slots ∧ Post A a v B ∧
      Steps p.tables e below (doInvoke e (A.U.setTop g) [] mk a).1 (B.U.setTop { g with pc := g.pc + len, stack := v.toList ++ g.stack })) ∨
    (∃ (q : Addr) (B : Pt), Stand p l e R s m sargs below meth c B.U B.locs B.cells B.slots ∧ PostX A a q B ∧
      Steps p.tables e below (doInvoke e (A.U.setTop g) [] mk a).1 ((B.U.setTop g).pushFrame (.throwing q)))
section Payer
variable {l : Launch} {R : Room} {p : Program} {e : Env} {below : List Frame} {s : State} {sargs : Array Value} {y : MethodName} {len W9 : Nat}
theorem vx_back {ws : List Cond} {rm : Room} {Pc : Array Value → State → Prop} {Qc : Array Value → State → Outcome → State → Prop} {XC : String → State → State → Prop} {mc ms : Nat} {free : Addr → Prop} {bytes : ByteArray} {maxL : Nat} {ret : Option FieldType}
    (hM : vx_Met l y ws rm Pc Qc XC mc ms free) (hblind : FrameBlind Pc) (hrc : rm.cells = mc) (hrs : rm.slots = ms)
    (hframes : rm.frames + 1 ≤ R.frames) (hlocals : W9 + (maxL + 11) + rm.locals ≤ R.locals)
    (hws : ∀ w ∈ ws, ∀ a' U, s.WarmedH U.vm → w.before a' U = true) (hcode : Cond.code y bytes maxL ret ∈ ws) (hinit : ∀ a' U, s.WarmedH U.vm → (Cond.initialized y.cls).before a' U = true) :
    vx_Back l R p e below s sargs y len W9 (PreOf R mc ms Pc) (PostOf Qc mc ms free) (vx_Post XC mc ms free) := by
  intro m meth c A g ig mk a X hg hsize hdg hW hn hp
  have h1 : (headSpec ws rm).pre.before a A.U = true := atoms_intro fun w hw => hws w hw _ _ X.warmed
  have h2 : (Cond.code y bytes maxL ret).before a A.U = true := hws _ hcode _ _ X.warmed
  have h3 : (Cond.initialized y.cls).before a A.U = true := hinit _ _ X.warmed
  have h4 : A.cells + (headSpec ws rm).room.cells ≤ R.cells := by rw [show (headSpec ws rm).room.cells = mc from hrc]; exact hp.1
  have h5 : A.slots + (headSpec ws rm).room.slots ≤ R.slots := by rw [show (headSpec ws rm).room.slots = ms from hrs]; exact hp.2.1
  have hPc : Pc a (A.U.calling g mk a) := hblind _ _ _ _ hp.2.2
  obtain ⟨U, Ls, c0, s0⟩ := A
  dsimp only [Pt.U, Pt.locs, Pt.cells, Pt.slots] at h1 h2 h3 h4 h5 X hn hPc ⊢
  obtain ⟨methY, cY, hmY, hcY, -, hlY, -, -, -, -⟩ := Cond.code_spec hn h2
  obtain ⟨kY, hkY, -⟩ := className_of_methodNamed hn
  have hinitY : kY.init = .initialized := Cond.initialized_spec (findClass_of_methodNamed hn) hkY h3
  have h : At U g.method c below := by rw [hg]; exact X.here
  have hlocals9 : W9 + (maxL + 11) + (headSpec ws rm).room.locals ≤ R.locals := hlocals
  have happ : (headSpec ws rm).appliesLoose y e.platform (U.calling g mk a) = true :=
    Spec.appliesLoose_calling (g := g) h hdg hn hkY hinitY
      (X.room_calling (g := g) (R' := (headSpec ws rm).room) hsize hmY hcY hframes (by rw [hlY]; omega) h4 h5) h1
  obtain ⟨mid, hmid⟩ := h.above
  have hfr : (U.setTop g).frames = (.java g :: mid) ++ below := by rw [State.frames_setTop' g h.top, hmid]; rfl
  obtain ⟨o, s₂, hsteps, -, hend, hq⟩ := Steps.callFree hM p X.admits X.cas X.clock (acts := []) hfr happ hPc trivial
  have hq' : vx_Q Qc XC mc ms free a (U.calling g mk a) o s₂ := hq
  rw [State.frames_setTop' g h.top] at hend
  obtain ⟨g₀, hg0⟩ := Option.isSome_iff_exists.mp h.top
  obtain ⟨r, hr⟩ := State.topJava?_eq_some.mp hg0
  have hr' : (({ U with heap := s₂.heap, slotsUsed := s₂.slotsUsed } : State).setVm s₂.vm).frames = .java g₀ :: r := hr
  rcases hq' with ⟨hqc, L, hfe, hL⟩ | ⟨q, rfl, E, ce, L, hx, hce, hcv, hcl, hW₂, hsm, hL⟩
  · obtain ⟨⟨v, rfl⟩, hW₂, e2, q2, q3, q4, q5, q6⟩ := id hfe
    have e3 : s₂ = ({ (U.calling g mk a).setFrames s₂.frames with heap := s₂.heap, slotsUsed := s₂.slotsUsed } : State).setVm s₂.vm := by
      have : s₂ = ({ s₂ with vm := (U.calling g mk a).vm } : State).setVm s₂.vm := rfl
      rw [e2] at this
      exact this
    obtain ⟨c₂, i₂, len₂, hc₂, hd₂, hf₂⟩ := hend
    have hW' : U.WarmedH s₂.vm := hW₂
    have hcc : c₂ = c := by
      have h1 : s₂.code? g.method = U.code? g.method := by
        rw [State.code?_eq, State.code?_eq, hW'.alike.method?]
      exact Option.some.inj (hc₂.symm.trans (h1.trans h.code))
    subst hcc
    have hlen : len₂ = len := by rw [hdg] at hd₂; cases hd₂; rfl
    subst hlen
    have hs₂ : s₂ = (({ U with heap := s₂.heap, slotsUsed := s₂.slotsUsed } : State).setVm s₂.vm).setTop { g with pc := g.pc + len₂, stack := v.toList ++ g.stack } := by
      refine e3.trans ?_
      rw [hf₂, State.calling_eq h.top, State.setFrames_setFrames, State.setTop_of_frames _ hr', hr]
      rfl
    have hsame : U.sameButNew ({ U with heap := s₂.heap, slotsUsed := s₂.slotsUsed } : State) L mc ms := by
      refine ⟨?_, q2, q3, q4, q5, q6⟩
      obtain ⟨t, ht, -⟩ := State.frames_cons hr
      show ({ U with heap := s₂.heap, slotsUsed := s₂.slotsUsed } : State) = { U.setFrames U.frames with heap := s₂.heap, slotsUsed := s₂.slotsUsed }
      rw [State.setFrames_self ht]
    subst hg
    refine Or.inl ⟨v, ⟨(({ U with heap := s₂.heap, slotsUsed := s₂.slotsUsed } : State).setVm s₂.vm), Ls ++ L, c0 + mc, s0 + ms⟩,
      ⟨X.admits, X.cas, X.clock, X.frames, X.room, X.hears, X.method, X.code, (X.here.setHeapUsed s₂.heap s₂.slotsUsed).setVm hW'.alike, X.tail, State.WarmedH.trans X.warmed hW', X.limits, X.bytes, X.same.trans (hsame.setVm s.vm)⟩,
      ⟨g, mk, s₂, L, rfl, rfl, hqc, rfl, hL, rfl, rfl⟩, ?_⟩
    show Steps p.tables e below _ ((({ U with heap := s₂.heap, slotsUsed := s₂.slotsUsed } : State).setVm s₂.vm).setTop { g with pc := g.pc + len₂, stack := v.toList ++ g.stack })
    rw [← hs₂]
    exact hsteps
  · obtain ⟨e2, q2, q3, q4, q5, q6⟩ := id hsm
    have e3 : s₂ = ({ (U.calling g mk a).setFrames s₂.frames with heap := s₂.heap, slotsUsed := s₂.slotsUsed } : State).setVm s₂.vm := by
      have : s₂ = ({ s₂ with vm := (U.calling g mk a).vm } : State).setVm s₂.vm := rfl
      rw [e2] at this
      exact this
    have hf₂ : s₂.frames = .throwing q :: .java g :: U.frames.tail := hend
    have hW' : U.WarmedH s₂.vm := hW₂
    have hs₂ : s₂ = ((({ U with heap := s₂.heap, slotsUsed := s₂.slotsUsed } : State).setVm s₂.vm).setTop g).pushFrame (.throwing q) := by
      refine e3.trans ?_
      rw [hf₂, State.calling_eq h.top, State.setFrames_setFrames, State.pushFrame, State.frames_setTop _ hr', State.setTop_of_frames _ hr', State.setFrames_setFrames, hr]
      rfl
    have hsame : U.sameButNew ({ U with heap := s₂.heap, slotsUsed := s₂.slotsUsed } : State) L mc ms := by
      refine ⟨?_, q2, q3, q4, q5, q6⟩
      obtain ⟨t, ht, -⟩ := State.frames_cons hr
      show ({ U with heap := s₂.heap, slotsUsed := s₂.slotsUsed } : State) = { U.setFrames U.frames with heap := s₂.heap, slotsUsed := s₂.slotsUsed }
      rw [State.setFrames_self ht]
    subst hg
    refine Or.inr ⟨q, ⟨(({ U with heap := s₂.heap, slotsUsed := s₂.slotsUsed } : State).setVm s₂.vm), Ls ++ L, c0 + mc, s0 + ms⟩,
      ⟨X.admits, X.cas, X.clock, X.frames, X.room, X.hears, X.method, X.code, (X.here.setHeapUsed s₂.heap s₂.slotsUsed).setVm hW'.alike, X.tail, State.WarmedH.trans X.warmed hW', X.limits, X.bytes, X.same.trans (hsame.setVm s.vm)⟩,
      ⟨g, mk, s₂, L, E, ce, rfl, rfl, hx, hce, hcv, hcl, rfl, hL, rfl, rfl⟩, ?_⟩
    show Steps p.tables e below _ (((({ U with heap := s₂.heap, slotsUsed := s₂.slotsUsed } : State).setVm s₂.vm).setTop g).pushFrame (.throwing q))
    rw [← hs₂]
    exact hsteps
end Payer
section Calls
variable {p : Program} {l : Launch} {e : Env} {R : Room} {s : State} {m : MethodId} {args : Array Value} {below : List Frame} {meth : Method} {c : Code} {T : State} {locs : List Loc} {cells slots : Nat}
theorem vx_callV (X : Stand p l e R s m args below meth c T locs cells slots) (hexec : p.tables.exec = Jvm.exec) {own C : String} {index : Nat} {y : MethodName} {bytes : ByteArray} {maxL : Nat} {ret : Option FieldType}
    (hown : s.vm.findClass own = some m.cls) (hlink : (Cond.methodLink own index y).before args s = true) (hinst : (Cond.instanceMethod y).before args s = true) (hsel : (Cond.selects C y y).before args s = true)
    (hcode : (Cond.code y bytes maxL ret).before args s = true) (hy : y.cls ≠ "java/lang/invoke/MethodHandle" ∧ y.cls ≠ "java/lang/invoke/VarHandle")
    {W9 : Nat} {Pre : Pt → Array Value → Prop} {Post : Pt → Array Value → Option Value → Pt → Prop} {PostX : Pt → Array Value → Addr → Pt → Prop} (hK : vx_Back l R p e below s args y 3 W9 Pre Post PostX)
    {b : Addr} {cellB : Cell} (hcell : T.heap[b]? = some cellB) (hobj : cellB.vm.isStatics = false) (hcls : s.vm.findClass C = some cellB.cls)
    {g : JFrame} (hg : g.method = m) (hsize : g.locals.size = c.maxLocals) {argsL rest : List Value} (hlen : ∀ sig, parseMethodDescriptor y.desc = some sig → argsL.length = sig.parameters.length)
    (hstack : g.stack = argsL.reverse ++ .ref b :: rest) (hW : 2 * g.monitorRoom + (rest.map fun v => v.category).sum ≤ W9) (hdg : decode c.code g.pc = .ok (.invokevirtual index, 3))
    (hpre : ∀ vm₁, s.WarmedH vm₁ → Pre ⟨T.setVm vm₁, locs, cells, slots⟩ (Value.ref b :: argsL).toArray) :
    (∃ (v : Option Value) (vm₁ : Vm) (B : Pt), s.WarmedH vm₁ ∧ Stand p l e R s m args below meth c B.U B.locs B.cells B.slots ∧ Post ⟨T.setVm vm₁, locs, cells, slots⟩ (Value.ref b :: argsL).toArray v B ∧
      ∀ target, Steps p.tables e below (B.U.setTop { g with pc := g.pc + 3, stack := v.toList ++ rest }) target → Steps p.tables e below (T.setTop g) target) ∨
    (∃ (q : Addr) (vm₁ : Vm) (B : Pt), s.WarmedH vm₁ ∧ Stand p l e R s m args below meth c B.U B.locs B.cells B.slots ∧ PostX ⟨T.setVm vm₁, locs, cells, slots⟩ (Value.ref b :: argsL).toArray q B ∧
      Steps p.tables e below (T.setTop g) ((B.U.setTop { g with stack := rest }).pushFrame (.throwing q))) := by
  obtain ⟨mk, methM, hnamed, hmethM, hstM, habM⟩ := Cond.instanceMethod_spec hinst
  obtain ⟨methM', cM, hmethM', -, -, -, -, -, -, hsigM⟩ := Cond.code_spec hnamed hcode
  cases hmethM.symm.trans hmethM'
  obtain ⟨c2, r2, m2, q1, q2, q3, q4, kP, hkP, hkPi⟩ := Cond.selects_spec hsel
  cases hcls.symm.trans q1
  cases (State.methodFound?_of_named hnamed hy).symm.trans q2
  cases hnamed.symm.trans q3
  have hselP : selectMethod e.platform s.vm cellB.cls mk = .method mk := by rw [Launch.admits_selectMethod X.admits]; exact q4
  obtain ⟨vm₁, X₁, hstep₁⟩ := X.invokevirtual hexec hown hlink hnamed hmethM hstM hkP hkPi hy (a := b) (cell := cellB) hcell
    (fun z h => by rw [h] at hobj; cases hobj) hselP hmethM habM hkP hkPi (g := g) hg (argsL := argsL) (rest := rest) (hlen _ hsigM) hstack hdg
  rcases hK m meth c ⟨T.setVm vm₁, locs, cells, slots⟩ { g with stack := rest } (.invokevirtual index) mk (Value.ref b :: argsL).toArray X₁ hg hsize hdg hW (X₁.named hnamed) (hpre vm₁ X₁.warmed) with ⟨v, B, X', hpost, hsteps⟩ | ⟨q, B, X', hpost, hsteps⟩
  · exact Or.inl ⟨v, vm₁, B, X₁.warmed, X', hpost, fun target h => hstep₁ _ fun acts => by rw [doInvoke_state]; exact hsteps.trans h⟩
  · exact Or.inr ⟨q, vm₁, B, X₁.warmed, X', hpost, hstep₁ _ fun acts => by rw [doInvoke_state]; exact hsteps⟩
theorem vx_callS (X : Stand p l e R s m args below meth c T locs cells slots) (hexec : p.tables.exec = Jvm.exec) {own : String} {index : Nat} {y : MethodName} {bytes : ByteArray} {maxL : Nat} {ret : Option FieldType}
    (hown : s.vm.findClass own = some m.cls) (hlink : (Cond.methodLink own index y).before args s = true) (hstat : (Cond.static y).before args s = true) (hinit : (Cond.initialized y.cls).before args s = true)
    (hcode : (Cond.code y bytes maxL ret).before args s = true) (hy : y.cls ≠ "java/lang/invoke/MethodHandle" ∧ y.cls ≠ "java/lang/invoke/VarHandle")
    {W9 : Nat} {Pre : Pt → Array Value → Prop} {Post : Pt → Array Value → Option Value → Pt → Prop} {PostX : Pt → Array Value → Addr → Pt → Prop} (hK : vx_Back l R p e below s args y 3 W9 Pre Post PostX)
    {g : JFrame} (hg : g.method = m) (hsize : g.locals.size = c.maxLocals) {argsL rest : List Value} (hlen : ∀ sig, parseMethodDescriptor y.desc = some sig → argsL.length = sig.parameters.length)
    (hstack : g.stack = argsL.reverse ++ rest) (hW : 2 * g.monitorRoom + (rest.map fun v => v.category).sum ≤ W9) (hdg : decode c.code g.pc = .ok (.invokestatic index, 3))
    (hpre : ∀ vm₁, s.WarmedH vm₁ → Pre ⟨T.setVm vm₁, locs, cells, slots⟩ argsL.toArray) :
    (∃ (v : Option Value) (vm₁ : Vm) (B : Pt), s.WarmedH vm₁ ∧ Stand p l e R s m args below meth c B.U B.locs B.cells B.slots ∧ Post ⟨T.setVm vm₁, locs, cells, slots⟩ argsL.toArray v B ∧
      ∀ target, Steps p.tables e below (B.U.setTop { g with pc := g.pc + 3, stack := v.toList ++ rest }) target → Steps p.tables e below (T.setTop g) target) ∨
    (∃ (q : Addr) (vm₁ : Vm) (B : Pt), s.WarmedH vm₁ ∧ Stand p l e R s m args below meth c B.U B.locs B.cells B.slots ∧ PostX ⟨T.setVm vm₁, locs, cells, slots⟩ argsL.toArray q B ∧
      Steps p.tables e below (T.setTop g) ((B.U.setTop { g with stack := rest }).pushFrame (.throwing q))) := by
  obtain ⟨mk, hnamed⟩ := Cond.code_named hcode
  obtain ⟨methM, cM, hmethM, -, -, -, -, -, -, hsigM⟩ := Cond.code_spec hnamed hcode
  have hstatic : methM.isStatic = true := Cond.static_spec hnamed hmethM hstat
  obtain ⟨kP, hkP, -⟩ := className_of_methodNamed hnamed
  have hinitP : kP.init = .initialized := Cond.initialized_spec (findClass_of_methodNamed hnamed) hkP hinit
  obtain ⟨vm₁, X₁, hstep₁⟩ := X.invokestatic hexec hown hlink hnamed hmethM hstatic hkP hinitP hy (g := g) hg (argsL := argsL) (rest := rest) (hlen _ hsigM) hstack hdg
  rcases hK m meth c ⟨T.setVm vm₁, locs, cells, slots⟩ { g with stack := rest } (.invokestatic index) mk argsL.toArray X₁ hg hsize hdg hW (X₁.named hnamed) (hpre vm₁ X₁.warmed) with ⟨v, B, X', hpost, hsteps⟩ | ⟨q, B, X', hpost, hsteps⟩
  · exact Or.inl ⟨v, vm₁, B, X₁.warmed, X', hpost, fun target h => hstep₁ _ fun acts => by rw [doInvoke_state]; exact hsteps.trans h⟩
  · exact Or.inr ⟨q, vm₁, B, X₁.warmed, X', hpost, hstep₁ _ fun acts => by rw [doInvoke_state]; exact hsteps⟩
end Calls
theorem vx_cls {s : State} {T : State} {vm₁ : Vm} {E : String} {k : ClassId} (hW : s.WarmedH vm₁) (h : (T.setVm vm₁).vm.findClass E = some k) : s.vm.findClass E = some k := by
  have h1 : vm₁.findClass E = some k := h
  rw [hW.alike.findClass] at h1
  exact h1
/-- the method's frame g, with q thrown over it -/
def vx_W (p : Program) (l : Launch) (e : Env) (R : Room) (s : State) (m : MethodId) (args : Array Value) (below : List Frame) (meth : Method) (c : Code) (H : Heap) (locs : List Loc) (cells slots : Nat) (Q : State → Prop) (g : JFrame) (q : Addr) : Prop :=
  ∀ T : State, T.heap = H → Stand p l e R s m args below meth c T locs cells slots → ∃ t, Steps p.tables e below ((T.setTop g).pushFrame (.throwing q)) t ∧ Q t
def vx_Run (p : Program) (l : Launch) (e : Env) (R : Room) (s : State) (m : MethodId) (args : Array Value) (below : List Frame) (meth : Method) (c : Code) (H : Heap) (locs : List Loc) (cells slots mc ms : Nat) (g : JFrame) (rest : List Value) (Qa : State → Outcome → State → Prop) (XC : String → State → State → Prop) (free : Addr → Prop) : Prop :=
  ∀ T : State, T.heap = H → Stand p l e R s m args below meth c T locs cells slots →
    (∃ (v : Option Value) (st₀ t T' : State) (L : List Loc), st₀.heap = H ∧ Stand p l e R s m args below meth c T' (locs ++ L) (cells + mc) (slots + ms) ∧ (∀ q ∈ L, free q.base) ∧ T'.heap = t.heap ∧ T'.vm = t.vm ∧ Qa st₀ (.returned v) t ∧
      Goes p e below T g T' { g with pc := g.pc + 3, stack := v.toList ++ rest }) ∨
    (∃ (q : Addr) (st₀ t T' : State) (L : List Loc) (E : String) (ce : Cell), st₀.heap = H ∧ Stand p l e R s m args below meth c T' (locs ++ L) (cells + mc) (slots + ms) ∧ (∀ z ∈ L, free z.base) ∧ T'.heap = t.heap ∧ T'.vm = t.vm ∧ XC E st₀ t ∧ t.heap[q]? = some ce ∧ ce.vm = .none ∧ s.vm.findClass E = some ce.cls ∧
      Steps p.tables e below (T.setTop g) ((T'.setTop { g with stack := rest }).pushFrame (.throwing q)))
def vx_X {S : Type} (px : S → Prop) (B : String → S → State → Prop) (A : Nat → Prop) : String → State → State → Prop := fun E st t => ∃ u : S, px u ∧ B E u t ∧ va_F A st t
section Runs
variable {p : Program} {l : Launch} {e : Env} {R : Room} {s : State} {m : MethodId} {args : Array Value} {below : List Frame} {meth : Method} {c : Code} {H : Heap} {locs : List Loc} {cells slots : Nat}
variable {y : MethodName} {bytes cc : ByteArray} {maxL nL mc ms n index : Nat} {ret : Option FieldType} {ws : List Cond} {rm : Room} {Pc : Array Value → State → Prop} {Qc : Array Value → State → Outcome → State → Prop} {XC : String → State → State → Prop} {free : Addr → Prop} {Ts : List Cond} {own C : String} {b : Addr} {As rest : List Value} {g : JFrame}
theorem vx_callBack (cb : CallB R s args own index y bytes maxL ret ws rm mc ms n) (hM : vx_Met l y ws rm Pc Qc XC mc ms free) (hbl : FrameBlind Pc) : vx_Back l R p e below s args y 3 8 (PreOf R mc ms Pc) (PostOf Qc mc ms free) (vx_Post XC mc ms free) := by
  obtain ⟨hrc, hrs, hfr, hlo, hws, hcw, -, hini, -⟩ := cb
  exact vx_back (bytes := bytes) (maxL := maxL) (ret := ret) hM hbl hrc hrs hfr hlo hws hcw (fun a' U hW => word_at hW (Or.inl (by first | rfl | simp [Cond.onTables, Cond.keeps, Cond.steady])) hini)
theorem vx_runV (S : CallFix p m c cc nL s args Ts own) (hM : vx_Met l y ws rm Pc Qc XC mc ms free) (cw : CallW R s args own C index y bytes maxL ret ws rm mc ms n) (hp : PreV s H C b Pc As)
    (hg : g.method = m) (hn : As.length = n) (hsize : g.locals.size = nL) (hstack : g.stack = As.reverse ++ .ref b :: rest) (hW : 2 * g.monitorRoom + (rest.map fun v => v.category).sum ≤ 8) (hdg : decode cc g.pc = .ok (.invokevirtual index, 3)) (hf : cells + mc ≤ R.cells ∧ slots + ms ≤ R.slots) :
    vx_Run p l e R s m args below meth c H locs cells slots mc ms g rest (Qc (Value.ref b :: As).toArray) XC free := by
  have hK : vx_Back l R p e below s args y 3 8 (PreOf R mc ms Pc) (PostOf Qc mc ms free) (vx_Post XC mc ms free) := vx_callBack cw.1 hM hp.1
  obtain ⟨⟨-, -, -, -, -, -, hcode, -, hy, hlen, hl⟩, hin, hse⟩ := cw
  obtain ⟨hx, hb, hml, ho, -⟩ := S
  obtain ⟨-, ⟨cellB, hcB, hoB, hclB⟩, hPc⟩ := hp
  intro T hT X
  rcases vx_callV X hx (C := C) (bytes := bytes) (maxL := maxL) (ret := ret) ho hl hin hse hcode hy hK (by rw [hT]; exact hcB) hoB hclB hg (hsize.trans hml.symm) (argsL := As) (rest := rest) (fun sig h => hn.trans (hlen sig h)) hstack hW (by rw [hb]; exact hdg)
    (fun vm₁ hW₁ => ⟨hf.1, hf.2, hPc (T.setVm vm₁) hT hW₁⟩) with ⟨v, vm₁, ⟨U', l2, c2, s2⟩, hW₁, X', ⟨g', mk, t, L, e1, e2, hq, h1, hL, h2, h3⟩, st⟩ | ⟨q, vm₁, ⟨U', l2, c2, s2⟩, hW₁, X', ⟨g', mk, t, L, E, ce, e1, e2, hq, hce, hcv, hcl, h1, hL, h2, h3⟩, st⟩
  · dsimp only [Pt.U, Pt.locs, Pt.cells, Pt.slots] at X' e1 e2 h1 h2 h3 st
    subst h1; subst h2; subst h3
    exact Or.inl ⟨v, (T.setVm vm₁).calling g' mk (Value.ref b :: As).toArray, t, U', L, hT, X', hL, e1, e2, hq, st⟩
  · dsimp only [Pt.U, Pt.locs, Pt.cells, Pt.slots] at X' e1 e2 h1 h2 h3 st hcl
    subst h1; subst h2; subst h3
    exact Or.inr ⟨q, (T.setVm vm₁).calling g' mk (Value.ref b :: As).toArray, t, U', L, E, ce, hT, X', hL, e1, e2, hq, hce, hcv, vx_cls hW₁ hcl, st⟩
theorem vx_runS (S : CallFix p m c cc nL s args Ts own) (hM : vx_Met l y ws rm Pc Qc XC mc ms free) (cw : CallB R s args own index y bytes maxL ret ws rm mc ms n ∧ (Cond.static y).before args s = true) (hp : PreS s H Pc As)
    (hg : g.method = m) (hn : As.length = n) (hsize : g.locals.size = nL) (hstack : g.stack = As.reverse ++ rest) (hW : 2 * g.monitorRoom + (rest.map fun v => v.category).sum ≤ 8) (hdg : decode cc g.pc = .ok (.invokestatic index, 3)) (hf : cells + mc ≤ R.cells ∧ slots + ms ≤ R.slots) :
    vx_Run p l e R s m args below meth c H locs cells slots mc ms g rest (Qc As.toArray) XC free := by
  have hK : vx_Back l R p e below s args y 3 8 (PreOf R mc ms Pc) (PostOf Qc mc ms free) (vx_Post XC mc ms free) := vx_callBack cw.1 hM hp.1
  obtain ⟨⟨-, -, -, -, -, -, hcode, hini, hy, hlen, hl⟩, hstt⟩ := cw
  obtain ⟨hx, hb, hml, ho, -⟩ := S
  intro T hT X
  rcases vx_callS X hx (bytes := bytes) (maxL := maxL) (ret := ret) ho hl hstt hini hcode hy hK hg (hsize.trans hml.symm) (argsL := As) (rest := rest) (fun sig h => hn.trans (hlen sig h)) hstack hW (by rw [hb]; exact hdg)
    (fun vm₁ hW₁ => ⟨hf.1, hf.2, hp.2 (T.setVm vm₁) hT hW₁⟩) with ⟨v, vm₁, ⟨U', l2, c2, s2⟩, hW₁, X', ⟨g', mk, t, L, e1, e2, hq, h1, hL, h2, h3⟩, st⟩ | ⟨q, vm₁, ⟨U', l2, c2, s2⟩, hW₁, X', ⟨g', mk, t, L, E, ce, e1, e2, hq, hce, hcv, hcl, h1, hL, h2, h3⟩, st⟩
  · dsimp only [Pt.U, Pt.locs, Pt.cells, Pt.slots] at X' e1 e2 h1 h2 h3 st
    subst h1; subst h2; subst h3
    exact Or.inl ⟨v, (T.setVm vm₁).calling g' mk As.toArray, t, U', L, hT, X', hL, e1, e2, hq, st⟩
  · dsimp only [Pt.U, Pt.locs, Pt.cells, Pt.slots] at X' e1 e2 h1 h2 h3 st hcl
    subst h1; subst h2; subst h3
    exact Or.inr ⟨q, (T.setVm vm₁).calling g' mk As.toArray, t, U', L, E, ce, hT, X', hL, e1, e2, hq, hce, hcv, vx_cls hW₁ hcl, st⟩
end Runs
section Rows
variable {p : Program} {l : Launch} {e : Env} {R : Room} {s : State} {m : MethodId} {args : Array Value} {below : List Frame} {meth : Method} {c : Code} {H : Heap} {locs : List Loc} {cells slots : Nat} {Q : State → Prop}
variable {mc ms : Nat} {free : Addr → Prop} {A0 A1 : Nat → Prop} {H0 : Heap} {a : Array Value} {pc : Nat} {ls : Array Slot} {st0 rest : List Value}
theorem vx_keep {st₀ t T' : State} {L : List Loc} (h0 : st₀.heap = H) (e1 : T'.heap = t.heap) (hS : va_S A0 H0 H locs) (hA : ∀ q, q < H.size → A1 q → A0 q) (hf : ∀ q, free q → A0 q) (hL : ∀ q ∈ L, free q.base) (hF : va_F A1 st₀ t) :
    H.size ≤ T'.heap.size ∧ (∀ q : Nat, q < H.size → ¬ A1 q → T'.heap[q]? = H[q]?) ∧ va_S A0 H0 T'.heap (locs ++ L) := by
  obtain ⟨hz, hk⟩ := hF
  rw [h0] at hz hk
  exact ⟨by rw [e1]; exact hz, fun q h1 h2 => by rw [e1]; exact hk q h1 h2,
    ⟨Nat.le_trans hS.1 (by rw [e1]; exact hz), fun q h1 h2 => by rw [e1, hk q (Nat.lt_of_lt_of_le h1 hS.1) (fun z => h2 (hA q (Nat.lt_of_lt_of_le h1 hS.1) z))]; exact hS.2.1 q h1 h2, fun q hq => by
      rcases List.mem_append.mp hq with h | h
      · exact hS.2.2 q h
      · exact hf _ (hL q h)⟩⟩
theorem vx_calli {S SX : Type} {post : Int32 → S → Prop} {px : SX → Prop} {B : S → State → Prop} {BX : String → SX → State → Prop} {AX : Nat → Prop} (hr : vx_Run p l e R s m args below meth c H locs cells slots mc ms (F0 m pc ls st0) rest (va_Qi post B A1 a) (vx_X px BX AX) free) (hS : va_S A0 H0 H locs) (hA : ∀ q, q < H.size → A1 q → A0 q) (hf : ∀ q, free q → A0 q) (hAX : ∀ q, q < H.size → AX q → A0 q)
    (kx : ∀ (E : String) (ce : Cell) (q9 : Addr) (u : SX) (t : State) (H1 : Heap) (locs1 : List Loc), t.heap = H1 → s.vm.Alike t.vm → px u → BX E u t → H.size ≤ H1.size → (∀ q : Nat, q < H.size → ¬ AX q → H1[q]? = H[q]?) → va_S A0 H0 H1 locs1 → H1[q9]? = some ce → ce.vm = .none → s.vm.findClass E = some ce.cls → vx_W p l e R s m args below meth c H1 locs1 (cells + mc) (slots + ms) Q (F0 m pc ls rest) q9)
    (kk : ∀ (r : Int32) (u : S) (t : State) (H1 : Heap) (locs1 : List Loc), t.heap = H1 → s.vm.Alike t.vm → post r u → B u t → H.size ≤ H1.size → (∀ q : Nat, q < H.size → ¬ A1 q → H1[q]? = H[q]?) → va_S A0 H0 H1 locs1 → W p l e R s m args below meth c H1 locs1 (cells + mc) (slots + ms) Q (F0 m (pc + 3) ls (.int r :: rest))) : W p l e R s m args below meth c H locs cells slots Q (F0 m pc ls st0) := by
  intro T hT X
  rcases hr T hT X with ⟨v, st₀, t, T', L, h0, X', hL, e1, e2, ⟨⟨r, u, hv, hp, hb⟩, hF⟩, st⟩ | ⟨q, st₀, t, T', L, E, ce, h0, X', hL, e1, e2, ⟨u, hp, hb, hF⟩, hce, hcv, hcl, st⟩
  · cases hv
    obtain ⟨k1, k2, k3⟩ := vx_keep h0 e1 hS hA hf hL hF
    obtain ⟨t2, a1, b1⟩ := kk r u t T'.heap (locs ++ L) e1.symm (by rw [← e2]; exact X'.warmed.alike) hp hb k1 k2 k3 T' rfl X'
    exact ⟨t2, st t2 a1, b1⟩
  · obtain ⟨k1, k2, k3⟩ := vx_keep h0 e1 hS hAX hf hL hF
    obtain ⟨t2, a1, b1⟩ := kx E ce q u t T'.heap (locs ++ L) e1.symm (by rw [← e2]; exact X'.warmed.alike) hp hb k1 k2 k3 (by rw [e1]; exact hce) hcv hcl T' rfl X'
    exact ⟨t2, st.trans a1, b1⟩
theorem vx_calll {S SX : Type} {post : Int64 → S → Prop} {px : SX → Prop} {B : S → State → Prop} {BX : String → SX → State → Prop} {AX : Nat → Prop} (hr : vx_Run p l e R s m args below meth c H locs cells slots mc ms (F0 m pc ls st0) rest (va_Ql post B A1 a) (vx_X px BX AX) free) (hS : va_S A0 H0 H locs) (hA : ∀ q, q < H.size → A1 q → A0 q) (hf : ∀ q, free q → A0 q) (hAX : ∀ q, q < H.size → AX q → A0 q)
    (kx : ∀ (E : String) (ce : Cell) (q9 : Addr) (u : SX) (t : State) (H1 : Heap) (locs1 : List Loc), t.heap = H1 → s.vm.Alike t.vm → px u → BX E u t → H.size ≤ H1.size → (∀ q : Nat, q < H.size → ¬ AX q → H1[q]? = H[q]?) → va_S A0 H0 H1 locs1 → H1[q9]? = some ce → ce.vm = .none → s.vm.findClass E = some ce.cls → vx_W p l e R s m args below meth c H1 locs1 (cells + mc) (slots + ms) Q (F0 m pc ls rest) q9)
    (kk : ∀ (r : Int64) (u : S) (t : State) (H1 : Heap) (locs1 : List Loc), t.heap = H1 → s.vm.Alike t.vm → post r u → B u t → H.size ≤ H1.size → (∀ q : Nat, q < H.size → ¬ A1 q → H1[q]? = H[q]?) → va_S A0 H0 H1 locs1 → W p l e R s m args below meth c H1 locs1 (cells + mc) (slots + ms) Q (F0 m (pc + 3) ls (.long r :: rest))) : W p l e R s m args below meth c H locs cells slots Q (F0 m pc ls st0) := by
  intro T hT X
  rcases hr T hT X with ⟨v, st₀, t, T', L, h0, X', hL, e1, e2, ⟨⟨r, u, hv, hp, hb⟩, hF⟩, st⟩ | ⟨q, st₀, t, T', L, E, ce, h0, X', hL, e1, e2, ⟨u, hp, hb, hF⟩, hce, hcv, hcl, st⟩
  · cases hv
    obtain ⟨k1, k2, k3⟩ := vx_keep h0 e1 hS hA hf hL hF
    obtain ⟨t2, a1, b1⟩ := kk r u t T'.heap (locs ++ L) e1.symm (by rw [← e2]; exact X'.warmed.alike) hp hb k1 k2 k3 T' rfl X'
    exact ⟨t2, st t2 a1, b1⟩
  · obtain ⟨k1, k2, k3⟩ := vx_keep h0 e1 hS hAX hf hL hF
    obtain ⟨t2, a1, b1⟩ := kx E ce q u t T'.heap (locs ++ L) e1.symm (by rw [← e2]; exact X'.warmed.alike) hp hb k1 k2 k3 (by rw [e1]; exact hce) hcv hcl T' rfl X'
    exact ⟨t2, st.trans a1, b1⟩
theorem vx_callf {S SX : Type} {post : UInt32 → S → Prop} {px : SX → Prop} {B : S → State → Prop} {BX : String → SX → State → Prop} {AX : Nat → Prop} (hr : vx_Run p l e R s m args below meth c H locs cells slots mc ms (F0 m pc ls st0) rest (va_Qf post B A1 a) (vx_X px BX AX) free) (hS : va_S A0 H0 H locs) (hA : ∀ q, q < H.size → A1 q → A0 q) (hf : ∀ q, free q → A0 q) (hAX : ∀ q, q < H.size → AX q → A0 q)
    (kx : ∀ (E : String) (ce : Cell) (q9 : Addr) (u : SX) (t : State) (H1 : Heap) (locs1 : List Loc), t.heap = H1 → s.vm.Alike t.vm → px u → BX E u t → H.size ≤ H1.size → (∀ q : Nat, q < H.size → ¬ AX q → H1[q]? = H[q]?) → va_S A0 H0 H1 locs1 → H1[q9]? = some ce → ce.vm = .none → s.vm.findClass E = some ce.cls → vx_W p l e R s m args below meth c H1 locs1 (cells + mc) (slots + ms) Q (F0 m pc ls rest) q9)
    (kk : ∀ (r : UInt32) (u : S) (t : State) (H1 : Heap) (locs1 : List Loc), t.heap = H1 → s.vm.Alike t.vm → post r u → B u t → H.size ≤ H1.size → (∀ q : Nat, q < H.size → ¬ A1 q → H1[q]? = H[q]?) → va_S A0 H0 H1 locs1 → W p l e R s m args below meth c H1 locs1 (cells + mc) (slots + ms) Q (F0 m (pc + 3) ls (.float r :: rest))) : W p l e R s m args below meth c H locs cells slots Q (F0 m pc ls st0) := by
  intro T hT X
  rcases hr T hT X with ⟨v, st₀, t, T', L, h0, X', hL, e1, e2, ⟨⟨r, u, hv, hp, hb⟩, hF⟩, st⟩ | ⟨q, st₀, t, T', L, E, ce, h0, X', hL, e1, e2, ⟨u, hp, hb, hF⟩, hce, hcv, hcl, st⟩
  · cases hv
    obtain ⟨k1, k2, k3⟩ := vx_keep h0 e1 hS hA hf hL hF
    obtain ⟨t2, a1, b1⟩ := kk r u t T'.heap (locs ++ L) e1.symm (by rw [← e2]; exact X'.warmed.alike) hp hb k1 k2 k3 T' rfl X'
    exact ⟨t2, st t2 a1, b1⟩
  · obtain ⟨k1, k2, k3⟩ := vx_keep h0 e1 hS hAX hf hL hF
    obtain ⟨t2, a1, b1⟩ := kx E ce q u t T'.heap (locs ++ L) e1.symm (by rw [← e2]; exact X'.warmed.alike) hp hb k1 k2 k3 (by rw [e1]; exact hce) hcv hcl T' rfl X'
    exact ⟨t2, st.trans a1, b1⟩
theorem vx_calld {S SX : Type} {post : UInt64 → S → Prop} {px : SX → Prop} {B : S → State → Prop} {BX : String → SX → State → Prop} {AX : Nat → Prop} (hr : vx_Run p l e R s m args below meth c H locs cells slots mc ms (F0 m pc ls st0) rest (va_Qd post B A1 a) (vx_X px BX AX) free) (hS : va_S A0 H0 H locs) (hA : ∀ q, q < H.size → A1 q → A0 q) (hf : ∀ q, free q → A0 q) (hAX : ∀ q, q < H.size → AX q → A0 q)
    (kx : ∀ (E : String) (ce : Cell) (q9 : Addr) (u : SX) (t : State) (H1 : Heap) (locs1 : List Loc), t.heap = H1 → s.vm.Alike t.vm → px u → BX E u t → H.size ≤ H1.size → (∀ q : Nat, q < H.size → ¬ AX q → H1[q]? = H[q]?) → va_S A0 H0 H1 locs1 → H1[q9]? = some ce → ce.vm = .none → s.vm.findClass E = some ce.cls → vx_W p l e R s m args below meth c H1 locs1 (cells + mc) (slots + ms) Q (F0 m pc ls rest) q9)
    (kk : ∀ (r : UInt64) (u : S) (t : State) (H1 : Heap) (locs1 : List Loc), t.heap = H1 → s.vm.Alike t.vm → post r u → B u t → H.size ≤ H1.size → (∀ q : Nat, q < H.size → ¬ A1 q → H1[q]? = H[q]?) → va_S A0 H0 H1 locs1 → W p l e R s m args below meth c H1 locs1 (cells + mc) (slots + ms) Q (F0 m (pc + 3) ls (.double r :: rest))) : W p l e R s m args below meth c H locs cells slots Q (F0 m pc ls st0) := by
  intro T hT X
  rcases hr T hT X with ⟨v, st₀, t, T', L, h0, X', hL, e1, e2, ⟨⟨r, u, hv, hp, hb⟩, hF⟩, st⟩ | ⟨q, st₀, t, T', L, E, ce, h0, X', hL, e1, e2, ⟨u, hp, hb, hF⟩, hce, hcv, hcl, st⟩
  · cases hv
    obtain ⟨k1, k2, k3⟩ := vx_keep h0 e1 hS hA hf hL hF
    obtain ⟨t2, a1, b1⟩ := kk r u t T'.heap (locs ++ L) e1.symm (by rw [← e2]; exact X'.warmed.alike) hp hb k1 k2 k3 T' rfl X'
    exact ⟨t2, st t2 a1, b1⟩
  · obtain ⟨k1, k2, k3⟩ := vx_keep h0 e1 hS hAX hf hL hF
    obtain ⟨t2, a1, b1⟩ := kx E ce q u t T'.heap (locs ++ L) e1.symm (by rw [← e2]; exact X'.warmed.alike) hp hb k1 k2 k3 (by rw [e1]; exact hce) hcv hcl T' rfl X'
    exact ⟨t2, st.trans a1, b1⟩
theorem vx_callv {S SX : Type} {post : S → Prop} {px : SX → Prop} {B : S → State → Prop} {BX : String → SX → State → Prop} {AX : Nat → Prop} (hr : vx_Run p l e R s m args below meth c H locs cells slots mc ms (F0 m pc ls st0) rest (va_Qv post B A1 a) (vx_X px BX AX) free) (hS : va_S A0 H0 H locs) (hA : ∀ q, q < H.size → A1 q → A0 q) (hf : ∀ q, free q → A0 q) (hAX : ∀ q, q < H.size → AX q → A0 q)
    (kx : ∀ (E : String) (ce : Cell) (q9 : Addr) (u : SX) (t : State) (H1 : Heap) (locs1 : List Loc), t.heap = H1 → s.vm.Alike t.vm → px u → BX E u t → H.size ≤ H1.size → (∀ q : Nat, q < H.size → ¬ AX q → H1[q]? = H[q]?) → va_S A0 H0 H1 locs1 → H1[q9]? = some ce → ce.vm = .none → s.vm.findClass E = some ce.cls → vx_W p l e R s m args below meth c H1 locs1 (cells + mc) (slots + ms) Q (F0 m pc ls rest) q9)
    (kk : ∀ (u : S) (t : State) (H1 : Heap) (locs1 : List Loc), t.heap = H1 → s.vm.Alike t.vm → post u → B u t → H.size ≤ H1.size → (∀ q : Nat, q < H.size → ¬ A1 q → H1[q]? = H[q]?) → va_S A0 H0 H1 locs1 → W p l e R s m args below meth c H1 locs1 (cells + mc) (slots + ms) Q (F0 m (pc + 3) ls (rest))) : W p l e R s m args below meth c H locs cells slots Q (F0 m pc ls st0) := by
  intro T hT X
  rcases hr T hT X with ⟨v, st₀, t, T', L, h0, X', hL, e1, e2, ⟨⟨u, hv, hp, hb⟩, hF⟩, st⟩ | ⟨q, st₀, t, T', L, E, ce, h0, X', hL, e1, e2, ⟨u, hp, hb, hF⟩, hce, hcv, hcl, st⟩
  · cases hv
    obtain ⟨k1, k2, k3⟩ := vx_keep h0 e1 hS hA hf hL hF
    obtain ⟨t2, a1, b1⟩ := kk u t T'.heap (locs ++ L) e1.symm (by rw [← e2]; exact X'.warmed.alike) hp hb k1 k2 k3 T' rfl X'
    exact ⟨t2, st t2 a1, b1⟩
  · obtain ⟨k1, k2, k3⟩ := vx_keep h0 e1 hS hAX hf hL hF
    obtain ⟨t2, a1, b1⟩ := kx E ce q u t T'.heap (locs ++ L) e1.symm (by rw [← e2]; exact X'.warmed.alike) hp hb k1 k2 k3 (by rw [e1]; exact hce) hcv hcl T' rfl X'
    exact ⟨t2, st.trans a1, b1⟩
/-- caught by the row x of this method's table; the rows ahead don't take it -/
theorem vx_catch {own name : String} {E : String} {ce : Cell} {q : Addr} (hown : s.vm.findClass own = some m.cls) (pre : List ExceptionTableEntry) (x : ExceptionTableEntry) (suf : List ExceptionTableEntry) (hsplit : c.exceptionTable.toList = pre ++ x :: suf)
    (hpass : ∀ z ∈ pre, covers z pc = false ∨ (z.catchType ≠ 0 ∧ ∃ nm : String, (Cond.classLink own z.catchType nm).before args s = true ∧ va_Nc E nm s)) (hx : covers x pc = true) (h0 : x.catchType ≠ 0)
    (hlink : (Cond.classLink own x.catchType name).before args s = true) (hcast : (Cond.castable E name).before args s = true) (hcell : H[q]? = some ce) (hv : ce.vm = .none) (hcl : s.vm.findClass E = some ce.cls)
    (kk : W p l e R s m args below meth c H locs cells slots Q (F0 m x.handlerPc ls [.ref q])) : vx_W p l e R s m args below meth c H locs cells slots Q (F0 m pc ls rest) q := by
  intro T hT X
  have hpl : e.platform.magicAccessors = ({} : Platform).magicAccessors := by rw [X.admits.platform]
  obtain ⟨c3, c4, hc3, hc4, hasg⟩ := Cond.castable_spec hcast
  cases Option.some.inj (hc3.symm.trans hcl)
  obtain ⟨c5, hc5, hcl5⟩ := Cond.classLink_spec hown hlink e.platform hpl
  cases Option.some.inj (hc4.symm.trans hc5)
  obtain ⟨vm', X', st⟩ := X.thenCaughtThrough q (g := F0 m pc ls rest) rfl (Steps.refl _) (by rw [hT]; exact hcell) (by rw [hv]; rfl) (by obtain ⟨k9, h9, -⟩ := Vm.findClass_spec hcl; exact ⟨k9, h9⟩) pre x suf hsplit
    (fun z hz => by
      rcases hpass z hz with h | ⟨hz0, nm, hl1, hn1⟩
      · exact Or.inl h
      · obtain ⟨c6, hc6, hcl6⟩ := Cond.classLink_spec hown hl1 e.platform hpl
        obtain ⟨a8, b8, h1, h2, h3⟩ := hn1
        cases Option.some.inj (h1.symm.trans hcl)
        cases Option.some.inj (h2.symm.trans hc6)
        exact Or.inr ⟨hz0, _, hcl6, h3⟩) hx (Or.inr ⟨h0, c4, hcl5, hasg⟩)
  obtain ⟨t, a1, b1⟩ := kk (T.setVm vm') hT X'
  exact ⟨t, st.trans a1, b1⟩
end Rows
section Ends
variable {p : Program} {l : Launch} {e : Env} {R : Room} {s : State} {m : MethodId} {args : Array Value} {below : List Frame} {meth : Method} {c : Code} {H : Heap} {locs : List Loc} {cells slots : Nat} {Q : State → Prop}
variable {mc ms : Nat} {free : Addr → Prop} {A0 A1 : Nat → Prop} {H0 : Heap} {a : Array Value} {ls : Array Slot} {st0 rest : List Value}
variable {Qc : Array Value → State → Outcome → State → Prop} {XC : String → State → State → Prop}
/-- what a body that may throw owes at its end -/
def vx_MQ (below : List Frame) (Qc : Array Value → State → Outcome → State → Prop) (XC : String → State → State → Prop) (a : Array Value) (s : State) (mc ms : Nat) (free : Addr → Prop) : State → Prop := fun t =>
  ∃ o, t.status = .running ∧ Ended t below o ∧ vx_Q Qc XC mc ms free a s o t
theorem vx_ret {g : JFrame} {mc ms : Nat} (k : W p l e R s m args below meth c H locs cells slots (MQ below Qc args s mc ms free) g) : W p l e R s m args below meth c H locs cells slots (vx_MQ below Qc XC args s mc ms free) g := by
  intro T hT X
  obtain ⟨t, a1, o, b1, b2, b3, b4⟩ := k T hT X
  exact ⟨t, a1, o, b1, b2, Or.inl ⟨b3, b4⟩⟩
/-- not caught here: it goes on to the caller -/
theorem vx_widen {g : JFrame} {q : Addr} {k n : Nat} (h1 : cells ≤ k) (h2 : slots ≤ n) (kk : vx_W p l e R s m args below meth c H locs k n Q g q) : vx_W p l e R s m args below meth c H locs cells slots Q g q := fun T hT X => kk T hT (stand_widen X h1 h2)
theorem vx_out {pc : Nat} {E : String} {ce : Cell} {q : Addr} {mc ms : Nat} (hout : ∀ x ∈ c.exceptionTable.toList, covers x pc = false) (hlocks : meth.locks = false) (hcell : H[q]? = some ce) (hv : ce.vm = .none) (hcl : s.vm.findClass E = some ce.cls)
    (hx : ∀ t : State, t.heap = H → s.vm.Alike t.vm → XC E s t) (hf : ∀ z ∈ locs, free z.base) (hc : cells ≤ mc) (hs : slots ≤ ms) :
    vx_W p l e R s m args below meth c H locs cells slots (vx_MQ below Qc XC args s mc ms free) (F0 m pc ls rest) q := by
  intro T hT X
  obtain ⟨st1, hrun, hend, hW, hsm⟩ := X.leaveThrown q (g := F0 m pc ls rest) rfl rfl rfl hout hlocks
  have hcell9 : (T.setFrames (.throwing q :: below)).heap[q]? = some ce := by
    show T.heap[q]? = some ce
    rw [hT]; exact hcell
  exact ⟨_, st1, .threw q, hrun, hend, Or.inr ⟨q, rfl, E, ce, locs, hx _ hT hW.alike, hcell9, hv, hcl, hW, hsm.mono hc hs, hf⟩⟩
theorem vx_frame {U : State} {k n : Nat} (h : s.sameButNew ({ U with vm := s.vm } : State) locs k n) : s.heap.size ≤ U.heap.size ∧ ∀ q : Nat, q < s.heap.size → (∀ z ∈ locs, z.base ≠ q) → U.heap[q]? = s.heap[q]? := by
  obtain ⟨-, h2, -, -, -, h6⟩ := h
  refine ⟨h2, fun q hq hz => ?_⟩
  obtain ⟨c9, e1, e2, e3, e4⟩ := h6 q _ (Array.getElem?_eq_getElem hq)
  have hs : c9.slots = (s.heap[q]).slots := Array.ext_getElem? fun i => e4 i fun hm => hz _ hm rfl
  have h9 : c9 = s.heap[q] := by
    rw [hs] at e2
    exact e2
  have e5 : U.heap[q]? = some c9 := e1
  rw [e5, h9, Array.getElem?_eq_getElem hq]
/-- the words of a throw but the four that speak of the heap -/
def vx_no (w : Cond) : Bool := decide (w ≠ .isRef (.static Bundle.tN "UNASSIGNED_STACK" Bundle.steD)) && decide (w ≠ .isRef (.static Bundle.tN "SUPPRESSED_SENTINEL" Bundle.listD)) && decide (w ≠ .laysStatic Bundle.tN "UNASSIGNED_STACK" Bundle.steD) && decide (w ≠ .laysStatic Bundle.tN "SUPPRESSED_SENTINEL" Bundle.listD)
def vx_at0 (own : String) (ic : Nat) (X : String) (names : List String) : List Cond := (Bundle.ownAtoms0 own ic X names).filter vx_no
def vx_atS (own : String) (ic : Nat) (X : String) (names : List String) : List Cond := (Bundle.ownAtoms own ic X names).filter vx_no
/-- a word that the tables alone decide, or a good one -/
def vx_ot (w : Cond) : Bool := w.onTables || goodWord w
theorem vx_ot_at {args a' : Array Value} {s U : State} {w : Cond} (hW : s.WarmedH U.vm) (hvm : s.vm = U.vm) (hg : vx_ot w = true) (h : w.before args s = true) : w.before a' U = true := by
  simp only [vx_ot, Bool.or_eq_true] at hg
  rcases hg with hg | hg
  · exact va_tabs hg hvm h
  · exact word_at hW (good_of_word hg) h
/-- a list's words: the good ones out of the method's own list, the others by premises of their own -/
theorem vx_hat {args : Array Value} {s : State} {L B : List Cond} (h1 : ∀ w ∈ L.filter goodWord, w.before args s = true) (h2 : ∀ w ∈ L.filter (fun w => !goodWord w), w ∈ B) (h3 : ∀ w ∈ B, w.before args s = true) : ∀ w ∈ L, w.before args s = true := by
  intro w hw
  by_cases g : goodWord w = true
  · exact h1 w (List.mem_filter.mpr ⟨hw, g⟩)
  · refine h3 w (h2 w (List.mem_filter.mpr ⟨hw, ?_⟩))
    show (!goodWord w) = true
    cases hgw : goodWord w
    · rfl
    · exact absurd hgw g
theorem vx_c {args : Array Value} {s : State} {w : Cond} {B : List Cond} (h : w.before args s = true) (t : ∀ w ∈ B, w.before args s = true) : ∀ w' ∈ w :: B, w'.before args s = true := fun w' h' => (List.mem_cons.mp h').elim (fun e => by rw [e]; exact h) (t w')
theorem vx_n {args : Array Value} {s : State} : ∀ w ∈ ([] : List Cond), w.before args s = true := fun _ h => nomatch h
theorem vx_own {args : Array Value} {s : State} {L : List Cond} (h1 : ∀ w ∈ L.filter vx_no, w.before args s = true)
    (hU : (Cond.isRef (.static Bundle.tN "UNASSIGNED_STACK" Bundle.steD)).before args s = true) (hN : (Cond.isRef (.static Bundle.tN "SUPPRESSED_SENTINEL" Bundle.listD)).before args s = true)
    (lU : (Cond.laysStatic Bundle.tN "UNASSIGNED_STACK" Bundle.steD).before args s = true) (lN : (Cond.laysStatic Bundle.tN "SUPPRESSED_SENTINEL" Bundle.listD).before args s = true) : ∀ w ∈ L, w.before args s = true := by
  intro w hw
  by_cases e1 : w = .isRef (.static Bundle.tN "UNASSIGNED_STACK" Bundle.steD)
  · rw [e1]; exact hU
  · by_cases e2 : w = .isRef (.static Bundle.tN "SUPPRESSED_SENTINEL" Bundle.listD)
    · rw [e2]; exact hN
    · by_cases e3 : w = .laysStatic Bundle.tN "UNASSIGNED_STACK" Bundle.steD
      · rw [e3]; exact lU
      · by_cases e4 : w = .laysStatic Bundle.tN "SUPPRESSED_SENTINEL" Bundle.listD
        · rw [e4]; exact lN
        · exact h1 w (List.mem_filter.mpr ⟨hw, by unfold vx_no; rw [decide_eq_true e1, decide_eq_true e2, decide_eq_true e3, decide_eq_true e4]; rfl⟩)
/-- where a static field lies, its class's statics cell in H -/
def vx_L (C n d : String) (A : Nat → Prop) (U : State) (H : Heap) : Prop := ∃ (c : ClassId) (k : Class) (i : Nat) (f : Field) (a : Nat) (cell : Cell), U.vm.findClass C = some c ∧ U.fieldFound? C n d = some (c, k, i, f) ∧ f.isStatic = true ∧ k.statics = some a ∧ H[a]? = some cell ∧ cell.vm.isStatics = true ∧ cell.cls = c ∧ f.slot < cell.slots.size ∧ k.staticTypes[f.slot]? = some f.type ∧ ¬ A a
theorem vx_L.moved {C n d : String} {A : Nat → Prop} {u U : State} {H : Heap} (hvm : u.vm.Alike U.vm) (h : vx_L C n d A u H) : vx_L C n d A U H := by
  obtain ⟨c, k, i, f, a, cell, h1, h2, h3, h4, h5, h6, h7, h8, h9, h10⟩ := h
  obtain ⟨k', hi', he⟩ := State.fieldFound?_setVm hvm h2
  exact ⟨c, k', i, f, a, cell, by rw [hvm.findClass]; exact h1, hi', h3, by rw [he]; exact h4, h5, h6, h7, h8, by rw [he]; exact h9, h10⟩
theorem vx_L.kept {C n d : String} {A : Nat → Prop} {U : State} {H H1 : Heap} (h : vx_L C n d A U H) (hq : ∀ a : Nat, a < H.size → ¬ A a → H1[a]? = H[a]?) : vx_L C n d A U H1 := by
  obtain ⟨c, k, i, f, a, cell, h1, h2, h3, h4, h5, h6, h7, h8, h9, h10⟩ := h
  exact ⟨c, k, i, f, a, cell, h1, h2, h3, h4, by rw [hq a (Array.getElem?_eq_some_iff.mp h5).1 h10]; exact h5, h6, h7, h8, h9, h10⟩
theorem vx_L.narrow {C n d : String} {A B : Nat → Prop} {U : State} {H : Heap} (h : vx_L C n d A U H) (hAB : ∀ q, B q → A q) : vx_L C n d B U H := by
  obtain ⟨c, k, i, f, a, cell, h1, h2, h3, h4, h5, h6, h7, h8, h9, h10⟩ := h
  exact ⟨c, k, i, f, a, cell, h1, h2, h3, h4, h5, h6, h7, h8, h9, fun z => h10 (hAB _ z)⟩
theorem vx_L.word {C n d : String} {A : Nat → Prop} {s : State} {args : Array Value} (h : vx_L C n d A s s.heap) : (Cond.laysStatic C n d).before args s = true := by
  obtain ⟨c, k, i, f, a, cell, h1, h2, h3, h4, h5, h6, h7, h8, h9, -⟩ := h
  show (Cond.laysStatic C n d).holds args s none s [] = true
  exact Cond.laysStatic_of h1 h2 h3 h4 h5 h6 h7 h8 h9
/-- .. and what it holds: null or some reference -/
def vx_Zq (C n d : String) (A : Nat → Prop) (U : State) (H : Heap) : Prop := va_Zq C n d A U H ∧ vx_L C n d A U H
theorem vx_Zq.moved {C n d : String} {A : Nat → Prop} {u U : State} {H : Heap} (hvm : u.vm.Alike U.vm) (h : vx_Zq C n d A u H) : vx_Zq C n d A U H := ⟨va_Zq.moved hvm h.1, vx_L.moved hvm h.2⟩
theorem vx_Zq.kept {C n d : String} {A : Nat → Prop} {U : State} {H H1 : Heap} (h : vx_Zq C n d A U H) (hq : ∀ a : Nat, a < H.size → ¬ A a → H1[a]? = H[a]?) : vx_Zq C n d A U H1 := ⟨va_Zq.kept h.1 hq, vx_L.kept h.2 hq⟩
theorem vx_Zq.narrow {C n d : String} {A B : Nat → Prop} {U : State} {H : Heap} (h : vx_Zq C n d A U H) (hAB : ∀ q, B q → A q) : vx_Zq C n d B U H := ⟨va_Zq.narrow h.1 hAB, vx_L.narrow h.2 hAB⟩
theorem vx_Zqof {args : Array Value} {s : State} {C n d : String} {A : Nat → Prop} (hl : (Cond.laysStatic C n d).before args s = true) (hini : (Cond.initialized C).before args s = true) (h : (Cond.isRef (.static C n d)).before args s = true) (hA : ∀ a : Nat, a < s.heap.size → ¬ A a) : vx_Zq C n d A s s.heap := by
  refine ⟨va_Zqof hl hini h hA, ?_⟩
  obtain ⟨c, k, i, f, a, cell, h1, h2, h3, h4, h5, h6, h7, h8, h9⟩ := Cond.laysStatic_spec hl
  exact ⟨c, k, i, f, a, cell, h1, h2, h3, h4, h5, h6, h7, h8, h9, hA a (Array.getElem?_eq_some_iff.mp h5).1⟩
theorem vx_isRef {C n d : String} {v : Value} {A : Nat → Prop} {s : State} {args : Array Value} (h : va_Z C n d v A s s.heap) (hv : v.isRef = true) : (Cond.isRef (.static C n d)).before args s = true := by
  obtain ⟨cf, kf, fi, f, a, cell, h1, h2, h3, h4, h5, h6, h7, -⟩ := h
  have he : (Term.static C n d).eval args s none [] s = some v := by
    simp [Term.eval, State.fieldNamed?, h1, h2, h4, h5, h6, h7]
  simp only [Cond.before, Cond.holds, Cond.value, he]
  cases v <;> simp_all [Value.isRef]
theorem vx_isRefq {C n d : String} {A : Nat → Prop} {s : State} {args : Array Value} (h : va_Zq C n d A s s.heap) : (Cond.isRef (.static C n d)).before args s = true := by
  rcases h with h | ⟨t, h⟩
  · exact vx_isRef h rfl
  · exact vx_isRef h rfl
/-- the same frame, seen from here: as if the method were called anew in this heap -/
theorem vx_rebase {T : State} (X : Stand p l e R s m args below meth c T locs cells slots) {R' : Room} (hf : R'.frames ≤ R.frames) (hl : R'.locals ≤ R.locals) (hc : cells + R'.cells ≤ R.cells) (hs : slots + R'.slots ≤ R.slots) :
    Stand p l e R' ((T.setVm s.vm).setFrames (.invoking m args :: below)) m args below meth c T [] 0 0 := by
  have htop : (T.setVm s.vm).topJava?.isSome := X.here.top
  have hF : ((T.setVm s.vm).setFrames (.invoking m args :: below)).frames = .invoking m args :: below := State.frames_setFrames _ (State.cur_lt_of_top htop)
  obtain ⟨g₀, hg0⟩ := Option.isSome_iff_exists.mp htop
  obtain ⟨r, hr⟩ := State.topJava?_eq_some.mp hg0
  have hl9 : e.platform.stackLimits (T.setVm s.vm).me = e.platform.stackLimits s.me := X.limits
  have hb9 : (T.setVm s.vm).me.stackBytes = s.me.stackBytes := X.bytes
  refine ⟨X.admits, X.cas, X.clock, hF, ?_, X.hears, X.method, X.code, X.here, X.tail, X.warmed, ?_, ?_, ?_⟩
  · have h := X.room
    have hU : ((T.setVm s.vm).setFrames (.invoking m args :: below)).localsInUse = s.localsInUse := by
      rw [State.localsInUse_invoking hF (meth := meth) (c := c) X.method X.code, State.localsInUse_invoking X.frames X.method X.code]
    simp only [State.hasRoom, Bool.and_eq_true, decide_eq_true_eq] at h ⊢
    obtain ⟨⟨⟨⟨h1, h2, h3, h4, h5, h6⟩, h7⟩, h8⟩, h9⟩ := h
    rw [X.frames, List.length_cons] at h2 h3
    have q1 := X.heapSize
    have q2 := X.used
    simp only [hF, hU, List.length_cons, State.stackLimits_setFrames, State.stackBytes_setFrames, hl9, hb9]
    refine ⟨⟨⟨⟨by omega, by omega, by omega, by omega, by omega, h6⟩, ?_⟩, ?_⟩, X.book⟩
    · show T.heap.size + R'.cells ≤ e.platform.maxCells
      omega
    · show T.slotsUsed + R'.slots ≤ e.platform.maxSlots
      omega
  · rw [State.stackLimits_setFrames]; rfl
  · rw [State.stackBytes_setFrames]; rfl
  · refine ⟨?_, Nat.le_refl _, Nat.le_refl _, ?_, ?_, fun a c9 h9 => ⟨c9, h9, rfl, rfl, fun _ _ => rfl⟩⟩
    · obtain ⟨t, ht, -⟩ := State.frames_cons hr
      show T.setVm s.vm = { ((T.setVm s.vm).setFrames (.invoking m args :: below)).setFrames (T.setVm s.vm).frames with heap := T.heap, slotsUsed := T.slotsUsed }
      rw [State.setFrames_setFrames, State.setFrames_self ht]
      rfl
    · show T.slotsUsed = T.slotsUsed + ((T.heap.toList.drop T.heap.size).map (·.slots.size)).sum
      rw [List.drop_eq_nil_of_le (Nat.le_of_eq Array.length_toList)]
      rfl
    · show ((T.heap.toList.drop T.heap.size).map (·.slots.size)).sum ≤ 0
      rw [List.drop_eq_nil_of_le (Nat.le_of_eq Array.length_toList)]
      exact Nat.le_refl _
/-- 'throw new E()': new; dup; invokespecial; athrow -/
theorem vx_throw0 {cc : ByteArray} {pc : Nat} (hexec : p.tables.exec = Jvm.exec) (hb : c.code = cc) (hl : l.stackTraces = false) {own cls : String} {names : List String} {ik ic mc ms : Nat} {A : Nat → Prop}
    (hown : s.vm.findClass own = some m.cls) (hcls : Bundle.fit cls = true) (hnames : ∀ n ∈ names, Bundle.fit n = true)
    (hk : (Cond.classLink own ik cls).before args s = true) (hini : (Cond.initialized cls).before args s = true) (hat : ∀ w ∈ vx_at0 own ic cls names, w.before args s = true)
    (hgood : ∀ w ∈ Cond.classLink own ik cls :: Cond.initialized cls :: vx_at0 own ic cls names, vx_ot w = true)
    (hU : vx_Zq Bundle.tN "UNASSIGNED_STACK" Bundle.steD A s s.heap) (hN : vx_Zq Bundle.tN "SUPPRESSED_SENTINEL" Bundle.listD A s s.heap) (hS : va_S A s.heap H locs) (hsize : ls.size = c.maxLocals)
    (d0 : decode cc pc = .ok (.new ik, 3)) (d3 : decode cc (pc + 3) = .ok (.dup, 1)) (d4 : decode cc (pc + 4) = .ok (.invokespecial ic, 3)) (d7 : decode cc (pc + 7) = .ok (.athrow, 1))
    (hout : ∀ x ∈ c.exceptionTable.toList, covers x (pc + 7) = false)
    (hRframes : names.length + 3 < R.frames) (hRlocals : (rest.map fun v => v.category).sum + (13 * (names.length + 1) + 42) ≤ R.locals) (hRcells : cells + 1 ≤ R.cells) (hRslots : slots + 6 ≤ R.slots) (hlocks : meth.locks = false)
    (hx : ∀ t : State, s.vm.Alike t.vm → H.size ≤ t.heap.size → (∀ q : Nat, q < H.size → t.heap[q]? = H[q]?) → XC cls s t)
    (hf : ∀ z ∈ locs, free z.base) (hc : cells + 1 ≤ mc) (hs : slots + 6 ≤ ms) :
    W p l e R s m args below meth c H locs cells slots (vx_MQ below Qc XC args s mc ms free) (F0 m pc ls rest) := by
  intro T hT X
  have htr : e.platform.stackTraces = false := (show e.platform.stackTraces = l.stackTraces by rw [X.admits.platform]).trans hl
  have Y := vx_rebase X (R' := { frames := R.frames, locals := R.locals, cells := 1, slots := 6 }) (Nat.le_refl _) (Nat.le_refl _) hRcells hRslots
  obtain ⟨s', hA⟩ : ∃ z, z = (T.setVm s.vm).setFrames (.invoking m args :: below) := ⟨_, rfl⟩
  rw [← hA] at Y
  have hvm : s'.vm = s.vm := by rw [hA]; rfl
  have hhp : s'.heap = H := by rw [hA]; exact hT
  have hW0 : s.WarmedH s'.vm := by rw [hvm]; exact State.WarmedH.refl s
  have hat' : ∀ w ∈ vx_at0 own ic cls names, w.before args s' = true := fun w hw => vx_ot_at hW0 hvm.symm (hgood w (List.mem_cons_of_mem _ (List.mem_cons_of_mem _ hw))) (hat w hw)
  have hk' : (Cond.classLink own ik cls).before args s' = true := vx_ot_at hW0 hvm.symm (hgood _ List.mem_cons_self) hk
  have hini' : (Cond.initialized cls).before args s' = true := vx_ot_at hW0 hvm.symm (hgood _ (List.mem_cons_of_mem _ List.mem_cons_self)) hini
  have hU' : vx_Zq Bundle.tN "UNASSIGNED_STACK" Bundle.steD A s' s'.heap := by rw [hhp]; exact vx_Zq.moved hW0.alike (hU.kept hS.2.1)
  have hN' : vx_Zq Bundle.tN "SUPPRESSED_SENTINEL" Bundle.listD A s' s'.heap := by rw [hhp]; exact vx_Zq.moved hW0.alike (hN.kept hS.2.1)
  have h : ∀ w ∈ Bundle.ownAtoms0 own ic cls names, w.before args s' = true := vx_own hat' (vx_isRefq hU'.1) (vx_isRefq hN'.1) hU'.2.word hN'.2.word
  have hown' : s'.vm.findClass own = some m.cls := by rw [hvm]; exact hown
  have hins : (Cond.instantiable cls 6).before args s' = true := h _ (by simp [Bundle.ownAtoms0])
  obtain ⟨vm₁, cX, kX, hfX, hkX, -, -, X₁, st1⟩ := Y.newCold hexec (own := own) (C := cls) (index := ik) (n := 6) hown' hk' hins hini'
    (g := F0 m pc ls rest) rfl (by rw [hb]; exact d0) (Nat.le_refl _) (Nat.le_refl _)
  generalize hT1 : (T.setVm vm₁).pushCell { cls := cX, slots := kX.instanceTypes.map defaultValue, vm := .none } = T1 at X₁ st1
  have hcat : (Value.ref T.heap.size).category = 1 := rfl
  have hcellA : T1.heap[T.heap.size]? = some (freshCell cX kX) := by rw [← hT1]; exact State.heap_pushCell_size _ _
  have d3' : decode c.code (pc + 3) = .ok (.dup, 1) := by rw [hb]; exact d3
  obtain ⟨U, hsteps, hrun, hend, hW, hsame, ce, hce, hO⟩ := X₁.ctorThrow0 hexec htr (own := own) (cls := cls) (names := names) (ic := ic) hown' hcls hnames h (fun x hx => nomatch hx) hfX hkX hcellA (by rw [hhp, hT]; exact Nat.le_refl _)
    (g := { method := m, pc := pc + 4, locals := ls, stack := .ref T.heap.size :: .ref T.heap.size :: rest, locked := none }) rfl hsize rfl rfl (rest := rest) rfl
    (by rw [hb]; exact d4) (by rw [hb]; exact d7) hout hRframes (by simp only [List.map_cons, List.sum_cons, hcat]; omega) hlocks
  obtain ⟨f1, f2⟩ := vx_frame hsame
  rw [hhp] at f1 f2
  have hWs : s.WarmedH U.vm := State.WarmedH.trans hW0 hW
  have hcl : s.vm.findClass cls = some ce.cls := by
    have h9 := hO.cls
    rw [hvm] at h9
    exact h9
  have hall : s.sameButNew ({ U with vm := s.vm } : State) locs mc ms := by
    subst hA
    obtain ⟨e1, e2⟩ := hsame
    rw [State.setFrames_setFrames] at e1
    have h2 : (T.setVm s.vm).sameButNew ({ U with vm := s.vm } : State) [] (0 + 1) (0 + 6) := ⟨e1, e2⟩
    have h3 := X.same.trans h2
    rw [List.append_nil] at h3
    exact h3.mono hc hs
  refine ⟨U, ?_, .threw T.heap.size, hrun, hend, Or.inr ⟨T.heap.size, rfl, cls, ce, locs, hx U hWs.alike f1 (fun q hq => f2 q hq (fun z hz => nomatch hz)), hce, hO.vm, hcl, hWs, hall, hf⟩⟩
  refine st1 _ ?_
  show Steps p.tables e below (T1.setTop { method := m, pc := pc + 3, locals := ls, stack := .ref T.heap.size :: rest, locked := none }) _
  jvm_step X₁.here [X₁.here.top, hexec, d3', Value.category]
  exact hsteps
/-- 'throw new E("text")': new; dup; ldc; invokespecial; athrow -/
theorem vx_throwS {cc : ByteArray} {pc : Nat} (hexec : p.tables.exec = Jvm.exec) (hb : c.code = cc) (hl : l.stackTraces = false) {own cls text : String} {names : List String} {ik is ic mc ms sa : Nat} {A : Nat → Prop}
    (hown : s.vm.findClass own = some m.cls) (hcls : Bundle.fit cls = true) (hnames : ∀ n ∈ names, Bundle.fit n = true)
    (hk : (Cond.classLink own ik cls).before args s = true) (hini : (Cond.initialized cls).before args s = true) (hstr : vk_R own is text sa s) (hat : ∀ w ∈ vx_atS own ic cls names, w.before args s = true)
    (hgood : ∀ w ∈ Cond.classLink own ik cls :: Cond.initialized cls :: vx_atS own ic cls names, vx_ot w = true)
    (hU : vx_Zq Bundle.tN "UNASSIGNED_STACK" Bundle.steD A s s.heap) (hN : vx_Zq Bundle.tN "SUPPRESSED_SENTINEL" Bundle.listD A s s.heap) (hS : va_S A s.heap H locs) (hsize : ls.size = c.maxLocals)
    (d0 : decode cc pc = .ok (.new ik, 3)) (d3 : decode cc (pc + 3) = .ok (.dup, 1)) (d4 : decode cc (pc + 4) = .ok (.ldc is, 2)) (d6 : decode cc (pc + 6) = .ok (.invokespecial ic, 3)) (d9 : decode cc (pc + 9) = .ok (.athrow, 1))
    (hout : ∀ x ∈ c.exceptionTable.toList, covers x (pc + 9) = false)
    (hRframes : names.length + 3 < R.frames) (hRlocals : (rest.map fun v => v.category).sum + (13 * (names.length + 1) + 43) ≤ R.locals) (hRcells : cells + 1 ≤ R.cells) (hRslots : slots + 6 ≤ R.slots) (hlocks : meth.locks = false)
    (hx : ∀ t : State, s.vm.Alike t.vm → H.size ≤ t.heap.size → (∀ q : Nat, q < H.size → t.heap[q]? = H[q]?) → XC cls s t)
    (hf : ∀ z ∈ locs, free z.base) (hc : cells + 1 ≤ mc) (hs : slots + 6 ≤ ms) :
    W p l e R s m args below meth c H locs cells slots (vx_MQ below Qc XC args s mc ms free) (F0 m pc ls rest) := by
  intro T hT X
  have htr : e.platform.stackTraces = false := (show e.platform.stackTraces = l.stackTraces by rw [X.admits.platform]).trans hl
  have Y := vx_rebase X (R' := { frames := R.frames, locals := R.locals, cells := 1, slots := 6 }) (Nat.le_refl _) (Nat.le_refl _) hRcells hRslots
  obtain ⟨s', hA⟩ : ∃ z, z = (T.setVm s.vm).setFrames (.invoking m args :: below) := ⟨_, rfl⟩
  rw [← hA] at Y
  have hvm : s'.vm = s.vm := by rw [hA]; rfl
  have hhp : s'.heap = H := by rw [hA]; exact hT
  have hW0 : s.WarmedH s'.vm := by rw [hvm]; exact State.WarmedH.refl s
  have hat' : ∀ w ∈ vx_atS own ic cls names, w.before args s' = true := fun w hw => vx_ot_at hW0 hvm.symm (hgood w (List.mem_cons_of_mem _ (List.mem_cons_of_mem _ hw))) (hat w hw)
  have hk' : (Cond.classLink own ik cls).before args s' = true := vx_ot_at hW0 hvm.symm (hgood _ List.mem_cons_self) hk
  have hini' : (Cond.initialized cls).before args s' = true := vx_ot_at hW0 hvm.symm (hgood _ (List.mem_cons_of_mem _ List.mem_cons_self)) hini
  have hU' : vx_Zq Bundle.tN "UNASSIGNED_STACK" Bundle.steD A s' s'.heap := by rw [hhp]; exact vx_Zq.moved hW0.alike (hU.kept hS.2.1)
  have hN' : vx_Zq Bundle.tN "SUPPRESSED_SENTINEL" Bundle.listD A s' s'.heap := by rw [hhp]; exact vx_Zq.moved hW0.alike (hN.kept hS.2.1)
  have h : ∀ w ∈ Bundle.ownAtoms own ic cls names, w.before args s' = true := vx_own hat' (vx_isRefq hU'.1) (vx_isRefq hN'.1) hU'.2.word hN'.2.word
  have hown' : s'.vm.findClass own = some m.cls := by rw [hvm]; exact hown
  have hins : (Cond.instantiable cls 6).before args s' = true := h _ (by simp [Bundle.ownAtoms])
  obtain ⟨vm₁, cX, kX, hfX, hkX, -, -, X₁, st1⟩ := Y.newCold hexec (own := own) (C := cls) (index := ik) (n := 6) hown' hk' hins hini'
    (g := F0 m pc ls rest) rfl (by rw [hb]; exact d0) (Nat.le_refl _) (Nat.le_refl _)
  generalize hT1 : (T.setVm vm₁).pushCell { cls := cX, slots := kX.instanceTypes.map defaultValue, vm := .none } = T1 at X₁ st1
  have hcat : (Value.ref T.heap.size).category = 1 := rfl
  have hcellA : T1.heap[T.heap.size]? = some (freshCell cX kX) := by rw [← hT1]; exact State.heap_pushCell_size _ _
  have d3' : decode c.code (pc + 3) = .ok (.dup, 1) := by rw [hb]; exact d3
  have d4' : decode c.code (pc + 4) = .ok (.ldc is, 2) := by rw [hb]; exact d4
  have hstr' : vk_R own is text sa s' := vk_R.warm hW0 hstr
  obtain ⟨U, hsteps, hrun, hend, hW, hsame, ce, hce, hO⟩ := X₁.ctorThrowS hexec htr (own := own) (cls := cls) (names := names) (ic := ic) hown' hcls hnames h (fun x hx => nomatch hx) hfX hkX hcellA (by rw [hhp, hT]; exact Nat.le_refl _) (msg := .ref sa) rfl
    (g := { method := m, pc := pc + 6, locals := ls, stack := .ref sa :: .ref T.heap.size :: .ref T.heap.size :: rest, locked := none }) rfl hsize rfl rfl (rest := rest) rfl
    (by rw [hb]; exact d6) (by rw [hb]; exact d9) hout hRframes (by simp only [List.map_cons, List.sum_cons, hcat]; omega) hlocks
  obtain ⟨f1, f2⟩ := vx_frame hsame
  rw [hhp] at f1 f2
  have hWs : s.WarmedH U.vm := State.WarmedH.trans hW0 hW
  have hcl : s.vm.findClass cls = some ce.cls := by
    have h9 := hO.cls
    rw [hvm] at h9
    exact h9
  have hall : s.sameButNew ({ U with vm := s.vm } : State) locs mc ms := by
    subst hA
    obtain ⟨e1, e2⟩ := hsame
    rw [State.setFrames_setFrames] at e1
    have h2 : (T.setVm s.vm).sameButNew ({ U with vm := s.vm } : State) [] (0 + 1) (0 + 6) := ⟨e1, e2⟩
    have h3 := X.same.trans h2
    rw [List.append_nil] at h3
    exact h3.mono hc hs
  refine ⟨U, ?_, .threw T.heap.size, hrun, hend, Or.inr ⟨T.heap.size, rfl, cls, ce, locs, hx U hWs.alike f1 (fun q hq => f2 q hq (fun z hz => nomatch hz)), hce, hO.vm, hcl, hWs, hall, hf⟩⟩
  refine st1 _ ?_
  show Steps p.tables e below (T1.setTop { method := m, pc := pc + 3, locals := ls, stack := .ref T.heap.size :: rest, locked := none }) _
  jvm_step X₁.here [X₁.here.top, hexec, d3', Value.category]
  exact X₁.ldcString hexec (own := own) (text := text) (index := is) (a := sa) hown' hstr'.1 hstr'.2
    (g := { method := m, pc := pc + 4, locals := ls, stack := .ref T.heap.size :: .ref T.heap.size :: rest, locked := none }) rfl d4' _ hsteps
/-- 'throw new E("text")', the text by a wide index -/
theorem vx_throwSW {cc : ByteArray} {pc : Nat} (hexec : p.tables.exec = Jvm.exec) (hb : c.code = cc) (hl : l.stackTraces = false) {own cls text : String} {names : List String} {ik is ic mc ms sa : Nat} {A : Nat → Prop}
    (hown : s.vm.findClass own = some m.cls) (hcls : Bundle.fit cls = true) (hnames : ∀ n ∈ names, Bundle.fit n = true)
    (hk : (Cond.classLink own ik cls).before args s = true) (hini : (Cond.initialized cls).before args s = true) (hstr : vk_R own is text sa s) (hat : ∀ w ∈ vx_atS own ic cls names, w.before args s = true)
    (hgood : ∀ w ∈ Cond.classLink own ik cls :: Cond.initialized cls :: vx_atS own ic cls names, vx_ot w = true)
    (hU : vx_Zq Bundle.tN "UNASSIGNED_STACK" Bundle.steD A s s.heap) (hN : vx_Zq Bundle.tN "SUPPRESSED_SENTINEL" Bundle.listD A s s.heap) (hS : va_S A s.heap H locs) (hsize : ls.size = c.maxLocals)
    (d0 : decode cc pc = .ok (.new ik, 3)) (d3 : decode cc (pc + 3) = .ok (.dup, 1)) (d4 : decode cc (pc + 4) = .ok (.ldc_w is, 3)) (d7 : decode cc (pc + 7) = .ok (.invokespecial ic, 3)) (d10 : decode cc (pc + 10) = .ok (.athrow, 1))
    (hout : ∀ x ∈ c.exceptionTable.toList, covers x (pc + 10) = false)
    (hRframes : names.length + 3 < R.frames) (hRlocals : (rest.map fun v => v.category).sum + (13 * (names.length + 1) + 43) ≤ R.locals) (hRcells : cells + 1 ≤ R.cells) (hRslots : slots + 6 ≤ R.slots) (hlocks : meth.locks = false)
    (hx : ∀ t : State, s.vm.Alike t.vm → H.size ≤ t.heap.size → (∀ q : Nat, q < H.size → t.heap[q]? = H[q]?) → XC cls s t)
    (hf : ∀ z ∈ locs, free z.base) (hc : cells + 1 ≤ mc) (hs : slots + 6 ≤ ms) :
    W p l e R s m args below meth c H locs cells slots (vx_MQ below Qc XC args s mc ms free) (F0 m pc ls rest) := by
  intro T hT X
  have htr : e.platform.stackTraces = false := (show e.platform.stackTraces = l.stackTraces by rw [X.admits.platform]).trans hl
  have Y := vx_rebase X (R' := { frames := R.frames, locals := R.locals, cells := 1, slots := 6 }) (Nat.le_refl _) (Nat.le_refl _) hRcells hRslots
  obtain ⟨s', hA⟩ : ∃ z, z = (T.setVm s.vm).setFrames (.invoking m args :: below) := ⟨_, rfl⟩
  rw [← hA] at Y
  have hvm : s'.vm = s.vm := by rw [hA]; rfl
  have hhp : s'.heap = H := by rw [hA]; exact hT
  have hW0 : s.WarmedH s'.vm := by rw [hvm]; exact State.WarmedH.refl s
  have hat' : ∀ w ∈ vx_atS own ic cls names, w.before args s' = true := fun w hw => vx_ot_at hW0 hvm.symm (hgood w (List.mem_cons_of_mem _ (List.mem_cons_of_mem _ hw))) (hat w hw)
  have hk' : (Cond.classLink own ik cls).before args s' = true := vx_ot_at hW0 hvm.symm (hgood _ List.mem_cons_self) hk
  have hini' : (Cond.initialized cls).before args s' = true := vx_ot_at hW0 hvm.symm (hgood _ (List.mem_cons_of_mem _ List.mem_cons_self)) hini
  have hU' : vx_Zq Bundle.tN "UNASSIGNED_STACK" Bundle.steD A s' s'.heap := by rw [hhp]; exact vx_Zq.moved hW0.alike (hU.kept hS.2.1)
  have hN' : vx_Zq Bundle.tN "SUPPRESSED_SENTINEL" Bundle.listD A s' s'.heap := by rw [hhp]; exact vx_Zq.moved hW0.alike (hN.kept hS.2.1)
  have h : ∀ w ∈ Bundle.ownAtoms own ic cls names, w.before args s' = true := vx_own hat' (vx_isRefq hU'.1) (vx_isRefq hN'.1) hU'.2.word hN'.2.word
  have hown' : s'.vm.findClass own = some m.cls := by rw [hvm]; exact hown
  have hins : (Cond.instantiable cls 6).before args s' = true := h _ (by simp [Bundle.ownAtoms])
  obtain ⟨vm₁, cX, kX, hfX, hkX, -, -, X₁, st1⟩ := Y.newCold hexec (own := own) (C := cls) (index := ik) (n := 6) hown' hk' hins hini'
    (g := F0 m pc ls rest) rfl (by rw [hb]; exact d0) (Nat.le_refl _) (Nat.le_refl _)
  generalize hT1 : (T.setVm vm₁).pushCell { cls := cX, slots := kX.instanceTypes.map defaultValue, vm := .none } = T1 at X₁ st1
  have hcat : (Value.ref T.heap.size).category = 1 := rfl
  have hcellA : T1.heap[T.heap.size]? = some (freshCell cX kX) := by rw [← hT1]; exact State.heap_pushCell_size _ _
  have d3' : decode c.code (pc + 3) = .ok (.dup, 1) := by rw [hb]; exact d3
  have d4' : decode c.code (pc + 4) = .ok (.ldc_w is, 3) := by rw [hb]; exact d4
  have hstr' : vk_R own is text sa s' := vk_R.warm hW0 hstr
  obtain ⟨U, hsteps, hrun, hend, hW, hsame, ce, hce, hO⟩ := X₁.ctorThrowS hexec htr (own := own) (cls := cls) (names := names) (ic := ic) hown' hcls hnames h (fun x hx => nomatch hx) hfX hkX hcellA (by rw [hhp, hT]; exact Nat.le_refl _) (msg := .ref sa) rfl
    (g := { method := m, pc := pc + 7, locals := ls, stack := .ref sa :: .ref T.heap.size :: .ref T.heap.size :: rest, locked := none }) rfl hsize rfl rfl (rest := rest) rfl
    (by rw [hb]; exact d7) (by rw [hb]; exact d10) hout hRframes (by simp only [List.map_cons, List.sum_cons, hcat]; omega) hlocks
  obtain ⟨f1, f2⟩ := vx_frame hsame
  rw [hhp] at f1 f2
  have hWs : s.WarmedH U.vm := State.WarmedH.trans hW0 hW
  have hcl : s.vm.findClass cls = some ce.cls := by
    have h9 := hO.cls
    rw [hvm] at h9
    exact h9
  have hall : s.sameButNew ({ U with vm := s.vm } : State) locs mc ms := by
    subst hA
    obtain ⟨e1, e2⟩ := hsame
    rw [State.setFrames_setFrames] at e1
    have h2 : (T.setVm s.vm).sameButNew ({ U with vm := s.vm } : State) [] (0 + 1) (0 + 6) := ⟨e1, e2⟩
    have h3 := X.same.trans h2
    rw [List.append_nil] at h3
    exact h3.mono hc hs
  refine ⟨U, ?_, .threw T.heap.size, hrun, hend, Or.inr ⟨T.heap.size, rfl, cls, ce, locs, hx U hWs.alike f1 (fun q hq => f2 q hq (fun z hz => nomatch hz)), hce, hO.vm, hcl, hWs, hall, hf⟩⟩
  refine st1 _ ?_
  show Steps p.tables e below (T1.setTop { method := m, pc := pc + 3, locals := ls, stack := .ref T.heap.size :: rest, locked := none }) _
  jvm_step X₁.here [X₁.here.top, hexec, d3', Value.category]
  exact X₁.ldcStringW hexec (own := own) (text := text) (index := is) (a := sa) hown' hstr'.1 hstr'.2
    (g := { method := m, pc := pc + 4, locals := ls, stack := .ref T.heap.size :: .ref T.heap.size :: rest, locked := none }) rfl d4' _ hsteps
end Ends
section Bodies
variable {l : Launch}
theorem vx_ofW {y : MethodName} {ws ws' : List Cond} {rm : Room} {Pc : Array Value → State → Prop} {Qc : Array Value → State → Outcome → State → Prop} {XC : String → State → State → Prop} {mc ms : Nat} {free : Addr → Prop} {cc : ByteArray} {maxL : Nat} {ret : Option FieldType}
    (hy : plainName y.cls = true) (hw : ws = Cond.code y cc maxL ret :: ws')
    (body : ∀ p e s m args below meth c s₁, BodyLoose p l y (headSpec ws rm) cc maxL ret e s m args below meth c s₁ → c.maxLocals = maxL → (∀ x ∈ c.exceptionTable.toList, False) → Pc args s →
      W p l e (headSpec ws rm).room s m args below meth c s.heap [] 0 0 (vx_MQ below Qc XC args s mc ms free) (entryFrame m args maxL)) : vx_Met l y ws rm Pc Qc XC mc ms free := by
  refine MetFree.of_bodyS (code := cc) (maxLocals := maxL) (ret := ret) hy ?_ ?_
  · intro args s m h hn
    obtain ⟨meth, c, h1, h2, h3, h4, h5, h6, -, -⟩ := Cond.code_spec hn (atoms_spec (ws := ws) h _ (by rw [hw]; exact List.mem_cons_self))
    exact ⟨meth, c, h1, h2, h3, h4, h5, h6⟩
  · intro p e s m args below meth c s₁ B hml hP _
    have hh0 : s₁.heap = s.heap := by rw [B.state]; rfl
    have ht : ∀ x ∈ c.exceptionTable.toList, False := by
      obtain ⟨meth9, c9, h1, h2, -, -, -, -, h7, -⟩ := Cond.code_spec B.named (atoms_spec (ws := ws) B.pre _ (by rw [hw]; exact List.mem_cons_self))
      cases Option.some.inj (h1.symm.trans B.method)
      cases Option.some.inj (h2.symm.trans (Stand.of_body B).code)
      intro x hx
      rw [Array.isEmpty_iff.mp h7] at hx
      cases hx
    obtain ⟨t, a1, o, b1, b2, b3⟩ := body p e s m args below meth c s₁ B hml ht hP s₁ hh0 (Stand.of_body B)
    exact ⟨t, o, a1, b1, b2, b3⟩
/-- the table of a body with handlers -/
theorem vx_table {p : Program} {x y : MethodName} {S : Spec} {cc bytes : ByteArray} {maxL maxL' : Nat} {ret ret' : Option FieldType} {e : Env} {s s₁ : State} {m : MethodId} {args : Array Value} {below : List Frame} {meth : Method} {c : Code} {hh : List (Nat × Nat × Nat × Nat)}
    (B : BodyLoose p l y S cc maxL ret e s m args below meth c s₁) (h : (Cond.codeWith y bytes maxL' ret' hh).before args s = true) : c.exceptionTable.toList = tableOf hh := by
  obtain ⟨m9, meth9, c9, hn9, h1, h2, -, -, h6, -⟩ := Cond.codeWith_spec h
  cases Option.some.inj (hn9.symm.trans B.named)
  cases Option.some.inj (h1.symm.trans B.method)
  cases Option.some.inj (h2.symm.trans (Stand.of_body B).code)
  rw [← h6, table_eq]
end Bodies
end VXA
/-! ===== END ===== -/
/-! ===== BEGIN a static call of a method with an exception table ===== -/
section VXS
variable {p : Program} {l : Launch} {e : Env} {R : Room} {s : State} {m : MethodId} {args : Array Value} {below : List Frame} {meth : Method} {c : Code} {T : State} {H : Heap} {locs : List Loc} {cells slots : Nat}
abbrev vx_CSW (R : Room) (s : State) (args : Array Value) (own : String) (index : Nat) (y : MethodName) (bytes : ByteArray) (maxL : Nat) (ret : Option FieldType) (hh : List (Nat × Nat × Nat × Nat)) (ws : List Cond) (rm : Room) (mc ms n : Nat) : Prop :=
  (rm.cells = mc ∧ rm.slots = ms ∧ rm.frames + 1 ≤ R.frames ∧ 8 + (maxL + 11) + rm.locals ≤ R.locals ∧ (∀ w ∈ ws, ∀ (a' : Array Value) (U : State), s.WarmedH U.vm → w.before a' U = true) ∧ Cond.codeWith y bytes maxL ret hh ∈ ws) ∧
  (Cond.codeWith y bytes maxL ret hh).before args s = true ∧ (Cond.initialized y.cls).before args s = true ∧ (y.cls ≠ "java/lang/invoke/MethodHandle" ∧ y.cls ≠ "java/lang/invoke/VarHandle") ∧
  (∀ sig, parseMethodDescriptor y.desc = some sig → n = sig.parameters.length) ∧ (Cond.methodLink own index y).before args s = true ∧ (Cond.static y).before args s = true
theorem vx_cwSW {own : String} {index maxL mc ms : Nat} {y : MethodName} {bytes : ByteArray} {ret : Option FieldType} {hh : List (Nat × Nat × Nat × Nat)} {Ts ws ws' : List Cond} {rm : Room} (n : Nat) (ht : ∀ w ∈ Ts, w.before args s = true) (hT : GoodIn Ts (va_wsS own index y ws)) (hw : ws = Cond.codeWith y bytes maxL ret hh :: ws') (hrc : rm.cells = mc) (hrs : rm.slots = ms)
    (hd : y.cls ≠ "java/lang/invoke/MethodHandle" ∧ y.cls ≠ "java/lang/invoke/VarHandle" ∧ (parseMethodDescriptor y.desc).map (fun d => d.parameters.length) = some n) (hR : rm.frames + 1 ≤ R.frames ∧ 8 + (maxL + 11) + rm.locals ≤ R.locals) :
    vx_CSW R s args own index y bytes maxL ret hh ws rm mc ms n := by
  have ok : ∀ w ∈ va_wsS own index y ws, w.before args s = true := fun w h => ht w (hT w h).1
  have hG : GoodIn Ts ws := fun w h => hT w (by unfold va_wsS; exact List.mem_append_right _ h)
  have hc : Cond.codeWith y bytes maxL ret hh ∈ ws := by rw [hw]; exact List.mem_cons_self
  refine ⟨⟨hrc, hrs, hR.1, hR.2, pay_in ht hG, hc⟩, ht _ (hG _ hc).1, ok _ (by simp [va_wsS]), ⟨hd.1, hd.2.1⟩, fun sig h => ?_, ok _ (by simp [va_wsS]), ok _ (by simp [va_wsS])⟩
  have h2 := hd.2.2
  rw [h] at h2
  exact (Option.some.inj h2).symm
theorem vx_callSW (X : Stand p l e R s m args below meth c T locs cells slots) (hexec : p.tables.exec = Jvm.exec) {own : String} {index : Nat} {y : MethodName} {bytes : ByteArray} {maxL : Nat} {ret : Option FieldType} {hh : List (Nat × Nat × Nat × Nat)}
    (hown : s.vm.findClass own = some m.cls) (hlink : (Cond.methodLink own index y).before args s = true) (hstat : (Cond.static y).before args s = true) (hinit : (Cond.initialized y.cls).before args s = true)
    (hcode : (Cond.codeWith y bytes maxL ret hh).before args s = true) (hy : y.cls ≠ "java/lang/invoke/MethodHandle" ∧ y.cls ≠ "java/lang/invoke/VarHandle")
    {W9 : Nat} {Pre : Pt → Array Value → Prop} {Post : Pt → Array Value → Option Value → Pt → Prop} (hK : Back l R p e below s args y 3 W9 Pre Post)
    {g : JFrame} (hg : g.method = m) (hsize : g.locals.size = c.maxLocals) {argsL rest : List Value} (hlen : ∀ sig, parseMethodDescriptor y.desc = some sig → argsL.length = sig.parameters.length)
    (hstack : g.stack = argsL.reverse ++ rest) (hW : 2 * g.monitorRoom + (rest.map fun v => v.category).sum ≤ W9) (hdg : decode c.code g.pc = .ok (.invokestatic index, 3))
    (hpre : ∀ vm₁, s.WarmedH vm₁ → Pre ⟨T.setVm vm₁, locs, cells, slots⟩ argsL.toArray) :
    ∃ (v : Option Value) (vm₁ : Vm) (B : Pt), s.WarmedH vm₁ ∧ Stand p l e R s m args below meth c B.U B.locs B.cells B.slots ∧ Post ⟨T.setVm vm₁, locs, cells, slots⟩ argsL.toArray v B ∧
      ∀ target, Steps p.tables e below (B.U.setTop { g with pc := g.pc + 3, stack := v.toList ++ rest }) target → Steps p.tables e below (T.setTop g) target := by
  obtain ⟨mk, methM, cM, hnamed, hmethM, -, -, -, -, -, -, hsigM⟩ := Cond.codeWith_spec hcode
  have hstatic : methM.isStatic = true := Cond.static_spec hnamed hmethM hstat
  obtain ⟨kP, hkP, -⟩ := className_of_methodNamed hnamed
  have hinitP : kP.init = .initialized := Cond.initialized_spec (findClass_of_methodNamed hnamed) hkP hinit
  obtain ⟨vm₁, X₁, hstep₁⟩ := X.invokestatic hexec hown hlink hnamed hmethM hstatic hkP hinitP hy (g := g) hg (argsL := argsL) (rest := rest) (hlen _ hsigM) hstack hdg
  obtain ⟨v, B, X', hpost, hsteps⟩ := hK m meth c ⟨T.setVm vm₁, locs, cells, slots⟩ { g with stack := rest } (.invokestatic index) mk argsL.toArray X₁ hg hsize hdg hW (X₁.named hnamed) (hpre vm₁ X₁.warmed)
  exact ⟨v, vm₁, B, X₁.warmed, X', hpost, fun target h => hstep₁ _ fun acts => by rw [doInvoke_state]; exact hsteps.trans h⟩
theorem vx_runSW {y : MethodName} {bytes cc : ByteArray} {maxL nL mc ms n index : Nat} {ret : Option FieldType} {hh : List (Nat × Nat × Nat × Nat)} {ws : List Cond} {rm : Room} {Pc : Array Value → State → Prop} {Qc : Array Value → State → Outcome → State → Prop} {free : Addr → Prop} {Ts : List Cond} {own : String} {As rest : List Value} {g : JFrame}
    (S : CallFix p m c cc nL s args Ts own) (hM : Met l y ws rm Pc Qc mc ms free) (cw : vx_CSW R s args own index y bytes maxL ret hh ws rm mc ms n) (hp : PreS s H Pc As)
    (hg : g.method = m) (hn : As.length = n) (hsize : g.locals.size = nL) (hstack : g.stack = As.reverse ++ rest) (hW : 2 * g.monitorRoom + (rest.map fun v => v.category).sum ≤ 8) (hdg : decode cc g.pc = .ok (.invokestatic index, 3)) (hf : cells + mc ≤ R.cells ∧ slots + ms ≤ R.slots) :
    va_Run p l e R s m args below meth c H locs cells slots mc ms g rest (Qc As.toArray) (free) := by
  obtain ⟨⟨hrc, hrs, hfr, hlo, hws, hcw⟩, hcode, hini, hy, hlen, hl, hstt⟩ := cw
  have hK : Back l R p e below s args y 3 8 (PreOf R mc ms Pc) (PostOf Qc mc ms free) := va_backW (hh := hh) (bytes := bytes) (maxL := maxL) (ret := ret) hM hp.1 hrc hrs hfr hlo hws hcw (fun a' U hW => word_at hW (Or.inl (by first | rfl | simp [Cond.onTables, Cond.keeps, Cond.steady])) hini)
  obtain ⟨hx, hb, hml, ho, -⟩ := S
  intro T hT X
  obtain ⟨v, vm₁, ⟨U', l2, c2, s2⟩, hW₁, X', ⟨g', mk, t, L, e1, e2, hq, h1, hL, h2, h3⟩, st⟩ := vx_callSW X hx (hh := hh) (bytes := bytes) (maxL := maxL) (ret := ret) ho hl hstt hini hcode hy hK hg (hsize.trans hml.symm) (argsL := As) (rest := rest) (fun sig h => hn.trans (hlen sig h)) hstack hW (by rw [hb]; exact hdg)
    (fun vm₁ hW₁ => ⟨hf.1, hf.2, hp.2 (T.setVm vm₁) hT hW₁⟩)
  dsimp only [Pt.U, Pt.locs, Pt.cells, Pt.slots] at X' e1 e2 h1 h2 h3 st
  subst h1; subst h2; subst h3
  exact ⟨v, (T.setVm vm₁).calling g' mk As.toArray, t, U', L, hT, X', hL, e1, e2, hq, st⟩
/-- not caught here, past rows that name other classes: it goes on to the caller -/
theorem vx_outP {p : Program} {l : Launch} {e : Env} {R : Room} {s : State} {m : MethodId} {args : Array Value} {below : List Frame} {meth : Method} {c : Code} {H : Heap} {locs : List Loc} {cells slots : Nat} {free : Addr → Prop} {ls : Array Slot} {rest : List Value} {Qc : Array Value → State → Outcome → State → Prop} {XC : String → State → State → Prop}
    {pc : Nat} {own E : String} {ce : Cell} {q : Addr} {mc ms : Nat} (hown : s.vm.findClass own = some m.cls) (hlocks : meth.locks = false)
    (hpass : ∀ z ∈ c.exceptionTable.toList, covers z pc = false ∨ (z.catchType ≠ 0 ∧ ∃ nm : String, (Cond.classLink own z.catchType nm).before args s = true ∧ va_Nc E nm s)) (hcell : H[q]? = some ce) (hv : ce.vm = .none) (hcl : s.vm.findClass E = some ce.cls)
    (hx : ∀ t : State, t.heap = H → s.vm.Alike t.vm → XC E s t) (hf : ∀ z ∈ locs, free z.base) (hc : cells ≤ mc) (hs : slots ≤ ms) :
    vx_W p l e R s m args below meth c H locs cells slots (vx_MQ below Qc XC args s mc ms free) (F0 m pc ls rest) q := by
  intro T hT X
  have hpl : e.platform.magicAccessors = ({} : Platform).magicAccessors := by rw [X.admits.platform]
  obtain ⟨vm', hW', X', st⟩ := X.outThrough hlocks q (g := F0 m pc ls rest) rfl rfl rfl (cell := ce) (by rw [hT]; exact hcell) (by rw [hv]; rfl)
    (by obtain ⟨k9, h9, -⟩ := Vm.findClass_spec hcl; exact ⟨k9, h9⟩) (fun z hz => by
      rcases hpass z hz with h | ⟨hz0, nm, hl1, hn1⟩
      · exact Or.inl h
      · obtain ⟨c6, hc6, hcl6⟩ := Cond.classLink_spec hown hl1 e.platform hpl
        obtain ⟨a8, b8, h1, h2, h3⟩ := hn1
        cases Option.some.inj (h1.symm.trans hcl)
        cases Option.some.inj (h2.symm.trans hc6)
        exact Or.inr ⟨hz0, _, hcl6, h3⟩)
  obtain ⟨g₀, hfr⟩ := X'.frames_eq
  have hcell9 : ((T.setVm vm').setFrames (.throwing q :: below)).heap[q]? = some ce := by
    show T.heap[q]? = some ce
    rw [hT]; exact hcell
  have hend : Ended ((T.setVm vm').setFrames (.throwing q :: below)) below (.threw q) := State.frames_setFrames _ (State.cur_lt_of_frames hfr)
  refine ⟨(T.setVm vm').setFrames (.throwing q :: below), ?_, .threw q, X'.here.running, hend, Or.inr ⟨q, rfl, E, ce, locs, hx _ hT (X'.ends _).1.alike, hcell9, hv, hcl, (X'.ends _).1, (X'.ends _).2.mono hc hs, hf⟩⟩
  rw [X.pushThrowing_eq]
  exact st
/-- a thing of a world lies in the heap -/
theorem vx_lt {D : va_G} {cl : List vw_C} {ws : va_W} {H1 : Heap} (h : va_P D cl ws H1) {k : Nat} {q : Nat × va_E} (hk : ws[k]? = some q) : q.1 < H1.size := (h k q hk).lt
end VXS
/-! ===== END ===== -/
/-! ===== BEGIN methods with a table of their own: called by a name, returning or throwing ===== -/
section VXH
/-! vx_backW, vx_callVX, vx_callSX, vx_callVW, vx_runVW, vx_runVX, vx_runSX, vx_ofWH follow the same proofs as their sisters above (Free/Laws.lean, Shelf42/LK1.lean); vx_outP calls Shelf42/NT130.lean (outThrough). -/
section
variable {l : Launch} {R : Room} {p : Program} {e : Env} {below : List Frame} {s : State} {sargs : Array Value} {y : MethodName} {len W9 : Nat}
theorem vx_backW {ws : List Cond} {rm : Room} {Pc : Array Value → State → Prop} {Qc : Array Value → State → Outcome → State → Prop} {XC : String → State → State → Prop} {mc ms : Nat} {free : Addr → Prop} {bytes : ByteArray} {maxL : Nat} {ret : Option FieldType} {hh : List (Nat × Nat × Nat × Nat)}
    (hM : vx_Met l y ws rm Pc Qc XC mc ms free) (hblind : FrameBlind Pc) (hrc : rm.cells = mc) (hrs : rm.slots = ms)
    (hframes : rm.frames + 1 ≤ R.frames) (hlocals : W9 + (maxL + 11) + rm.locals ≤ R.locals)
    (hws : ∀ w ∈ ws, ∀ a' U, s.WarmedH U.vm → w.before a' U = true) (hcode : Cond.codeWith y bytes maxL ret hh ∈ ws) (hinit : ∀ a' U, s.WarmedH U.vm → (Cond.initialized y.cls).before a' U = true) :
    vx_Back l R p e below s sargs y len W9 (PreOf R mc ms Pc) (PostOf Qc mc ms free) (vx_Post XC mc ms free) := by
  intro m meth c A g ig mk a X hg hsize hdg hW hn hp
  have h1 : (headSpec ws rm).pre.before a A.U = true := atoms_intro fun w hw => hws w hw _ _ X.warmed
  have h2 : (Cond.codeWith y bytes maxL ret hh).before a A.U = true := hws _ hcode _ _ X.warmed
  have h3 : (Cond.initialized y.cls).before a A.U = true := hinit _ _ X.warmed
  have h4 : A.cells + (headSpec ws rm).room.cells ≤ R.cells := by rw [show (headSpec ws rm).room.cells = mc from hrc]; exact hp.1
  have h5 : A.slots + (headSpec ws rm).room.slots ≤ R.slots := by rw [show (headSpec ws rm).room.slots = ms from hrs]; exact hp.2.1
  have hPc : Pc a (A.U.calling g mk a) := hblind _ _ _ _ hp.2.2
  obtain ⟨U, Ls, c0, s0⟩ := A
  dsimp only [Pt.U, Pt.locs, Pt.cells, Pt.slots] at h1 h2 h3 h4 h5 X hn hPc ⊢
  obtain ⟨m9, methY, cY, hn9, hmY, hcY, -, hlY, -⟩ := Cond.codeWith_spec h2
  cases Option.some.inj (hn9.symm.trans hn)
  obtain ⟨kY, hkY, -⟩ := className_of_methodNamed hn
  have hinitY : kY.init = .initialized := Cond.initialized_spec (findClass_of_methodNamed hn) hkY h3
  have h : At U g.method c below := by rw [hg]; exact X.here
  have hlocals9 : W9 + (maxL + 11) + (headSpec ws rm).room.locals ≤ R.locals := hlocals
  have happ : (headSpec ws rm).appliesLoose y e.platform (U.calling g mk a) = true :=
    Spec.appliesLoose_calling (g := g) h hdg hn hkY hinitY
      (X.room_calling (g := g) (R' := (headSpec ws rm).room) hsize hmY hcY hframes (by rw [hlY]; omega) h4 h5) h1
  obtain ⟨mid, hmid⟩ := h.above
  have hfr : (U.setTop g).frames = (.java g :: mid) ++ below := by rw [State.frames_setTop' g h.top, hmid]; rfl
  obtain ⟨o, s₂, hsteps, -, hend, hq⟩ := Steps.callFree hM p X.admits X.cas X.clock (acts := []) hfr happ hPc trivial
  have hq' : vx_Q Qc XC mc ms free a (U.calling g mk a) o s₂ := hq
  rw [State.frames_setTop' g h.top] at hend
  obtain ⟨g₀, hg0⟩ := Option.isSome_iff_exists.mp h.top
  obtain ⟨r, hr⟩ := State.topJava?_eq_some.mp hg0
  have hr' : (({ U with heap := s₂.heap, slotsUsed := s₂.slotsUsed } : State).setVm s₂.vm).frames = .java g₀ :: r := hr
  rcases hq' with ⟨hqc, L, hfe, hL⟩ | ⟨q, rfl, E, ce, L, hx, hce, hcv, hcl, hW₂, hsm, hL⟩
  · obtain ⟨⟨v, rfl⟩, hW₂, e2, q2, q3, q4, q5, q6⟩ := id hfe
    have e3 : s₂ = ({ (U.calling g mk a).setFrames s₂.frames with heap := s₂.heap, slotsUsed := s₂.slotsUsed } : State).setVm s₂.vm := by
      have : s₂ = ({ s₂ with vm := (U.calling g mk a).vm } : State).setVm s₂.vm := rfl
      rw [e2] at this
      exact this
    obtain ⟨c₂, i₂, len₂, hc₂, hd₂, hf₂⟩ := hend
    have hW' : U.WarmedH s₂.vm := hW₂
    have hcc : c₂ = c := by
      have h1 : s₂.code? g.method = U.code? g.method := by
        rw [State.code?_eq, State.code?_eq, hW'.alike.method?]
      exact Option.some.inj (hc₂.symm.trans (h1.trans h.code))
    subst hcc
    have hlen : len₂ = len := by rw [hdg] at hd₂; cases hd₂; rfl
    subst hlen
    have hs₂ : s₂ = (({ U with heap := s₂.heap, slotsUsed := s₂.slotsUsed } : State).setVm s₂.vm).setTop { g with pc := g.pc + len₂, stack := v.toList ++ g.stack } := by
      refine e3.trans ?_
      rw [hf₂, State.calling_eq h.top, State.setFrames_setFrames, State.setTop_of_frames _ hr', hr]
      rfl
    have hsame : U.sameButNew ({ U with heap := s₂.heap, slotsUsed := s₂.slotsUsed } : State) L mc ms := by
      refine ⟨?_, q2, q3, q4, q5, q6⟩
      obtain ⟨t, ht, -⟩ := State.frames_cons hr
      show ({ U with heap := s₂.heap, slotsUsed := s₂.slotsUsed } : State) = { U.setFrames U.frames with heap := s₂.heap, slotsUsed := s₂.slotsUsed }
      rw [State.setFrames_self ht]
    subst hg
    refine Or.inl ⟨v, ⟨(({ U with heap := s₂.heap, slotsUsed := s₂.slotsUsed } : State).setVm s₂.vm), Ls ++ L, c0 + mc, s0 + ms⟩,
      ⟨X.admits, X.cas, X.clock, X.frames, X.room, X.hears, X.method, X.code, (X.here.setHeapUsed s₂.heap s₂.slotsUsed).setVm hW'.alike, X.tail, State.WarmedH.trans X.warmed hW', X.limits, X.bytes, X.same.trans (hsame.setVm s.vm)⟩,
      ⟨g, mk, s₂, L, rfl, rfl, hqc, rfl, hL, rfl, rfl⟩, ?_⟩
    show Steps p.tables e below _ ((({ U with heap := s₂.heap, slotsUsed := s₂.slotsUsed } : State).setVm s₂.vm).setTop { g with pc := g.pc + len₂, stack := v.toList ++ g.stack })
    rw [← hs₂]
    exact hsteps
  · obtain ⟨e2, q2, q3, q4, q5, q6⟩ := id hsm
    have e3 : s₂ = ({ (U.calling g mk a).setFrames s₂.frames with heap := s₂.heap, slotsUsed := s₂.slotsUsed } : State).setVm s₂.vm := by
      have : s₂ = ({ s₂ with vm := (U.calling g mk a).vm } : State).setVm s₂.vm := rfl
      rw [e2] at this
      exact this
    have hf₂ : s₂.frames = .throwing q :: .java g :: U.frames.tail := hend
    have hW' : U.WarmedH s₂.vm := hW₂
    have hs₂ : s₂ = ((({ U with heap := s₂.heap, slotsUsed := s₂.slotsUsed } : State).setVm s₂.vm).setTop g).pushFrame (.throwing q) := by
      refine e3.trans ?_
      rw [hf₂, State.calling_eq h.top, State.setFrames_setFrames, State.pushFrame, State.frames_setTop _ hr', State.setTop_of_frames _ hr', State.setFrames_setFrames, hr]
      rfl
    have hsame : U.sameButNew ({ U with heap := s₂.heap, slotsUsed := s₂.slotsUsed } : State) L mc ms := by
      refine ⟨?_, q2, q3, q4, q5, q6⟩
      obtain ⟨t, ht, -⟩ := State.frames_cons hr
      show ({ U with heap := s₂.heap, slotsUsed := s₂.slotsUsed } : State) = { U.setFrames U.frames with heap := s₂.heap, slotsUsed := s₂.slotsUsed }
      rw [State.setFrames_self ht]
    subst hg
    refine Or.inr ⟨q, ⟨(({ U with heap := s₂.heap, slotsUsed := s₂.slotsUsed } : State).setVm s₂.vm), Ls ++ L, c0 + mc, s0 + ms⟩,
      ⟨X.admits, X.cas, X.clock, X.frames, X.room, X.hears, X.method, X.code, (X.here.setHeapUsed s₂.heap s₂.slotsUsed).setVm hW'.alike, X.tail, State.WarmedH.trans X.warmed hW', X.limits, X.bytes, X.same.trans (hsame.setVm s.vm)⟩,
      ⟨g, mk, s₂, L, E, ce, rfl, rfl, hx, hce, hcv, hcl, rfl, hL, rfl, rfl⟩, ?_⟩
    show Steps p.tables e below _ (((({ U with heap := s₂.heap, slotsUsed := s₂.slotsUsed } : State).setVm s₂.vm).setTop g).pushFrame (.throwing q))
    rw [← hs₂]
    exact hsteps
end
variable {p : Program} {l : Launch} {e : Env} {R : Room} {s : State} {m : MethodId} {args : Array Value} {below : List Frame} {meth : Method} {c : Code} {T : State} {H : Heap} {locs : List Loc} {cells slots : Nat}
theorem vx_callVX (X : Stand p l e R s m args below meth c T locs cells slots) (hexec : p.tables.exec = Jvm.exec) {own C : String} {index : Nat} {y : MethodName} {bytes : ByteArray} {maxL : Nat} {ret : Option FieldType} {hh : List (Nat × Nat × Nat × Nat)}
    (hown : s.vm.findClass own = some m.cls) (hlink : (Cond.methodLink own index y).before args s = true) (hinst : (Cond.instanceMethod y).before args s = true) (hsel : (Cond.selects C y y).before args s = true)
    (hcode : (Cond.codeWith y bytes maxL ret hh).before args s = true) (hy : y.cls ≠ "java/lang/invoke/MethodHandle" ∧ y.cls ≠ "java/lang/invoke/VarHandle")
    {W9 : Nat} {Pre : Pt → Array Value → Prop} {Post : Pt → Array Value → Option Value → Pt → Prop} {PostX : Pt → Array Value → Addr → Pt → Prop} (hK : vx_Back l R p e below s args y 3 W9 Pre Post PostX)
    {b : Addr} {cellB : Cell} (hcell : T.heap[b]? = some cellB) (hobj : cellB.vm.isStatics = false) (hcls : s.vm.findClass C = some cellB.cls)
    {g : JFrame} (hg : g.method = m) (hsize : g.locals.size = c.maxLocals) {argsL rest : List Value} (hlen : ∀ sig, parseMethodDescriptor y.desc = some sig → argsL.length = sig.parameters.length)
    (hstack : g.stack = argsL.reverse ++ .ref b :: rest) (hW : 2 * g.monitorRoom + (rest.map fun v => v.category).sum ≤ W9) (hdg : decode c.code g.pc = .ok (.invokevirtual index, 3))
    (hpre : ∀ vm₁, s.WarmedH vm₁ → Pre ⟨T.setVm vm₁, locs, cells, slots⟩ (Value.ref b :: argsL).toArray) :
    (∃ (v : Option Value) (vm₁ : Vm) (B : Pt), s.WarmedH vm₁ ∧ Stand p l e R s m args below meth c B.U B.locs B.cells B.slots ∧ Post ⟨T.setVm vm₁, locs, cells, slots⟩ (Value.ref b :: argsL).toArray v B ∧
      ∀ target, Steps p.tables e below (B.U.setTop { g with pc := g.pc + 3, stack := v.toList ++ rest }) target → Steps p.tables e below (T.setTop g) target) ∨
    (∃ (q : Addr) (vm₁ : Vm) (B : Pt), s.WarmedH vm₁ ∧ Stand p l e R s m args below meth c B.U B.locs B.cells B.slots ∧ PostX ⟨T.setVm vm₁, locs, cells, slots⟩ (Value.ref b :: argsL).toArray q B ∧
      Steps p.tables e below (T.setTop g) ((B.U.setTop { g with stack := rest }).pushFrame (.throwing q))) := by
  obtain ⟨mk, methM, hnamed, hmethM, hstM, habM⟩ := Cond.instanceMethod_spec hinst
  obtain ⟨m8, methM', cM, hn8, hmethM', -, -, -, -, -, -, hsigM⟩ := Cond.codeWith_spec hcode
  cases Option.some.inj (hn8.symm.trans hnamed)
  cases hmethM.symm.trans hmethM'
  obtain ⟨c2, r2, m2, q1, q2, q3, q4, kP, hkP, hkPi⟩ := Cond.selects_spec hsel
  cases hcls.symm.trans q1
  cases (State.methodFound?_of_named hnamed hy).symm.trans q2
  cases hnamed.symm.trans q3
  have hselP : selectMethod e.platform s.vm cellB.cls mk = .method mk := by rw [Launch.admits_selectMethod X.admits]; exact q4
  obtain ⟨vm₁, X₁, hstep₁⟩ := X.invokevirtual hexec hown hlink hnamed hmethM hstM hkP hkPi hy (a := b) (cell := cellB) hcell
    (fun z h => by rw [h] at hobj; cases hobj) hselP hmethM habM hkP hkPi (g := g) hg (argsL := argsL) (rest := rest) (hlen _ hsigM) hstack hdg
  rcases hK m meth c ⟨T.setVm vm₁, locs, cells, slots⟩ { g with stack := rest } (.invokevirtual index) mk (Value.ref b :: argsL).toArray X₁ hg hsize hdg hW (X₁.named hnamed) (hpre vm₁ X₁.warmed) with ⟨v, B, X', hpost, hsteps⟩ | ⟨q, B, X', hpost, hsteps⟩
  · exact Or.inl ⟨v, vm₁, B, X₁.warmed, X', hpost, fun target h => hstep₁ _ fun acts => by rw [doInvoke_state]; exact hsteps.trans h⟩
  · exact Or.inr ⟨q, vm₁, B, X₁.warmed, X', hpost, hstep₁ _ fun acts => by rw [doInvoke_state]; exact hsteps⟩
theorem vx_callSX (X : Stand p l e R s m args below meth c T locs cells slots) (hexec : p.tables.exec = Jvm.exec) {own : String} {index : Nat} {y : MethodName} {bytes : ByteArray} {maxL : Nat} {ret : Option FieldType} {hh : List (Nat × Nat × Nat × Nat)}
    (hown : s.vm.findClass own = some m.cls) (hlink : (Cond.methodLink own index y).before args s = true) (hstat : (Cond.static y).before args s = true) (hinit : (Cond.initialized y.cls).before args s = true)
    (hcode : (Cond.codeWith y bytes maxL ret hh).before args s = true) (hy : y.cls ≠ "java/lang/invoke/MethodHandle" ∧ y.cls ≠ "java/lang/invoke/VarHandle")
    {W9 : Nat} {Pre : Pt → Array Value → Prop} {Post : Pt → Array Value → Option Value → Pt → Prop} {PostX : Pt → Array Value → Addr → Pt → Prop} (hK : vx_Back l R p e below s args y 3 W9 Pre Post PostX)
    {g : JFrame} (hg : g.method = m) (hsize : g.locals.size = c.maxLocals) {argsL rest : List Value} (hlen : ∀ sig, parseMethodDescriptor y.desc = some sig → argsL.length = sig.parameters.length)
    (hstack : g.stack = argsL.reverse ++ rest) (hW : 2 * g.monitorRoom + (rest.map fun v => v.category).sum ≤ W9) (hdg : decode c.code g.pc = .ok (.invokestatic index, 3))
    (hpre : ∀ vm₁, s.WarmedH vm₁ → Pre ⟨T.setVm vm₁, locs, cells, slots⟩ argsL.toArray) :
    (∃ (v : Option Value) (vm₁ : Vm) (B : Pt), s.WarmedH vm₁ ∧ Stand p l e R s m args below meth c B.U B.locs B.cells B.slots ∧ Post ⟨T.setVm vm₁, locs, cells, slots⟩ argsL.toArray v B ∧
      ∀ target, Steps p.tables e below (B.U.setTop { g with pc := g.pc + 3, stack := v.toList ++ rest }) target → Steps p.tables e below (T.setTop g) target) ∨
    (∃ (q : Addr) (vm₁ : Vm) (B : Pt), s.WarmedH vm₁ ∧ Stand p l e R s m args below meth c B.U B.locs B.cells B.slots ∧ PostX ⟨T.setVm vm₁, locs, cells, slots⟩ argsL.toArray q B ∧
      Steps p.tables e below (T.setTop g) ((B.U.setTop { g with stack := rest }).pushFrame (.throwing q))) := by
  obtain ⟨mk, methM, cM, hnamed, hmethM, -, -, -, -, -, -, hsigM⟩ := Cond.codeWith_spec hcode
  have hstatic : methM.isStatic = true := Cond.static_spec hnamed hmethM hstat
  obtain ⟨kP, hkP, -⟩ := className_of_methodNamed hnamed
  have hinitP : kP.init = .initialized := Cond.initialized_spec (findClass_of_methodNamed hnamed) hkP hinit
  obtain ⟨vm₁, X₁, hstep₁⟩ := X.invokestatic hexec hown hlink hnamed hmethM hstatic hkP hinitP hy (g := g) hg (argsL := argsL) (rest := rest) (hlen _ hsigM) hstack hdg
  rcases hK m meth c ⟨T.setVm vm₁, locs, cells, slots⟩ { g with stack := rest } (.invokestatic index) mk argsL.toArray X₁ hg hsize hdg hW (X₁.named hnamed) (hpre vm₁ X₁.warmed) with ⟨v, B, X', hpost, hsteps⟩ | ⟨q, B, X', hpost, hsteps⟩
  · exact Or.inl ⟨v, vm₁, B, X₁.warmed, X', hpost, fun target h => hstep₁ _ fun acts => by rw [doInvoke_state]; exact hsteps.trans h⟩
  · exact Or.inr ⟨q, vm₁, B, X₁.warmed, X', hpost, hstep₁ _ fun acts => by rw [doInvoke_state]; exact hsteps⟩
theorem vx_callVW (X : Stand p l e R s m args below meth c T locs cells slots) (hexec : p.tables.exec = Jvm.exec) {own C : String} {index : Nat} {y : MethodName} {bytes : ByteArray} {maxL : Nat} {ret : Option FieldType} {hh : List (Nat × Nat × Nat × Nat)}
    (hown : s.vm.findClass own = some m.cls) (hlink : (Cond.methodLink own index y).before args s = true) (hinst : (Cond.instanceMethod y).before args s = true) (hsel : (Cond.selects C y y).before args s = true)
    (hcode : (Cond.codeWith y bytes maxL ret hh).before args s = true) (hy : y.cls ≠ "java/lang/invoke/MethodHandle" ∧ y.cls ≠ "java/lang/invoke/VarHandle")
    {W9 : Nat} {Pre : Pt → Array Value → Prop} {Post : Pt → Array Value → Option Value → Pt → Prop} (hK : Back l R p e below s args y 3 W9 Pre Post)
    {b : Addr} {cellB : Cell} (hcell : T.heap[b]? = some cellB) (hobj : cellB.vm.isStatics = false) (hcls : s.vm.findClass C = some cellB.cls)
    {g : JFrame} (hg : g.method = m) (hsize : g.locals.size = c.maxLocals) {argsL rest : List Value} (hlen : ∀ sig, parseMethodDescriptor y.desc = some sig → argsL.length = sig.parameters.length)
    (hstack : g.stack = argsL.reverse ++ .ref b :: rest) (hW : 2 * g.monitorRoom + (rest.map fun v => v.category).sum ≤ W9) (hdg : decode c.code g.pc = .ok (.invokevirtual index, 3))
    (hpre : ∀ vm₁, s.WarmedH vm₁ → Pre ⟨T.setVm vm₁, locs, cells, slots⟩ (Value.ref b :: argsL).toArray) :
    ∃ (v : Option Value) (vm₁ : Vm) (B : Pt), s.WarmedH vm₁ ∧ Stand p l e R s m args below meth c B.U B.locs B.cells B.slots ∧ Post ⟨T.setVm vm₁, locs, cells, slots⟩ (Value.ref b :: argsL).toArray v B ∧
      ∀ target, Steps p.tables e below (B.U.setTop { g with pc := g.pc + 3, stack := v.toList ++ rest }) target → Steps p.tables e below (T.setTop g) target := by
  obtain ⟨mk, methM, hnamed, hmethM, hstM, habM⟩ := Cond.instanceMethod_spec hinst
  obtain ⟨m8, methM', cM, hn8, hmethM', -, -, -, -, -, -, hsigM⟩ := Cond.codeWith_spec hcode
  cases Option.some.inj (hn8.symm.trans hnamed)
  cases hmethM.symm.trans hmethM'
  obtain ⟨c2, r2, m2, q1, q2, q3, q4, kP, hkP, hkPi⟩ := Cond.selects_spec hsel
  cases hcls.symm.trans q1
  cases (State.methodFound?_of_named hnamed hy).symm.trans q2
  cases hnamed.symm.trans q3
  have hselP : selectMethod e.platform s.vm cellB.cls mk = .method mk := by rw [Launch.admits_selectMethod X.admits]; exact q4
  obtain ⟨vm₁, X₁, hstep₁⟩ := X.invokevirtual hexec hown hlink hnamed hmethM hstM hkP hkPi hy (a := b) (cell := cellB) hcell
    (fun z h => by rw [h] at hobj; cases hobj) hselP hmethM habM hkP hkPi (g := g) hg (argsL := argsL) (rest := rest) (hlen _ hsigM) hstack hdg
  obtain ⟨v, B, X', hpost, hsteps⟩ := hK m meth c ⟨T.setVm vm₁, locs, cells, slots⟩ { g with stack := rest } (.invokevirtual index) mk (Value.ref b :: argsL).toArray X₁ hg hsize hdg hW (X₁.named hnamed) (hpre vm₁ X₁.warmed)
  exact ⟨v, vm₁, B, X₁.warmed, X', hpost, fun target h => hstep₁ _ fun acts => by rw [doInvoke_state]; exact hsteps.trans h⟩
abbrev vx_CVW (R : Room) (s : State) (args : Array Value) (own C : String) (index : Nat) (y : MethodName) (bytes : ByteArray) (maxL : Nat) (ret : Option FieldType) (hh : List (Nat × Nat × Nat × Nat)) (ws : List Cond) (rm : Room) (mc ms n : Nat) : Prop :=
  (rm.cells = mc ∧ rm.slots = ms ∧ rm.frames + 1 ≤ R.frames ∧ 8 + (maxL + 11) + rm.locals ≤ R.locals ∧ (∀ w ∈ ws, ∀ (a' : Array Value) (U : State), s.WarmedH U.vm → w.before a' U = true) ∧ Cond.codeWith y bytes maxL ret hh ∈ ws) ∧
  (Cond.codeWith y bytes maxL ret hh).before args s = true ∧ (Cond.initialized y.cls).before args s = true ∧ (y.cls ≠ "java/lang/invoke/MethodHandle" ∧ y.cls ≠ "java/lang/invoke/VarHandle") ∧
  (∀ sig, parseMethodDescriptor y.desc = some sig → n = sig.parameters.length) ∧ (Cond.methodLink own index y).before args s = true ∧ (Cond.instanceMethod y).before args s = true ∧ (Cond.selects C y y).before args s = true
theorem vx_cwVW {own C : String} {index maxL mc ms : Nat} {y : MethodName} {bytes : ByteArray} {ret : Option FieldType} {hh : List (Nat × Nat × Nat × Nat)} {Ts ws ws' : List Cond} {rm : Room} (n : Nat) (ht : ∀ w ∈ Ts, w.before args s = true) (hT : GoodIn Ts (wsV own index C y ws)) (hw : ws = Cond.codeWith y bytes maxL ret hh :: ws') (hrc : rm.cells = mc) (hrs : rm.slots = ms)
    (hd : y.cls = C ∧ y.cls ≠ "java/lang/invoke/MethodHandle" ∧ y.cls ≠ "java/lang/invoke/VarHandle" ∧ (parseMethodDescriptor y.desc).map (fun d => d.parameters.length) = some n) (hR : rm.frames + 1 ≤ R.frames ∧ 8 + (maxL + 11) + rm.locals ≤ R.locals) :
    vx_CVW R s args own C index y bytes maxL ret hh ws rm mc ms n := by
  obtain ⟨hC, hd⟩ := hd
  subst hC
  have ok : ∀ w ∈ wsV own index y.cls y ws, w.before args s = true := fun w h => ht w (hT w h).1
  have hG : GoodIn Ts ws := fun w h => hT w (by unfold wsV; exact List.mem_append_right _ h)
  have hc : Cond.codeWith y bytes maxL ret hh ∈ ws := by rw [hw]; exact List.mem_cons_self
  refine ⟨⟨hrc, hrs, hR.1, hR.2, pay_in ht hG, hc⟩, ht _ (hG _ hc).1, ok _ (by simp [wsV]), ⟨hd.1, hd.2.1⟩, fun sig h => ?_, ok _ (by simp [wsV]), ok _ (by simp [wsV]), ok _ (by simp [wsV])⟩
  have h2 := hd.2.2
  rw [h] at h2
  exact (Option.some.inj h2).symm
theorem vx_runVW {y : MethodName} {bytes cc : ByteArray} {maxL nL mc ms n index : Nat} {ret : Option FieldType} {hh : List (Nat × Nat × Nat × Nat)} {ws : List Cond} {rm : Room} {Pc : Array Value → State → Prop} {Qc : Array Value → State → Outcome → State → Prop} {free : Addr → Prop} {Ts : List Cond} {own C : String} {b : Addr} {As rest : List Value} {g : JFrame}
    (S : CallFix p m c cc nL s args Ts own) (hM : Met l y ws rm Pc Qc mc ms free) (cw : vx_CVW R s args own C index y bytes maxL ret hh ws rm mc ms n) (hp : PreV s H C b Pc As)
    (hg : g.method = m) (hn : As.length = n) (hsize : g.locals.size = nL) (hstack : g.stack = As.reverse ++ .ref b :: rest) (hW : 2 * g.monitorRoom + (rest.map fun v => v.category).sum ≤ 8) (hdg : decode cc g.pc = .ok (.invokevirtual index, 3)) (hf : cells + mc ≤ R.cells ∧ slots + ms ≤ R.slots) :
    va_Run p l e R s m args below meth c H locs cells slots mc ms g rest (Qc (Value.ref b :: As).toArray) free := by
  obtain ⟨⟨hrc, hrs, hfr, hlo, hws, hcw⟩, hcode, hini, hy, hlen, hl, hin, hse⟩ := cw
  have hK : Back l R p e below s args y 3 8 (PreOf R mc ms Pc) (PostOf Qc mc ms free) := va_backW (hh := hh) (bytes := bytes) (maxL := maxL) (ret := ret) hM hp.1 hrc hrs hfr hlo hws hcw (fun a' U hW => word_at hW (Or.inl (by first | rfl | simp [Cond.onTables, Cond.keeps, Cond.steady])) hini)
  obtain ⟨hx, hb, hml, ho, -⟩ := S
  obtain ⟨-, ⟨cellB, hcB, hoB, hclB⟩, hPc⟩ := hp
  intro T hT X
  obtain ⟨v, vm₁, ⟨U', l2, c2, s2⟩, hW₁, X', ⟨g', mk, t, L, e1, e2, hq, h1, hL, h2, h3⟩, st⟩ := vx_callVW X hx (C := C) (hh := hh) (bytes := bytes) (maxL := maxL) (ret := ret) ho hl hin hse hcode hy hK (by rw [hT]; exact hcB) hoB hclB hg (hsize.trans hml.symm) (argsL := As) (rest := rest) (fun sig h => hn.trans (hlen sig h)) hstack hW (by rw [hb]; exact hdg)
    (fun vm₁ hW₁ => ⟨hf.1, hf.2, hPc (T.setVm vm₁) hT hW₁⟩)
  dsimp only [Pt.U, Pt.locs, Pt.cells, Pt.slots] at X' e1 e2 h1 h2 h3 st
  subst h1; subst h2; subst h3
  exact ⟨v, (T.setVm vm₁).calling g' mk (Value.ref b :: As).toArray, t, U', L, hT, X', hL, e1, e2, hq, st⟩
section
variable {y : MethodName} {bytes cc : ByteArray} {maxL nL mc ms n index : Nat} {ret : Option FieldType} {ws : List Cond} {rm : Room} {Pc : Array Value → State → Prop} {Qc : Array Value → State → Outcome → State → Prop} {XC : String → State → State → Prop} {free : Addr → Prop} {Ts : List Cond} {own C : String} {b : Addr} {As rest : List Value} {g : JFrame}
theorem vx_runVX {hh : List (Nat × Nat × Nat × Nat)} (S : CallFix p m c cc nL s args Ts own) (hM : vx_Met l y ws rm Pc Qc XC mc ms free) (cw : vx_CVW R s args own C index y bytes maxL ret hh ws rm mc ms n) (hp : PreV s H C b Pc As)
    (hg : g.method = m) (hn : As.length = n) (hsize : g.locals.size = nL) (hstack : g.stack = As.reverse ++ .ref b :: rest) (hW : 2 * g.monitorRoom + (rest.map fun v => v.category).sum ≤ 8) (hdg : decode cc g.pc = .ok (.invokevirtual index, 3)) (hf : cells + mc ≤ R.cells ∧ slots + ms ≤ R.slots) :
    vx_Run p l e R s m args below meth c H locs cells slots mc ms g rest (Qc (Value.ref b :: As).toArray) XC free := by
  obtain ⟨⟨hrc, hrs, hfr, hlo, hws, hcw⟩, hcode, hini, hy, hlen, hl, hin, hse⟩ := cw
  have hK : vx_Back l R p e below s args y 3 8 (PreOf R mc ms Pc) (PostOf Qc mc ms free) (vx_Post XC mc ms free) := vx_backW (hh := hh) (bytes := bytes) (maxL := maxL) (ret := ret) hM hp.1 hrc hrs hfr hlo hws hcw (fun a' U hW => word_at hW (Or.inl (by first | rfl | simp [Cond.onTables, Cond.keeps, Cond.steady])) hini)
  obtain ⟨hx, hb, hml, ho, -⟩ := S
  obtain ⟨-, ⟨cellB, hcB, hoB, hclB⟩, hPc⟩ := hp
  intro T hT X
  rcases vx_callVX X hx (C := C) (hh := hh) (bytes := bytes) (maxL := maxL) (ret := ret) ho hl hin hse hcode hy hK (by rw [hT]; exact hcB) hoB hclB hg (hsize.trans hml.symm) (argsL := As) (rest := rest) (fun sig h => hn.trans (hlen sig h)) hstack hW (by rw [hb]; exact hdg)
    (fun vm₁ hW₁ => ⟨hf.1, hf.2, hPc (T.setVm vm₁) hT hW₁⟩) with ⟨v, vm₁, ⟨U', l2, c2, s2⟩, hW₁, X', ⟨g', mk, t, L, e1, e2, hq, h1, hL, h2, h3⟩, st⟩ | ⟨q, vm₁, ⟨U', l2, c2, s2⟩, hW₁, X', ⟨g', mk, t, L, E, ce, e1, e2, hq, hce, hcv, hcl, h1, hL, h2, h3⟩, st⟩
  · dsimp only [Pt.U, Pt.locs, Pt.cells, Pt.slots] at X' e1 e2 h1 h2 h3 st
    subst h1; subst h2; subst h3
    exact Or.inl ⟨v, (T.setVm vm₁).calling g' mk (Value.ref b :: As).toArray, t, U', L, hT, X', hL, e1, e2, hq, st⟩
  · dsimp only [Pt.U, Pt.locs, Pt.cells, Pt.slots] at X' e1 e2 h1 h2 h3 st hcl
    subst h1; subst h2; subst h3
    exact Or.inr ⟨q, (T.setVm vm₁).calling g' mk (Value.ref b :: As).toArray, t, U', L, E, ce, hT, X', hL, e1, e2, hq, hce, hcv, vx_cls hW₁ hcl, st⟩
theorem vx_runSX {hh : List (Nat × Nat × Nat × Nat)} (S : CallFix p m c cc nL s args Ts own) (hM : vx_Met l y ws rm Pc Qc XC mc ms free) (cw : vx_CSW R s args own index y bytes maxL ret hh ws rm mc ms n) (hp : PreS s H Pc As)
    (hg : g.method = m) (hn : As.length = n) (hsize : g.locals.size = nL) (hstack : g.stack = As.reverse ++ rest) (hW : 2 * g.monitorRoom + (rest.map fun v => v.category).sum ≤ 8) (hdg : decode cc g.pc = .ok (.invokestatic index, 3)) (hf : cells + mc ≤ R.cells ∧ slots + ms ≤ R.slots) :
    vx_Run p l e R s m args below meth c H locs cells slots mc ms g rest (Qc As.toArray) XC free := by
  obtain ⟨⟨hrc, hrs, hfr, hlo, hws, hcw⟩, hcode, hini, hy, hlen, hl, hstt⟩ := cw
  have hK : vx_Back l R p e below s args y 3 8 (PreOf R mc ms Pc) (PostOf Qc mc ms free) (vx_Post XC mc ms free) := vx_backW (hh := hh) (bytes := bytes) (maxL := maxL) (ret := ret) hM hp.1 hrc hrs hfr hlo hws hcw (fun a' U hW => word_at hW (Or.inl (by first | rfl | simp [Cond.onTables, Cond.keeps, Cond.steady])) hini)
  obtain ⟨hx, hb, hml, ho, -⟩ := S
  intro T hT X
  rcases vx_callSX X hx (hh := hh) (bytes := bytes) (maxL := maxL) (ret := ret) ho hl hstt hini hcode hy hK hg (hsize.trans hml.symm) (argsL := As) (rest := rest) (fun sig h => hn.trans (hlen sig h)) hstack hW (by rw [hb]; exact hdg)
    (fun vm₁ hW₁ => ⟨hf.1, hf.2, hp.2 (T.setVm vm₁) hT hW₁⟩) with ⟨v, vm₁, ⟨U', l2, c2, s2⟩, hW₁, X', ⟨g', mk, t, L, e1, e2, hq, h1, hL, h2, h3⟩, st⟩ | ⟨q, vm₁, ⟨U', l2, c2, s2⟩, hW₁, X', ⟨g', mk, t, L, E, ce, e1, e2, hq, hce, hcv, hcl, h1, hL, h2, h3⟩, st⟩
  · dsimp only [Pt.U, Pt.locs, Pt.cells, Pt.slots] at X' e1 e2 h1 h2 h3 st
    subst h1; subst h2; subst h3
    exact Or.inl ⟨v, (T.setVm vm₁).calling g' mk As.toArray, t, U', L, hT, X', hL, e1, e2, hq, st⟩
  · dsimp only [Pt.U, Pt.locs, Pt.cells, Pt.slots] at X' e1 e2 h1 h2 h3 st hcl
    subst h1; subst h2; subst h3
    exact Or.inr ⟨q, (T.setVm vm₁).calling g' mk As.toArray, t, U', L, E, ce, hT, X', hL, e1, e2, hq, hce, hcv, vx_cls hW₁ hcl, st⟩
end
end VXH
theorem vx_ofWH {l : Launch} {y : MethodName} {ws ws' : List Cond} {rm : Room} {Pc : Array Value → State → Prop} {Qc : Array Value → State → Outcome → State → Prop} {XC : String → State → State → Prop} {mc ms : Nat} {free : Addr → Prop} {cc : ByteArray} {maxL : Nat} {ret : Option FieldType} {hh : List (Nat × Nat × Nat × Nat)}
    (hy : plainName y.cls = true) (hw : ws = Cond.codeWith y cc maxL ret hh :: ws')
    (body : ∀ p e s m args below meth c s₁, BodyLoose p l y (headSpec ws rm) cc maxL ret e s m args below meth c s₁ → c.maxLocals = maxL → Pc args s →
      W p l e (headSpec ws rm).room s m args below meth c s.heap [] 0 0 (vx_MQ below Qc XC args s mc ms free) (entryFrame m args maxL)) : vx_Met l y ws rm Pc Qc XC mc ms free := by
  refine MetFree.of_bodyS (code := cc) (maxLocals := maxL) (ret := ret) hy ?_ ?_
  · intro args s m h hn
    obtain ⟨m9, meth, c, hn9, h1, h2, h3, h4, -, h5, h6, -⟩ := Cond.codeWith_spec (atoms_spec (ws := ws) h _ (by rw [hw]; exact List.mem_cons_self))
    cases hn.symm.trans hn9
    exact ⟨meth, c, h1, h2, h3, h4, h5, h6⟩
  · intro p e s m args below meth c s₁ B hml hP _
    have hh0 : s₁.heap = s.heap := by rw [B.state]; rfl
    obtain ⟨t, a1, o, b1, b2, b3⟩ := body p e s m args below meth c s₁ B hml hP s₁ hh0 (Stand.of_body B)
    exact ⟨t, o, a1, b1, b2, b3⟩
/-! ===== END ===== -/
end
section
def RX0 : String := "Tagwranglery$Collection"
def TX0 : u_T := fun k => match k with
  | 0 => ("Tagwranglery$Collection", "opens", "I", true)
  | _ => ("Tagwranglery$Collection", "names", "I", true)
def tyX0 : Nat → FieldType := fun k => match k with
  | 0 => .int
  | _ => .int
abbrev wsX00 : List Cond := u_ws RX0 TX0 2
theorem nmX0 : ∀ a, a < 2 → ∀ b, b < 2 → a ≠ b → (TX0 a).2.1 ≠ (TX0 b).2.1 := by decide +kernel
theorem tyX0_ok : ∀ k, k < 2 → parseFieldDescriptor (TX0 k).2.2.1 = some (tyX0 k) := by decide +kernel
abbrev cX0_init : ByteArray := prog_2_method_1_code
def yX0_init : MethodName := ⟨RX0, "<init>", "(II)V"⟩
def RX1 : String := "Tagwranglery$Comment"
def TX1 : u_T := fun k => match k with
  | 0 => ("Tagwranglery$Comment", "work", "I", true)
  | 1 => ("Tagwranglery$Comment", "face", "I", true)
  | 2 => ("Tagwranglery$Comment", "upper", "LTagwranglery$Comment;", true)
  | 3 => ("Tagwranglery$Comment", "frozen", "Z", false)
  | 4 => ("Tagwranglery$Comment", "removed", "Z", false)
  | _ => ("Tagwranglery$Comment", "screened", "Z", false)
def tyX1 : Nat → FieldType := fun k => match k with
  | 0 => .int
  | 1 => .int
  | 2 => .object "Tagwranglery$Comment"
  | 3 => .boolean
  | 4 => .boolean
  | _ => .boolean
abbrev wsX10 : List Cond := u_ws RX1 TX1 6
theorem nmX1 : ∀ a, a < 6 → ∀ b, b < 6 → a ≠ b → (TX1 a).2.1 ≠ (TX1 b).2.1 := by decide +kernel
theorem tyX1_ok : ∀ k, k < 6 → parseFieldDescriptor (TX1 k).2.2.1 = some (tyX1 k) := by decide +kernel
abbrev cX1_init : ByteArray := prog_3_method_1_code
def yX1_init : MethodName := ⟨RX1, "<init>", "(IILTagwranglery$Comment;Z)V"⟩
abbrev cX1_isFrozenHereOrAbove : ByteArray := prog_3_method_2_code
def yX1_isFrozenHereOrAbove : MethodName := ⟨RX1, "isFrozenHereOrAbove", "()Z"⟩
def RX2 : String := "Tagwranglery$Gifts"
def TX2 : u_T := fun k => match k with
  | 0 => ("Tagwranglery$Gifts", "signs", "[LTagwranglery$Sign;", true)
  | 1 => ("Tagwranglery$Gifts", "count", "I", false)
  | 2 => ("Tagwranglery$Gifts", "receivers", "[I", true)
  | _ => ("Tagwranglery$Gifts", "ways", "[I", true)
def tyX2 : Nat → FieldType := fun k => match k with
  | 0 => .array (.object "Tagwranglery$Sign")
  | 1 => .int
  | 2 => .array .int
  | _ => .array .int
abbrev wsX20 : List Cond := u_ws RX2 TX2 4
theorem nmX2 : ∀ a, a < 4 → ∀ b, b < 4 → a ≠ b → (TX2 a).2.1 ≠ (TX2 b).2.1 := by decide +kernel
theorem tyX2_ok : ∀ k, k < 4 → parseFieldDescriptor (TX2 k).2.2.1 = some (tyX2 k) := by decide +kernel
abbrev cX2_init : ByteArray := prog_4_method_1_code
def yX2_init : MethodName := ⟨RX2, "<init>", "()V"⟩
abbrev cX2_hasSignOf : ByteArray := prog_4_method_2_code
def yX2_hasSignOf : MethodName := ⟨RX2, "hasSignOf", "(I)Z"⟩
abbrev cX2_add : ByteArray := prog_4_method_3_code
def yX2_add : MethodName := ⟨RX2, "add", "(LTagwranglery$Sign;)I"⟩
abbrev cX2_countMatches : ByteArray := prog_4_method_4_code
def yX2_countMatches : MethodName := ⟨RX2, "countMatches", "(LTagwranglery$Tags;)I"⟩
abbrev cX2_receiverOf : ByteArray := prog_4_method_5_code
def yX2_receiverOf : MethodName := ⟨RX2, "receiverOf", "(ILTagwranglery$Tags;)I"⟩
abbrev cX2_lowestReceiver : ByteArray := prog_4_method_6_code
def yX2_lowestReceiver : MethodName := ⟨RX2, "lowestReceiver", "(II)I"⟩
abbrev cX2_findWays : ByteArray := prog_4_method_7_code
def yX2_findWays : MethodName := ⟨RX2, "findWays", "(LTagwranglery$Tags;)V"⟩
abbrev cX2_findReceivers : ByteArray := prog_4_method_8_code
def yX2_findReceivers : MethodName := ⟨RX2, "findReceivers", "(LTagwranglery$Tags;)V"⟩
def RX3 : String := "Tagwranglery$Person"
def TX3 : u_T := fun k => match k with
  | 0 => ("Tagwranglery$Person", "blocked", "I", false)
  | 1 => ("Tagwranglery$Person", "workDays", "[I", true)
  | 2 => ("Tagwranglery$Person", "personDays", "[I", true)
  | _ => ("Tagwranglery$Person", "digested", "[I", true)
def tyX3 : Nat → FieldType := fun k => match k with
  | 0 => .int
  | 1 => .array .int
  | 2 => .array .int
  | _ => .array .int
abbrev wsX30 : List Cond := u_ws RX3 TX3 4
theorem nmX3 : ∀ a, a < 4 → ∀ b, b < 4 → a ≠ b → (TX3 a).2.1 ≠ (TX3 b).2.1 := by decide +kernel
theorem tyX3_ok : ∀ k, k < 4 → parseFieldDescriptor (TX3 k).2.2.1 = some (tyX3 k) := by decide +kernel
abbrev cX3_init : ByteArray := prog_5_method_1_code
def yX3_init : MethodName := ⟨RX3, "<init>", "()V"⟩
abbrev cX3_firstDayOfAny : ByteArray := prog_5_method_2_code
def yX3_firstDayOfAny : MethodName := ⟨RX3, "firstDayOfAny", "(I)I"⟩
def RX4 : String := "Tagwranglery$Scanner"
def TX4 : u_T := fun k => match k with
  | 0 => ("Tagwranglery$Scanner", "depth", "I", false)
  | 1 => ("Tagwranglery$Scanner", "wantsItem", "Z", false)
  | 2 => ("Tagwranglery$Scanner", "figuresWanted", "I", false)
  | 3 => ("Tagwranglery$Scanner", "letter", "C", false)
  | _ => ("Tagwranglery$Scanner", "number", "I", false)
def tyX4 : Nat → FieldType := fun k => match k with
  | 0 => .int
  | 1 => .boolean
  | 2 => .int
  | 3 => .char
  | _ => .int
abbrev wsX40 : List Cond := u_ws RX4 TX4 5
theorem nmX4 : ∀ a, a < 5 → ∀ b, b < 5 → a ≠ b → (TX4 a).2.1 ≠ (TX4 b).2.1 := by decide +kernel
theorem tyX4_ok : ∀ k, k < 5 → parseFieldDescriptor (TX4 k).2.2.1 = some (tyX4 k) := by decide +kernel
abbrev cX4_init : ByteArray := prog_6_method_1_code
def yX4_init : MethodName := ⟨RX4, "<init>", "()V"⟩
abbrev cX4_start : ByteArray := prog_6_method_2_code
def yX4_start : MethodName := ⟨RX4, "start", "()V"⟩
abbrev cX4_takes : ByteArray := prog_6_method_3_code
def yX4_takes : MethodName := ⟨RX4, "takes", "(C)Z"⟩
abbrev cX4_isAtEnd : ByteArray := prog_6_method_4_code
def yX4_isAtEnd : MethodName := ⟨RX4, "isAtEnd", "()Z"⟩
abbrev cX4_hasItem : ByteArray := prog_6_method_5_code
def yX4_hasItem : MethodName := ⟨RX4, "hasItem", "(C)Z"⟩
abbrev cX4_takesItem : ByteArray := prog_6_method_6_code
def yX4_takesItem : MethodName := ⟨RX4, "takesItem", "(C)Z"⟩
abbrev cX4_takesFigure : ByteArray := prog_6_method_7_code
def yX4_takesFigure : MethodName := ⟨RX4, "takesFigure", "(C)Z"⟩
abbrev cX4_takesLink : ByteArray := prog_6_method_8_code
def yX4_takesLink : MethodName := ⟨RX4, "takesLink", "(C)Z"⟩
abbrev cX4_isFigure : ByteArray := prog_6_method_9_code
def yX4_isFigure : MethodName := ⟨RX4, "isFigure", "(C)Z"⟩
abbrev cX4_figuresOf : ByteArray := prog_6_method_10_code
def yX4_figuresOf : MethodName := ⟨RX4, "figuresOf", "(C)I"⟩
abbrev cX4_greatestOf : ByteArray := prog_6_method_11_code
def yX4_greatestOf : MethodName := ⟨RX4, "greatestOf", "(C)I"⟩
def RX5 : String := "Tagwranglery$Sieve"
def TX5 : u_T := fun k => match k with
  | 0 => ("Tagwranglery$Sieve", "parts", "[I", true)
  | 1 => ("Tagwranglery$Sieve", "items", "[I", true)
  | 2 => ("Tagwranglery$Sieve", "nots", "[Z", true)
  | _ => ("Tagwranglery$Sieve", "level", "I", false)
def tyX5 : Nat → FieldType := fun k => match k with
  | 0 => .array .int
  | 1 => .array .int
  | 2 => .array .boolean
  | _ => .int
abbrev wsX50 : List Cond := u_ws RX5 TX5 4
theorem nmX5 : ∀ a, a < 4 → ∀ b, b < 4 → a ≠ b → (TX5 a).2.1 ≠ (TX5 b).2.1 := by decide +kernel
theorem tyX5_ok : ∀ k, k < 4 → parseFieldDescriptor (TX5 k).2.2.1 = some (tyX5 k) := by decide +kernel
abbrev cX5_init : ByteArray := prog_7_method_1_code
def yX5_init : MethodName := ⟨RX5, "<init>", "()V"⟩
abbrev cX5_start : ByteArray := prog_7_method_2_code
def yX5_start : MethodName := ⟨RX5, "start", "()V"⟩
abbrev cX5_mark : ByteArray := prog_7_method_3_code
def yX5_mark : MethodName := ⟨RX5, "mark", "(C)V"⟩
abbrev cX5_item : ByteArray := prog_7_method_4_code
def yX5_item : MethodName := ⟨RX5, "item", "(I)V"⟩
abbrev cX5_end : ByteArray := prog_7_method_5_code
def yX5_end : MethodName := ⟨RX5, "end", "()I"⟩
abbrev cX5_clear : ByteArray := prog_7_method_6_code
def yX5_clear : MethodName := ⟨RX5, "clear", "()V"⟩
def RX6 : String := "Tagwranglery$Sign"
def TX6 : u_T := fun k => match k with
  | 0 => ("Tagwranglery$Sign", "person", "I", true)
  | 1 => ("Tagwranglery$Sign", "wishes", "I", true)
  | 2 => ("Tagwranglery$Sign", "offers", "I", true)
  | _ => ("Tagwranglery$Sign", "barred", "I", true)
def tyX6 : Nat → FieldType := fun k => match k with
  | 0 => .int
  | 1 => .int
  | 2 => .int
  | _ => .int
abbrev wsX60 : List Cond := u_ws RX6 TX6 4
theorem nmX6 : ∀ a, a < 4 → ∀ b, b < 4 → a ≠ b → (TX6 a).2.1 ≠ (TX6 b).2.1 := by decide +kernel
theorem tyX6_ok : ∀ k, k < 4 → parseFieldDescriptor (TX6 k).2.2.1 = some (tyX6 k) := by decide +kernel
abbrev cX6_init : ByteArray := prog_8_method_1_code
def yX6_init : MethodName := ⟨RX6, "<init>", "(IIII)V"⟩
abbrev cX6_suits : ByteArray := prog_8_method_2_code
def yX6_suits : MethodName := ⟨RX6, "suits", "(LTagwranglery$Sign;LTagwranglery$Tags;)Z"⟩
def RX7 : String := "Tagwranglery$Tags"
def TX7 : u_T := fun k => match k with
  | 0 => ("Tagwranglery$Tags", "count", "I", false)
  | 1 => ("Tagwranglery$Tags", "meanings", "[I", true)
  | 2 => ("Tagwranglery$Tags", "parents", "[I", true)
  | _ => ("Tagwranglery$Tags", "above", "[I", true)
def tyX7 : Nat → FieldType := fun k => match k with
  | 0 => .int
  | 1 => .array .int
  | 2 => .array .int
  | _ => .array .int
abbrev wsX70 : List Cond := u_ws RX7 TX7 4
theorem nmX7 : ∀ a, a < 4 → ∀ b, b < 4 → a ≠ b → (TX7 a).2.1 ≠ (TX7 b).2.1 := by decide +kernel
theorem tyX7_ok : ∀ k, k < 4 → parseFieldDescriptor (TX7 k).2.2.1 = some (tyX7 k) := by decide +kernel
abbrev cX7_init : ByteArray := prog_9_method_1_code
def yX7_init : MethodName := ⟨RX7, "<init>", "()V"⟩
abbrev cX7_add : ByteArray := prog_9_method_2_code
def yX7_add : MethodName := ⟨RX7, "add", "()I"⟩
abbrev cX7_kindOf : ByteArray := prog_9_method_3_code
def yX7_kindOf : MethodName := ⟨RX7, "kindOf", "(I)I"⟩
abbrev cX7_meaningOf : ByteArray := prog_9_method_4_code
def yX7_meaningOf : MethodName := ⟨RX7, "meaningOf", "(I)I"⟩
abbrev cX7_aboveOf : ByteArray := prog_9_method_5_code
def yX7_aboveOf : MethodName := ⟨RX7, "aboveOf", "(I)I"⟩
abbrev cX7_isAbove : ByteArray := prog_9_method_6_code
def yX7_isAbove : MethodName := ⟨RX7, "isAbove", "(II)Z"⟩
abbrev cX7_isParent : ByteArray := prog_9_method_7_code
def yX7_isParent : MethodName := ⟨RX7, "isParent", "(II)Z"⟩
abbrev cX7_makeMain : ByteArray := prog_9_method_8_code
def yX7_makeMain : MethodName := ⟨RX7, "makeMain", "(I)V"⟩
abbrev cX7_makeAlias : ByteArray := prog_9_method_9_code
def yX7_makeAlias : MethodName := ⟨RX7, "makeAlias", "(II)V"⟩
abbrev cX7_setParent : ByteArray := prog_9_method_10_code
def yX7_setParent : MethodName := ⟨RX7, "setParent", "(IIZ)V"⟩
abbrev cX7_findAbove : ByteArray := prog_9_method_11_code
def yX7_findAbove : MethodName := ⟨RX7, "findAbove", "()V"⟩
abbrev cX7_meaningsOf : ByteArray := prog_9_method_12_code
def yX7_meaningsOf : MethodName := ⟨RX7, "meaningsOf", "(I)I"⟩
abbrev cX7_belongUnder : ByteArray := prog_9_method_13_code
def yX7_belongUnder : MethodName := ⟨RX7, "belongUnder", "(I)I"⟩
def RX8 : String := "Tagwranglery$Tape"
def TX8 : u_T := fun k => match k with
  | 0 => ("Tagwranglery$Tape", "characters", "[C", true)
  | 1 => ("Tagwranglery$Tape", "length", "I", false)
  | _ => ("Tagwranglery$Tape", "scanner", "LTagwranglery$Scanner;", true)
def tyX8 : Nat → FieldType := fun k => match k with
  | 0 => .array .char
  | 1 => .int
  | _ => .object "Tagwranglery$Scanner"
abbrev wsX80 : List Cond := u_ws RX8 TX8 3
theorem nmX8 : ∀ a, a < 3 → ∀ b, b < 3 → a ≠ b → (TX8 a).2.1 ≠ (TX8 b).2.1 := by decide +kernel
theorem tyX8_ok : ∀ k, k < 3 → parseFieldDescriptor (TX8 k).2.2.1 = some (tyX8 k) := by decide +kernel
abbrev cX8_init : ByteArray := prog_10_method_1_code
def yX8_init : MethodName := ⟨RX8, "<init>", "()V"⟩
abbrev cX8_holds : ByteArray := prog_10_method_2_code
def yX8_holds : MethodName := ⟨RX8, "holds", "(C)Z"⟩
abbrev cX8_add : ByteArray := prog_10_method_3_code
def yX8_add : MethodName := ⟨RX8, "add", "(C)V"⟩
abbrev cX8_firstFault : ByteArray := prog_10_method_4_code
def yX8_firstFault : MethodName := ⟨RX8, "firstFault", "()I"⟩
def RX9 : String := "Tagwranglery$Work"
def TX9 : u_T := fun k => match k with
  | 0 => ("Tagwranglery$Work", "rating", "I", true)
  | 1 => ("Tagwranglery$Work", "owners", "I", false)
  | 2 => ("Tagwranglery$Work", "chapterDays", "[I", true)
  | 3 => ("Tagwranglery$Work", "chapterCount", "I", false)
  | 4 => ("Tagwranglery$Work", "postDay", "I", false)
  | 5 => ("Tagwranglery$Work", "locked", "Z", false)
  | 6 => ("Tagwranglery$Work", "collection", "LTagwranglery$Collection;", false)
  | 7 => ("Tagwranglery$Work", "tags", "I", false)
  | 8 => ("Tagwranglery$Work", "filed", "I", false)
  | 9 => ("Tagwranglery$Work", "waits", "Z", false)
  | 10 => ("Tagwranglery$Work", "screens", "Z", false)
  | _ => ("Tagwranglery$Work", "kudos", "I", false)
def tyX9 : Nat → FieldType := fun k => match k with
  | 0 => .int
  | 1 => .int
  | 2 => .array .int
  | 3 => .int
  | 4 => .int
  | 5 => .boolean
  | 6 => .object "Tagwranglery$Collection"
  | 7 => .int
  | 8 => .int
  | 9 => .boolean
  | 10 => .boolean
  | _ => .int
abbrev wsX90 : List Cond := u_ws RX9 TX9 12
theorem nmX9 : ∀ a, a < 12 → ∀ b, b < 12 → a ≠ b → (TX9 a).2.1 ≠ (TX9 b).2.1 := by decide +kernel
theorem tyX9_ok : ∀ k, k < 12 → parseFieldDescriptor (TX9 k).2.2.1 = some (tyX9 k) := by decide +kernel
abbrev cX9_init : ByteArray := prog_11_method_1_code
def yX9_init : MethodName := ⟨RX9, "<init>", "(II)V"⟩
abbrev cX9_isPosted : ByteArray := prog_11_method_2_code
def yX9_isPosted : MethodName := ⟨RX9, "isPosted", "()Z"⟩
abbrev cX9_isOwnedBy : ByteArray := prog_11_method_3_code
def yX9_isOwnedBy : MethodName := ⟨RX9, "isOwnedBy", "(I)Z"⟩
abbrev cX9_isSeenBy : ByteArray := prog_11_method_4_code
def yX9_isSeenBy : MethodName := ⟨RX9, "isSeenBy", "(II)Z"⟩
abbrev cX9_ownersToldTo : ByteArray := prog_11_method_5_code
def yX9_ownersToldTo : MethodName := ⟨RX9, "ownersToldTo", "(II)I"⟩
abbrev cX9_outDay : ByteArray := prog_11_method_6_code
def yX9_outDay : MethodName := ⟨RX9, "outDay", "(I)I"⟩
abbrev cX9_latest : ByteArray := prog_11_method_7_code
def yX9_latest : MethodName := ⟨RX9, "latest", "()I"⟩
abbrev cX9_chaptersOutFrom : ByteArray := prog_11_method_8_code
def yX9_chaptersOutFrom : MethodName := ⟨RX9, "chaptersOutFrom", "(I)I"⟩
abbrev cX9_fileUnder : ByteArray := prog_11_method_9_code
def yX9_fileUnder : MethodName := ⟨RX9, "fileUnder", "(I)V"⟩
def RX10 : String := "Tagwranglery"
def TX10 : u_T := fun k => match k with
  | 0 => ("Tagwranglery", "day", "I", false)
  | 1 => ("Tagwranglery", "sameFaces", "[I", true)
  | 2 => ("Tagwranglery", "people", "[LTagwranglery$Person;", true)
  | 3 => ("Tagwranglery", "works", "[LTagwranglery$Work;", true)
  | 4 => ("Tagwranglery", "workCount", "I", false)
  | 5 => ("Tagwranglery", "collections", "[LTagwranglery$Collection;", true)
  | 6 => ("Tagwranglery", "collectionCount", "I", false)
  | 7 => ("Tagwranglery", "tags", "LTagwranglery$Tags;", true)
  | 8 => ("Tagwranglery", "tape", "LTagwranglery$Tape;", true)
  | 9 => ("Tagwranglery", "sieve", "LTagwranglery$Sieve;", true)
  | 10 => ("Tagwranglery", "gifts", "LTagwranglery$Gifts;", true)
  | 11 => ("Tagwranglery", "comments", "[LTagwranglery$Comment;", true)
  | _ => ("Tagwranglery", "commentCount", "I", false)
def tyX10 : Nat → FieldType := fun k => match k with
  | 0 => .int
  | 1 => .array .int
  | 2 => .array (.object "Tagwranglery$Person")
  | 3 => .array (.object "Tagwranglery$Work")
  | 4 => .int
  | 5 => .array (.object "Tagwranglery$Collection")
  | 6 => .int
  | 7 => .object "Tagwranglery$Tags"
  | 8 => .object "Tagwranglery$Tape"
  | 9 => .object "Tagwranglery$Sieve"
  | 10 => .object "Tagwranglery$Gifts"
  | 11 => .array (.object "Tagwranglery$Comment")
  | _ => .int
abbrev wsX100 : List Cond := u_ws RX10 TX10 13
theorem nmX10 : ∀ a, a < 13 → ∀ b, b < 13 → a ≠ b → (TX10 a).2.1 ≠ (TX10 b).2.1 := by decide +kernel
theorem tyX10_ok : ∀ k, k < 13 → parseFieldDescriptor (TX10 k).2.2.1 = some (tyX10 k) := by decide +kernel
abbrev cX10_init : ByteArray := prog_1_method_1_code
def yX10_init : MethodName := ⟨RX10, "<init>", "()V"⟩
abbrev cX10_pass : ByteArray := prog_1_method_2_code
def yX10_pass : MethodName := ⟨RX10, "pass", "(I)I"⟩
abbrev cX10_block : ByteArray := prog_1_method_3_code
def yX10_block : MethodName := ⟨RX10, "block", "(IIZ)Z"⟩
abbrev cX10_same : ByteArray := prog_1_method_4_code
def yX10_same : MethodName := ⟨RX10, "same", "(II)Z"⟩
abbrev cX10_work : ByteArray := prog_1_method_5_code
def yX10_work : MethodName := ⟨RX10, "work", "(II)I"⟩
abbrev cX10_join : ByteArray := prog_1_method_6_code
def yX10_join : MethodName := ⟨RX10, "join", "(II)I"⟩
abbrev cX10_leave : ByteArray := prog_1_method_7_code
def yX10_leave : MethodName := ⟨RX10, "leave", "(II)I"⟩
abbrev cX10_chapter : ByteArray := prog_1_method_8_code
def yX10_chapter : MethodName := ⟨RX10, "chapter", "(I)I"⟩
abbrev cX10_post : ByteArray := prog_1_method_9_code
def yX10_post : MethodName := ⟨RX10, "post", "(I)I"⟩
abbrev cX10_lock : ByteArray := prog_1_method_10_code
def yX10_lock : MethodName := ⟨RX10, "lock", "(IZ)Z"⟩
abbrev cX10_collection : ByteArray := prog_1_method_11_code
def yX10_collection : MethodName := ⟨RX10, "collection", "(II)I"⟩
abbrev cX10_collect : ByteArray := prog_1_method_12_code
def yX10_collect : MethodName := ⟨RX10, "collect", "(II)V"⟩
abbrev cX10_sees : ByteArray := prog_1_method_13_code
def yX10_sees : MethodName := ⟨RX10, "sees", "(II)Z"⟩
abbrev cX10_owners : ByteArray := prog_1_method_14_code
def yX10_owners : MethodName := ⟨RX10, "owners", "(II)I"⟩
abbrev cX10_tag : ByteArray := prog_1_method_15_code
def yX10_tag : MethodName := ⟨RX10, "tag", "()I"⟩
abbrev cX10_make : ByteArray := prog_1_method_16_code
def yX10_make : MethodName := ⟨RX10, "make", "(I)I"⟩
abbrev cX10_merge : ByteArray := prog_1_method_17_code
def yX10_merge : MethodName := ⟨RX10, "merge", "(II)I"⟩
abbrev cX10_parent : ByteArray := prog_1_method_18_code
def yX10_parent : MethodName := ⟨RX10, "parent", "(IIZ)Z"⟩
abbrev cX10_ofTag : ByteArray := prog_1_method_19_code
def yX10_ofTag : MethodName := ⟨RX10, "ofTag", "(II)I"⟩
abbrev cX10_put : ByteArray := prog_1_method_20_code
def yX10_put : MethodName := ⟨RX10, "put", "(IIZ)Z"⟩
abbrev cX10_wave : ByteArray := prog_1_method_21_code
def yX10_wave : MethodName := ⟨RX10, "wave", "(I)I"⟩
abbrev cX10_waiting : ByteArray := prog_1_method_22_code
def yX10_waiting : MethodName := ⟨RX10, "waiting", "()I"⟩
abbrev cX10_under : ByteArray := prog_1_method_23_code
def yX10_under : MethodName := ⟨RX10, "under", "(IZ)I"⟩
abbrev cX10_type : ByteArray := prog_1_method_24_code
def yX10_type : MethodName := ⟨RX10, "type", "(JI)I"⟩
abbrev cX10_wipe : ByteArray := prog_1_method_25_code
def yX10_wipe : MethodName := ⟨RX10, "wipe", "()I"⟩
abbrev cX10_fault : ByteArray := prog_1_method_26_code
def yX10_fault : MethodName := ⟨RX10, "fault", "()I"⟩
abbrev cX10_search : ByteArray := prog_1_method_27_code
def yX10_search : MethodName := ⟨RX10, "search", "(IZ)I"⟩
abbrev cX10_result : ByteArray := prog_1_method_28_code
def yX10_result : MethodName := ⟨RX10, "result", "(II)I"⟩
abbrev cX10_sign : ByteArray := prog_1_method_29_code
def yX10_sign : MethodName := ⟨RX10, "sign", "(IIII)I"⟩
abbrev cX10_match : ByteArray := prog_1_method_30_code
def yX10_match : MethodName := ⟨RX10, "match", "(I)I"⟩
abbrev cX10_matches : ByteArray := prog_1_method_31_code
def yX10_matches : MethodName := ⟨RX10, "matches", "()I"⟩
abbrev cX10_screen : ByteArray := prog_1_method_32_code
def yX10_screen : MethodName := ⟨RX10, "screen", "(IZ)Z"⟩
abbrev cX10_comment : ByteArray := prog_1_method_33_code
def yX10_comment : MethodName := ⟨RX10, "comment", "(III)I"⟩
abbrev cX10_change : ByteArray := prog_1_method_34_code
def yX10_change : MethodName := ⟨RX10, "change", "(II)Z"⟩
abbrev cX10_reads : ByteArray := prog_1_method_35_code
def yX10_reads : MethodName := ⟨RX10, "reads", "(II)I"⟩
abbrev cX10_kudos : ByteArray := prog_1_method_36_code
def yX10_kudos : MethodName := ⟨RX10, "kudos", "(II)I"⟩
abbrev cX10_liked : ByteArray := prog_1_method_37_code
def yX10_liked : MethodName := ⟨RX10, "liked", "(I)I"⟩
abbrev cX10_subscribe : ByteArray := prog_1_method_38_code
def yX10_subscribe : MethodName := ⟨RX10, "subscribe", "(IZI)Z"⟩
abbrev cX10_news : ByteArray := prog_1_method_39_code
def yX10_news : MethodName := ⟨RX10, "news", "(I)I"⟩
abbrev cX10_digest : ByteArray := prog_1_method_40_code
def yX10_digest : MethodName := ⟨RX10, "digest", "(I)I"⟩
abbrev cX10_checkFace : ByteArray := prog_1_method_41_code
def yX10_checkFace : MethodName := ⟨RX10, "checkFace", "(I)V"⟩
abbrev cX10_checkPerson : ByteArray := prog_1_method_42_code
def yX10_checkPerson : MethodName := ⟨RX10, "checkPerson", "(I)V"⟩
abbrev cX10_checkTag : ByteArray := prog_1_method_43_code
def yX10_checkTag : MethodName := ⟨RX10, "checkTag", "(I)V"⟩
abbrev cX10_checkQuery : ByteArray := prog_1_method_44_code
def yX10_checkQuery : MethodName := ⟨RX10, "checkQuery", "()V"⟩
abbrev cX10_checkWork : ByteArray := prog_1_method_45_code
def yX10_checkWork : MethodName := ⟨RX10, "checkWork", "(I)V"⟩
abbrev cX10_workAt : ByteArray := prog_1_method_46_code
def yX10_workAt : MethodName := ⟨RX10, "workAt", "(I)LTagwranglery$Work;"⟩
abbrev cX10_commentAt : ByteArray := prog_1_method_47_code
def yX10_commentAt : MethodName := ⟨RX10, "commentAt", "(I)LTagwranglery$Comment;"⟩
abbrev cX10_has : ByteArray := prog_1_method_48_code
def yX10_has : MethodName := ⟨RX10, "has", "(II)Z"⟩
abbrev cX10_with : ByteArray := prog_1_method_49_code
def yX10_with : MethodName := ⟨RX10, "with", "(IIZ)I"⟩
abbrev cX10_isWithin : ByteArray := prog_1_method_50_code
def yX10_isWithin : MethodName := ⟨RX10, "isWithin", "(II)Z"⟩
abbrev cX10_letTaggedWorksWait : ByteArray := prog_1_method_51_code
def yX10_letTaggedWorksWait : MethodName := ⟨RX10, "letTaggedWorksWait", "()V"⟩
abbrev cX10_placesOf : ByteArray := prog_1_method_52_code
def yX10_placesOf : MethodName := ⟨RX10, "placesOf", "(LTagwranglery$Work;Z)I"⟩
abbrev cX10_countWith : ByteArray := prog_1_method_53_code
def yX10_countWith : MethodName := ⟨RX10, "countWith", "(I)I"⟩
abbrev cX10_countFiledUnder : ByteArray := prog_1_method_54_code
def yX10_countFiledUnder : MethodName := ⟨RX10, "countFiledUnder", "(I)I"⟩
abbrev cX10_characterAt : ByteArray := prog_1_method_55_code
def yX10_characterAt : MethodName := ⟨RX10, "characterAt", "(JI)C"⟩
abbrev cX10_found : ByteArray := prog_1_method_56_code
def yX10_found : MethodName := ⟨RX10, "found", "(IZ)I"⟩
abbrev cX10_worksOfItem : ByteArray := prog_1_method_57_code
def yX10_worksOfItem : MethodName := ⟨RX10, "worksOfItem", "(CIIZ)I"⟩
abbrev cX10_isTagSo : ByteArray := prog_1_method_58_code
def yX10_isTagSo : MethodName := ⟨RX10, "isTagSo", "(LTagwranglery$Work;IZ)Z"⟩
abbrev cX10_worksSeenBy : ByteArray := prog_1_method_59_code
def yX10_worksSeenBy : MethodName := ⟨RX10, "worksSeenBy", "(I)I"⟩
abbrev cX10_countAheadOf : ByteArray := prog_1_method_60_code
def yX10_countAheadOf : MethodName := ⟨RX10, "countAheadOf", "(II)I"⟩
abbrev cX10_isReadBy : ByteArray := prog_1_method_61_code
def yX10_isReadBy : MethodName := ⟨RX10, "isReadBy", "(ILTagwranglery$Comment;LTagwranglery$Work;)Z"⟩
abbrev cX10_mayComment : ByteArray := prog_1_method_62_code
def yX10_mayComment : MethodName := ⟨RX10, "mayComment", "(LTagwranglery$Work;ILTagwranglery$Comment;)Z"⟩
abbrev cX10_isBlockedByAny : ByteArray := prog_1_method_63_code
def yX10_isBlockedByAny : MethodName := ⟨RX10, "isBlockedByAny", "(II)Z"⟩
abbrev cX10_isBlockedBy : ByteArray := prog_1_method_64_code
def yX10_isBlockedBy : MethodName := ⟨RX10, "isBlockedBy", "(II)Z"⟩
abbrev cX10_countKudos : ByteArray := prog_1_method_65_code
def yX10_countKudos : MethodName := ⟨RX10, "countKudos", "(LTagwranglery$Work;)I"⟩
abbrev cX10_newChapters : ByteArray := prog_1_method_66_code
def yX10_newChapters : MethodName := ⟨RX10, "newChapters", "(II)I"⟩
def RX11 : String := "TagwrangleryModel"
def TX11 : u_T := fun k => match k with
  | 0 => ("TagwrangleryModel", "thrown", "I", false)
  | 1 => ("TagwrangleryModel", "day", "I", false)
  | 2 => ("TagwrangleryModel", "blocks", "[Z", true)
  | 3 => ("TagwrangleryModel", "classes", "[I", true)
  | 4 => ("TagwrangleryModel", "works", "I", false)
  | 5 => ("TagwrangleryModel", "ratings", "[I", true)
  | 6 => ("TagwrangleryModel", "ownersOf", "[I", true)
  | 7 => ("TagwrangleryModel", "chapters", "[I", true)
  | 8 => ("TagwrangleryModel", "chapterDay", "[I", true)
  | 9 => ("TagwrangleryModel", "postedOn", "[I", true)
  | 10 => ("TagwrangleryModel", "areLocked", "[Z", true)
  | 11 => ("TagwrangleryModel", "collectionOf", "[I", true)
  | 12 => ("TagwrangleryModel", "tagsOf", "[I", true)
  | 13 => ("TagwrangleryModel", "filed", "[I", true)
  | 14 => ("TagwrangleryModel", "wait", "[Z", true)
  | 15 => ("TagwrangleryModel", "screens", "[Z", true)
  | 16 => ("TagwrangleryModel", "kudosOf", "[I", true)
  | 17 => ("TagwrangleryModel", "collections", "I", false)
  | 18 => ("TagwrangleryModel", "opens", "[I", true)
  | 19 => ("TagwrangleryModel", "names", "[I", true)
  | 20 => ("TagwrangleryModel", "tags", "I", false)
  | 21 => ("TagwrangleryModel", "kinds", "[I", true)
  | 22 => ("TagwrangleryModel", "mains", "[I", true)
  | 23 => ("TagwrangleryModel", "parents", "[I", true)
  | 24 => ("TagwrangleryModel", "typed", "I", false)
  | 25 => ("TagwrangleryModel", "tape", "[I", true)
  | 26 => ("TagwrangleryModel", "parts", "[Z", true)
  | 27 => ("TagwrangleryModel", "items", "[Z", true)
  | 28 => ("TagwrangleryModel", "nots", "[Z", true)
  | 29 => ("TagwrangleryModel", "deep", "I", false)
  | 30 => ("TagwrangleryModel", "signs", "I", false)
  | 31 => ("TagwrangleryModel", "signOf", "[I", true)
  | 32 => ("TagwrangleryModel", "wishes", "[I", true)
  | 33 => ("TagwrangleryModel", "offers", "[I", true)
  | 34 => ("TagwrangleryModel", "barred", "[I", true)
  | 35 => ("TagwrangleryModel", "fits", "[Z", true)
  | 36 => ("TagwrangleryModel", "ways", "[I", true)
  | 37 => ("TagwrangleryModel", "comments", "I", false)
  | 38 => ("TagwrangleryModel", "commentOn", "[I", true)
  | 39 => ("TagwrangleryModel", "commentBy", "[I", true)
  | 40 => ("TagwrangleryModel", "above", "[I", true)
  | 41 => ("TagwrangleryModel", "areFrozen", "[Z", true)
  | 42 => ("TagwrangleryModel", "areScreened", "[Z", true)
  | 43 => ("TagwrangleryModel", "areRemoved", "[Z", true)
  | 44 => ("TagwrangleryModel", "ofWork", "[I", true)
  | 45 => ("TagwrangleryModel", "ofPerson", "[I", true)
  | _ => ("TagwrangleryModel", "digested", "[Z", true)
def tyX11 : Nat → FieldType := fun k => match k with
  | 0 => .int
  | 1 => .int
  | 2 => .array .boolean
  | 3 => .array .int
  | 4 => .int
  | 5 => .array .int
  | 6 => .array .int
  | 7 => .array .int
  | 8 => .array .int
  | 9 => .array .int
  | 10 => .array .boolean
  | 11 => .array .int
  | 12 => .array .int
  | 13 => .array .int
  | 14 => .array .boolean
  | 15 => .array .boolean
  | 16 => .array .int
  | 17 => .int
  | 18 => .array .int
  | 19 => .array .int
  | 20 => .int
  | 21 => .array .int
  | 22 => .array .int
  | 23 => .array .int
  | 24 => .int
  | 25 => .array .int
  | 26 => .array .boolean
  | 27 => .array .boolean
  | 28 => .array .boolean
  | 29 => .int
  | 30 => .int
  | 31 => .array .int
  | 32 => .array .int
  | 33 => .array .int
  | 34 => .array .int
  | 35 => .array .boolean
  | 36 => .array .int
  | 37 => .int
  | 38 => .array .int
  | 39 => .array .int
  | 40 => .array .int
  | 41 => .array .boolean
  | 42 => .array .boolean
  | 43 => .array .boolean
  | 44 => .array .int
  | 45 => .array .int
  | _ => .array .boolean
abbrev wsX110 : List Cond := u_ws RX11 TX11 47
theorem nmX11 : ∀ a, a < 47 → ∀ b, b < 47 → a ≠ b → (TX11 a).2.1 ≠ (TX11 b).2.1 := by decide +kernel
theorem tyX11_ok : ∀ k, k < 47 → parseFieldDescriptor (TX11 k).2.2.1 = some (tyX11 k) := by decide +kernel
abbrev cX11_init : ByteArray := prog_13_method_1_code
def yX11_init : MethodName := ⟨RX11, "<init>", "()V"⟩
abbrev cX11_thrown : ByteArray := prog_13_method_2_code
def yX11_thrown : MethodName := ⟨RX11, "thrown", "()I"⟩
abbrev cX11_holds : ByteArray := prog_13_method_3_code
def yX11_holds : MethodName := ⟨RX11, "holds", "(I)Z"⟩
abbrev cX11_in : ByteArray := prog_13_method_4_code
def yX11_in : MethodName := ⟨RX11, "in", "(III)Z"⟩
abbrev cX11_isPerson : ByteArray := prog_13_method_5_code
def yX11_isPerson : MethodName := ⟨RX11, "isPerson", "(I)Z"⟩
abbrev cX11_isFace : ByteArray := prog_13_method_6_code
def yX11_isFace : MethodName := ⟨RX11, "isFace", "(I)Z"⟩
abbrev cX11_isWork : ByteArray := prog_13_method_7_code
def yX11_isWork : MethodName := ⟨RX11, "isWork", "(I)Z"⟩
abbrev cX11_isTag : ByteArray := prog_13_method_8_code
def yX11_isTag : MethodName := ⟨RX11, "isTag", "(I)Z"⟩
abbrev cX11_has : ByteArray := prog_13_method_9_code
def yX11_has : MethodName := ⟨RX11, "has", "(II)Z"⟩
abbrev cX11_bits : ByteArray := prog_13_method_10_code
def yX11_bits : MethodName := ⟨RX11, "bits", "(I)I"⟩
abbrev cX11_pass : ByteArray := prog_13_method_11_code
def yX11_pass : MethodName := ⟨RX11, "pass", "(I)I"⟩
abbrev cX11_block : ByteArray := prog_13_method_12_code
def yX11_block : MethodName := ⟨RX11, "block", "(IIZ)Z"⟩
abbrev cX11_same : ByteArray := prog_13_method_13_code
def yX11_same : MethodName := ⟨RX11, "same", "(II)Z"⟩
abbrev cX11_work : ByteArray := prog_13_method_14_code
def yX11_work : MethodName := ⟨RX11, "work", "(II)I"⟩
abbrev cX11_join : ByteArray := prog_13_method_15_code
def yX11_join : MethodName := ⟨RX11, "join", "(II)I"⟩
abbrev cX11_leave : ByteArray := prog_13_method_16_code
def yX11_leave : MethodName := ⟨RX11, "leave", "(II)I"⟩
abbrev cX11_chapter : ByteArray := prog_13_method_17_code
def yX11_chapter : MethodName := ⟨RX11, "chapter", "(I)I"⟩
abbrev cX11_post : ByteArray := prog_13_method_18_code
def yX11_post : MethodName := ⟨RX11, "post", "(I)I"⟩
abbrev cX11_lock : ByteArray := prog_13_method_19_code
def yX11_lock : MethodName := ⟨RX11, "lock", "(IZ)Z"⟩
abbrev cX11_collection : ByteArray := prog_13_method_20_code
def yX11_collection : MethodName := ⟨RX11, "collection", "(II)I"⟩
abbrev cX11_collect : ByteArray := prog_13_method_21_code
def yX11_collect : MethodName := ⟨RX11, "collect", "(II)V"⟩
abbrev cX11_isOwner : ByteArray := prog_13_method_22_code
def yX11_isOwner : MethodName := ⟨RX11, "isOwner", "(II)Z"⟩
abbrev cX11_isSeen : ByteArray := prog_13_method_23_code
def yX11_isSeen : MethodName := ⟨RX11, "isSeen", "(II)Z"⟩
abbrev cX11_areTold : ByteArray := prog_13_method_24_code
def yX11_areTold : MethodName := ⟨RX11, "areTold", "(II)Z"⟩
abbrev cX11_sees : ByteArray := prog_13_method_25_code
def yX11_sees : MethodName := ⟨RX11, "sees", "(II)Z"⟩
abbrev cX11_owners : ByteArray := prog_13_method_26_code
def yX11_owners : MethodName := ⟨RX11, "owners", "(II)I"⟩
abbrev cX11_meaning : ByteArray := prog_13_method_27_code
def yX11_meaning : MethodName := ⟨RX11, "meaning", "(I)I"⟩
abbrev cX11_aboveOf : ByteArray := prog_13_method_28_code
def yX11_aboveOf : MethodName := ⟨RX11, "aboveOf", "(I)I"⟩
abbrev cX11_belongs : ByteArray := prog_13_method_29_code
def yX11_belongs : MethodName := ⟨RX11, "belongs", "(I)I"⟩
abbrev cX11_files : ByteArray := prog_13_method_30_code
def yX11_files : MethodName := ⟨RX11, "files", "(I)V"⟩
abbrev cX11_letsWait : ByteArray := prog_13_method_31_code
def yX11_letsWait : MethodName := ⟨RX11, "letsWait", "()V"⟩
abbrev cX11_tag : ByteArray := prog_13_method_32_code
def yX11_tag : MethodName := ⟨RX11, "tag", "()I"⟩
abbrev cX11_make : ByteArray := prog_13_method_33_code
def yX11_make : MethodName := ⟨RX11, "make", "(I)I"⟩
abbrev cX11_merge : ByteArray := prog_13_method_34_code
def yX11_merge : MethodName := ⟨RX11, "merge", "(II)I"⟩
abbrev cX11_parent : ByteArray := prog_13_method_35_code
def yX11_parent : MethodName := ⟨RX11, "parent", "(IIZ)Z"⟩
abbrev cX11_ofTag : ByteArray := prog_13_method_36_code
def yX11_ofTag : MethodName := ⟨RX11, "ofTag", "(II)I"⟩
abbrev cX11_put : ByteArray := prog_13_method_37_code
def yX11_put : MethodName := ⟨RX11, "put", "(IIZ)Z"⟩
abbrev cX11_wave : ByteArray := prog_13_method_38_code
def yX11_wave : MethodName := ⟨RX11, "wave", "(I)I"⟩
abbrev cX11_waiting : ByteArray := prog_13_method_39_code
def yX11_waiting : MethodName := ⟨RX11, "waiting", "()I"⟩
abbrev cX11_under : ByteArray := prog_13_method_40_code
def yX11_under : MethodName := ⟨RX11, "under", "(IZ)I"⟩
abbrev cX11_isFigure : ByteArray := prog_13_method_41_code
def yX11_isFigure : MethodName := ⟨RX11, "isFigure", "(I)Z"⟩
abbrev cX11_canBe : ByteArray := prog_13_method_42_code
def yX11_canBe : MethodName := ⟨RX11, "canBe", "(I)Z"⟩
abbrev cX11_type : ByteArray := prog_13_method_43_code
def yX11_type : MethodName := ⟨RX11, "type", "(JI)I"⟩
abbrev cX11_wipe : ByteArray := prog_13_method_44_code
def yX11_wipe : MethodName := ⟨RX11, "wipe", "()I"⟩
abbrev cX11_behind : ByteArray := prog_13_method_45_code
def yX11_behind : MethodName := ⟨RX11, "behind", "(II)I"⟩
abbrev cX11_faultOf : ByteArray := prog_13_method_46_code
def yX11_faultOf : MethodName := ⟨RX11, "faultOf", "()I"⟩
abbrev cX11_fault : ByteArray := prog_13_method_47_code
def yX11_fault : MethodName := ⟨RX11, "fault", "()I"⟩
abbrev cX11_gets : ByteArray := prog_13_method_48_code
def yX11_gets : MethodName := ⟨RX11, "gets", "(Z)V"⟩
abbrev cX11_opens : ByteArray := prog_13_method_49_code
def yX11_opens : MethodName := ⟨RX11, "opens", "()V"⟩
abbrev cX11_isOfTag : ByteArray := prog_13_method_50_code
def yX11_isOfTag : MethodName := ⟨RX11, "isOfTag", "(IIZ)Z"⟩
abbrev cX11_isSo : ByteArray := prog_13_method_51_code
def yX11_isSo : MethodName := ⟨RX11, "isSo", "(IIZ)Z"⟩
abbrev cX11_searchOf : ByteArray := prog_13_method_52_code
def yX11_searchOf : MethodName := ⟨RX11, "searchOf", "(IZ)I"⟩
abbrev cX11_search : ByteArray := prog_13_method_53_code
def yX11_search : MethodName := ⟨RX11, "search", "(IZ)I"⟩
abbrev cX11_outDay : ByteArray := prog_13_method_54_code
def yX11_outDay : MethodName := ⟨RX11, "outDay", "(II)I"⟩
abbrev cX11_latest : ByteArray := prog_13_method_55_code
def yX11_latest : MethodName := ⟨RX11, "latest", "(I)I"⟩
abbrev cX11_result : ByteArray := prog_13_method_56_code
def yX11_result : MethodName := ⟨RX11, "result", "(II)I"⟩
abbrev cX11_sign : ByteArray := prog_13_method_57_code
def yX11_sign : MethodName := ⟨RX11, "sign", "(IIII)I"⟩
abbrev cX11_suits : ByteArray := prog_13_method_58_code
def yX11_suits : MethodName := ⟨RX11, "suits", "(II)Z"⟩
abbrev cX11_counts : ByteArray := prog_13_method_59_code
def yX11_counts : MethodName := ⟨RX11, "counts", "()V"⟩
abbrev cX11_match : ByteArray := prog_13_method_60_code
def yX11_match : MethodName := ⟨RX11, "match", "(I)I"⟩
abbrev cX11_matches : ByteArray := prog_13_method_61_code
def yX11_matches : MethodName := ⟨RX11, "matches", "()I"⟩
abbrev cX11_screen : ByteArray := prog_13_method_62_code
def yX11_screen : MethodName := ⟨RX11, "screen", "(IZ)Z"⟩
abbrev cX11_isRead : ByteArray := prog_13_method_63_code
def yX11_isRead : MethodName := ⟨RX11, "isRead", "(II)Z"⟩
abbrev cX11_isBlocked : ByteArray := prog_13_method_64_code
def yX11_isBlocked : MethodName := ⟨RX11, "isBlocked", "(II)Z"⟩
abbrev cX11_canComment : ByteArray := prog_13_method_65_code
def yX11_canComment : MethodName := ⟨RX11, "canComment", "(III)Z"⟩
abbrev cX11_comment : ByteArray := prog_13_method_66_code
def yX11_comment : MethodName := ⟨RX11, "comment", "(III)I"⟩
abbrev cX11_change : ByteArray := prog_13_method_67_code
def yX11_change : MethodName := ⟨RX11, "change", "(II)Z"⟩
abbrev cX11_reads : ByteArray := prog_13_method_68_code
def yX11_reads : MethodName := ⟨RX11, "reads", "(II)I"⟩
abbrev cX11_gave : ByteArray := prog_13_method_69_code
def yX11_gave : MethodName := ⟨RX11, "gave", "(I)I"⟩
abbrev cX11_kudos : ByteArray := prog_13_method_70_code
def yX11_kudos : MethodName := ⟨RX11, "kudos", "(II)I"⟩
abbrev cX11_liked : ByteArray := prog_13_method_71_code
def yX11_liked : MethodName := ⟨RX11, "liked", "(I)I"⟩
abbrev cX11_subscribe : ByteArray := prog_13_method_72_code
def yX11_subscribe : MethodName := ⟨RX11, "subscribe", "(IZI)Z"⟩
abbrev cX11_isNews : ByteArray := prog_13_method_73_code
def yX11_isNews : MethodName := ⟨RX11, "isNews", "(III)Z"⟩
abbrev cX11_news : ByteArray := prog_13_method_74_code
def yX11_news : MethodName := ⟨RX11, "news", "(I)I"⟩
abbrev cX11_digest : ByteArray := prog_13_method_75_code
def yX11_digest : MethodName := ⟨RX11, "digest", "(I)I"⟩
def RJx145de : String := "java/io/Serializable"
def TJx145de : u_T := fun k => match k with
  | _ => ("", "", "", false)
def tyJx145de : Nat → FieldType := fun k => match k with
  | _ => .int
theorem nmJx145de : ∀ a, a < 0 → ∀ b, b < 0 → a ≠ b → (TJx145de a).2.1 ≠ (TJx145de b).2.1 := by decide +kernel
theorem tyJx145de_ok : ∀ k, k < 0 → parseFieldDescriptor (TJx145de k).2.2.1 = some (tyJx145de k) := by decide +kernel
def RJ6 : String := "java/lang/Integer"
def TJ6 : u_T := fun k => match k with
  | _ => ("", "", "", false)
def tyJ6 : Nat → FieldType := fun k => match k with
  | _ => .int
theorem nmJ6 : ∀ a, a < 0 → ∀ b, b < 0 → a ≠ b → (TJ6 a).2.1 ≠ (TJ6 b).2.1 := by decide +kernel
theorem tyJ6_ok : ∀ k, k < 0 → parseFieldDescriptor (TJ6 k).2.2.1 = some (tyJ6 k) := by decide +kernel
abbrev cJ6_bitCount_0f7a4 : ByteArray := prog_18_method_49_code
def yJ6_bitCount_0f7a4 : MethodName := ⟨RJ6, "bitCount", "(I)I"⟩
def RJ9 : String := "java/lang/Math"
def TJ9 : u_T := fun k => match k with
  | _ => ("", "", "", false)
def tyJ9 : Nat → FieldType := fun k => match k with
  | _ => .int
theorem nmJ9 : ∀ a, a < 0 → ∀ b, b < 0 → a ≠ b → (TJ9 a).2.1 ≠ (TJ9 b).2.1 := by decide +kernel
theorem tyJ9_ok : ∀ k, k < 0 → parseFieldDescriptor (TJ9 k).2.2.1 = some (tyJ9 k) := by decide +kernel
abbrev cJ9_max_7cf53 : ByteArray := prog_19_method_65_code
def yJ9_max_7cf53 : MethodName := ⟨RJ9, "max", "(II)I"⟩
abbrev cJ9_min_7cf53 : ByteArray := prog_19_method_69_code
def yJ9_min_7cf53 : MethodName := ⟨RJ9, "min", "(II)I"⟩
def RJ0 : String := "java/lang/String"
def TJ0 : u_T := fun k => match k with
  | _ => ("", "", "", false)
def tyJ0 : Nat → FieldType := fun k => match k with
  | _ => .int
theorem nmJ0 : ∀ a, a < 0 → ∀ b, b < 0 → a ≠ b → (TJ0 a).2.1 ≠ (TJ0 b).2.1 := by decide +kernel
theorem tyJ0_ok : ∀ k, k < 0 → parseFieldDescriptor (TJ0 k).2.2.1 = some (tyJ0 k) := by decide +kernel
def RJ10 : String := "java/lang/System"
def TJ10 : u_T := fun k => match k with
  | _ => ("", "", "", false)
def tyJ10 : Nat → FieldType := fun k => match k with
  | _ => .int
theorem nmJ10 : ∀ a, a < 0 → ∀ b, b < 0 → a ≠ b → (TJ10 a).2.1 ≠ (TJ10 b).2.1 := by decide +kernel
theorem tyJ10_ok : ∀ k, k < 0 → parseFieldDescriptor (TJ10 k).2.2.1 = some (tyJ10 k) := by decide +kernel
def RJ7 : String := "java/util/Arrays"
def TJ7 : u_T := fun k => match k with
  | _ => ("", "", "", false)
def tyJ7 : Nat → FieldType := fun k => match k with
  | _ => .int
theorem nmJ7 : ∀ a, a < 0 → ∀ b, b < 0 → a ≠ b → (TJ7 a).2.1 ≠ (TJ7 b).2.1 := by decide +kernel
theorem tyJ7_ok : ∀ k, k < 0 → parseFieldDescriptor (TJ7 k).2.2.1 = some (tyJ7 k) := by decide +kernel
abbrev cJ7_fill_53178 : ByteArray := prog_24_method_103_code
def yJ7_fill_53178 : MethodName := ⟨RJ7, "fill", "([II)V"⟩
def RL : String := "TagwrangleryLaw"
abbrev cL_pass : ByteArray := method_3_code
def yL_pass : MethodName := ⟨RL, "pass", "(LTagwranglery;I[J)I"⟩
abbrev cL_block : ByteArray := method_4_code
def yL_block : MethodName := ⟨RL, "block", "(LTagwranglery;IIZ[J)I"⟩
abbrev cL_same : ByteArray := method_5_code
def yL_same : MethodName := ⟨RL, "same", "(LTagwranglery;II[J)I"⟩
abbrev cL_work : ByteArray := method_6_code
def yL_work : MethodName := ⟨RL, "work", "(LTagwranglery;II[J)I"⟩
abbrev cL_join : ByteArray := method_7_code
def yL_join : MethodName := ⟨RL, "join", "(LTagwranglery;II[J)I"⟩
abbrev cL_leave : ByteArray := method_8_code
def yL_leave : MethodName := ⟨RL, "leave", "(LTagwranglery;II[J)I"⟩
abbrev cL_chapter : ByteArray := method_9_code
def yL_chapter : MethodName := ⟨RL, "chapter", "(LTagwranglery;I[J)I"⟩
abbrev cL_post : ByteArray := method_10_code
def yL_post : MethodName := ⟨RL, "post", "(LTagwranglery;I[J)I"⟩
abbrev cL_lock : ByteArray := method_11_code
def yL_lock : MethodName := ⟨RL, "lock", "(LTagwranglery;IZ[J)I"⟩
abbrev cL_collection : ByteArray := method_12_code
def yL_collection : MethodName := ⟨RL, "collection", "(LTagwranglery;II[J)I"⟩
abbrev cL_collect : ByteArray := method_13_code
def yL_collect : MethodName := ⟨RL, "collect", "(LTagwranglery;II)I"⟩
abbrev cL_sees : ByteArray := method_14_code
def yL_sees : MethodName := ⟨RL, "sees", "(LTagwranglery;II[J)I"⟩
abbrev cL_owners : ByteArray := method_15_code
def yL_owners : MethodName := ⟨RL, "owners", "(LTagwranglery;II[J)I"⟩
abbrev cL_tag : ByteArray := method_16_code
def yL_tag : MethodName := ⟨RL, "tag", "(LTagwranglery;[J)I"⟩
abbrev cL_make : ByteArray := method_17_code
def yL_make : MethodName := ⟨RL, "make", "(LTagwranglery;I[J)I"⟩
abbrev cL_merge : ByteArray := method_18_code
def yL_merge : MethodName := ⟨RL, "merge", "(LTagwranglery;II[J)I"⟩
abbrev cL_parent : ByteArray := method_19_code
def yL_parent : MethodName := ⟨RL, "parent", "(LTagwranglery;IIZ[J)I"⟩
abbrev cL_ofTag : ByteArray := method_20_code
def yL_ofTag : MethodName := ⟨RL, "ofTag", "(LTagwranglery;II[J)I"⟩
abbrev cL_put : ByteArray := method_21_code
def yL_put : MethodName := ⟨RL, "put", "(LTagwranglery;IIZ[J)I"⟩
abbrev cL_wave : ByteArray := method_22_code
def yL_wave : MethodName := ⟨RL, "wave", "(LTagwranglery;I[J)I"⟩
abbrev cL_under : ByteArray := method_23_code
def yL_under : MethodName := ⟨RL, "under", "(LTagwranglery;IZ[J)I"⟩
abbrev cL_type : ByteArray := method_24_code
def yL_type : MethodName := ⟨RL, "type", "(LTagwranglery;JI[J)I"⟩
abbrev cL_search : ByteArray := method_25_code
def yL_search : MethodName := ⟨RL, "search", "(LTagwranglery;IZ[J)I"⟩
abbrev cL_result : ByteArray := method_26_code
def yL_result : MethodName := ⟨RL, "result", "(LTagwranglery;II[J)I"⟩
abbrev cL_sign : ByteArray := method_27_code
def yL_sign : MethodName := ⟨RL, "sign", "(LTagwranglery;IIII[J)I"⟩
abbrev cL_match : ByteArray := method_28_code
def yL_match : MethodName := ⟨RL, "match", "(LTagwranglery;I[J)I"⟩
abbrev cL_screen : ByteArray := method_29_code
def yL_screen : MethodName := ⟨RL, "screen", "(LTagwranglery;IZ[J)I"⟩
abbrev cL_comment : ByteArray := method_30_code
def yL_comment : MethodName := ⟨RL, "comment", "(LTagwranglery;III[J)I"⟩
abbrev cL_change : ByteArray := method_31_code
def yL_change : MethodName := ⟨RL, "change", "(LTagwranglery;II[J)I"⟩
abbrev cL_reads : ByteArray := method_32_code
def yL_reads : MethodName := ⟨RL, "reads", "(LTagwranglery;II[J)I"⟩
abbrev cL_kudos : ByteArray := method_33_code
def yL_kudos : MethodName := ⟨RL, "kudos", "(LTagwranglery;II[J)I"⟩
abbrev cL_liked : ByteArray := method_34_code
def yL_liked : MethodName := ⟨RL, "liked", "(LTagwranglery;I[J)I"⟩
abbrev cL_subscribe : ByteArray := method_35_code
def yL_subscribe : MethodName := ⟨RL, "subscribe", "(LTagwranglery;IZI[J)I"⟩
abbrev cL_news : ByteArray := method_36_code
def yL_news : MethodName := ⟨RL, "news", "(LTagwranglery;I[J)I"⟩
abbrev cL_digest : ByteArray := method_37_code
def yL_digest : MethodName := ⟨RL, "digest", "(LTagwranglery;I[J)I"⟩
abbrev cL_law : ByteArray := code
def yL_law : MethodName := ⟨RL, "law", "([I)Z"⟩
abbrev vwCl : List vw_C := [(RX0, TX0, 2), (RX1, TX1, 6), (RX2, TX2, 4), (RX3, TX3, 4), (RX4, TX4, 5), (RX5, TX5, 4), (RX6, TX6, 4), (RX7, TX7, 4), (RX8, TX8, 3), (RX9, TX9, 12), (RX10, TX10, 13), (RX11, TX11, 47)]
end
section
/-! the places where objects are made: what is made there. 0: what is thrown; 1: the script -/
def am_kd : Nat → Nat := fun s => match s with
  | 2 => 5
  | 3 => 1
  | 4 => 1
  | 5 => 1
  | 6 => 1
  | 7 => 1
  | 8 => 1
  | 9 => 1
  | 10 => 1
  | 11 => 1
  | 12 => 1
  | 13 => 1
  | 14 => 1
  | 15 => 0
  | 16 => 1
  | 17 => 1
  | 18 => 5
  | 19 => 5
  | 20 => 5
  | 21 => 0
  | 22 => 0
  | 23 => 0
  | 24 => 0
  | 25 => 5
  | 26 => 0
  | 27 => 0
  | 28 => 0
  | 29 => 0
  | 30 => 0
  | 31 => 1
  | 32 => 1
  | 33 => 1
  | 34 => 1
  | 35 => 1
  | 36 => 1
  | 37 => 1
  | 38 => 1
  | 39 => 1
  | 40 => 1
  | 41 => 1
  | 42 => 1
  | 43 => 1
  | 44 => 1
  | 45 => 1
  | 46 => 1
  | 47 => 1
  | 48 => 1
  | 49 => 1
  | 50 => 1
  | 51 => 1
  | 52 => 1
  | 53 => 1
  | 54 => 1
  | 55 => 1
  | 56 => 1
  | 57 => 1
  | 58 => 1
  | 59 => 1
  | 60 => 1
  | 61 => 1
  | 62 => 1
  | 63 => 1
  | 64 => 1
  | 65 => 1
  | 66 => 1
  | 67 => 1
  | 68 => 1
  | 69 => 0
  | 70 => 0
  | 71 => 4
  | _ => 9
def am_ci : Nat → Nat := fun s => match s with
  | 2 => 6
  | 15 => 4
  | 18 => 3
  | 19 => 9
  | 21 => 7
  | 22 => 8
  | 23 => 5
  | 24 => 2
  | 25 => 1
  | 26 => 3
  | 27 => 9
  | 29 => 6
  | 30 => 1
  | 69 => 10
  | 70 => 11
  | _ => 0
def am_ln : Nat → Nat := fun s => match s with
  | 2 => 8
  | 3 => 8
  | 4 => 256
  | 5 => 20
  | 6 => 12
  | 7 => 20
  | 8 => 61
  | 9 => 61
  | 10 => 61
  | 11 => 30
  | 12 => 30
  | 13 => 30
  | 14 => 60
  | 16 => 8
  | 17 => 32
  | 18 => 12
  | 19 => 20
  | 20 => 6
  | 25 => 60
  | 31 => 144
  | 32 => 32
  | 33 => 20
  | 34 => 20
  | 35 => 20
  | 36 => 160
  | 37 => 20
  | 38 => 20
  | 39 => 20
  | 40 => 20
  | 41 => 20
  | 42 => 20
  | 43 => 20
  | 44 => 20
  | 45 => 6
  | 46 => 6
  | 47 => 30
  | 48 => 30
  | 49 => 30
  | 50 => 60
  | 51 => 64
  | 52 => 64
  | 53 => 64
  | 54 => 8
  | 55 => 8
  | 56 => 8
  | 57 => 8
  | 58 => 64
  | 59 => 256
  | 60 => 60
  | 61 => 60
  | 62 => 60
  | 63 => 60
  | 64 => 60
  | 65 => 60
  | 66 => 240
  | 67 => 144
  | 68 => 1920
  | 71 => 1
  | _ => 0
def am_ty : Nat → Nat := fun s => match s with
  | 2 => 8
  | 10 => 1
  | 14 => 2
  | 18 => 4
  | 19 => 5
  | 20 => 6
  | 25 => 7
  | 31 => 1
  | 38 => 1
  | 42 => 1
  | 43 => 1
  | 51 => 1
  | 52 => 1
  | 53 => 1
  | 58 => 1
  | 63 => 1
  | 64 => 1
  | 65 => 1
  | 68 => 1
  | 71 => 3
  | _ => 0
def am_nf : Nat → Nat := fun c => match c with
  | 0 => 2
  | 1 => 6
  | 2 => 4
  | 3 => 4
  | 4 => 5
  | 5 => 4
  | 6 => 4
  | 7 => 4
  | 8 => 3
  | 9 => 12
  | 10 => 13
  | 11 => 47
  | _ => 0
/-- whether a field holds a reference -/
def am_rf : Nat → Nat → Bool := fun c j => match c with
  | 1 => (j == 2)
  | 2 => (j == 0 || j == 2 || j == 3)
  | 3 => (j == 1 || j == 2 || j == 3)
  | 5 => (j == 0 || j == 1 || j == 2)
  | 7 => (j == 1 || j == 2 || j == 3)
  | 8 => (j == 0 || j == 2)
  | 9 => (j == 2 || j == 6)
  | 10 => (j == 1 || j == 2 || j == 3 || j == 5 || j == 7 || j == 8 || j == 9 || j == 10 || j == 11)
  | 11 => (j == 2 || j == 3 || j == 5 || j == 6 || j == 7 || j == 8 || j == 9 || j == 10 || j == 11 || j == 12 || j == 13 || j == 14 || j == 15 || j == 16 || j == 18 || j == 19 || j == 21 || j == 22 || j == 23 || j == 25 || j == 26 || j == 27 || j == 28 || j == 31 || j == 32 || j == 33 || j == 34 || j == 35 || j == 36 || j == 38 || j == 39 || j == 40 || j == 41 || j == 42 || j == 43 || j == 44 || j == 45 || j == 46)
  | _ => false
def am_tyX : Nat → Nat → FieldType := fun c => match c with
  | 0 => tyX0
  | 1 => tyX1
  | 2 => tyX2
  | 3 => tyX3
  | 4 => tyX4
  | 5 => tyX5
  | 6 => tyX6
  | 7 => tyX7
  | 8 => tyX8
  | 9 => tyX9
  | 10 => tyX10
  | 11 => tyX11
  | _ => fun _ => .int
def am_tys (dA : Nat → ClassId) : List (ClassId × FieldType) := [(dA 0, .int), (dA 1, .boolean), (dA 2, .char), (dA 3, .long), (dA 4, .object RX3), (dA 5, .object RX9), (dA 6, .object RX0), (dA 7, .object RX1), (dA 8, .object RX6)]
def am_xn : Nat → String := fun k => match k with
  | 0 => "java/lang/IndexOutOfBoundsException"
  | 1 => "java/lang/IllegalArgumentException"
  | _ => "java/lang/IllegalStateException"
end
section
/-! An abstract machine: a heap of objects by the place where they were made and a serial number. Values: ints, longs, references. -/
abbrev am_V : Type := Int32 ⊕ Int64 ⊕ Option (Nat × Nat)
abbrev am_H : Type := (Nat → Nat) × (Nat → Nat → Nat → Int32) × (Nat → Nat → Nat → Option (Nat × Nat)) × (Nat → Nat → Nat → Int64) × Nat × Nat
def m_nx (h : am_H) : Nat → Nat := h.1
def m_gi (h : am_H) : Nat → Nat → Nat → Int32 := h.2.1
def m_gr (h : am_H) : Nat → Nat → Nat → Option (Nat × Nat) := h.2.2.1
def m_gl (h : am_H) : Nat → Nat → Nat → Int64 := h.2.2.2.1
def m_nc (h : am_H) : Nat := h.2.2.2.2.1
def m_ns (h : am_H) : Nat := h.2.2.2.2.2
def m_si (h : am_H) (s k j : Nat) (v : Int32) : am_H := (h.1, fun a b c => if a = s ∧ b = k ∧ c = j then v else h.2.1 a b c, h.2.2.1, h.2.2.2.1, h.2.2.2.2.1, h.2.2.2.2.2)
def m_sr (h : am_H) (s k j : Nat) (v : Option (Nat × Nat)) : am_H := (h.1, h.2.1, fun a b c => if a = s ∧ b = k ∧ c = j then v else h.2.2.1 a b c, h.2.2.2.1, h.2.2.2.2.1, h.2.2.2.2.2)
def m_sl (h : am_H) (s k j : Nat) (v : Int64) : am_H := (h.1, h.2.1, h.2.2.1, fun a b c => if a = s ∧ b = k ∧ c = j then v else h.2.2.2.1 a b c, h.2.2.2.2.1, h.2.2.2.2.2)
/-- a new object of n slots, made at the place s -/
def m_al (h : am_H) (s n : Nat) : am_H := (fun a => if a = s then h.1 s + 1 else h.1 a, fun a b c => if a = s ∧ b = h.1 s then 0 else h.2.1 a b c, fun a b c => if a = s ∧ b = h.1 s then none else h.2.2.1 a b c, fun a b c => if a = s ∧ b = h.1 s then 0 else h.2.2.2.1 a b c, h.2.2.2.2.1 + 1, h.2.2.2.2.2 + n)
/-- the making of what is thrown -/
def m_th (h : am_H) : am_H := (h.1, h.2.1, h.2.2.1, h.2.2.2.1, h.2.2.2.2.1 + 1, h.2.2.2.2.2 + 6)
/-- what is caught gets a number -/
def m_op (h : am_H) : am_H := (fun a => if a = 0 then h.1 0 + 1 else h.1 a, h.2.1, h.2.2.1, h.2.2.2.1, h.2.2.2.2.1, h.2.2.2.2.2)
/-- n ints of one array onto another one's -/
def m_cp (h : am_H) (s k sp t w dp n : Nat) : am_H := (h.1, fun a b c => if a = t ∧ b = w then (if dp ≤ c ∧ c < dp + n then h.2.1 s k (sp + (c - dp)) else h.2.1 t w c) else h.2.1 a b c, h.2.2.1, h.2.2.2.1, h.2.2.2.2.1, h.2.2.2.2.2)
abbrev am_R : Type := Option (am_H × (Option am_V ⊕ Nat))
def m_rt (h : am_H) (v : Option am_V) : am_R := some (h, .inl v)
def m_ex (h : am_H) (k : Nat) : am_R := some (m_th h, .inr k)
def m_as (o : Option (Nat × Nat)) (k : Nat × Nat → am_R) : am_R := match o with
  | none => none
  | some a => k a
def m_ck (b : Bool) (r : am_R) : am_R := match b with
  | true => r
  | false => none
def m_bI (r : am_R) (k : am_H → Int32 → am_R) : am_R := match r with
  | some (h, .inl (some (.inl x))) => k h x
  | some (h, .inr e) => some (h, .inr e)
  | _ => none
def m_bR (r : am_R) (k : am_H → Option (Nat × Nat) → am_R) : am_R := match r with
  | some (h, .inl (some (.inr (.inr o)))) => k h o
  | some (h, .inr e) => some (h, .inr e)
  | _ => none
def m_bV (r : am_R) (k : am_H → am_R) : am_R := match r with
  | some (h, .inl none) => k h
  | some (h, .inr e) => some (h, .inr e)
  | _ => none
/-- a call under a table: what is thrown goes to kx -/
def m_bIx (r : am_R) (k : am_H → Int32 → am_R) (kx : am_H → Nat → am_R) : am_R := match r with
  | some (h, .inl (some (.inl x))) => k h x
  | some (h, .inr e) => kx (m_op h) e
  | _ => none
def m_bVx (r : am_R) (k : am_H → am_R) (kx : am_H → Nat → am_R) : am_R := match r with
  | some (h, .inl none) => k h
  | some (h, .inr e) => kx (m_op h) e
  | _ => none
def m_in (i : Int32) (n : Nat) : Bool := decide (¬ (i < 0 ∨ n ≤ i.toNatClampNeg))
def m_nz (x : Int32) : Bool := x == 0 || x == 1
def m_nzc (x : Int32) : Bool := (x.toUInt32 % 65536).toInt32 == x
def am_isO (s ci : Nat) : Bool := am_kd s == 0 && am_ci s == ci
def am_isA (s ty : Nat) : Bool := am_kd s == 1 && am_ty s == ty
def am_isL (s : Nat) : Bool := am_kd s == 4 && am_ty s == 3
def am_isR (s : Nat) : Bool := am_kd s == 5
def am_le (h h' : am_H) : Prop := m_nc h ≤ m_nc h' ∧ m_ns h ≤ m_ns h' ∧ ∀ s, m_nx h s ≤ m_nx h' s
theorem am_le.refl (h : am_H) : am_le h h := ⟨Nat.le_refl _, Nat.le_refl _, fun _ => Nat.le_refl _⟩
theorem am_le.trans {a b c : am_H} (h1 : am_le a b) (h2 : am_le b c) : am_le a c := ⟨Nat.le_trans h1.1 h2.1, Nat.le_trans h1.2.1 h2.2.1, fun s => Nat.le_trans (h1.2.2 s) (h2.2.2 s)⟩
theorem am_le_si (h : am_H) (s k j : Nat) (v : Int32) : am_le h (m_si h s k j v) := am_le.refl h
theorem am_le_sr (h : am_H) (s k j : Nat) (v : Option (Nat × Nat)) : am_le h (m_sr h s k j v) := am_le.refl h
theorem am_le_sl (h : am_H) (s k j : Nat) (v : Int64) : am_le h (m_sl h s k j v) := am_le.refl h
theorem am_le_cp (h : am_H) (s k sp t w dp n : Nat) : am_le h (m_cp h s k sp t w dp n) := am_le.refl h
theorem am_le_al (h : am_H) (s n : Nat) : am_le h (m_al h s n) := ⟨Nat.le_succ _, Nat.le_add_right _ _, fun a => by
  show h.1 a ≤ if a = s then h.1 s + 1 else h.1 a
  split
  · next e => rw [e]; exact Nat.le_succ _
  · exact Nat.le_refl _⟩
theorem am_le_th (h : am_H) : am_le h (m_th h) := ⟨Nat.le_succ _, Nat.le_add_right _ _, fun _ => Nat.le_refl _⟩
theorem am_le_op (h : am_H) : am_le h (m_op h) := ⟨Nat.le_refl _, Nat.le_refl _, fun a => by
  show h.1 a ≤ if a = 0 then h.1 0 + 1 else h.1 a
  split
  · next e => rw [e]; exact Nat.le_succ _
  · exact Nat.le_refl _⟩
/-! ## what the abstract heap says of the machine's -/
def am_v (μ : Nat × Nat → Nat) : am_V → Value
  | .inl x => .int x
  | .inr (.inl y) => .long y
  | .inr (.inr o) => va_rf (o.map μ)
def am_fv (μ : Nat × Nat → Nat) (h : am_H) (s k j : Nat) (r : Bool) : Value := match r with
  | true => va_rf ((m_gr h s k j).map μ)
  | false => .int (m_gi h s k j)
def am_fs (μ : Nat × Nat → Nat) (h : am_H) (s k : Nat) : List Value := (List.range (am_nf (am_ci s))).map fun j => am_fv μ h s k j (am_rf (am_ci s) j)
def am_ent (dA : Nat → ClassId) (μ : Nat × Nat → Nat) (h : am_H) (a : Nat × Nat) : va_E := match am_kd a.1 with
  | 0 => .inr (am_ci a.1, am_fs μ h a.1 a.2)
  | 5 => .inl (dA (am_ty a.1), (am_ln a.1, .inr (.inr (.inr (.inr fun j => (m_gr h a.1 a.2 j).map μ)))))
  | 4 => .inl (dA (am_ty a.1), (am_ln a.1, .inr (.inl fun j => m_gl h a.1 a.2 j)))
  | _ => .inl (dA (am_ty a.1), (am_ln a.1, .inl fun j => m_gi h a.1 a.2 j))
def am_ws (dA : Nat → ClassId) (μ : Nat × Nat → Nat) (h : am_H) (L : List (Nat × Nat)) : va_W := L.map fun a => (μ a, am_ent dA μ h a)
/-- a value speaks of what there is -/
def am_clo (h : am_H) : am_V → Prop
  | .inr (.inr (some a)) => a.2 < m_nx h a.1
  | _ => True
def am_cls (h : am_H) (l : List am_V) : Prop := ∀ v ∈ l, am_clo h v
def am_Rel (D : va_G) (dA : Nat → ClassId) (base b n : Nat) (xs : Nat → Int32) (μ : Nat × Nat → Nat) (h : am_H) (H : Heap) : Prop :=
  ∃ L : List (Nat × Nat), va_P D vwCl (am_ws dA μ h L) H ∧ va_D (fun q : Nat => base ≤ q) (am_ws dA μ h L) ∧ L.Nodup ∧ (∀ a : Nat × Nat, a ∈ L ↔ a.2 < m_nx h a.1 ∧ am_kd a.1 ≠ 9) ∧ (∀ (s k j : Nat) (c : Nat × Nat), m_gr h s k j = some c → c.2 < m_nx h c.1) ∧
  μ (1, 0) = b ∧ (∀ j : Nat, m_gi h 1 0 j = xs j) ∧ m_gi h 1 1 0 = Int32.ofNat n ∧ 0 < m_nx h 1
def am_ext (μ : Nat × Nat → Nat) (h : am_H) (μ' : Nat × Nat → Nat) : Prop := ∀ a : Nat × Nat, a.2 < m_nx h a.1 → μ' a = μ a
theorem am_ext.refl (μ : Nat × Nat → Nat) (h : am_H) : am_ext μ h μ := fun _ _ => rfl
theorem am_ext.trans {μ μ1 μ2 : Nat × Nat → Nat} {h h1 : am_H} (e1 : am_ext μ h μ1) (hl : am_le h h1) (e2 : am_ext μ1 h1 μ2) : am_ext μ h μ2 := fun a ha => by
  rw [e2 a (Nat.lt_of_lt_of_le ha (hl.2.2 a.1)), e1 a ha]
theorem am_clo.mono {h h1 : am_H} (hl : am_le h h1) {v : am_V} (c : am_clo h v) : am_clo h1 v := by
  rcases v with x | y | _ | a
  · trivial
  · trivial
  · trivial
  · exact Nat.lt_of_lt_of_le c (hl.2.2 a.1)
theorem am_cls.mono {h h1 : am_H} (hl : am_le h h1) {l : List am_V} (c : am_cls h l) : am_cls h1 l := fun v hv => (c v hv).mono hl
theorem am_v_ext {μ μ1 : Nat × Nat → Nat} {h : am_H} (e : am_ext μ h μ1) {v : am_V} (c : am_clo h v) : am_v μ1 v = am_v μ v := by
  rcases v with x | y | _ | a
  · rfl
  · rfl
  · rfl
  · show va_rf (some (μ1 a)) = va_rf (some (μ a))
    rw [e a c]
theorem am_vs_ext {μ μ1 : Nat × Nat → Nat} {h : am_H} (e : am_ext μ h μ1) : ∀ {l : List am_V}, am_cls h l → l.map (am_v μ1) = l.map (am_v μ)
  | [], _ => rfl
  | v :: l, c => by
    rw [List.map_cons, List.map_cons, am_v_ext e (c v List.mem_cons_self), am_vs_ext e (fun w hw => c w (List.mem_cons_of_mem _ hw))]
theorem am_cls.tail {h : am_H} {v : am_V} {l : List am_V} (c : am_cls h (v :: l)) : am_cls h l := fun w hw => c w (List.mem_cons_of_mem _ hw)
theorem am_cls.head {h : am_H} {v : am_V} {l : List am_V} (c : am_cls h (v :: l)) : am_clo h v := c v List.mem_cons_self
theorem am_cls.cons {h : am_H} {v : am_V} {l : List am_V} (c1 : am_clo h v) (c : am_cls h l) : am_cls h (v :: l) := fun w hw => by
  rcases List.mem_cons.mp hw with rfl | hw
  · exact c1
  · exact c w hw
/-! locals -/
def am_pr (μ : Nat × Nat → Nat) : Nat → List (Option am_V) → List (Nat × Value)
  | _, [] => []
  | j, none :: l => am_pr μ (j + 1) l
  | j, some v :: l => (j, am_v μ v) :: am_pr μ (j + 1) l
theorem am_pr_mem {μ : Nat × Nat → Nat} : ∀ {l : List (Option am_V)} {k j : Nat} {w : Value}, (j, w) ∈ am_pr μ k l ↔ ∃ (i : Nat) (v : am_V), j = k + i ∧ l[i]? = some (some v) ∧ w = am_v μ v
  | [], k, j, w => by simp [am_pr]
  | none :: l, k, j, w => by
    rw [am_pr, am_pr_mem]
    constructor
    · rintro ⟨i, v, h1, h2, h3⟩
      exact ⟨i + 1, v, by omega, by simpa using h2, h3⟩
    · rintro ⟨i, v, h1, h2, h3⟩
      cases i with
      | zero => simp at h2
      | succ i => exact ⟨i, v, by omega, by simpa using h2, h3⟩
  | some u :: l, k, j, w => by
    rw [am_pr, List.mem_cons, am_pr_mem]
    constructor
    · rintro (h | ⟨i, v, h1, h2, h3⟩)
      · simp only [Prod.mk.injEq] at h
        exact ⟨0, u, by omega, by simp, h.2⟩
      · exact ⟨i + 1, v, by omega, by simpa using h2, h3⟩
    · rintro ⟨i, v, h1, h2, h3⟩
      cases i with
      | zero =>
        left
        simp only [List.getElem?_cons_zero, Option.some.injEq] at h2
        subst h2
        rw [h1, h3]; rfl
      | succ i => exact Or.inr ⟨i, v, by omega, by simpa using h2, h3⟩
/-- a local that a long stands in goes when its second half is written -/
def am_nl (x : Option am_V) : Option am_V := match x with
  | some (.inr (.inl _)) => none
  | x => x
def am_set : List (Option am_V) → Nat → am_V → List (Option am_V)
  | [], _, _ => []
  | _ :: l, 0, v => some v :: l
  | x :: l, 1, v => am_nl x :: am_set l 0 v
  | x :: l, i + 2, v => x :: am_set l (i + 1) v
theorem am_set_get : ∀ {l : List (Option am_V)} {i j : Nat} {v w : am_V}, (am_set l i v)[j]? = some (some w) → (j = i ∧ w = v) ∨ (j ≠ i ∧ l[j]? = some (some w) ∧ (j + 1 = i → ∀ y, w ≠ .inr (.inl y)))
  | [], i, j, v, w, h => by simp [am_set] at h
  | x :: l, 0, j, v, w, h => by
    cases j with
    | zero => simp [am_set] at h; exact Or.inl ⟨rfl, h.symm⟩
    | succ j => exact Or.inr ⟨by omega, by simpa [am_set] using h, by omega⟩
  | x :: l, 1, j, v, w, h => by
    cases j with
    | zero =>
      refine Or.inr ⟨by omega, ?_, fun _ y hy => ?_⟩
      · rcases x with _ | a | a | a <;> simp [am_set, am_nl] at h ⊢ <;> exact h
      · subst hy
        rcases x with _ | a | a | a <;> simp [am_set, am_nl] at h
    | succ j =>
      rcases am_set_get (l := l) (i := 0) (j := j) (v := v) (w := w) (by simpa [am_set] using h) with ⟨h1, h2⟩ | ⟨h1, h2, h3⟩
      · exact Or.inl ⟨by omega, h2⟩
      · exact Or.inr ⟨by omega, by simpa using h2, by omega⟩
  | x :: l, i + 2, j, v, w, h => by
    cases j with
    | zero => exact Or.inr ⟨by omega, by simpa [am_set] using h, by omega⟩
    | succ j =>
      rcases am_set_get (l := l) (i := i + 1) (j := j) (v := v) (w := w) (by simpa [am_set] using h) with ⟨h1, h2⟩ | ⟨h1, h2, h3⟩
      · exact Or.inl ⟨by omega, h2⟩
      · exact Or.inr ⟨by omega, by simpa using h2, fun hj => h3 (by omega)⟩
def am_Ls (nL : Nat) (μ : Nat × Nat → Nat) (h : am_H) (lv : List (Option am_V)) (ls : Array Slot) : Prop := lv_has ls nL (am_pr μ 0 lv) ∧ ∀ (i : Nat) (v : am_V), lv[i]? = some (some v) → am_clo h v
theorem am_Ls.get {nL : Nat} {μ : Nat × Nat → Nat} {h : am_H} {lv : List (Option am_V)} {ls : Array Slot} (a : am_Ls nL μ h lv ls) {i : Nat} {v : am_V} (hi : lv[i]? = some (some v)) : ls[i]? = some (.val (am_v μ v)) :=
  a.1.2.2 (i, am_v μ v) (am_pr_mem.mpr ⟨i, v, by omega, hi, rfl⟩)
theorem am_v_cat {μ : Nat × Nat → Nat} {v : am_V} (h : ∀ y, v ≠ .inr (.inl y)) : (am_v μ v).category = 1 := by
  rcases v with x | y | _ | a
  · rfl
  · exact absurd rfl (h y)
  · rfl
  · rfl
theorem am_Ls.put {nL : Nat} {μ : Nat × Nat → Nat} {h : am_H} {lv : List (Option am_V)} {ls ls' : Array Slot} (a : am_Ls nL μ h lv ls) {i : Nat} {v : am_V} (c : am_clo h v)
    (hl : lv_has ls' nL ((i, am_v μ v) :: (am_pr μ 0 lv).filter (fun q => !(q.1 == i) && !(q.1 + 1 == i && q.2.category == 2)))) : am_Ls nL μ h (am_set lv i v) ls' := by
  refine ⟨⟨hl.1, hl.2.1, fun q hq => ?_⟩, fun j w hj => ?_⟩
  · obtain ⟨j, w⟩ := q
    obtain ⟨k, u, h1, h2, h3⟩ := am_pr_mem.mp hq
    rw [Nat.zero_add] at h1
    subst h1
    rcases am_set_get h2 with ⟨e1, e2⟩ | ⟨e1, e2, e3⟩
    · subst e1; subst e2
      rw [h3]
      exact hl.2.2 _ List.mem_cons_self
    · refine hl.2.2 _ (List.mem_cons_of_mem _ (List.mem_filter.mpr ⟨am_pr_mem.mpr ⟨j, u, by omega, e2, h3⟩, ?_⟩))
      by_cases hji : j + 1 = i
      · have := am_v_cat (μ := μ) (e3 hji)
        simp [e1, h3, this]
      · simp [e1, hji]
  · rcases am_set_get hj with ⟨e1, e2⟩ | ⟨e1, e2, e3⟩
    · rw [e2]; exact c
    · exact a.2 _ _ e2
/-- fewer locals -/
def am_leL : List (Option am_V) → List (Option am_V) → Prop
  | [], _ => True
  | none :: l, [] => am_leL l []
  | none :: l, _ :: l' => am_leL l l'
  | some _ :: _, [] => False
  | some v :: l, x :: l' => x = some v ∧ am_leL l l'
theorem am_leL_get : ∀ {l l' : List (Option am_V)}, am_leL l l' → ∀ {i : Nat} {v : am_V}, l[i]? = some (some v) → l'[i]? = some (some v)
  | [], _, _, i, v, h => by simp at h
  | none :: l, [], hl, i, v, h => by
    cases i with
    | zero => simp at h
    | succ i =>
      have := am_leL_get (l := l) (l' := []) hl (by simpa using h)
      simp at this
  | none :: l, _ :: l', hl, i, v, h => by
    cases i with
    | zero => simp at h
    | succ i => simpa using am_leL_get (l := l) (l' := l') hl (by simpa using h)
  | some _ :: _, [], hl, i, v, h => absurd hl id
  | some u :: l, x :: l', hl, i, v, h => by
    cases i with
    | zero =>
      simp only [List.getElem?_cons_zero, Option.some.injEq] at h ⊢
      rw [hl.1, h]
    | succ i => simpa using am_leL_get (l := l) (l' := l') hl.2 (by simpa using h)
theorem am_Ls.sub {nL : Nat} {μ : Nat × Nat → Nat} {h : am_H} {lv lv' : List (Option am_V)} {ls : Array Slot} (a : am_Ls nL μ h lv ls) (hl : am_leL lv' lv) : am_Ls nL μ h lv' ls :=
  ⟨⟨a.1.1, a.1.2.1, fun q hq => by
    obtain ⟨j, w⟩ := q
    obtain ⟨k, u, h1, h2, h3⟩ := am_pr_mem.mp hq
    exact a.1.2.2 _ (am_pr_mem.mpr ⟨k, u, h1, am_leL_get hl h2, h3⟩)⟩, fun i v h => a.2 i v (am_leL_get hl h)⟩
theorem am_Ls.move {nL : Nat} {μ μ1 : Nat × Nat → Nat} {h h1 : am_H} {lv : List (Option am_V)} {ls : Array Slot} (a : am_Ls nL μ h lv ls) (e : am_ext μ h μ1) (hl : am_le h h1) : am_Ls nL μ1 h1 lv ls :=
  ⟨⟨a.1.1, a.1.2.1, fun q hq => by
    obtain ⟨j, w⟩ := q
    obtain ⟨k, u, q1, q2, q3⟩ := am_pr_mem.mp hq
    rw [am_v_ext e (a.2 k u q2)] at q3
    exact a.1.2.2 _ (am_pr_mem.mpr ⟨k, u, q1, q2, q3⟩)⟩, fun i v hv => (a.2 i v hv).mono hl⟩
end
section
/-! the list of all that is there, one of them changed -/
theorem am_ws_at {dA : Nat → ClassId} {μ : Nat × Nat → Nat} {h : am_H} {L : List (Nat × Nat)} {i : Nat} {a : Nat × Nat} (hi : L[i]? = some a) : (am_ws dA μ h L)[i]? = some (μ a, am_ent dA μ h a) := by
  rw [am_ws, List.getElem?_map, hi]; rfl
theorem am_ws_set {dA : Nat → ClassId} {μ : Nat × Nat → Nat} {h h1 : am_H} {L : List (Nat × Nat)} {i : Nat} {a : Nat × Nat} (hi : L[i]? = some a) (hn : L.Nodup) (he : ∀ a' : Nat × Nat, a' ≠ a → am_ent dA μ h1 a' = am_ent dA μ h a') :
    (am_ws dA μ h L).set i (μ a, am_ent dA μ h1 a) = am_ws dA μ h1 L := by
  apply List.ext_getElem?
  intro j
  by_cases hj : i = j
  · subst hj
    have hlt : i < (am_ws dA μ h L).length := by
      rw [am_ws, List.length_map]; exact (List.getElem?_eq_some_iff.mp hi).1
    rw [List.getElem?_set_self hlt, am_ws_at hi]
  · rw [List.getElem?_set_ne hj]
    rw [am_ws, am_ws, List.getElem?_map, List.getElem?_map]
    cases hLj : L[j]? with
    | none => rfl
    | some c =>
      have hne : c ≠ a := by
        intro hc
        subst hc
        have h1 := List.getElem?_eq_some_iff.mp hi
        have h2 := List.getElem?_eq_some_iff.mp hLj
        obtain ⟨p1, e1⟩ := h1
        obtain ⟨p2, e2⟩ := h2
        rcases Nat.lt_or_gt_of_ne hj with q | q
        · exact List.pairwise_iff_getElem.mp hn i j p1 p2 q (e1.trans e2.symm)
        · exact List.pairwise_iff_getElem.mp hn j i p2 p1 q (e2.trans e1.symm)
      show some (μ c, am_ent dA μ h c) = some (μ c, am_ent dA μ h1 c)
      rw [he c hne]
theorem am_ent_eq {dA : Nat → ClassId} {μ μ1 : Nat × Nat → Nat} {h h1 : am_H} {a : Nat × Nat} (e1 : ∀ j, m_gi h1 a.1 a.2 j = m_gi h a.1 a.2 j) (e2 : ∀ j, (m_gr h1 a.1 a.2 j).map μ1 = (m_gr h a.1 a.2 j).map μ) (e3 : ∀ j, m_gl h1 a.1 a.2 j = m_gl h a.1 a.2 j) : am_ent dA μ1 h1 a = am_ent dA μ h a := by
  have hf : am_fs μ1 h1 a.1 a.2 = am_fs μ h a.1 a.2 := by
    unfold am_fs
    congr 1
    funext j
    cases am_rf (am_ci a.1) j
    · show Value.int _ = Value.int _
      rw [e1]
    · show va_rf _ = va_rf _
      rw [e2]
  unfold am_ent
  split
  · rw [hf]
  · rw [show (fun j => (m_gr h1 a.1 a.2 j).map μ1) = fun j => (m_gr h a.1 a.2 j).map μ from funext e2]
  · rw [show (fun j => m_gl h1 a.1 a.2 j) = fun j => m_gl h a.1 a.2 j from funext e3]
  · rw [show (fun j => m_gi h1 a.1 a.2 j) = fun j => m_gi h a.1 a.2 j from funext e1]
theorem m_gi_si (h : am_H) (s k j : Nat) (v : Int32) (a b c : Nat) : m_gi (m_si h s k j v) a b c = if a = s ∧ b = k ∧ c = j then v else m_gi h a b c := rfl
theorem m_gr_sr (h : am_H) (s k j : Nat) (v : Option (Nat × Nat)) (a b c : Nat) : m_gr (m_sr h s k j v) a b c = if a = s ∧ b = k ∧ c = j then v else m_gr h a b c := rfl
theorem m_gl_sl (h : am_H) (s k j : Nat) (v : Int64) (a b c : Nat) : m_gl (m_sl h s k j v) a b c = if a = s ∧ b = k ∧ c = j then v else m_gl h a b c := rfl
theorem am_pr_ne {a c : Nat × Nat} (h : a ≠ c) : ¬ (a.1 = c.1 ∧ a.2 = c.2) := fun q => h (Prod.ext q.1 q.2)
theorem am_ent_si {dA : Nat → ClassId} {μ : Nat × Nat → Nat} {h : am_H} {a : Nat × Nat} {j : Nat} {v : Int32} (a' : Nat × Nat) (hn : a' ≠ a) : am_ent dA μ (m_si h a.1 a.2 j v) a' = am_ent dA μ h a' :=
  am_ent_eq (fun i => by rw [m_gi_si, if_neg (fun q => am_pr_ne hn ⟨q.1, q.2.1⟩)]) (fun _ => rfl) (fun _ => rfl)
theorem am_ent_sr {dA : Nat → ClassId} {μ : Nat × Nat → Nat} {h : am_H} {a : Nat × Nat} {j : Nat} {v : Option (Nat × Nat)} (a' : Nat × Nat) (hn : a' ≠ a) : am_ent dA μ (m_sr h a.1 a.2 j v) a' = am_ent dA μ h a' :=
  am_ent_eq (fun _ => rfl) (fun i => by rw [m_gr_sr, if_neg (fun q => am_pr_ne hn ⟨q.1, q.2.1⟩)]) (fun _ => rfl)
theorem am_ent_sl {dA : Nat → ClassId} {μ : Nat × Nat → Nat} {h : am_H} {a : Nat × Nat} {j : Nat} {v : Int64} (a' : Nat × Nat) (hn : a' ≠ a) : am_ent dA μ (m_sl h a.1 a.2 j v) a' = am_ent dA μ h a' :=
  am_ent_eq (fun _ => rfl) (fun _ => rfl) (fun i => by rw [m_gl_sl, if_neg (fun q => am_pr_ne hn ⟨q.1, q.2.1⟩)])
/-! ## a method's body, told by what the abstract machine does -/
/-- name, code, words of locals, what it returns, its table -/
abbrev am_M : Type := MethodName × ByteArray × Nat × Option FieldType × List (Nat × Nat × Nat × Nat)
/-- words that stay when the tables get warmer -/
def am_gw : Cond → Bool
  | .methodLinkNest _ _ _ _ => true
  | .declares _ => true
  | .castable _ _ => true
  | .arrayOver (.object _) => true
  | .stringRef _ _ _ => true
  | w => goodWord w
theorem am_gw_warm {w : Cond} (hg : am_gw w = true) {s U : State} (hW : s.WarmedH U.vm) {args a' : Array Value} (h : w.before args s = true) : w.before a' U = true := by
  unfold am_gw at hg
  split at hg
  · exact va_Nw.use rfl (va_Nw.warmM hW (va_Nw.of rfl h))
  · exact va_Nw.use rfl (va_Nw.warmD hW (va_Nw.of rfl h))
  · exact va_Nw.use rfl (va_Nw.warmC hW (va_Nw.of rfl h))
  · exact va_AO.use (va_AO.moved hW.alike (va_AO.of h))
  · have h1 := Cond.stringRef_warmed hW h
    have hv : (s.setVm U.vm).vm = U.vm := rfl
    simp only [Cond.before, Cond.holds, Cond.value, State.names, State.poolOf?, State.resolvedAt?, hv] at h1 ⊢
    exact h1
  · exact word_at hW (good_of_word hg) h
def am_T : List Cond := lw_tbl.filter am_gw
def am_cw (M : am_M) : Cond := match M.2.2.2.2 with
  | [] => .code M.1 M.2.1 M.2.2.1 M.2.2.2.1
  | hh => .codeWith M.1 M.2.1 M.2.2.1 M.2.2.2.1 hh
def am_w (M : am_M) : List Cond := am_cw M :: am_T
def am_Ncs (U : State) : Prop := ∀ i j : Nat, i < 3 → j < 3 → i ≠ j → va_Nc (am_xn i) (am_xn j) U
def am_Wd (D : va_G) (dA : Nat → ClassId) (base b n : Nat) (xs : Nat → Int32) (U : State) (H : Heap) : Prop :=
  va_K D vwCl (am_tys dA) U ∧ vx_Zq Bundle.tN "UNASSIGNED_STACK" Bundle.steD (fun q : Nat => base ≤ q) U H ∧ vx_Zq Bundle.tN "SUPPRESSED_SENTINEL" Bundle.listD (fun q : Nat => base ≤ q) U H ∧ (va_X b n xs U H ∧ n ≤ 2560) ∧ b < base ∧ base ≤ H.size ∧ am_Ncs U
def am_Cx (l : Launch) (D : va_G) (dA : Nat → ClassId) (base b n : Nat) (xs : Nat → Int32) (M : am_M) (d : Nat) (p : Program) (R : Room) (s : State) (m : MethodId) (args : Array Value) (meth : Method) (c : Code) (mc ms : Nat) : Prop :=
  p.tables.exec = Jvm.exec ∧ c.code = M.2.1 ∧ c.maxLocals = M.2.2.1 ∧ meth.sig.returnType = M.2.2.2.1 ∧ s.vm.findClass M.1.cls = some m.cls ∧ meth.locks = false ∧ meth.name = M.1.name ∧ (∀ w ∈ am_T, w.before args s = true) ∧
  c.exceptionTable.toList = tableOf M.2.2.2.2 ∧ l.stackTraces = false ∧ (d ≤ R.frames ∧ 36 * d ≤ R.locals ∧ mc ≤ R.cells ∧ ms ≤ R.slots) ∧ am_Wd D dA base b n xs s s.heap
def am_Fin (D : va_G) (dA : Nat → ClassId) (base b n : Nat) (xs : Nat → Int32) (s : State) (args : Array Value) (μ : Nat × Nat → Nat) (h h' : am_H) (o : Option am_V ⊕ Nat) (Qc : Array Value → State → Outcome → State → Prop) (XC : String → State → State → Prop) : Prop :=
  ∀ (μ' : Nat × Nat → Nat) (t : State), am_ext μ h μ' → am_Rel D dA base b n xs μ' h' t.heap → s.vm.Alike t.vm → va_F (fun q : Nat => base ≤ q) s t →
    (∀ v : Option am_V, o = .inl v → (∀ w, v = some w → am_clo h' w) → Qc args s (.returned (v.map (am_v μ'))) t) ∧ (∀ k : Nat, o = .inr k → XC (am_xn k) s t)
def Sim (M : am_M) (d pc : Nat) (lv : List (Option am_V)) (st : List am_V) (h : am_H) (r : am_R) : Prop :=
  ∀ (h' : am_H) (o : Option am_V ⊕ Nat), r = some (h', o) → am_le h h' ∧
  ∀ (l : Launch) (D : va_G) (dA : Nat → ClassId) (base b n : Nat) (xs : Nat → Int32) (p : Program) (e : Env) (R : Room) (s : State) (m : MethodId) (args : Array Value) (below : List Frame) (meth : Method) (c : Code) (mc ms : Nat) (Qc : Array Value → State → Outcome → State → Prop) (XC : String → State → State → Prop),
    am_Cx l D dA base b n xs M d p R s m args meth c mc ms →
    ∀ (μ : Nat × Nat → Nat) (H : Heap) (locs : List Loc) (cells slots : Nat) (ls : Array Slot),
      am_Rel D dA base b n xs μ h H → va_S (fun q : Nat => base ≤ q) s.heap H locs → am_Ls M.2.2.1 μ h lv ls → am_cls h st →
      cells + (m_nc h' - m_nc h) = mc → slots + (m_ns h' - m_ns h) = ms → am_Fin D dA base b n xs s args μ h h' o Qc XC →
      W p l e R s m args below meth c H locs cells slots (vx_MQ below Qc XC args s mc ms (fun q : Nat => base ≤ q)) (F0 m pc ls (st.map (am_v μ)))
theorem sim_none {M : am_M} {d pc : Nat} {lv : List (Option am_V)} {st : List am_V} {h : am_H} : Sim M d pc lv st h none := fun h' o e => by cases e
theorem sim_lv {M : am_M} {d pc : Nat} {lv lv' : List (Option am_V)} {st : List am_V} {h : am_H} {r : am_R} (hl : am_leL lv' lv) (k : Sim M d pc lv' st h r) : Sim M d pc lv st h r := by
  intro h' o e
  obtain ⟨q1, q2⟩ := k h' o e
  exact ⟨q1, fun l D dA base b n xs p e R s m args below meth c mc ms Qc XC C μ H locs cells slots ls a1 a2 a3 => q2 l D dA base b n xs p e R s m args below meth c mc ms Qc XC C μ H locs cells slots ls a1 a2 (a3.sub hl)⟩
/-- a step that writes nothing but the stack -/
theorem sim_go {M : am_M} {d pc pc' : Nat} {lv : List (Option am_V)} {st st' : List am_V} {h : am_H} {r : am_R}
    (hc : am_cls h st → (∀ (i : Nat) (v : am_V), lv[i]? = some (some v) → am_clo h v) → am_cls h st')
    (go : ∀ (l : Launch) (p : Program) (e : Env) (R : Room) (s : State) (m : MethodId) (args : Array Value) (below : List Frame) (meth : Method) (c : Code) (Q : State → Prop) (μ : Nat × Nat → Nat) (H : Heap) (locs : List Loc) (cells slots : Nat) (ls : Array Slot),
      p.tables.exec = Jvm.exec → c.code = M.2.1 → s.vm.findClass M.1.cls = some m.cls → (∀ w ∈ am_T, w.before args s = true) → am_Ls M.2.2.1 μ h lv ls →
      W p l e R s m args below meth c H locs cells slots Q (F0 m pc' ls (st'.map (am_v μ))) → W p l e R s m args below meth c H locs cells slots Q (F0 m pc ls (st.map (am_v μ))))
    (k : Sim M d pc' lv st' h r) : Sim M d pc lv st h r := by
  intro h' o e
  obtain ⟨q1, q2⟩ := k h' o e
  refine ⟨q1, fun l D dA base b n xs p e R s m args below meth c mc ms Qc XC C μ H locs cells slots ls a1 a2 a3 a4 a5 a6 a7 => ?_⟩
  exact go l p e R s m args below meth c _ μ H locs cells slots ls C.1 C.2.1 C.2.2.2.2.1 C.2.2.2.2.2.2.2.1 a3 (q2 l D dA base b n xs p e R s m args below meth c mc ms Qc XC C μ H locs cells slots ls a1 a2 a3 (hc a4 a3.2) a5 a6 a7)
section SimRows
variable {M : am_M} {d pc : Nat} {lv : List (Option am_V)} {st : List am_V} {h : am_H} {r : am_R}
theorem am_clo_i {h : am_H} {x : Int32} : am_clo h (.inl x) := trivial
theorem am_clo_l {h : am_H} {x : Int64} : am_clo h (.inr (.inl x)) := trivial
theorem am_clo_n {h : am_H} : am_clo h (.inr (.inr none)) := trivial
theorem sim_iconst {n : Int} (v : Int32) (d0 : decode M.2.1 pc = .ok (.iconst n, 1)) (hv : Int32.ofInt n = v) (k : Sim M d (pc + 1) lv (.inl v :: st) h r) : Sim M d pc lv st h r :=
  sim_go (fun c _ => c.cons am_clo_i) (fun _ _ _ _ _ _ _ _ _ _ _ _ _ _ _ _ _ hx hb _ _ _ k => lv_iconst hx hb d0 hv k) k
theorem sim_bipush {n : Int} (v : Int32) (d0 : decode M.2.1 pc = .ok (.bipush n, 2)) (hv : (Int8.ofInt n).toInt32 = v) (k : Sim M d (pc + 2) lv (.inl v :: st) h r) : Sim M d pc lv st h r :=
  sim_go (fun c _ => c.cons am_clo_i) (fun _ _ _ _ _ _ _ _ _ _ _ _ _ _ _ _ _ hx hb _ _ _ k => lv_bipush hx hb d0 hv k) k
theorem sim_sipush {n : Int} (v : Int32) (d0 : decode M.2.1 pc = .ok (.sipush n, 3)) (hv : (Int16.ofInt n).toInt32 = v) (k : Sim M d (pc + 3) lv (.inl v :: st) h r) : Sim M d pc lv st h r :=
  sim_go (fun c _ => c.cons am_clo_i) (fun _ _ _ _ _ _ _ _ _ _ _ _ _ _ _ _ _ hx hb _ _ _ k => lv_sipush hx hb d0 hv k) k
theorem sim_lconst {n : Fin 2} (v : Int64) (d0 : decode M.2.1 pc = .ok (.lconst n, 1)) (hv : Int64.ofNat (n : Nat) = v) (k : Sim M d (pc + 1) lv (.inr (.inl v) :: st) h r) : Sim M d pc lv st h r :=
  sim_go (fun c _ => c.cons am_clo_l) (fun _ _ _ _ _ _ _ _ _ _ _ _ _ _ _ _ _ hx hb _ _ _ k => lv_lconst hx hb d0 hv k) k
theorem am_Tw {args : Array Value} {s : State} (ht : ∀ w ∈ am_T, w.before args s = true) {w : Cond} {i : Nat} (hw : lw_tbl[i]? = some w) (hg : am_gw w = true) : w.before args s = true :=
  ht w (List.mem_filter.mpr ⟨List.mem_of_getElem? hw, hg⟩)
theorem sim_ldc {i ix : Nat} (v : Int32) (d0 : decode M.2.1 pc = .ok (.ldc ix, 2)) (hw : lw_tbl[i]? = some (.constant M.1.cls ix v)) (k : Sim M d (pc + 2) lv (.inl v :: st) h r) : Sim M d pc lv st h r :=
  sim_go (fun c _ => c.cons am_clo_i) (fun _ _ _ _ _ _ _ _ _ _ _ _ _ _ _ _ _ hx hb ho ht _ k => lv_ldc hx hb ho (am_Tw ht hw rfl) d0 k) k
theorem sim_ldcw {i ix : Nat} (v : Int32) (d0 : decode M.2.1 pc = .ok (.ldc_w ix, 3)) (hw : lw_tbl[i]? = some (.constant M.1.cls ix v)) (k : Sim M d (pc + 3) lv (.inl v :: st) h r) : Sim M d pc lv st h r :=
  sim_go (fun c _ => c.cons am_clo_i) (fun _ _ _ _ _ _ _ _ _ _ _ _ _ _ _ _ _ hx hb ho ht _ k => lv_ldcw hx hb ho (am_Tw ht hw rfl) d0 k) k
theorem sim_ldc2 {i ix : Nat} (v : Int64) (d0 : decode M.2.1 pc = .ok (.ldc2_w ix, 3)) (hw : lw_tbl[i]? = some (.constantLong M.1.cls ix v)) (k : Sim M d (pc + 3) lv (.inr (.inl v) :: st) h r) : Sim M d pc lv st h r :=
  sim_go (fun c _ => c.cons am_clo_l) (fun _ _ _ _ _ _ _ _ _ _ _ _ _ _ _ _ _ hx hb ho ht _ k => lv_ldc2 hx hb ho (am_Tw ht hw rfl) d0 k) k
theorem sim_iload_n {i : Fin 4} {x : Int32} (d0 : decode M.2.1 pc = .ok (.iload_n i, 1)) (hl : lv[(i : Nat)]? = some (some (.inl x))) (k : Sim M d (pc + 1) lv (.inl x :: st) h r) : Sim M d pc lv st h r :=
  sim_go (fun c _ => c.cons am_clo_i) (fun _ _ _ _ _ _ _ _ _ _ _ _ _ _ _ _ _ hx hb _ _ a k => lv_iload_n hx hb d0 rfl (a.get hl) k) k
theorem sim_iload {i : Nat} {x : Int32} (d0 : decode M.2.1 pc = .ok (.iload i, 2)) (hl : lv[i]? = some (some (.inl x))) (k : Sim M d (pc + 2) lv (.inl x :: st) h r) : Sim M d pc lv st h r :=
  sim_go (fun c _ => c.cons am_clo_i) (fun _ _ _ _ _ _ _ _ _ _ _ _ _ _ _ _ _ hx hb _ _ a k => lv_iload hx hb d0 (a.get hl) k) k
theorem sim_lload_n {i : Fin 4} {x : Int64} (d0 : decode M.2.1 pc = .ok (.lload_n i, 1)) (hl : lv[(i : Nat)]? = some (some (.inr (.inl x)))) (k : Sim M d (pc + 1) lv (.inr (.inl x) :: st) h r) : Sim M d pc lv st h r :=
  sim_go (fun c _ => c.cons am_clo_l) (fun _ _ _ _ _ _ _ _ _ _ _ _ _ _ _ _ _ hx hb _ _ a k => lv_lload_n hx hb d0 rfl (a.get hl) k) k
theorem sim_aload_n {i : Fin 4} {o : Option (Nat × Nat)} (d0 : decode M.2.1 pc = .ok (.aload_n i, 1)) (hl : lv[(i : Nat)]? = some (some (.inr (.inr o)))) (k : Sim M d (pc + 1) lv (.inr (.inr o) :: st) h r) : Sim M d pc lv st h r :=
  sim_go (fun c c2 => c.cons (c2 _ _ hl)) (fun _ _ _ _ _ _ _ _ _ _ _ _ _ _ _ _ _ hx hb _ _ a k => by
    cases o with
    | none => exact lv_aload_nN hx hb d0 rfl (a.get hl) k
    | some q => exact lv_aload_n hx hb d0 rfl (a.get hl) k) k
theorem sim_aload {i : Nat} {o : Option (Nat × Nat)} (d0 : decode M.2.1 pc = .ok (.aload i, 2)) (hl : lv[i]? = some (some (.inr (.inr o)))) (k : Sim M d (pc + 2) lv (.inr (.inr o) :: st) h r) : Sim M d pc lv st h r :=
  sim_go (fun c c2 => c.cons (c2 _ _ hl)) (fun _ _ _ _ _ _ _ _ _ _ _ _ _ _ _ _ _ hx hb _ _ a k => by
    cases o with
    | none => exact lv_aloadN hx hb d0 (a.get hl) k
    | some q => exact lv_aload hx hb d0 (a.get hl) k) k
theorem sim_null (d0 : decode M.2.1 pc = .ok (.aconst_null, 1)) (k : Sim M d (pc + 1) lv (.inr (.inr none) :: st) h r) : Sim M d pc lv st h r :=
  sim_go (fun c _ => c.cons am_clo_n) (fun _ _ _ _ _ _ _ _ _ _ _ _ _ _ _ _ _ hx hb _ _ _ k => lv_null hx hb d0 k) k
theorem sim_iadd {x y : Int32} (d0 : decode M.2.1 pc = .ok (.iadd, 1)) (k : Sim M d (pc + 1) lv (.inl (x + y) :: st) h r) : Sim M d pc lv (.inl y :: .inl x :: st) h r :=
  sim_go (fun c _ => c.tail.tail.cons am_clo_i) (fun _ _ _ _ _ _ _ _ _ _ _ _ _ _ _ _ _ hx hb _ _ _ k => lv_iadd hx hb d0 k) k
theorem sim_isub {x y : Int32} (d0 : decode M.2.1 pc = .ok (.isub, 1)) (k : Sim M d (pc + 1) lv (.inl (x - y) :: st) h r) : Sim M d pc lv (.inl y :: .inl x :: st) h r :=
  sim_go (fun c _ => c.tail.tail.cons am_clo_i) (fun _ _ _ _ _ _ _ _ _ _ _ _ _ _ _ _ _ hx hb _ _ _ k => lv_isub hx hb d0 k) k
theorem sim_imul {x y : Int32} (d0 : decode M.2.1 pc = .ok (.imul, 1)) (k : Sim M d (pc + 1) lv (.inl (x * y) :: st) h r) : Sim M d pc lv (.inl y :: .inl x :: st) h r :=
  sim_go (fun c _ => c.tail.tail.cons am_clo_i) (fun _ _ _ _ _ _ _ _ _ _ _ _ _ _ _ _ _ hx hb _ _ _ k => lv_imul hx hb d0 k) k
theorem sim_iand {x y : Int32} (d0 : decode M.2.1 pc = .ok (.iand, 1)) (k : Sim M d (pc + 1) lv (.inl (x &&& y) :: st) h r) : Sim M d pc lv (.inl y :: .inl x :: st) h r :=
  sim_go (fun c _ => c.tail.tail.cons am_clo_i) (fun _ _ _ _ _ _ _ _ _ _ _ _ _ _ _ _ _ hx hb _ _ _ k => lv_iand hx hb d0 k) k
theorem sim_ior {x y : Int32} (d0 : decode M.2.1 pc = .ok (.ior, 1)) (k : Sim M d (pc + 1) lv (.inl (x ||| y) :: st) h r) : Sim M d pc lv (.inl y :: .inl x :: st) h r :=
  sim_go (fun c _ => c.tail.tail.cons am_clo_i) (fun _ _ _ _ _ _ _ _ _ _ _ _ _ _ _ _ _ hx hb _ _ _ k => lv_ior hx hb d0 k) k
theorem sim_ixor {x y : Int32} (d0 : decode M.2.1 pc = .ok (.ixor, 1)) (k : Sim M d (pc + 1) lv (.inl (x ^^^ y) :: st) h r) : Sim M d pc lv (.inl y :: .inl x :: st) h r :=
  sim_go (fun c _ => c.tail.tail.cons am_clo_i) (fun _ _ _ _ _ _ _ _ _ _ _ _ _ _ _ _ _ hx hb _ _ _ k => lv_ixor hx hb d0 k) k
theorem sim_ishl {x y : Int32} (d0 : decode M.2.1 pc = .ok (.ishl, 1)) (k : Sim M d (pc + 1) lv (.inl (x <<< (y &&& 31)) :: st) h r) : Sim M d pc lv (.inl y :: .inl x :: st) h r :=
  sim_go (fun c _ => c.tail.tail.cons am_clo_i) (fun _ _ _ _ _ _ _ _ _ _ _ _ _ _ _ _ _ hx hb _ _ _ k => lv_ishl hx hb d0 k) k
theorem sim_ishr {x y : Int32} (d0 : decode M.2.1 pc = .ok (.ishr, 1)) (k : Sim M d (pc + 1) lv (.inl (x >>> (y &&& 31)) :: st) h r) : Sim M d pc lv (.inl y :: .inl x :: st) h r :=
  sim_go (fun c _ => c.tail.tail.cons am_clo_i) (fun _ _ _ _ _ _ _ _ _ _ _ _ _ _ _ _ _ hx hb _ _ _ k => lv_ishr hx hb d0 k) k
def m_ushr (x y : Int32) : Int32 := (x.toUInt32 >>> (y.toUInt32 &&& Int32.toUInt32 31)).toInt32
def m_lushr (x : Int64) (y : Int32) : Int64 := (x.toUInt64 >>> (y.toInt64.toUInt64 &&& Int64.toUInt64 63)).toInt64
def m_i2c (x : Int32) : Int32 := (x.toUInt32 % 65536).toInt32
theorem sim_iushr {x y : Int32} (d0 : decode M.2.1 pc = .ok (.iushr, 1)) (k : Sim M d (pc + 1) lv (.inl (m_ushr x y) :: st) h r) : Sim M d pc lv (.inl y :: .inl x :: st) h r :=
  sim_go (fun c _ => c.tail.tail.cons am_clo_i) (fun _ _ _ _ _ _ _ _ _ _ _ _ _ _ _ _ _ hx hb _ _ _ k => lv_iushr hx hb d0 rfl k) k
theorem sim_lushr {x : Int64} {y : Int32} (d0 : decode M.2.1 pc = .ok (.lushr, 1)) (k : Sim M d (pc + 1) lv (.inr (.inl (m_lushr x y)) :: st) h r) : Sim M d pc lv (.inl y :: .inr (.inl x) :: st) h r :=
  sim_go (fun c _ => c.tail.tail.cons am_clo_l) (fun _ _ _ _ _ _ _ _ _ _ _ _ _ _ _ _ _ hx hb _ _ _ k => lv_lushr hx hb d0 rfl k) k
theorem sim_lshl {x : Int64} {y : Int32} (d0 : decode M.2.1 pc = .ok (.lshl, 1)) (k : Sim M d (pc + 1) lv (.inr (.inl (x <<< (y.toInt64 &&& 63))) :: st) h r) : Sim M d pc lv (.inl y :: .inr (.inl x) :: st) h r :=
  sim_go (fun c _ => c.tail.tail.cons am_clo_l) (fun _ _ _ _ _ _ _ _ _ _ _ _ _ _ _ _ _ hx hb _ _ _ k => lv_lshl hx hb d0 rfl k) k
theorem sim_land {x y : Int64} (d0 : decode M.2.1 pc = .ok (.land, 1)) (k : Sim M d (pc + 1) lv (.inr (.inl (x &&& y)) :: st) h r) : Sim M d pc lv (.inr (.inl y) :: .inr (.inl x) :: st) h r :=
  sim_go (fun c _ => c.tail.tail.cons am_clo_l) (fun _ _ _ _ _ _ _ _ _ _ _ _ _ _ _ _ _ hx hb _ _ _ k => lv_land hx hb d0 k) k
theorem sim_lor {x y : Int64} (d0 : decode M.2.1 pc = .ok (.lor, 1)) (k : Sim M d (pc + 1) lv (.inr (.inl (x ||| y)) :: st) h r) : Sim M d pc lv (.inr (.inl y) :: .inr (.inl x) :: st) h r :=
  sim_go (fun c _ => c.tail.tail.cons am_clo_l) (fun _ _ _ _ _ _ _ _ _ _ _ _ _ _ _ _ _ hx hb _ _ _ k => lv_lor hx hb d0 k) k
theorem sim_i2l {x : Int32} (d0 : decode M.2.1 pc = .ok (.i2l, 1)) (k : Sim M d (pc + 1) lv (.inr (.inl x.toInt64) :: st) h r) : Sim M d pc lv (.inl x :: st) h r :=
  sim_go (fun c _ => c.tail.cons am_clo_l) (fun _ _ _ _ _ _ _ _ _ _ _ _ _ _ _ _ _ hx hb _ _ _ k => lv_i2l hx hb d0 rfl k) k
theorem sim_l2i {x : Int64} (d0 : decode M.2.1 pc = .ok (.l2i, 1)) (k : Sim M d (pc + 1) lv (.inl x.toInt32 :: st) h r) : Sim M d pc lv (.inr (.inl x) :: st) h r :=
  sim_go (fun c _ => c.tail.cons am_clo_i) (fun _ _ _ _ _ _ _ _ _ _ _ _ _ _ _ _ _ hx hb _ _ _ k => lv_l2i hx hb d0 rfl k) k
theorem sim_i2c {x : Int32} (d0 : decode M.2.1 pc = .ok (.i2c, 1)) (k : Sim M d (pc + 1) lv (.inl (m_i2c x) :: st) h r) : Sim M d pc lv (.inl x :: st) h r :=
  sim_go (fun c _ => c.tail.cons am_clo_i) (fun _ _ _ _ _ _ _ _ _ _ _ _ _ _ _ _ _ hx hb _ _ _ k => lv_i2c hx hb d0 rfl k) k
theorem sim_goto {off : Int} (tgt : Nat) (d0 : decode M.2.1 pc = .ok (.goto off, 3)) (ht : (pc : Int) + off = (tgt : Int)) (k : Sim M d tgt lv st h r) : Sim M d pc lv st h r :=
  sim_go (fun c _ => c) (fun _ _ _ _ _ _ _ _ _ _ _ _ _ _ _ _ _ hx hb _ _ _ k => lv_goto hx hb d0 ht k) k
theorem am_cat1 {μ : Nat × Nat → Nat} {x : Int32} : (am_v μ (.inl x)).category = 1 := rfl
theorem am_cat1r {μ : Nat × Nat → Nat} {o : Option (Nat × Nat)} : (am_v μ (.inr (.inr o))).category = 1 := by cases o <;> rfl
theorem sim_dup_r {o : Option (Nat × Nat)} (d0 : decode M.2.1 pc = .ok (.dup, 1)) (k : Sim M d (pc + 1) lv (.inr (.inr o) :: .inr (.inr o) :: st) h r) : Sim M d pc lv (.inr (.inr o) :: st) h r :=
  sim_go (fun c _ => c.cons c.head) (fun _ _ _ _ _ _ _ _ _ _ _ _ _ _ _ _ _ hx hb _ _ _ k => lv_dup hx hb d0 am_cat1r k) k
theorem sim_dup_i {x : Int32} (d0 : decode M.2.1 pc = .ok (.dup, 1)) (k : Sim M d (pc + 1) lv (.inl x :: .inl x :: st) h r) : Sim M d pc lv (.inl x :: st) h r :=
  sim_go (fun c _ => c.cons c.head) (fun _ _ _ _ _ _ _ _ _ _ _ _ _ _ _ _ _ hx hb _ _ _ k => lv_dup hx hb d0 am_cat1 k) k
theorem sim_pop_i {x : Int32} (d0 : decode M.2.1 pc = .ok (.pop, 1)) (k : Sim M d (pc + 1) lv st h r) : Sim M d pc lv (.inl x :: st) h r :=
  sim_go (fun c _ => c.tail) (fun _ _ _ _ _ _ _ _ _ _ _ _ _ _ _ _ _ hx hb _ _ _ k => lv_pop hx hb d0 am_cat1 k) k
theorem sim_dup2 {x : Int32} {o : Option (Nat × Nat)} (d0 : decode M.2.1 pc = .ok (.dup2, 1)) (k : Sim M d (pc + 1) lv (.inl x :: .inr (.inr o) :: .inl x :: .inr (.inr o) :: st) h r) : Sim M d pc lv (.inl x :: .inr (.inr o) :: st) h r :=
  sim_go (fun c _ => (c.cons c.tail.head).cons c.head) (fun _ _ _ _ _ _ _ _ _ _ _ _ _ _ _ _ _ hx hb _ _ _ k => lv_dup2_11 hx hb d0 am_cat1 am_cat1r k) k
theorem sim_lcmp {x y : Int64} (d0 : decode M.2.1 pc = .ok (.lcmp, 1)) (k : Sim M d (pc + 1) lv (.inl (lg_cmp x y) :: st) h r) : Sim M d pc lv (.inr (.inl y) :: .inr (.inl x) :: st) h r :=
  sim_go (fun c _ => c.tail.tail.cons am_clo_i) (fun _ _ _ _ _ _ _ _ _ _ _ _ _ _ _ _ _ hx hb _ _ _ k => W.lcmp hx hb d0 k) k
theorem sim_rw {st' : List am_V} (e : st = st') (k : Sim M d pc lv st' h r) : Sim M d pc lv st h r := e ▸ k
end SimRows
end
section
section SimRows2
variable {M : am_M} {d pc : Nat} {lv : List (Option am_V)} {st : List am_V} {h : am_H} {r : am_R}
/-- a step that writes a local -/
theorem sim_put {pc' i : Nat} {v : am_V} {st' : List am_V}
    (hc : am_cls h st → (∀ (j : Nat) (w : am_V), lv[j]? = some (some w) → am_clo h w) → am_cls h st' ∧ am_clo h v)
    (go : ∀ (l : Launch) (p : Program) (e : Env) (R : Room) (s : State) (m : MethodId) (args : Array Value) (below : List Frame) (meth : Method) (c : Code) (Q : State → Prop) (μ : Nat × Nat → Nat) (H : Heap) (locs : List Loc) (cells slots : Nat) (ls : Array Slot),
      p.tables.exec = Jvm.exec → c.code = M.2.1 → am_Ls M.2.2.1 μ h lv ls →
      (∀ ls' : Array Slot, lv_has ls' M.2.2.1 ((i, am_v μ v) :: (am_pr μ 0 lv).filter (fun q => !(q.1 == i) && !(q.1 + 1 == i && q.2.category == 2))) → W p l e R s m args below meth c H locs cells slots Q (F0 m pc' ls' (st'.map (am_v μ)))) →
      W p l e R s m args below meth c H locs cells slots Q (F0 m pc ls (st.map (am_v μ))))
    (k : Sim M d pc' (am_set lv i v) st' h r) : Sim M d pc lv st h r := by
  intro h' o e
  obtain ⟨q1, q2⟩ := k h' o e
  refine ⟨q1, fun l D dA base b n xs p e R s m args below meth c mc ms Qc XC C μ H locs cells slots ls a1 a2 a3 a4 a5 a6 a7 => ?_⟩
  obtain ⟨c1, c2⟩ := hc a4 a3.2
  exact go l p e R s m args below meth c _ μ H locs cells slots ls C.1 C.2.1 a3 (fun ls' hl => q2 l D dA base b n xs p e R s m args below meth c mc ms Qc XC C μ H locs cells slots ls' a1 a2 (a3.put c2 hl) c1 a5 a6 a7)
theorem sim_istore_n {i : Fin 4} {x : Int32} (d0 : decode M.2.1 pc = .ok (.istore_n i, 1)) (hn : (i : Nat) < M.2.2.1) (k : Sim M d (pc + 1) (am_set lv (i : Nat) (.inl x)) st h r) : Sim M d pc lv (.inl x :: st) h r :=
  sim_put (fun c _ => ⟨c.tail, am_clo_i⟩) (fun _ _ _ _ _ _ _ _ _ _ _ _ _ _ _ _ _ hx hb a kk => lv_istore_n hx hb d0 rfl a.1 hn rfl kk) k
theorem sim_istore {i : Nat} {x : Int32} (d0 : decode M.2.1 pc = .ok (.istore i, 2)) (hn : i < M.2.2.1) (k : Sim M d (pc + 2) (am_set lv i (.inl x)) st h r) : Sim M d pc lv (.inl x :: st) h r :=
  sim_put (fun c _ => ⟨c.tail, am_clo_i⟩) (fun _ _ _ _ _ _ _ _ _ _ _ _ _ _ _ _ _ hx hb a kk => lv_istore hx hb d0 a.1 hn rfl kk) k
theorem sim_astore_n {i : Fin 4} {o : Option (Nat × Nat)} (d0 : decode M.2.1 pc = .ok (.astore_n i, 1)) (hn : (i : Nat) < M.2.2.1) (k : Sim M d (pc + 1) (am_set lv (i : Nat) (.inr (.inr o))) st h r) : Sim M d pc lv (.inr (.inr o) :: st) h r :=
  sim_put (fun c _ => ⟨c.tail, c.head⟩) (fun _ _ _ _ _ _ _ _ _ _ _ _ _ _ _ _ _ hx hb a kk => by
    cases o with
    | none => exact lv_astore_nN hx hb d0 rfl a.1 hn rfl kk
    | some q => exact lv_astore_n hx hb d0 rfl a.1 hn rfl kk) k
theorem sim_astore {i : Nat} {o : Option (Nat × Nat)} (d0 : decode M.2.1 pc = .ok (.astore i, 2)) (hn : i < M.2.2.1) (k : Sim M d (pc + 2) (am_set lv i (.inr (.inr o))) st h r) : Sim M d pc lv (.inr (.inr o) :: st) h r :=
  sim_put (fun c _ => ⟨c.tail, c.head⟩) (fun _ _ _ _ _ _ _ _ _ _ _ _ _ _ _ _ _ hx hb a kk => by
    cases o with
    | none => exact lv_astoreN hx hb d0 a.1 hn rfl kk
    | some q => exact lv_astore hx hb d0 a.1 hn rfl kk) k
theorem sim_iinc {i : Nat} {n : Int} {x : Int32} (z : Int32) (d0 : decode M.2.1 pc = .ok (.iinc i n, 3)) (hl : lv[i]? = some (some (.inl x))) (hz : Int32.ofInt n = z) (hn : i < M.2.2.1) (k : Sim M d (pc + 3) (am_set lv i (.inl (x + z))) st h r) : Sim M d pc lv st h r :=
  sim_put (fun c _ => ⟨c, am_clo_i⟩) (fun _ _ _ _ _ _ _ _ _ _ _ _ _ _ _ _ _ hx hb a kk => by
    obtain ⟨k9, hk9⟩ := List.getElem?_of_mem (am_pr_mem (μ := _) (l := lv) (k := 0) (j := i) (w := .int x) |>.mpr ⟨i, .inl x, by omega, hl, rfl⟩)
    exact lv_iinc hx hb d0 a.1 hk9 (by rw [hz]) hn rfl kk) k
/-! branches -/
theorem sim_br {P : Prop} {tgt ftg : Nat} {st' : List am_V} (hc : am_cls h st → am_cls h st')
    (go : ∀ (l : Launch) (p : Program) (e : Env) (R : Room) (s : State) (m : MethodId) (args : Array Value) (below : List Frame) (meth : Method) (c : Code) (Q : State → Prop) (μ : Nat × Nat → Nat) (H : Heap) (locs : List Loc) (cells slots : Nat) (ls : Array Slot),
      p.tables.exec = Jvm.exec → c.code = M.2.1 →
      (P → W p l e R s m args below meth c H locs cells slots Q (F0 m tgt ls (st'.map (am_v μ)))) → (¬ P → W p l e R s m args below meth c H locs cells slots Q (F0 m ftg ls (st'.map (am_v μ)))) →
      W p l e R s m args below meth c H locs cells slots Q (F0 m pc ls (st.map (am_v μ))))
    (kt : P → Sim M d tgt lv st' h r) (kf : ¬ P → Sim M d ftg lv st' h r) : Sim M d pc lv st h r := by
  intro h' o e
  refine ⟨?_, fun l D dA base b n xs p e9 R s m args below meth c mc ms Qc XC C μ H locs cells slots ls a1 a2 a3 a4 a5 a6 a7 => ?_⟩
  · rcases Classical.em P with q | q
    · exact (kt q h' o e).1
    · exact (kf q h' o e).1
  · exact go l p e9 R s m args below meth c _ μ H locs cells slots ls C.1 C.2.1
      (fun q => (kt q h' o e).2 l D dA base b n xs p e9 R s m args below meth c mc ms Qc XC C μ H locs cells slots ls a1 a2 a3 (hc a4) a5 a6 a7)
      (fun q => (kf q h' o e).2 l D dA base b n xs p e9 R s m args below meth c mc ms Qc XC C μ H locs cells slots ls a1 a2 a3 (hc a4) a5 a6 a7)
theorem sim_ite {P : Prop} [Decidable P] {r1 r2 : am_R} {tgt ftg : Nat} {st' : List am_V} (kk : (P → Sim M d tgt lv st' h (if P then r1 else r2)) → (¬ P → Sim M d ftg lv st' h (if P then r1 else r2)) → Sim M d pc lv st h (if P then r1 else r2))
    (kt : P → Sim M d tgt lv st' h r1) (kf : ¬ P → Sim M d ftg lv st' h r2) : Sim M d pc lv st h (if P then r1 else r2) :=
  kk (fun q => by rw [if_pos q]; exact kt q) (fun q => by rw [if_neg q]; exact kf q)
theorem sim_if_eq {x : Int32} {off : Int} (tgt : Nat) {r1 r2 : am_R} (d0 : decode M.2.1 pc = .ok (.ifCond .eq off, 3)) (ht : (pc : Int) + off = (tgt : Int)) (kt : x = 0 → Sim M d tgt lv st h r1) (kf : ¬ x = 0 → Sim M d (pc + 3) lv st h r2) : Sim M d pc lv (.inl x :: st) h (if x = 0 then r1 else r2) :=
  sim_ite (sim_br (fun c => c.tail) (fun _ _ _ _ _ _ _ _ _ _ _ _ _ _ _ _ _ hx hb kt kf => lv_if_eq hx hb d0 ht kt kf)) kt kf
theorem sim_if_ne {x : Int32} {off : Int} (tgt : Nat) {r1 r2 : am_R} (d0 : decode M.2.1 pc = .ok (.ifCond .ne off, 3)) (ht : (pc : Int) + off = (tgt : Int)) (kt : ¬ x = 0 → Sim M d tgt lv st h r2) (kf : x = 0 → Sim M d (pc + 3) lv st h r1) : Sim M d pc lv (.inl x :: st) h (if x = 0 then r1 else r2) :=
  sim_br (P := ¬ x = 0) (fun c => c.tail) (fun _ _ _ _ _ _ _ _ _ _ _ _ _ _ _ _ _ hx hb kt kf => lv_if_ne hx hb d0 ht kt (fun z => kf (fun y => y z))) (fun q => by rw [if_neg q]; exact kt q) (fun q => by rw [if_pos (Classical.not_not.mp q)]; exact kf (Classical.not_not.mp q))
theorem sim_if_lt {x : Int32} {off : Int} (tgt : Nat) {r1 r2 : am_R} (d0 : decode M.2.1 pc = .ok (.ifCond .lt off, 3)) (ht : (pc : Int) + off = (tgt : Int)) (kt : x < 0 → Sim M d tgt lv st h r1) (kf : ¬ x < 0 → Sim M d (pc + 3) lv st h r2) : Sim M d pc lv (.inl x :: st) h (if x < 0 then r1 else r2) :=
  sim_ite (sim_br (fun c => c.tail) (fun _ _ _ _ _ _ _ _ _ _ _ _ _ _ _ _ _ hx hb kt kf => lv_if_lt hx hb d0 ht kt kf)) kt kf
theorem sim_if_ge {x : Int32} {off : Int} (tgt : Nat) {r1 r2 : am_R} (d0 : decode M.2.1 pc = .ok (.ifCond .ge off, 3)) (ht : (pc : Int) + off = (tgt : Int)) (kt : 0 ≤ x → Sim M d tgt lv st h r1) (kf : ¬ 0 ≤ x → Sim M d (pc + 3) lv st h r2) : Sim M d pc lv (.inl x :: st) h (if 0 ≤ x then r1 else r2) :=
  sim_ite (sim_br (fun c => c.tail) (fun _ _ _ _ _ _ _ _ _ _ _ _ _ _ _ _ _ hx hb kt kf => lv_if_ge hx hb d0 ht kt kf)) kt kf
theorem sim_if_gt {x : Int32} {off : Int} (tgt : Nat) {r1 r2 : am_R} (d0 : decode M.2.1 pc = .ok (.ifCond .gt off, 3)) (ht : (pc : Int) + off = (tgt : Int)) (kt : 0 < x → Sim M d tgt lv st h r1) (kf : ¬ 0 < x → Sim M d (pc + 3) lv st h r2) : Sim M d pc lv (.inl x :: st) h (if 0 < x then r1 else r2) :=
  sim_ite (sim_br (fun c => c.tail) (fun _ _ _ _ _ _ _ _ _ _ _ _ _ _ _ _ _ hx hb kt kf => lv_if_gt hx hb d0 ht kt kf)) kt kf
theorem sim_if_le {x : Int32} {off : Int} (tgt : Nat) {r1 r2 : am_R} (d0 : decode M.2.1 pc = .ok (.ifCond .le off, 3)) (ht : (pc : Int) + off = (tgt : Int)) (kt : x ≤ 0 → Sim M d tgt lv st h r1) (kf : ¬ x ≤ 0 → Sim M d (pc + 3) lv st h r2) : Sim M d pc lv (.inl x :: st) h (if x ≤ 0 then r1 else r2) :=
  sim_ite (sim_br (fun c => c.tail) (fun _ _ _ _ _ _ _ _ _ _ _ _ _ _ _ _ _ hx hb kt kf => lv_if_le hx hb d0 ht kt kf)) kt kf
theorem sim_ic_eq {x y : Int32} {off : Int} (tgt : Nat) {r1 r2 : am_R} (d0 : decode M.2.1 pc = .ok (.if_icmp .eq off, 3)) (ht : (pc : Int) + off = (tgt : Int)) (kt : x = y → Sim M d tgt lv st h r1) (kf : ¬ x = y → Sim M d (pc + 3) lv st h r2) : Sim M d pc lv (.inl y :: .inl x :: st) h (if x = y then r1 else r2) :=
  sim_ite (sim_br (fun c => c.tail.tail) (fun _ _ _ _ _ _ _ _ _ _ _ _ _ _ _ _ _ hx hb kt kf => lv_icmp_eq hx hb d0 ht kt kf)) kt kf
theorem sim_ic_ne {x y : Int32} {off : Int} (tgt : Nat) {r1 r2 : am_R} (d0 : decode M.2.1 pc = .ok (.if_icmp .ne off, 3)) (ht : (pc : Int) + off = (tgt : Int)) (kt : ¬ x = y → Sim M d tgt lv st h r2) (kf : x = y → Sim M d (pc + 3) lv st h r1) : Sim M d pc lv (.inl y :: .inl x :: st) h (if x = y then r1 else r2) :=
  sim_br (P := ¬ x = y) (fun c => c.tail.tail) (fun _ _ _ _ _ _ _ _ _ _ _ _ _ _ _ _ _ hx hb kt kf => lv_icmp_ne hx hb d0 ht kt (fun z => kf (fun y => y z))) (fun q => by rw [if_neg q]; exact kt q) (fun q => by rw [if_pos (Classical.not_not.mp q)]; exact kf (Classical.not_not.mp q))
theorem sim_ic_lt {x y : Int32} {off : Int} (tgt : Nat) {r1 r2 : am_R} (d0 : decode M.2.1 pc = .ok (.if_icmp .lt off, 3)) (ht : (pc : Int) + off = (tgt : Int)) (kt : x < y → Sim M d tgt lv st h r1) (kf : ¬ x < y → Sim M d (pc + 3) lv st h r2) : Sim M d pc lv (.inl y :: .inl x :: st) h (if x < y then r1 else r2) :=
  sim_ite (sim_br (fun c => c.tail.tail) (fun _ _ _ _ _ _ _ _ _ _ _ _ _ _ _ _ _ hx hb kt kf => lv_icmp_lt hx hb d0 ht kt kf)) kt kf
theorem sim_ic_ge {x y : Int32} {off : Int} (tgt : Nat) {r1 r2 : am_R} (d0 : decode M.2.1 pc = .ok (.if_icmp .ge off, 3)) (ht : (pc : Int) + off = (tgt : Int)) (kt : y ≤ x → Sim M d tgt lv st h r1) (kf : ¬ y ≤ x → Sim M d (pc + 3) lv st h r2) : Sim M d pc lv (.inl y :: .inl x :: st) h (if y ≤ x then r1 else r2) :=
  sim_ite (sim_br (fun c => c.tail.tail) (fun _ _ _ _ _ _ _ _ _ _ _ _ _ _ _ _ _ hx hb kt kf => lv_icmp_ge hx hb d0 ht kt kf)) kt kf
theorem sim_ic_gt {x y : Int32} {off : Int} (tgt : Nat) {r1 r2 : am_R} (d0 : decode M.2.1 pc = .ok (.if_icmp .gt off, 3)) (ht : (pc : Int) + off = (tgt : Int)) (kt : y < x → Sim M d tgt lv st h r1) (kf : ¬ y < x → Sim M d (pc + 3) lv st h r2) : Sim M d pc lv (.inl y :: .inl x :: st) h (if y < x then r1 else r2) :=
  sim_ite (sim_br (fun c => c.tail.tail) (fun _ _ _ _ _ _ _ _ _ _ _ _ _ _ _ _ _ hx hb kt kf => lv_icmp_gt hx hb d0 ht kt kf)) kt kf
theorem sim_ic_le {x y : Int32} {off : Int} (tgt : Nat) {r1 r2 : am_R} (d0 : decode M.2.1 pc = .ok (.if_icmp .le off, 3)) (ht : (pc : Int) + off = (tgt : Int)) (kt : x ≤ y → Sim M d tgt lv st h r1) (kf : ¬ x ≤ y → Sim M d (pc + 3) lv st h r2) : Sim M d pc lv (.inl y :: .inl x :: st) h (if x ≤ y then r1 else r2) :=
  sim_ite (sim_br (fun c => c.tail.tail) (fun _ _ _ _ _ _ _ _ _ _ _ _ _ _ _ _ _ hx hb kt kf => lv_icmp_le hx hb d0 ht kt kf)) kt kf
theorem sim_ifnull {o : Option (Nat × Nat)} {off : Int} (tgt : Nat) {r1 r2 : am_R} (d0 : decode M.2.1 pc = .ok (.ifnull off, 3)) (ht : (pc : Int) + off = (tgt : Int)) (kt : o = none → Sim M d tgt lv st h r1) (kf : ¬ o = none → Sim M d (pc + 3) lv st h r2) : Sim M d pc lv (.inr (.inr o) :: st) h (if o = none then r1 else r2) :=
  sim_ite (sim_br (fun c => c.tail) (fun _ _ _ _ _ _ _ _ _ _ _ _ _ _ _ _ _ hx hb kt kf => by
    cases o with
    | none => exact lv_ifnullN hx hb d0 ht (kt rfl)
    | some q => exact lv_ifnull hx hb d0 (kf (fun z => by cases z)))) kt kf
theorem sim_ifnonnull {o : Option (Nat × Nat)} {off : Int} (tgt : Nat) {r1 r2 : am_R} (d0 : decode M.2.1 pc = .ok (.ifnonnull off, 3)) (ht : (pc : Int) + off = (tgt : Int)) (kt : ¬ o = none → Sim M d tgt lv st h r2) (kf : o = none → Sim M d (pc + 3) lv st h r1) : Sim M d pc lv (.inr (.inr o) :: st) h (if o = none then r1 else r2) :=
  sim_br (P := ¬ o = none) (fun c => c.tail) (fun _ _ _ _ _ _ _ _ _ _ _ _ _ _ _ _ _ hx hb kt kf => by
    cases o with
    | none => exact lv_ifnonnullN hx hb d0 (kf (fun z => z rfl))
    | some q => exact lv_ifnonnull hx hb d0 ht (kt (fun z => by cases z))) (fun q => by rw [if_neg q]; exact kt q) (fun q => by rw [if_pos (Classical.not_not.mp q)]; exact kf (Classical.not_not.mp q))
theorem sim_tableIn {x : Int32} (v : Int32) {dflt lo hi off : Int} {offs : Array Int} {len : Nat} (tgt : Nat) (hv : x = v) (d0 : decode M.2.1 pc = .ok (.tableswitch dflt lo hi offs, len)) (h1 : ¬ v.toInt < lo) (h2 : ¬ hi < v.toInt) (ho : offs[(v.toInt - lo).toNat]? = some off) (ht : (pc : Int) + off = (tgt : Int)) (k : Sim M d tgt lv st h r) : Sim M d pc lv (.inl x :: st) h r := by
  subst hv
  exact sim_go (fun c _ => c.tail) (fun _ _ _ _ _ _ _ _ _ _ _ _ _ _ _ _ _ hx hb _ _ _ k => lv_tableIn hx hb d0 h1 h2 ho ht k) k
theorem sim_tableOut {x : Int32} {dflt lo hi : Int} {offs : Array Int} {len : Nat} (tgt : Nat) (d0 : decode M.2.1 pc = .ok (.tableswitch dflt lo hi offs, len)) (h1 : x.toInt < lo ∨ hi < x.toInt) (ht : (pc : Int) + dflt = (tgt : Int)) (k : Sim M d tgt lv st h r) : Sim M d pc lv (.inl x :: st) h r :=
  sim_go (fun c _ => c.tail) (fun _ _ _ _ _ _ _ _ _ _ _ _ _ _ _ _ _ hx hb _ _ _ k => lv_tableOut hx hb d0 h1 ht k) k
theorem am_out {x : Int32} {N : Nat} (hN : N < 1000) (h : ∀ i, i < N → ¬ x = nI i) : x.toInt < 0 ∨ ((N : Int) - 1) < x.toInt := by
  rcases Int.lt_or_le x.toInt 0 with q | q
  · exact Or.inl q
  · right
    rcases Int.lt_or_le ((N : Int) - 1) x.toInt with q2 | q2
    · exact q2
    · exfalso
      refine h x.toInt.toNat (by omega) ?_
      apply Int32.toInt_inj.mp
      rw [nI_toInt (by omega)]
      omega
theorem sim_lookup {x : Int32} {dflt off : Int} {ps : Array (Int × Int)} {len : Nat} (tgt : Nat) (d0 : decode M.2.1 pc = .ok (.lookupswitch dflt ps, len)) (hp : (ps.toList.zip (ps.toList.drop 1)).all (fun (a, next) => a.1 < next.1) = true) (ho : Op.lookupswitch.offset ps.toList dflt x.toInt = off) (ht : (pc : Int) + off = (tgt : Int)) (k : Sim M d tgt lv st h r) : Sim M d pc lv (.inl x :: st) h r :=
  sim_go (fun c _ => c.tail) (fun _ _ _ _ _ _ _ _ _ _ _ _ _ _ _ _ _ hx hb _ _ _ k => lv_lookup hx hb d0 hp ho ht k) k
theorem sim_case {P : Prop} [Decidable P] {r1 r2 : am_R} (kt : P → Sim M d pc lv st h r1) (kf : ¬ P → Sim M d pc lv st h r2) : Sim M d pc lv st h (if P then r1 else r2) := by
  by_cases q : P
  · rw [if_pos q]; exact kt q
  · rw [if_neg q]; exact kf q
/-! guards -/
theorem sim_ck {b : Bool} (k : b = true → Sim M d pc lv st h r) : Sim M d pc lv st h (m_ck b r) := by
  cases b with
  | false => exact sim_none
  | true => exact k rfl
theorem sim_as0 {o : Option (Nat × Nat)} {K : Nat × Nat → am_R} (k : ∀ a, Sim M d pc lv (.inr (.inr (some a)) :: st) h (K a)) : Sim M d pc lv (.inr (.inr o) :: st) h (m_as o K) := by
  cases o with
  | none => exact sim_none
  | some a => exact k a
theorem sim_as1 {o : Option (Nat × Nat)} {v1 : am_V} {K : Nat × Nat → am_R} (k : ∀ a, Sim M d pc lv (v1 :: .inr (.inr (some a)) :: st) h (K a)) : Sim M d pc lv (v1 :: .inr (.inr o) :: st) h (m_as o K) := by
  cases o with
  | none => exact sim_none
  | some a => exact k a
theorem sim_as2 {o : Option (Nat × Nat)} {v1 v2 : am_V} {K : Nat × Nat → am_R} (k : ∀ a, Sim M d pc lv (v1 :: v2 :: .inr (.inr (some a)) :: st) h (K a)) : Sim M d pc lv (v1 :: v2 :: .inr (.inr o) :: st) h (m_as o K) := by
  cases o with
  | none => exact sim_none
  | some a => exact k a
theorem sim_as3 {o : Option (Nat × Nat)} {v1 v2 v3 : am_V} {K : Nat × Nat → am_R} (k : ∀ a, Sim M d pc lv (v1 :: v2 :: v3 :: .inr (.inr (some a)) :: st) h (K a)) : Sim M d pc lv (v1 :: v2 :: v3 :: .inr (.inr o) :: st) h (m_as o K) := by
  cases o with
  | none => exact sim_none
  | some a => exact k a
theorem sim_as4 {o : Option (Nat × Nat)} {v1 v2 v3 v4 : am_V} {K : Nat × Nat → am_R} (k : ∀ a, Sim M d pc lv (v1 :: v2 :: v3 :: v4 :: .inr (.inr (some a)) :: st) h (K a)) : Sim M d pc lv (v1 :: v2 :: v3 :: v4 :: .inr (.inr o) :: st) h (m_as o K) := by
  cases o with
  | none => exact sim_none
  | some a => exact k a
theorem sim_idiv {x y : Int32} (d0 : decode M.2.1 pc = .ok (.idiv, 1)) (k : Sim M d (pc + 1) lv (.inl (x / y) :: st) h r) : Sim M d pc lv (.inl y :: .inl x :: st) h (m_ck (!(y == 0)) r) :=
  sim_ck fun hy => sim_go (fun c _ => c.tail.tail.cons am_clo_i) (fun _ _ _ _ _ _ _ _ _ _ _ _ _ _ _ _ _ hx hb _ _ _ k => lv_idiv hx hb d0 (by simpa using hy) k) k
theorem sim_irem {x y : Int32} (d0 : decode M.2.1 pc = .ok (.irem, 1)) (k : Sim M d (pc + 1) lv (.inl (x - x / y * y) :: st) h r) : Sim M d pc lv (.inl y :: .inl x :: st) h (m_ck (!(y == 0)) r) :=
  sim_ck fun hy => sim_go (fun c _ => c.tail.tail.cons am_clo_i) (fun _ _ _ _ _ _ _ _ _ _ _ _ _ _ _ _ _ hx hb _ _ _ k => lv_irem hx hb d0 (by simpa using hy) k) k
/-! ends -/
theorem am_zero {a b : Nat} {x : Nat} (h : a + (x - x) = b) : a = b := by omega
theorem sim_iret {x : Int32} (d0 : decode M.2.1 pc = .ok (.ireturn, 1)) (hr : M.2.2.2.1 = some .int) : Sim M d pc lv [.inl x] h (m_rt h (some (.inl x))) := by
  intro h' o e
  cases e
  refine ⟨am_le.refl h, fun l D dA base b n xs p e R s m args below meth c mc ms Qc XC C μ H locs cells slots ls a1 a2 a3 a4 a5 a6 a7 => ?_⟩
  cases am_zero a5
  cases am_zero a6
  exact vx_ret (W.iret C.1 C.2.1 (C.2.2.2.1.trans hr) (fun t ht hW => (a7 μ t (am_ext.refl μ h) (by rw [ht]; exact a1) hW.alike (a2.F ht)).1 _ rfl (fun w hw => by cases hw; trivial)) a2.2.2 d0 C.2.2.2.2.2.1)
theorem sim_vret (d0 : decode M.2.1 pc = .ok (.return_, 1)) (hr : M.2.2.2.1 = none) : Sim M d pc lv [] h (m_rt h none) := by
  intro h' o e
  cases e
  refine ⟨am_le.refl h, fun l D dA base b n xs p e R s m args below meth c mc ms Qc XC C μ H locs cells slots ls a1 a2 a3 a4 a5 a6 a7 => ?_⟩
  cases am_zero a5
  cases am_zero a6
  exact vx_ret (W.vret C.1 C.2.1 (C.2.2.2.1.trans hr) (fun t ht hW => (a7 μ t (am_ext.refl μ h) (by rw [ht]; exact a1) hW.alike (a2.F ht)).1 _ rfl (fun w hw => by cases hw)) a2.2.2 d0 C.2.2.2.2.2.1)
theorem am_nz_n {x : Int32} (h : m_nz x = true) : narrow .boolean (.int x) = .int x ∧ fits .boolean (.int x) = true ∧ vp_nar .boolean x = x := by
  have h1 : x = 0 ∨ x = 1 := by simpa [m_nz] using h
  rcases h1 with rfl | rfl <;> decide +kernel
theorem am_nzc_n {x : Int32} (h : m_nzc x = true) : narrow .char (.int x) = .int x ∧ fits .char (.int x) = true ∧ vp_nar .char x = x := by
  have h1 : (x.toUInt32 % 65536).toInt32 = x := by simpa [m_nzc] using h
  rw [← h1]
  exact ⟨pk_nc x, pk_fc x, pk_vc x⟩
theorem sim_zret {x : Int32} (d0 : decode M.2.1 pc = .ok (.ireturn, 1)) (hr : M.2.2.2.1 = some .boolean) : Sim M d pc lv [.inl x] h (m_ck (m_nz x) (m_rt h (some (.inl x)))) := by
  refine sim_ck fun hz => ?_
  intro h' o e
  cases e
  refine ⟨am_le.refl h, fun l D dA base b n xs p e R s m args below meth c mc ms Qc XC C μ H locs cells slots ls a1 a2 a3 a4 a5 a6 a7 => ?_⟩
  cases am_zero a5
  cases am_zero a6
  exact vx_ret (W.zret C.1 C.2.1 (C.2.2.2.1.trans hr) (am_nz_n hz).1 (fun t ht hW => (a7 μ t (am_ext.refl μ h) (by rw [ht]; exact a1) hW.alike (a2.F ht)).1 _ rfl (fun w hw => by cases hw; trivial)) a2.2.2 d0 C.2.2.2.2.2.1)
theorem sim_cret {x : Int32} (d0 : decode M.2.1 pc = .ok (.ireturn, 1)) (hr : M.2.2.2.1 = some .char) : Sim M d pc lv [.inl x] h (m_ck (m_nzc x) (m_rt h (some (.inl x)))) := by
  refine sim_ck fun hz => ?_
  intro h' o e
  cases e
  refine ⟨am_le.refl h, fun l D dA base b n xs p e R s m args below meth c mc ms Qc XC C μ H locs cells slots ls a1 a2 a3 a4 a5 a6 a7 => ?_⟩
  cases am_zero a5
  cases am_zero a6
  exact vx_ret (W.zret C.1 C.2.1 (C.2.2.2.1.trans hr) (am_nzc_n hz).1 (fun t ht hW => (a7 μ t (am_ext.refl μ h) (by rw [ht]; exact a1) hW.alike (a2.F ht)).1 _ rfl (fun w hw => by cases hw; trivial)) a2.2.2 d0 C.2.2.2.2.2.1)
theorem sim_aret {nm : String} {o : Option (Nat × Nat)} (d0 : decode M.2.1 pc = .ok (.areturn, 1)) (hr : M.2.2.2.1 = some (.object nm)) : Sim M d pc lv [.inr (.inr o)] h (m_rt h (some (.inr (.inr o)))) := by
  intro h' o e
  cases e
  refine ⟨am_le.refl h, fun l D dA base b n xs p e R s m args below meth c mc ms Qc XC C μ H locs cells slots ls a1 a2 a3 a4 a5 a6 a7 => ?_⟩
  cases am_zero a5
  cases am_zero a6
  exact vx_ret (W.aret C.1 C.2.1 (C.2.2.2.1.trans hr) (Or.inl ⟨_, rfl⟩) (by
    rcases o with _ | q
    · exact Or.inl rfl
    · exact Or.inr ⟨_, rfl⟩) (fun t ht hW => (a7 μ t (am_ext.refl μ h) (by rw [ht]; exact a1) hW.alike (a2.F ht)).1 _ rfl (fun w hw => by cases hw; exact a4 _ List.mem_cons_self)) a2.2.2 d0 C.2.2.2.2.2.1)
end SimRows2
end
section
/-! ## rows that read and write the heap -/
theorem am_in_T {ws : List Cond} (h1 : ∀ w ∈ ws, w ∈ lw_tbl) (h2 : ∀ w ∈ ws, am_gw w = true) : ∀ w ∈ ws, w ∈ am_T := fun w hw => List.mem_filter.mpr ⟨h1 w hw, h2 w hw⟩
theorem am_u0 : ∀ w ∈ wsX00, w ∈ am_T := am_in_T (by decide +kernel) (by decide +kernel)
theorem am_u1 : ∀ w ∈ wsX10, w ∈ am_T := am_in_T (by decide +kernel) (by decide +kernel)
theorem am_u2 : ∀ w ∈ wsX20, w ∈ am_T := am_in_T (by decide +kernel) (by decide +kernel)
theorem am_u3 : ∀ w ∈ wsX30, w ∈ am_T := am_in_T (by decide +kernel) (by decide +kernel)
theorem am_u4 : ∀ w ∈ wsX40, w ∈ am_T := am_in_T (by decide +kernel) (by decide +kernel)
theorem am_u5 : ∀ w ∈ wsX50, w ∈ am_T := am_in_T (by decide +kernel) (by decide +kernel)
theorem am_u6 : ∀ w ∈ wsX60, w ∈ am_T := am_in_T (by decide +kernel) (by decide +kernel)
theorem am_u7 : ∀ w ∈ wsX70, w ∈ am_T := am_in_T (by decide +kernel) (by decide +kernel)
theorem am_u8 : ∀ w ∈ wsX80, w ∈ am_T := am_in_T (by decide +kernel) (by decide +kernel)
theorem am_u9 : ∀ w ∈ wsX90, w ∈ am_T := am_in_T (by decide +kernel) (by decide +kernel)
theorem am_u10 : ∀ w ∈ wsX100, w ∈ am_T := am_in_T (by decide +kernel) (by decide +kernel)
theorem am_u11 : ∀ w ∈ wsX110, w ∈ am_T := am_in_T (by decide +kernel) (by decide +kernel)
def am_refT : FieldType → Bool
  | .object _ => true
  | .array _ => true
  | _ => false
theorem am_clF {ci : Nat} {C : String} {T : u_T} {N : Nat} (hc : vwCl[ci]? = some (C, T, N)) : N = am_nf ci ∧ (∀ w ∈ u_ws C T N, w ∈ am_T) ∧ (∀ k, k < N → parseFieldDescriptor (T k).2.2.1 = some (am_tyX ci k)) ∧ (∀ a, a < N → ∀ b, b < N → a ≠ b → (T a).2.1 ≠ (T b).2.1) ∧ (∀ k, k < N → am_rf ci k = am_refT (am_tyX ci k)) := by
  match ci, hc with
  | 0, hc => cases hc; exact ⟨rfl, am_u0, tyX0_ok, nmX0, by decide +kernel⟩
  | 1, hc => cases hc; exact ⟨rfl, am_u1, tyX1_ok, nmX1, by decide +kernel⟩
  | 2, hc => cases hc; exact ⟨rfl, am_u2, tyX2_ok, nmX2, by decide +kernel⟩
  | 3, hc => cases hc; exact ⟨rfl, am_u3, tyX3_ok, nmX3, by decide +kernel⟩
  | 4, hc => cases hc; exact ⟨rfl, am_u4, tyX4_ok, nmX4, by decide +kernel⟩
  | 5, hc => cases hc; exact ⟨rfl, am_u5, tyX5_ok, nmX5, by decide +kernel⟩
  | 6, hc => cases hc; exact ⟨rfl, am_u6, tyX6_ok, nmX6, by decide +kernel⟩
  | 7, hc => cases hc; exact ⟨rfl, am_u7, tyX7_ok, nmX7, by decide +kernel⟩
  | 8, hc => cases hc; exact ⟨rfl, am_u8, tyX8_ok, nmX8, by decide +kernel⟩
  | 9, hc => cases hc; exact ⟨rfl, am_u9, tyX9_ok, nmX9, by decide +kernel⟩
  | 10, hc => cases hc; exact ⟨rfl, am_u10, tyX10_ok, nmX10, by decide +kernel⟩
  | 11, hc => cases hc; exact ⟨rfl, am_u11, tyX11_ok, nmX11, by decide +kernel⟩
  | k + 12, hc => simp at hc
end
section
theorem am_isO_of {s ci : Nat} (h : am_isO s ci = true) : am_kd s = 0 ∧ am_ci s = ci := by simpa [am_isO] using h
theorem am_isA_of {s ty : Nat} (h : am_isA s ty = true) : am_kd s = 1 ∧ am_ty s = ty := by simpa [am_isA] using h
theorem am_isL_of {s : Nat} (h : am_isL s = true) : am_kd s = 4 ∧ am_ty s = 3 := by simpa [am_isL] using h
theorem am_isR_of {s : Nat} (h : am_isR s = true) : am_kd s = 5 := by simpa [am_isR] using h
theorem am_in_of {i : Int32} {n : Nat} (h : m_in i n = true) : vp_in i n := by simpa [m_in, vp_in] using h
/-- the entries, by kind -/
theorem am_ent0 {dA : Nat → ClassId} {μ : Nat × Nat → Nat} {h : am_H} {a : Nat × Nat} {ci : Nat} (e : am_isO a.1 ci = true) : am_ent dA μ h a = .inr (ci, am_fs μ h a.1 a.2) := by
  obtain ⟨e1, e2⟩ := am_isO_of e
  unfold am_ent
  rw [e1, e2]
  try rfl
theorem am_ent1 {dA : Nat → ClassId} {μ : Nat × Nat → Nat} {h : am_H} {a : Nat × Nat} {ty : Nat} (e : am_isA a.1 ty = true) : am_ent dA μ h a = .inl (dA ty, (am_ln a.1, .inl fun j => m_gi h a.1 a.2 j)) := by
  obtain ⟨e1, e2⟩ := am_isA_of e
  unfold am_ent
  rw [e1, e2]
  try rfl
theorem am_ent4 {dA : Nat → ClassId} {μ : Nat × Nat → Nat} {h : am_H} {a : Nat × Nat} (e : am_isL a.1 = true) : am_ent dA μ h a = .inl (dA 3, (am_ln a.1, .inr (.inl fun j => m_gl h a.1 a.2 j))) := by
  obtain ⟨e1, e2⟩ := am_isL_of e
  unfold am_ent
  rw [e1, e2]
  try rfl
theorem am_ent5 {dA : Nat → ClassId} {μ : Nat × Nat → Nat} {h : am_H} {a : Nat × Nat} (e : am_isR a.1 = true) : am_ent dA μ h a = .inl (dA (am_ty a.1), (am_ln a.1, .inr (.inr (.inr (.inr fun j => (m_gr h a.1 a.2 j).map μ))))) := by
  have e1 := am_isR_of e
  unfold am_ent
  rw [e1]
  try rfl
theorem am_fs_get {μ : Nat × Nat → Nat} {h : am_H} {s k j ci : Nat} (e : am_ci s = ci) (hj : j < am_nf ci) : (am_fs μ h s k)[j]? = some (am_fv μ h s k j (am_rf ci j)) := by
  subst e
  rw [am_fs, List.getElem?_map, List.getElem?_range hj]; rfl
theorem am_fs_len {μ : Nat × Nat → Nat} {h : am_H} {s k : Nat} : (am_fs μ h s k).length = am_nf (am_ci s) := by rw [am_fs, List.length_map, List.length_range]
theorem am_fs_si {μ : Nat × Nat → Nat} {h : am_H} {s k j ci : Nat} {x : Int32} (e : am_ci s = ci) (hj : j < am_nf ci) (hr : am_rf ci j = false) : (am_fs μ h s k).set j (am_v μ (.inl x)) = am_fs μ (m_si h s k j x) s k := by
  subst e
  apply List.ext_getElem?
  intro i
  by_cases hi : j = i
  · subst hi
    rw [List.getElem?_set_self (by rw [am_fs_len]; exact hj), am_fs_get rfl hj, hr]
    show some (Value.int x) = some (Value.int _)
    rw [m_gi_si, if_pos ⟨rfl, rfl, rfl⟩]
  · rw [List.getElem?_set_ne hi]
    by_cases hl : i < am_nf (am_ci s)
    · rw [am_fs_get rfl hl, am_fs_get rfl hl]
      congr 1
      cases am_rf (am_ci s) i
      · show Value.int _ = Value.int _
        rw [m_gi_si, if_neg (fun q => hi q.2.2.symm)]
      · rfl
    · rw [List.getElem?_eq_none (by rw [am_fs_len]; omega), List.getElem?_eq_none (by rw [am_fs_len]; omega)]
theorem am_fs_sr {μ : Nat × Nat → Nat} {h : am_H} {s k j ci : Nat} {o : Option (Nat × Nat)} (e : am_ci s = ci) (hj : j < am_nf ci) (hr : am_rf ci j = true) : (am_fs μ h s k).set j (am_v μ (.inr (.inr o))) = am_fs μ (m_sr h s k j o) s k := by
  subst e
  apply List.ext_getElem?
  intro i
  by_cases hi : j = i
  · subst hi
    rw [List.getElem?_set_self (by rw [am_fs_len]; exact hj), am_fs_get rfl hj, hr]
    show some (va_rf _) = some (va_rf _)
    rw [m_gr_sr, if_pos ⟨rfl, rfl, rfl⟩]
  · rw [List.getElem?_set_ne hi]
    by_cases hl : i < am_nf (am_ci s)
    · rw [am_fs_get rfl hl, am_fs_get rfl hl]
      congr 1
      cases am_rf (am_ci s) i
      · rfl
      · show va_rf _ = va_rf _
        rw [m_gr_sr, if_neg (fun q => hi q.2.2.symm)]
    · rw [List.getElem?_eq_none (by rw [am_fs_len]; omega), List.getElem?_eq_none (by rw [am_fs_len]; omega)]
section SimMem
variable {M : am_M} {d pc : Nat} {lv : List (Option am_V)} {st : List am_V} {h : am_H} {r : am_R}
/-- a step that reads the thing a -/
theorem sim_rd {pc' : Nat} {st' : List am_V} {a : Nat × Nat} (ha : .inr (.inr (some a)) ∈ st) (hk : am_kd a.1 ≠ 9)
    (hc : am_cls h st → (∀ (s k j : Nat) (c : Nat × Nat), m_gr h s k j = some c → c.2 < m_nx h c.1) → am_cls h st')
    (go : ∀ (l : Launch) (D : va_G) (dA : Nat → ClassId) (p : Program) (e : Env) (R : Room) (s : State) (m : MethodId) (args : Array Value) (below : List Frame) (meth : Method) (c : Code) (Q : State → Prop) (μ : Nat × Nat → Nat) (H : Heap) (locs : List Loc) (cells slots : Nat) (ls : Array Slot) (L : List (Nat × Nat)) (i : Nat),
      p.tables.exec = Jvm.exec → c.code = M.2.1 → s.vm.findClass M.1.cls = some m.cls → (∀ w ∈ am_T, w.before args s = true) → va_K D vwCl (am_tys dA) s → va_P D vwCl (am_ws dA μ h L) H → (am_ws dA μ h L)[i]? = some (μ a, am_ent dA μ h a) →
      W p l e R s m args below meth c H locs cells slots Q (F0 m pc' ls (st'.map (am_v μ))) → W p l e R s m args below meth c H locs cells slots Q (F0 m pc ls (st.map (am_v μ))))
    (k : Sim M d pc' lv st' h r) : Sim M d pc lv st h r := by
  intro h' o e
  obtain ⟨q1, q2⟩ := k h' o e
  refine ⟨q1, fun l D dA base b n xs p e R s m args below meth c mc ms Qc XC C μ H locs cells slots ls a1 a2 a3 a4 a5 a6 a7 => ?_⟩
  obtain ⟨L, b1, b2, b3, b4, b5, b6⟩ := id a1
  obtain ⟨i, hi⟩ := List.getElem?_of_mem ((b4 a).mpr ⟨a4 _ ha, hk⟩)
  exact go l D dA p e R s m args below meth c _ μ H locs cells slots ls L i C.1 C.2.1 C.2.2.2.2.1 C.2.2.2.2.2.2.2.1 C.2.2.2.2.2.2.2.2.2.2.2.1 b1 (am_ws_at hi) (q2 l D dA base b n xs p e R s m args below meth c mc ms Qc XC C μ H locs cells slots ls a1 a2 a3 (hc a4 b5) a5 a6 a7)
theorem am_kd0 {s ci : Nat} (h : am_isO s ci = true) : am_kd s ≠ 9 := by rw [(am_isO_of h).1]; decide
theorem am_kd1 {s ty : Nat} (h : am_isA s ty = true) : am_kd s ≠ 9 := by rw [(am_isA_of h).1]; decide
theorem am_kd4 {s : Nat} (h : am_isL s = true) : am_kd s ≠ 9 := by rw [(am_isL_of h).1]; decide
theorem am_kd5 {s : Nat} (h : am_isR s = true) : am_kd s ≠ 9 := by rw [am_isR_of h]; decide
theorem sim_getI {a : Nat × Nat} {ix i : Nat} (ci j : Nat) {C : String} {T : u_T} {N : Nat} (d0 : decode M.2.1 pc = .ok (.getfield ix, 3)) (hcl : vwCl[ci]? = some (C, T, N)) (hw : lw_tbl[i]? = some (.fieldLink M.1.cls ix (T j).1 (T j).2.1 (T j).2.2.1)) (hj : j < N) (hr : am_rf ci j = false)
    (k : Sim M d (pc + 3) lv (.inl (m_gi h a.1 a.2 j) :: st) h r) : Sim M d pc lv (.inr (.inr (some a)) :: st) h (m_ck (am_isO a.1 ci) r) :=
  sim_ck fun ho => sim_rd (a := a) List.mem_cons_self (am_kd0 ho) (fun c _ => c.tail.cons am_clo_i) (fun l D dA p e R s m args below meth c Q μ H locs cells slots ls L q hx hb hown ht hK hP hq k => by
    obtain ⟨f1, f2, f3, f4, f5⟩ := am_clF hcl
    rw [am_ent0 ho] at hq
    refine va_get hx hb ht f2 hown hK hP q hq hcl j hj (am_Tw ht hw rfl) (fun _ h9 => h9) (am_fs_get (am_isO_of ho).2 (by rw [← f1]; exact hj)) d0 ?_
    rw [hr]
    exact k) k
theorem sim_getR {a : Nat × Nat} {ix i : Nat} (ci j : Nat) {C : String} {T : u_T} {N : Nat} (d0 : decode M.2.1 pc = .ok (.getfield ix, 3)) (hcl : vwCl[ci]? = some (C, T, N)) (hw : lw_tbl[i]? = some (.fieldLink M.1.cls ix (T j).1 (T j).2.1 (T j).2.2.1)) (hj : j < N) (hr : am_rf ci j = true)
    (k : Sim M d (pc + 3) lv (.inr (.inr (m_gr h a.1 a.2 j)) :: st) h r) : Sim M d pc lv (.inr (.inr (some a)) :: st) h (m_ck (am_isO a.1 ci) r) :=
  sim_ck fun ho => sim_rd (a := a) List.mem_cons_self (am_kd0 ho) (fun c g => c.tail.cons (by
      cases hg : m_gr h a.1 a.2 j with
      | none => exact am_clo_n
      | some c => exact g _ _ _ _ hg)) (fun l D dA p e R s m args below meth c Q μ H locs cells slots ls L q hx hb hown ht hK hP hq k => by
    obtain ⟨f1, f2, f3, f4, f5⟩ := am_clF hcl
    rw [am_ent0 ho] at hq
    refine va_get hx hb ht f2 hown hK hP q hq hcl j hj (am_Tw ht hw rfl) (fun _ h9 => h9) (am_fs_get (am_isO_of ho).2 (by rw [← f1]; exact hj)) d0 ?_
    rw [hr]
    exact k) k
theorem sim_iald {a : Nat × Nat} {i : Int32} (d0 : decode M.2.1 pc = .ok (.iaload, 1)) (k : Sim M d (pc + 1) lv (.inl (m_gi h a.1 a.2 i.toNatClampNeg) :: st) h r) : Sim M d pc lv (.inl i :: .inr (.inr (some a)) :: st) h (m_ck (am_isA a.1 0 && m_in i (am_ln a.1)) r) :=
  sim_ck fun ho => by
    obtain ⟨o1, o2⟩ := Bool.and_eq_true_iff.mp ho
    exact sim_rd (a := a) (List.mem_cons_of_mem _ List.mem_cons_self) (am_kd1 o1) (fun c _ => c.tail.tail.cons am_clo_i) (fun l D dA p e R s m args below meth c Q μ H locs cells slots ls L q hx hb hown ht hK hP hq k => by
      rw [am_ent1 o1] at hq
      exact va_iald hx hb hK hP q 0 hq rfl (am_in_of o2) d0 k) k
theorem sim_zald {a : Nat × Nat} {i : Int32} (d0 : decode M.2.1 pc = .ok (.baload, 1)) (k : Sim M d (pc + 1) lv (.inl (m_gi h a.1 a.2 i.toNatClampNeg) :: st) h r) : Sim M d pc lv (.inl i :: .inr (.inr (some a)) :: st) h (m_ck (am_isA a.1 1 && m_in i (am_ln a.1)) r) :=
  sim_ck fun ho => by
    obtain ⟨o1, o2⟩ := Bool.and_eq_true_iff.mp ho
    exact sim_rd (a := a) (List.mem_cons_of_mem _ List.mem_cons_self) (am_kd1 o1) (fun c _ => c.tail.tail.cons am_clo_i) (fun l D dA p e R s m args below meth c Q μ H locs cells slots ls L q hx hb hown ht hK hP hq k => by
      rw [am_ent1 o1] at hq
      exact va_zald hx hb hK hP q 1 hq rfl (am_in_of o2) d0 k) k
theorem sim_cald {a : Nat × Nat} {i : Int32} (d0 : decode M.2.1 pc = .ok (.caload, 1)) (k : Sim M d (pc + 1) lv (.inl (m_gi h a.1 a.2 i.toNatClampNeg) :: st) h r) : Sim M d pc lv (.inl i :: .inr (.inr (some a)) :: st) h (m_ck (am_isA a.1 2 && m_in i (am_ln a.1)) r) :=
  sim_ck fun ho => by
    obtain ⟨o1, o2⟩ := Bool.and_eq_true_iff.mp ho
    exact sim_rd (a := a) (List.mem_cons_of_mem _ List.mem_cons_self) (am_kd1 o1) (fun c _ => c.tail.tail.cons am_clo_i) (fun l D dA p e R s m args below meth c Q μ H locs cells slots ls L q hx hb hown ht hK hP hq k => by
      rw [am_ent1 o1] at hq
      exact va_cald hx hb hK hP q 2 hq rfl (am_in_of o2) d0 k) k
theorem sim_lald {a : Nat × Nat} {i : Int32} (d0 : decode M.2.1 pc = .ok (.laload, 1)) (k : Sim M d (pc + 1) lv (.inr (.inl (m_gl h a.1 a.2 i.toNatClampNeg)) :: st) h r) : Sim M d pc lv (.inl i :: .inr (.inr (some a)) :: st) h (m_ck (am_isL a.1 && m_in i (am_ln a.1)) r) :=
  sim_ck fun ho => by
    obtain ⟨o1, o2⟩ := Bool.and_eq_true_iff.mp ho
    exact sim_rd (a := a) (List.mem_cons_of_mem _ List.mem_cons_self) (am_kd4 o1) (fun c _ => c.tail.tail.cons am_clo_l) (fun l D dA p e R s m args below meth c Q μ H locs cells slots ls L q hx hb hown ht hK hP hq k => by
      rw [am_ent4 o1] at hq
      exact va_lald hx hb hK hP q 3 hq rfl (am_in_of o2) d0 k) k
def am_rty (t : Nat) : Option (Nat × String) := match t with
  | 4 => some (3, RX3)
  | 5 => some (9, RX9)
  | 6 => some (0, RX0)
  | 7 => some (1, RX1)
  | 8 => some (6, RX6)
  | _ => none
theorem am_rty_tys {dA : Nat → ClassId} {t c : Nat} {C : String} (h : am_rty t = some (c, C)) : (am_tys dA)[t]? = some (dA t, .object C) ∧ ∃ T N, vwCl[c]? = some (C, T, N) := by
  match t, h with
  | 4, h => cases h; exact ⟨rfl, _, _, rfl⟩
  | 5, h => cases h; exact ⟨rfl, _, _, rfl⟩
  | 6, h => cases h; exact ⟨rfl, _, _, rfl⟩
  | 7, h => cases h; exact ⟨rfl, _, _, rfl⟩
  | 8, h => cases h; exact ⟨rfl, _, _, rfl⟩
def am_isQ (s t : Nat) : Bool := am_kd s == 5 && am_ty s == t
theorem am_isQ_of {s t : Nat} (h : am_isQ s t = true) : am_isR s = true ∧ am_ty s = t := by simpa [am_isQ, am_isR] using h
theorem sim_aald {a : Nat × Nat} {i : Int32} (t : Nat) {c : Nat} {C : String} (ht : am_rty t = some (c, C)) (d0 : decode M.2.1 pc = .ok (.aaload, 1)) (k : Sim M d (pc + 1) lv (.inr (.inr (m_gr h a.1 a.2 i.toNatClampNeg)) :: st) h r) : Sim M d pc lv (.inl i :: .inr (.inr (some a)) :: st) h (m_ck (am_isQ a.1 t && m_in i (am_ln a.1)) r) :=
  sim_ck fun ho => by
    obtain ⟨o1, o2⟩ := Bool.and_eq_true_iff.mp ho
    obtain ⟨o3, o4⟩ := am_isQ_of o1
    exact sim_rd (a := a) (List.mem_cons_of_mem _ List.mem_cons_self) (am_kd5 o3) (fun c g => c.tail.tail.cons (by
      cases hg : m_gr h a.1 a.2 i.toNatClampNeg with
      | none => exact am_clo_n
      | some c => exact g _ _ _ _ hg)) (fun l D dA p e R s m args below meth c Q μ H locs cells slots ls L q hx hb hown ht9 hK hP hq k => by
      rw [am_ent5 o3, o4] at hq
      exact va_aldq hx hb hK hP q t hq (am_rty_tys ht).1 (am_in_of o2) d0 k) k
theorem sim_alenI {a : Nat × Nat} (v : Int32) (d0 : decode M.2.1 pc = .ok (.arraylength, 1)) (k : Sim M d (pc + 1) lv (.inl (Int32.ofNat (am_ln a.1)) :: st) h r) : Sim M d pc lv (.inr (.inr (some a)) :: st) h (m_ck (am_isA a.1 0) r) :=
  sim_ck fun o1 => sim_rd (a := a) List.mem_cons_self (am_kd1 o1) (fun c _ => c.tail.cons am_clo_i) (fun l D dA p e R s m args below meth c Q μ H locs cells slots ls L q hx hb hown ht hK hP hq k => by
      rw [am_ent1 o1] at hq
      exact va_alen hx hb hK hP q 0 hq (ty := .int) rfl rfl d0 k) k
/-- a step that writes into the thing a -/
theorem sim_wr {pc' : Nat} {st' : List am_V} {a : Nat × Nat} {h1 : am_H} (ha : .inr (.inr (some a)) ∈ st) (hk : am_kd a.1 ≠ 9) (hle : am_le h h1) (hcs : m_nc h1 = m_nc h ∧ m_ns h1 = m_ns h) (hnx : m_nx h1 = m_nx h)
    (hc : am_cls h st → am_cls h st') (hcl : am_cls h st → (∀ (s k j : Nat) (c : Nat × Nat), m_gr h s k j = some c → c.2 < m_nx h c.1) → (∀ (s k j : Nat) (c : Nat × Nat), m_gr h1 s k j = some c → c.2 < m_nx h c.1))
    (he : ∀ (dA : Nat → ClassId) (μ : Nat × Nat → Nat) (a' : Nat × Nat), a' ≠ a → am_ent dA μ h1 a' = am_ent dA μ h a') (hg : ∀ k j, m_gi h1 1 k j = m_gi h 1 k j)
    (go : ∀ (l : Launch) (D : va_G) (dA : Nat → ClassId) (base : Nat) (p : Program) (e : Env) (R : Room) (s : State) (m : MethodId) (args : Array Value) (below : List Frame) (meth : Method) (c : Code) (Q : State → Prop) (μ : Nat × Nat → Nat) (H : Heap) (locs : List Loc) (cells slots : Nat) (ls : Array Slot) (L : List (Nat × Nat)) (i : Nat),
      p.tables.exec = Jvm.exec → c.code = M.2.1 → s.vm.findClass M.1.cls = some m.cls → (∀ w ∈ am_T, w.before args s = true) → meth.name = M.1.name → va_K D vwCl (am_tys dA) s → va_P D vwCl (am_ws dA μ h L) H → va_D (fun q : Nat => base ≤ q) (am_ws dA μ h L) → va_S (fun q : Nat => base ≤ q) s.heap H locs → (am_ws dA μ h L)[i]? = some (μ a, am_ent dA μ h a) →
      (∀ w : Nat × Nat, .inr (.inr (some w)) ∈ st → am_kd w.1 ≠ 9 → ∃ i2 : Nat, (am_ws dA μ h L)[i2]? = some (μ w, am_ent dA μ h w)) →
      (∀ (H1 : Heap) (locs1 : List Loc), va_P D vwCl ((am_ws dA μ h L).set i (μ a, am_ent dA μ h1 a)) H1 → va_D (fun q : Nat => base ≤ q) ((am_ws dA μ h L).set i (μ a, am_ent dA μ h1 a)) → va_S (fun q : Nat => base ≤ q) s.heap H1 locs1 →
        W p l e R s m args below meth c H1 locs1 cells slots Q (F0 m pc' ls (st'.map (am_v μ)))) → W p l e R s m args below meth c H locs cells slots Q (F0 m pc ls (st.map (am_v μ))))
    (k : Sim M d pc' lv st' h1 r) : Sim M d pc lv st h r := by
  intro h' o e
  obtain ⟨q1, q2⟩ := k h' o e
  refine ⟨hle.trans q1, fun l D dA base b n xs p e R s m args below meth c mc ms Qc XC C μ H locs cells slots ls a1 a2 a3 a4 a5 a6 a7 => ?_⟩
  obtain ⟨L, b1, b2, b3, b4, b5, b6, b7, b8, b9⟩ := id a1
  obtain ⟨i, hi⟩ := List.getElem?_of_mem ((b4 a).mpr ⟨a4 _ ha, hk⟩)
  refine go l D dA base p e R s m args below meth c _ μ H locs cells slots ls L i C.1 C.2.1 C.2.2.2.2.1 C.2.2.2.2.2.2.2.1 C.2.2.2.2.2.2.1 C.2.2.2.2.2.2.2.2.2.2.2.1 b1 b2 a2 (am_ws_at hi) (fun w hw hk2 => by
    obtain ⟨i2, hi2⟩ := List.getElem?_of_mem ((b4 w).mpr ⟨a4 _ hw, hk2⟩)
    exact ⟨i2, am_ws_at hi2⟩) (fun H1 locs1 c1 c2 c3 => ?_)
  rw [am_ws_set hi b3 (he dA μ)] at c1 c2
  refine q2 l D dA base b n xs p e R s m args below meth c mc ms Qc XC C μ H1 locs1 cells slots ls ⟨L, c1, c2, b3, by rw [hnx]; exact b4, by rw [hnx]; exact hcl a4 b5, b6, fun j => by rw [hg]; exact b7 j, by rw [hg]; exact b8, by rw [hnx]; exact b9⟩ c3 (a3.move (am_ext.refl μ h) hle) ((hc a4).mono hle) (by rw [hcs.1]; exact a5) (by rw [hcs.2]; exact a6) (fun μ' t e1 e2 e3 e4 => a7 μ' t (fun z hz => e1 z (by rw [hnx]; exact hz)) e2 e3 e4)
theorem am_1 {s : Nat} (h : am_kd s ≠ 9) : ¬ 1 = s := fun e => h (by rw [← e]; rfl)
theorem sim_putI {a : Nat × Nat} {ix i : Nat} {x : Int32} (ci j : Nat) {C : String} {T : u_T} {N : Nat} (d0 : decode M.2.1 pc = .ok (.putfield ix, 3)) (hcl : vwCl[ci]? = some (C, T, N)) (hw : lw_tbl[i]? = some (.fieldLink M.1.cls ix (T j).1 (T j).2.1 (T j).2.2.1)) (hj : j < N) (hr : am_rf ci j = false) (hfin : (T j).2.2.2 = false ∨ ((T j).2.2.2 = true ∧ M.1.name = "<init>" ∧ (T j).1 = M.1.cls))
    (hn : narrow (am_tyX ci j) (.int x) = .int x ∧ fits (am_tyX ci j) (.int x) = true)
    (k : Sim M d (pc + 3) lv st (m_si h a.1 a.2 j x) r) : Sim M d pc lv (.inl x :: .inr (.inr (some a)) :: st) h (m_ck (am_isO a.1 ci) r) :=
  sim_ck fun ho => sim_wr (a := a) (h1 := m_si h a.1 a.2 j x) (List.mem_cons_of_mem _ List.mem_cons_self) (am_kd0 ho) (am_le_si _ _ _ _ _) ⟨rfl, rfl⟩ rfl (fun c => c.tail.tail) (fun _ g => g) (fun dA μ a' hne => am_ent_si a' hne) (fun k9 j9 => by rw [m_gi_si, if_neg (fun q => am_1 (am_kd0 ho) q.1)])
    (fun l D dA base p e R s m args below meth c Q μ H locs cells slots ls L q hx hb hown ht hin hK hP hD hS hq _ kk => by
    obtain ⟨f1, f2, f3, f4, f5⟩ := am_clF hcl
    rw [am_ent0 ho] at hq
    have e2 := (am_isO_of ho).2
    have hj2 : j < am_nf ci := by rw [← f1]; exact hj
    rcases hfin with hfin | ⟨hf1, hf2, hf3⟩
    · refine va_put hx hb ht f2 (am_tyX ci) f3 f4 hown hK hP hD hS q hq hcl j hj (am_Tw ht hw rfl) (fun _ h9 => h9) hfin (f3 j hj) hn.1 hn.2 (by rw [am_fs_len, e2]; exact hj2) d0 (fun H1 locs1 c1 c2 c3 => ?_)
      rw [am_fs_si e2 hj2 hr] at c1 c2
      exact kk H1 locs1 (by rw [am_ent0 ho]; exact c1) (by rw [am_ent0 ho]; exact c2) c3
    · refine va_putF hx hb ht f2 (am_tyX ci) f3 f4 hown hK hP hD hS q hq hcl j hj (am_Tw ht hw rfl) (fun _ h9 => h9) hf1 (hin.trans hf2) hf3 (f3 j hj) hn.1 hn.2 (by rw [am_fs_len, e2]; exact hj2) d0 (fun H1 locs1 c1 c2 c3 => ?_)
      rw [am_fs_si e2 hj2 hr] at c1 c2
      exact kk H1 locs1 (by rw [am_ent0 ho]; exact c1) (by rw [am_ent0 ho]; exact c2) c3) k
theorem sim_putZ {a : Nat × Nat} {ix i : Nat} {x : Int32} (ci j : Nat) {C : String} {T : u_T} {N : Nat} (d0 : decode M.2.1 pc = .ok (.putfield ix, 3)) (hcl : vwCl[ci]? = some (C, T, N)) (hw : lw_tbl[i]? = some (.fieldLink M.1.cls ix (T j).1 (T j).2.1 (T j).2.2.1)) (hj : j < N) (hr : am_rf ci j = false) (hfin : (T j).2.2.2 = false ∨ ((T j).2.2.2 = true ∧ M.1.name = "<init>" ∧ (T j).1 = M.1.cls)) (hty : am_tyX ci j = .boolean)
    (k : Sim M d (pc + 3) lv st (m_si h a.1 a.2 j x) r) : Sim M d pc lv (.inl x :: .inr (.inr (some a)) :: st) h (m_ck (m_nz x) (m_ck (am_isO a.1 ci) r)) :=
  sim_ck fun hz => sim_putI ci j d0 hcl hw hj hr hfin (by rw [hty]; exact ⟨(am_nz_n hz).1, (am_nz_n hz).2.1⟩) k
theorem sim_putC {a : Nat × Nat} {ix i : Nat} {x : Int32} (ci j : Nat) {C : String} {T : u_T} {N : Nat} (d0 : decode M.2.1 pc = .ok (.putfield ix, 3)) (hcl : vwCl[ci]? = some (C, T, N)) (hw : lw_tbl[i]? = some (.fieldLink M.1.cls ix (T j).1 (T j).2.1 (T j).2.2.1)) (hj : j < N) (hr : am_rf ci j = false) (hfin : (T j).2.2.2 = false ∨ ((T j).2.2.2 = true ∧ M.1.name = "<init>" ∧ (T j).1 = M.1.cls)) (hty : am_tyX ci j = .char)
    (k : Sim M d (pc + 3) lv st (m_si h a.1 a.2 j x) r) : Sim M d pc lv (.inl x :: .inr (.inr (some a)) :: st) h (m_ck (m_nzc x) (m_ck (am_isO a.1 ci) r)) :=
  sim_ck fun hz => sim_putI ci j d0 hcl hw hj hr hfin (by rw [hty]; exact ⟨(am_nzc_n hz).1, (am_nzc_n hz).2.1⟩) k
theorem am_fits_r {t : FieldType} {o : Option Nat} (h : am_refT t = true) : narrow t (va_rf o) = va_rf o ∧ fits t (va_rf o) = true := by
  cases t <;> first | (simp [am_refT] at h; done) | (cases o <;> exact ⟨rfl, rfl⟩)
theorem sim_putR {a : Nat × Nat} {ix i : Nat} {o : Option (Nat × Nat)} (ci j : Nat) {C : String} {T : u_T} {N : Nat} (d0 : decode M.2.1 pc = .ok (.putfield ix, 3)) (hcl : vwCl[ci]? = some (C, T, N)) (hw : lw_tbl[i]? = some (.fieldLink M.1.cls ix (T j).1 (T j).2.1 (T j).2.2.1)) (hj : j < N) (hr : am_rf ci j = true) (hfin : (T j).2.2.2 = false ∨ ((T j).2.2.2 = true ∧ M.1.name = "<init>" ∧ (T j).1 = M.1.cls))
    (k : Sim M d (pc + 3) lv st (m_sr h a.1 a.2 j o) r) : Sim M d pc lv (.inr (.inr o) :: .inr (.inr (some a)) :: st) h (m_ck (am_isO a.1 ci) r) :=
  sim_ck fun ho => sim_wr (a := a) (h1 := m_sr h a.1 a.2 j o) (List.mem_cons_of_mem _ List.mem_cons_self) (am_kd0 ho) (am_le_sr _ _ _ _ _) ⟨rfl, rfl⟩ rfl (fun c => c.tail.tail) (fun c g s k j c9 hc9 => by
      rw [m_gr_sr] at hc9
      split at hc9
      · have := c.head
        rw [hc9] at this
        exact this
      · exact g _ _ _ _ hc9) (fun dA μ a' hne => am_ent_sr a' hne) (fun k9 j9 => rfl)
    (fun l D dA base p e R s m args below meth c Q μ H locs cells slots ls L q hx hb hown ht hin hK hP hD hS hq _ kk => by
    obtain ⟨f1, f2, f3, f4, f5⟩ := am_clF hcl
    rw [am_ent0 ho] at hq
    have e2 := (am_isO_of ho).2
    have hj2 : j < am_nf ci := by rw [← f1]; exact hj
    have hn : narrow (am_tyX ci j) (va_rf (o.map μ)) = va_rf (o.map μ) ∧ fits (am_tyX ci j) (va_rf (o.map μ)) = true := am_fits_r ((f5 j hj).symm.trans hr)
    rcases hfin with hfin | ⟨hf1, hf2, hf3⟩
    · refine va_put hx hb ht f2 (am_tyX ci) f3 f4 hown hK hP hD hS q hq hcl j hj (am_Tw ht hw rfl) (fun _ h9 => h9) hfin (f3 j hj) hn.1 hn.2 (by rw [am_fs_len, e2]; exact hj2) d0 (fun H1 locs1 c1 c2 c3 => ?_)
      rw [am_fs_sr e2 hj2 hr] at c1 c2
      exact kk H1 locs1 (by rw [am_ent0 ho]; exact c1) (by rw [am_ent0 ho]; exact c2) c3
    · refine va_putF hx hb ht f2 (am_tyX ci) f3 f4 hown hK hP hD hS q hq hcl j hj (am_Tw ht hw rfl) (fun _ h9 => h9) hf1 (hin.trans hf2) hf3 (f3 j hj) hn.1 hn.2 (by rw [am_fs_len, e2]; exact hj2) d0 (fun H1 locs1 c1 c2 c3 => ?_)
      rw [am_fs_sr e2 hj2 hr] at c1 c2
      exact kk H1 locs1 (by rw [am_ent0 ho]; exact c1) (by rw [am_ent0 ho]; exact c2) c3) k
theorem am_upd_si {h : am_H} {a : Nat × Nat} {j : Nat} {x : Int32} : upd (fun i => m_gi h a.1 a.2 i) j x = fun i => m_gi (m_si h a.1 a.2 j x) a.1 a.2 i := by
  funext i
  show (if i = j then x else _) = _
  rw [m_gi_si]
  by_cases q : i = j
  · rw [if_pos q, if_pos ⟨rfl, rfl, q⟩]
  · rw [if_neg q, if_neg (fun z => q z.2.2)]
theorem sim_iast {a : Nat × Nat} {i x : Int32} (d0 : decode M.2.1 pc = .ok (.iastore, 1)) (k : Sim M d (pc + 1) lv st (m_si h a.1 a.2 i.toNatClampNeg x) r) : Sim M d pc lv (.inl x :: .inl i :: .inr (.inr (some a)) :: st) h (m_ck (am_isA a.1 0 && m_in i (am_ln a.1)) r) :=
  sim_ck fun ho => by
    obtain ⟨o1, o2⟩ := Bool.and_eq_true_iff.mp ho
    exact sim_wr (a := a) (h1 := m_si h a.1 a.2 i.toNatClampNeg x) (List.mem_cons_of_mem _ (List.mem_cons_of_mem _ List.mem_cons_self)) (am_kd1 o1) (am_le_si _ _ _ _ _) ⟨rfl, rfl⟩ rfl (fun c => c.tail.tail.tail) (fun _ g => g) (fun dA μ a' hne => am_ent_si a' hne) (fun k9 j9 => by rw [m_gi_si, if_neg (fun q => am_1 (am_kd1 o1) q.1)])
      (fun l D dA base p e R s m args below meth c Q μ H locs cells slots ls L q hx hb hown ht hin hK hP hD hS hq _ kk => by
      rw [am_ent1 o1] at hq
      refine va_iast hx hb hK hP hD hS q 0 hq rfl (am_in_of o2) d0 (fun H1 locs1 c1 c2 c3 => ?_)
      rw [am_upd_si] at c1 c2
      exact kk H1 locs1 (by rw [am_ent1 o1]; exact c1) (by rw [am_ent1 o1]; exact c2) c3) k
theorem sim_zast {a : Nat × Nat} {i x : Int32} (d0 : decode M.2.1 pc = .ok (.bastore, 1)) (k : Sim M d (pc + 1) lv st (m_si h a.1 a.2 i.toNatClampNeg x) r) : Sim M d pc lv (.inl x :: .inl i :: .inr (.inr (some a)) :: st) h (m_ck (m_nz x) (m_ck (am_isA a.1 1 && m_in i (am_ln a.1)) r)) :=
  sim_ck fun hz => sim_ck fun ho => by
    obtain ⟨o1, o2⟩ := Bool.and_eq_true_iff.mp ho
    exact sim_wr (a := a) (h1 := m_si h a.1 a.2 i.toNatClampNeg x) (List.mem_cons_of_mem _ (List.mem_cons_of_mem _ List.mem_cons_self)) (am_kd1 o1) (am_le_si _ _ _ _ _) ⟨rfl, rfl⟩ rfl (fun c => c.tail.tail.tail) (fun _ g => g) (fun dA μ a' hne => am_ent_si a' hne) (fun k9 j9 => by rw [m_gi_si, if_neg (fun q => am_1 (am_kd1 o1) q.1)])
      (fun l D dA base p e R s m args below meth c Q μ H locs cells slots ls L q hx hb hown ht hin hK hP hD hS hq _ kk => by
      rw [am_ent1 o1] at hq
      refine va_zast hx hb hK hP hD hS q 1 hq rfl (am_in_of o2) d0 (fun H1 locs1 c1 c2 c3 => ?_)
      rw [(am_nz_n hz).2.2, am_upd_si] at c1 c2
      exact kk H1 locs1 (by rw [am_ent1 o1]; exact c1) (by rw [am_ent1 o1]; exact c2) c3) k
theorem sim_cast {a : Nat × Nat} {i x : Int32} (d0 : decode M.2.1 pc = .ok (.castore, 1)) (k : Sim M d (pc + 1) lv st (m_si h a.1 a.2 i.toNatClampNeg x) r) : Sim M d pc lv (.inl x :: .inl i :: .inr (.inr (some a)) :: st) h (m_ck (m_nzc x) (m_ck (am_isA a.1 2 && m_in i (am_ln a.1)) r)) :=
  sim_ck fun hz => sim_ck fun ho => by
    obtain ⟨o1, o2⟩ := Bool.and_eq_true_iff.mp ho
    exact sim_wr (a := a) (h1 := m_si h a.1 a.2 i.toNatClampNeg x) (List.mem_cons_of_mem _ (List.mem_cons_of_mem _ List.mem_cons_self)) (am_kd1 o1) (am_le_si _ _ _ _ _) ⟨rfl, rfl⟩ rfl (fun c => c.tail.tail.tail) (fun _ g => g) (fun dA μ a' hne => am_ent_si a' hne) (fun k9 j9 => by rw [m_gi_si, if_neg (fun q => am_1 (am_kd1 o1) q.1)])
      (fun l D dA base p e R s m args below meth c Q μ H locs cells slots ls L q hx hb hown ht hin hK hP hD hS hq _ kk => by
      rw [am_ent1 o1] at hq
      refine va_cast hx hb hK hP hD hS q 2 hq rfl (am_in_of o2) d0 (fun H1 locs1 c1 c2 c3 => ?_)
      rw [(am_nzc_n hz).2.2, am_upd_si] at c1 c2
      exact kk H1 locs1 (by rw [am_ent1 o1]; exact c1) (by rw [am_ent1 o1]; exact c2) c3) k
theorem sim_last {a : Nat × Nat} {i : Int32} {x : Int64} (d0 : decode M.2.1 pc = .ok (.lastore, 1)) (k : Sim M d (pc + 1) lv st (m_sl h a.1 a.2 i.toNatClampNeg x) r) : Sim M d pc lv (.inr (.inl x) :: .inl i :: .inr (.inr (some a)) :: st) h (m_ck (am_isL a.1 && m_in i (am_ln a.1)) r) :=
  sim_ck fun ho => by
    obtain ⟨o1, o2⟩ := Bool.and_eq_true_iff.mp ho
    exact sim_wr (a := a) (h1 := m_sl h a.1 a.2 i.toNatClampNeg x) (List.mem_cons_of_mem _ (List.mem_cons_of_mem _ List.mem_cons_self)) (am_kd4 o1) (am_le_sl _ _ _ _ _) ⟨rfl, rfl⟩ rfl (fun c => c.tail.tail.tail) (fun _ g => g) (fun dA μ a' hne => am_ent_sl a' hne) (fun k9 j9 => rfl)
      (fun l D dA base p e R s m args below meth c Q μ H locs cells slots ls L q hx hb hown ht hin hK hP hD hS hq _ kk => by
      rw [am_ent4 o1] at hq
      refine va_last hx hb hK hP hD hS q 3 hq rfl (am_in_of o2) d0 (fun H1 locs1 c1 c2 c3 => ?_)
      rw [show vp_updL (fun j => m_gl h a.1 a.2 j) i.toNatClampNeg x = fun j => m_gl (m_sl h a.1 a.2 i.toNatClampNeg x) a.1 a.2 j from by
        funext z
        show (if z = i.toNatClampNeg then x else _) = _
        rw [m_gl_sl]
        by_cases q : z = i.toNatClampNeg
        · rw [if_pos q, if_pos ⟨rfl, rfl, q⟩]
        · rw [if_neg q, if_neg (fun z => q z.2.2)]] at c1 c2
      exact kk H1 locs1 (by rw [am_ent4 o1]; exact c1) (by rw [am_ent4 o1]; exact c2) c3) k
theorem sim_aast {a w : Nat × Nat} {i : Int32} (t : Nat) {c : Nat} {C : String} (ht0 : am_rty t = some (c, C)) (d0 : decode M.2.1 pc = .ok (.aastore, 1)) (k : Sim M d (pc + 1) lv st (m_sr h a.1 a.2 i.toNatClampNeg (some w)) r) : Sim M d pc lv (.inr (.inr (some w)) :: .inl i :: .inr (.inr (some a)) :: st) h (m_ck (am_isO w.1 c && (am_isQ a.1 t && m_in i (am_ln a.1))) r) :=
  sim_ck fun ho0 => by
    obtain ⟨ho9, ho⟩ := Bool.and_eq_true_iff.mp ho0
    obtain ⟨o1, o2⟩ := Bool.and_eq_true_iff.mp ho
    obtain ⟨o3, o4⟩ := am_isQ_of o1
    exact sim_wr (a := a) (h1 := m_sr h a.1 a.2 i.toNatClampNeg (some w)) (List.mem_cons_of_mem _ (List.mem_cons_of_mem _ List.mem_cons_self)) (am_kd5 o3) (am_le_sr _ _ _ _ _) ⟨rfl, rfl⟩ rfl (fun c => c.tail.tail.tail) (fun c g s k j c9 hc9 => by
        rw [m_gr_sr] at hc9
        split at hc9
        · have := c.head
          rw [hc9] at this
          exact this
        · exact g _ _ _ _ hc9) (fun dA μ a' hne => am_ent_sr a' hne) (fun k9 j9 => rfl)
      (fun l D dA base p e R s m args below meth c Q μ H locs cells slots ls L q hx hb hown ht hin hK hP hD hS hq hwx kk => by
      obtain ⟨i2, hi2⟩ := hwx w List.mem_cons_self (am_kd0 ho9)
      obtain ⟨g1, T, N, g2⟩ := am_rty_tys (dA := dA) ht0
      rw [am_ent0 ho9] at hi2
      rw [am_ent5 o3, o4] at hq
      refine va_astq hx hb hK hP hD hS q t i2 _ hq g1 hi2 g2 (am_in_of o2) d0 (fun H1 locs1 c1 c2 c3 => ?_)
      rw [show va_up (fun j => (m_gr h a.1 a.2 j).map μ) i.toNatClampNeg (some (μ w)) = fun j => (m_gr (m_sr h a.1 a.2 i.toNatClampNeg (some w)) a.1 a.2 j).map μ from by
        funext z
        show (if z = i.toNatClampNeg then _ else _) = _
        rw [m_gr_sr]
        by_cases q : z = i.toNatClampNeg
        · rw [if_pos q, if_pos ⟨rfl, rfl, q⟩]; rfl
        · rw [if_neg q, if_neg (fun z => q z.2.2)]] at c1 c2
      exact kk H1 locs1 (by rw [am_ent5 o3, o4]; exact c1) (by rw [am_ent5 o3, o4]; exact c2) c3) k
end SimMem
end
section
/-! ## rows that make things, throw, call -/
def am_up (μ : Nat × Nat → Nat) (a : Nat × Nat) (q : Nat) : Nat × Nat → Nat := fun z => if z = a then q else μ z
theorem am_up_ne {μ : Nat × Nat → Nat} {a z : Nat × Nat} {q : Nat} (h : z ≠ a) : am_up μ a q z = μ z := if_neg h
theorem am_up_eq {μ : Nat × Nat → Nat} {a : Nat × Nat} {q : Nat} : am_up μ a q a = q := if_pos rfl
theorem m_nx_al (h : am_H) (s n a : Nat) : m_nx (m_al h s n) a = if a = s then m_nx h s + 1 else m_nx h a := rfl
theorem m_gi_al (h : am_H) (s n a b c : Nat) : m_gi (m_al h s n) a b c = if a = s ∧ b = m_nx h s then 0 else m_gi h a b c := rfl
theorem m_gr_al (h : am_H) (s n a b c : Nat) : m_gr (m_al h s n) a b c = if a = s ∧ b = m_nx h s then none else m_gr h a b c := rfl
theorem m_gl_al (h : am_H) (s n a b c : Nat) : m_gl (m_al h s n) a b c = if a = s ∧ b = m_nx h s then 0 else m_gl h a b c := rfl
theorem am_lt_ne {h : am_H} {s : Nat} {a : Nat × Nat} (ha : a.2 < m_nx h a.1) : a ≠ (s, m_nx h s) := fun e => by
  rw [e] at ha
  exact Nat.lt_irrefl _ ha
theorem am_up_ext {h : am_H} {μ : Nat × Nat → Nat} {s q : Nat} : am_ext μ h (am_up μ (s, m_nx h s) q) := fun a ha => am_up_ne (am_lt_ne ha)
theorem am_ws_al {dA : Nat → ClassId} {μ : Nat × Nat → Nat} {h : am_H} {L : List (Nat × Nat)} {s n q : Nat} (hL : ∀ a ∈ L, a.2 < m_nx h a.1) (hcl : ∀ (s k j : Nat) (c : Nat × Nat), m_gr h s k j = some c → c.2 < m_nx h c.1) :
    am_ws dA μ h L ++ [(q, am_ent dA (am_up μ (s, m_nx h s) q) (m_al h s n) (s, m_nx h s))] = am_ws dA (am_up μ (s, m_nx h s) q) (m_al h s n) (L ++ [(s, m_nx h s)]) := by
  unfold am_ws
  rw [List.map_append]
  congr 1
  · apply List.map_congr_left
    intro a ha
    have hne := am_lt_ne (s := s) (hL a ha)
    have h2 : ¬ (a.1 = s ∧ a.2 = m_nx h s) := fun z => hne (Prod.ext z.1 z.2)
    rw [am_up_ne hne, am_ent_eq (μ1 := am_up μ (s, m_nx h s) q) (h1 := m_al h s n) (h := h) (μ := μ) (fun j => by rw [m_gi_al, if_neg h2]) (fun j => by
      rw [m_gr_al, if_neg h2]
      cases hg : m_gr h a.1 a.2 j with
      | none => rfl
      | some c => exact congrArg some (am_up_ne (am_lt_ne (hcl _ _ _ _ hg)))) (fun j => by rw [m_gl_al, if_neg h2])]
  · show _ = [((am_up μ (s, m_nx h s) q) (s, m_nx h s), _)]
    rw [am_up_eq]
theorem am_Rel_al {D : va_G} {dA : Nat → ClassId} {base b n0 : Nat} {xs : Nat → Int32} {μ : Nat × Nat → Nat} {h : am_H} {s n q : Nat} {L : List (Nat × Nat)} {H1 : Heap} (hs : am_kd s ≠ 9)
    (b3 : L.Nodup) (b4 : ∀ a : Nat × Nat, a ∈ L ↔ a.2 < m_nx h a.1 ∧ am_kd a.1 ≠ 9) (b5 : ∀ (s k j : Nat) (c : Nat × Nat), m_gr h s k j = some c → c.2 < m_nx h c.1) (b6 : μ (1, 0) = b) (b7 : ∀ j : Nat, m_gi h 1 0 j = xs j) (b8 : m_gi h 1 1 0 = Int32.ofNat n0) (b9 : 0 < m_nx h 1)
    (c1 : va_P D vwCl (am_ws dA μ h L ++ [(q, am_ent dA (am_up μ (s, m_nx h s) q) (m_al h s n) (s, m_nx h s))]) H1) (c2 : va_D (fun q : Nat => base ≤ q) (am_ws dA μ h L ++ [(q, am_ent dA (am_up μ (s, m_nx h s) q) (m_al h s n) (s, m_nx h s))])) :
    am_Rel D dA base b n0 xs (am_up μ (s, m_nx h s) q) (m_al h s n) H1 := by
  have hL : ∀ a ∈ L, a.2 < m_nx h a.1 := fun a ha => ((b4 a).mp ha).1
  have h1s : ¬ 1 = s := am_1 hs
  rw [am_ws_al hL b5] at c1 c2
  refine ⟨L ++ [(s, m_nx h s)], c1, c2, ?_, fun a => ?_, fun s' k j c hc => ?_, ?_, fun j => ?_, ?_, ?_⟩
  · rw [List.nodup_append]
    refine ⟨b3, by simp, fun a ha c hc => ?_⟩
    simp only [List.mem_singleton] at hc
    rw [hc]
    exact am_lt_ne (hL a ha)
  · rw [List.mem_append, b4 a, List.mem_singleton, m_nx_al]
    constructor
    · rintro (⟨z1, z2⟩ | z)
      · refine ⟨?_, z2⟩
        split
        · next e => rw [e] at z1; omega
        · exact z1
      · subst z
        exact ⟨by rw [if_pos rfl]; exact Nat.lt_succ_self _, hs⟩
    · rintro ⟨z1, z2⟩
      split at z1
      · next e =>
        rcases Nat.lt_or_ge a.2 (m_nx h s) with g | g
        · exact Or.inl ⟨by rw [e]; exact g, z2⟩
        · exact Or.inr (Prod.ext e (by omega))
      · exact Or.inl ⟨z1, z2⟩
  · rw [m_gr_al] at hc
    split at hc
    · cases hc
    · exact Nat.lt_of_lt_of_le (b5 _ _ _ _ hc) ((am_le_al h s n).2.2 _)
  · rw [am_up_ne (fun z => h1s (congrArg Prod.fst z))]; exact b6
  · rw [m_gi_al, if_neg (fun z => h1s z.1)]; exact b7 j
  · rw [m_gi_al, if_neg (fun z => h1s z.1)]; exact b8
  · rw [m_nx_al, if_neg h1s]; exact b9
section SimMake
variable {M : am_M} {d pc : Nat} {lv : List (Option am_V)} {st : List am_V} {h : am_H} {r : am_R}
theorem sim_al {pc' s n : Nat} {st' : List am_V} (hs : am_kd s ≠ 9) (hc : am_cls h st → am_cls h st')
    (go : ∀ (l : Launch) (D : va_G) (dA : Nat → ClassId) (base : Nat) (p : Program) (e : Env) (R : Room) (s0 : State) (m : MethodId) (args : Array Value) (below : List Frame) (meth : Method) (c : Code) (Q : State → Prop) (μ : Nat × Nat → Nat) (H : Heap) (locs : List Loc) (cells slots : Nat) (ls : Array Slot) (L : List (Nat × Nat)),
      p.tables.exec = Jvm.exec → c.code = M.2.1 → s0.vm.findClass M.1.cls = some m.cls → (∀ w ∈ am_T, w.before args s0 = true) → va_K D vwCl (am_tys dA) s0 → va_P D vwCl (am_ws dA μ h L) H → va_D (fun q : Nat => base ≤ q) (am_ws dA μ h L) → va_S (fun q : Nat => base ≤ q) s0.heap H locs → (∀ q : Nat, s0.heap.size ≤ q → base ≤ q) → cells + 1 ≤ R.cells → slots + n ≤ R.slots →
      (∀ (q : Nat) (H1 : Heap), va_P D vwCl (am_ws dA μ h L ++ [(q, am_ent dA (am_up μ (s, m_nx h s) q) (m_al h s n) (s, m_nx h s))]) H1 → va_D (fun q : Nat => base ≤ q) (am_ws dA μ h L ++ [(q, am_ent dA (am_up μ (s, m_nx h s) q) (m_al h s n) (s, m_nx h s))]) → va_S (fun q : Nat => base ≤ q) s0.heap H1 locs →
        W p l e R s0 m args below meth c H1 locs (cells + 1) (slots + n) Q (F0 m pc' ls (.ref q :: st'.map (am_v μ)))) → W p l e R s0 m args below meth c H locs cells slots Q (F0 m pc ls (st.map (am_v μ))))
    (k : Sim M d pc' lv (.inr (.inr (some (s, m_nx h s))) :: st') (m_al h s n) r) : Sim M d pc lv st h r := by
  intro h' o e
  obtain ⟨q1, q2⟩ := k h' o e
  have hle := am_le_al h s n
  refine ⟨hle.trans q1, fun l D dA base b n0 xs p e R s0 m args below meth c mc ms Qc XC C μ H locs cells slots ls a1 a2 a3 a4 a5 a6 a7 => ?_⟩
  obtain ⟨L, b1, b2, b3, b4, b5, b6, b7, b8, b9⟩ := id a1
  have hnc : m_nc (m_al h s n) = m_nc h + 1 := rfl
  have hns : m_ns (m_al h s n) = m_ns h + n := rfl
  have hq1 := q1.1
  have hq2 := q1.2.1
  have hR1 := C.2.2.2.2.2.2.2.2.2.2.1.2.2.1
  have hR2 := C.2.2.2.2.2.2.2.2.2.2.1.2.2.2
  refine go l D dA base p e R s0 m args below meth c _ μ H locs cells slots ls L C.1 C.2.1 C.2.2.2.2.1 C.2.2.2.2.2.2.2.1 C.2.2.2.2.2.2.2.2.2.2.2.1 b1 b2 a2 (fun q hq => Nat.le_trans C.2.2.2.2.2.2.2.2.2.2.2.2.2.2.2.2.1 hq) (by omega) (by omega) (fun q H1 c1 c2 c3 => ?_)
  have hrel := am_Rel_al hs b3 b4 b5 b6 b7 b8 b9 c1 c2
  have K := q2 l D dA base b n0 xs p e R s0 m args below meth c mc ms Qc XC C (am_up μ (s, m_nx h s) q) H1 locs (cells + 1) (slots + n) ls hrel c3 (a3.move am_up_ext hle)
    (((hc a4).mono hle).cons (show m_nx h s < m_nx (m_al h s n) s by rw [m_nx_al, if_pos rfl]; exact Nat.lt_succ_self _)) (by omega) (by omega) (fun μ' t e1 e2 e3 e4 => a7 μ' t (am_up_ext.trans hle e1) e2 e3 e4)
  rw [List.map_cons, am_vs_ext am_up_ext (hc a4)] at K
  rw [show am_v (am_up μ (s, m_nx h s) q) (.inr (.inr (some (s, m_nx h s)))) = .ref q from by show Value.ref (am_up μ (s, m_nx h s) q (s, m_nx h s)) = _; rw [am_up_eq]] at K
  exact K
theorem am_clD {ci : Nat} {C : String} {T : u_T} {N : Nat} (hc : vwCl[ci]? = some (C, T, N)) : ∀ k, k < N → defaultValue (am_tyX ci k) = (match am_rf ci k with | true => Value.null | false => Value.int 0) := by
  match ci, hc with
  | 0, hc => cases hc; decide +kernel
  | 1, hc => cases hc; decide +kernel
  | 2, hc => cases hc; decide +kernel
  | 3, hc => cases hc; decide +kernel
  | 4, hc => cases hc; decide +kernel
  | 5, hc => cases hc; decide +kernel
  | 6, hc => cases hc; decide +kernel
  | 7, hc => cases hc; decide +kernel
  | 8, hc => cases hc; decide +kernel
  | 9, hc => cases hc; decide +kernel
  | 10, hc => cases hc; decide +kernel
  | 11, hc => cases hc; decide +kernel
  | k + 12, hc => simp at hc
theorem sim_new {ix i1 i2 i3 : Nat} (s ci : Nat) {C : String} {T : u_T} (N : Nat) (d0 : decode M.2.1 pc = .ok (.new ix, 3)) (hcl : vwCl[ci]? = some (C, T, N)) (hs : am_isO s ci = true) (w1 : lw_tbl[i1]? = some (.classLink M.1.cls ix C)) (w2 : lw_tbl[i2]? = some (.instantiable C N)) (w3 : lw_tbl[i3]? = some (.initialized C))
    (k : Sim M d (pc + 3) lv (.inr (.inr (some (s, m_nx h s))) :: st) (m_al h s N) r) : Sim M d pc lv st h r :=
  sim_al (am_kd0 hs) (fun c => c) (fun l D dA base p e R s0 m args below meth c Q μ H locs cells slots ls L hx hb hown ht hK hP hD hS hA hcc hss kk => by
    obtain ⟨f1, f2, f3, f4, f5⟩ := am_clF hcl
    refine va_new (fs := am_fs (am_up μ (s, m_nx h s) 0) (m_al h s N) s (m_nx h s)) hx hb ht f2 (am_tyX ci) f3 hown (am_Tw ht w1 rfl) (am_Tw ht w2 rfl) (am_Tw ht w3 rfl) hK hP hD hS hA hcl (fun j hj => ?_) hcc hss d0 (fun q H1 c1 c2 c3 => kk q H1 ?_ ?_ c3)
    · have e2 := (am_isO_of hs).2
      rw [vp_V, List.getD_eq_getElem?_getD, am_fs_get e2 (by rw [← f1]; exact hj), am_clD hcl j hj]
      cases am_rf ci j
      · show Value.int 0 = Value.int _
        rw [m_gi_al, if_pos ⟨rfl, rfl⟩]
      · show Value.null = va_rf _
        rw [m_gr_al, if_pos ⟨rfl, rfl⟩]; rfl
    all_goals
      rw [am_ent0 (a := (s, m_nx h s)) hs]
      have hfs : am_fs (am_up μ (s, m_nx h s) q) (m_al h s N) s (m_nx h s) = am_fs (am_up μ (s, m_nx h s) 0) (m_al h s N) s (m_nx h s) := by
        unfold am_fs
        congr 1
        funext j
        cases am_rf (am_ci s) j
        · rfl
        · show va_rf _ = va_rf _
          rw [m_gr_al, if_pos ⟨rfl, rfl⟩]; rfl
      rw [hfs]
      assumption) k
theorem am_cA {D : va_G} {dA : Nat → ClassId} {s0 : State} {ty : FieldType} {t : Nat} {cA : ClassId} (hK : va_K D vwCl (am_tys dA) s0) (hK1 : va_K D vwCl (am_tys dA ++ [(cA, ty)]) s0) (ht : (am_tys dA)[t]? = some (dA t, ty)) : cA = dA t := by
  have h1 := (hK.2 t _ ht).2
  have h2 := (hK1.2 (am_tys dA).length (cA, ty) (by rw [List.getElem?_append_right (Nat.le_refl _), Nat.sub_self]; rfl)).2
  cases ty with
  | object C =>
    obtain ⟨_, _, _, _, _, g1⟩ := h1
    obtain ⟨_, _, _, _, _, g2⟩ := h2
    exact Option.some.inj (g2.symm.trans g1)
  | _ =>
    have g1 : s0.vm.findClass _ = some (dA t) := h1
    have g2 : s0.vm.findClass _ = some cA := h2
    exact Option.some.inj (g2.symm.trans g1)
theorem m_nlt {n : Int32} {N : Nat} (hn : n = nI N) (hN : N < 2 ^ 31) : ¬ n < 0 ∧ n.toNatClampNeg = N := by
  subst hn
  exact ⟨nI_pos hN, nI_clamp hN⟩
theorem sim_newI {atype : ArrayType} {i1 : Nat} {n : Int32} (s t : Nat) {ty : FieldType} (N : Nat) (d0 : decode M.2.1 pc = .ok (.newarray atype, 2)) (hty : newarray.typeOf atype = ty) (hs : am_isA s t = true) (hN : am_ln s = N) (hn : n = nI N) (hN2 : N ≤ 100000) (ht : ∀ dA : Nat → ClassId, (am_tys dA)[t]? = some (dA t, ty)) (hdf : defaultValue ty = .int 0) (hcb : componentBytes ty ≤ 8) (w1 : lw_tbl[i1]? = some (.arrayClass ty))
    (k : Sim M d (pc + 2) lv (.inr (.inr (some (s, m_nx h s))) :: st) (m_al h s N) r) : Sim M d pc lv (.inl n :: st) h r :=
  sim_al (am_kd1 hs) (fun c => c.tail) (fun l D dA base p e R s0 m args below meth c Q μ H locs cells slots ls L hx hb hown ht9 hK hP hD hS hA hcc hss kk => by
    obtain ⟨z1, z2⟩ := m_nlt hn (by omega)
    subst hty
    refine va_newa (atype := atype) (a0 := (am_ln s, .inl fun j => m_gi (m_al h s N) s (m_nx h s) j)) (N' := N) hx hb (am_Tw ht9 w1 rfl) rfl hK hP hD hS hA (fun cA => ?_) z1 z2 (Nat.le_trans (Nat.mul_le_mul hN2 hcb) (Nat.le_of_ble_eq_true rfl)) hcc hss d0 (fun q cA H1 hK1 c1 c2 c3 => ?_)
    · rw [vp_cell_i, hN]
      congr 1
      funext j
      rw [m_gi_al, if_pos ⟨rfl, rfl⟩, hdf]
    · cases am_cA hK hK1 (ht dA)
      exact kk q H1 (by rw [am_ent1 (a := (s, m_nx h s)) hs]; exact c1) (by rw [am_ent1 (a := (s, m_nx h s)) hs]; exact c2) c3) k
theorem sim_newL {i1 : Nat} {n : Int32} (s N : Nat) (d0 : decode M.2.1 pc = .ok (.newarray .long, 2)) (hs : am_isL s = true) (hN : am_ln s = N) (hn : n = nI N) (hN2 : N ≤ 100000) (w1 : lw_tbl[i1]? = some (.arrayClass .long))
    (k : Sim M d (pc + 2) lv (.inr (.inr (some (s, m_nx h s))) :: st) (m_al h s N) r) : Sim M d pc lv (.inl n :: st) h r :=
  sim_al (am_kd4 hs) (fun c => c.tail) (fun l D dA base p e R s0 m args below meth c Q μ H locs cells slots ls L hx hb hown ht9 hK hP hD hS hA hcc hss kk => by
    obtain ⟨z1, z2⟩ := m_nlt hn (by omega)
    refine va_newa (atype := .long) (ty := .long) (a0 := (am_ln s, .inr (.inl fun j => m_gl (m_al h s N) s (m_nx h s) j))) (N' := N) hx hb (am_Tw ht9 w1 rfl) rfl hK hP hD hS hA (fun cA => ?_) z1 z2 (Nat.le_trans (Nat.mul_le_mul hN2 (show componentBytes .long ≤ 8 by decide)) (Nat.le_of_ble_eq_true rfl)) hcc hss d0 (fun q cA H1 hK1 c1 c2 c3 => ?_)
    · rw [vp_cell_l, hN]
      congr 1
      funext j
      rw [m_gl_al, if_pos ⟨rfl, rfl⟩]; rfl
    · cases am_cA hK hK1 (t := 3) rfl
      exact kk q H1 (by rw [am_ent4 (a := (s, m_nx h s)) hs]; exact c1) (by rw [am_ent4 (a := (s, m_nx h s)) hs]; exact c2) c3) k
theorem sim_newR {ix i1 i2 c0 : Nat} {n : Int32} (s t N : Nat) {C : String} (d0 : decode M.2.1 pc = .ok (.anewarray ix, 3)) (ht : am_rty t = some (c0, C)) (hs : am_isQ s t = true) (hN : am_ln s = N) (hn : n = nI N) (hN2 : N ≤ 100000) (w1 : lw_tbl[i1]? = some (.classLink M.1.cls ix C)) (w2 : lw_tbl[i2]? = some (.arrayOver (.object C)))
    (k : Sim M d (pc + 3) lv (.inr (.inr (some (s, m_nx h s))) :: st) (m_al h s N) r) : Sim M d pc lv (.inl n :: st) h r :=
  sim_al (am_kd5 (am_isQ_of hs).1) (fun c => c.tail) (fun l D dA base p e R s0 m args below meth c Q μ H locs cells slots ls L hx hb hown ht9 hK hP hD hS hA hcc hss kk => by
    obtain ⟨z1, z2⟩ := m_nlt hn (by omega)
    obtain ⟨o3, o4⟩ := am_isQ_of hs
    refine va_newq (N' := N) hx hb hown (am_Tw ht9 w1 rfl) (va_AO.of (am_Tw ht9 w2 rfl)) hK hP hD hS hA z1 z2 (Nat.le_trans (Nat.mul_le_mul_right 4 hN2) (Nat.le_of_ble_eq_true rfl)) hcc hss d0 (fun q cA H1 hK1 c1 c2 c3 => ?_)
    cases am_cA hK hK1 (am_rty_tys ht).1
    have he : am_ent dA (am_up μ (s, m_nx h s) q) (m_al h s N) (s, m_nx h s) = .inl (dA t, N, .inr (.inr (.inr (.inr (fun _ => none))))) := by
      rw [am_ent5 (a := (s, m_nx h s)) o3]
      show Sum.inl (dA (am_ty s), am_ln s, _) = _
      rw [o4, hN]
      congr 7
      funext j
      rw [m_gr_al, if_pos ⟨rfl, rfl⟩]; rfl
    exact kk q H1 (by rw [he]; exact c1) (by rw [he]; exact c2) c3) k
end SimMake
end
section
/-! ## contracts and calls -/
theorem am_Wd.moved {D : va_G} {dA : Nat → ClassId} {base b n : Nat} {xs : Nat → Int32} {u U : State} {H : Heap} (hvm : u.vm.Alike U.vm) (h : am_Wd D dA base b n xs u H) : am_Wd D dA base b n xs U H :=
  ⟨va_K.moved hvm h.1, vx_Zq.moved hvm h.2.1, vx_Zq.moved hvm h.2.2.1, ⟨va_X.moved hvm h.2.2.2.1.1, h.2.2.2.1.2⟩, h.2.2.2.2.1, h.2.2.2.2.2.1, fun i j hi hj hij => va_Nc.moved hvm (h.2.2.2.2.2.2 i j hi hj hij)⟩
theorem am_Wd.kept {D : va_G} {dA : Nat → ClassId} {base b n : Nat} {xs : Nat → Int32} {U : State} {H H1 : Heap} (h : am_Wd D dA base b n xs U H) (hz : H.size ≤ H1.size) (hq : ∀ a : Nat, a < H.size → ¬ base ≤ a → H1[a]? = H[a]?) : am_Wd D dA base b n xs U H1 :=
  ⟨h.1, vx_Zq.kept h.2.1 hq, vx_Zq.kept h.2.2.1 hq, ⟨va_X.kept h.2.2.2.1.1 (hq b (Nat.lt_of_lt_of_le h.2.2.2.2.1 h.2.2.2.2.2.1) (Nat.not_le.mpr h.2.2.2.2.1)), h.2.2.2.1.2⟩, h.2.2.2.2.1, Nat.le_trans h.2.2.2.2.2.1 hz, h.2.2.2.2.2.2⟩
def am_Pc (D : va_G) (dA : Nat → ClassId) (base b n : Nat) (xs : Nat → Int32) (μ : Nat × Nat → Nat) (h : am_H) (As : List am_V) : Array Value → State → Prop := fun v U =>
  v = (As.map (am_v μ)).toArray ∧ am_Wd D dA base b n xs U U.heap ∧ am_Rel D dA base b n xs μ h U.heap
def am_Qc (D : va_G) (dA : Nat → ClassId) (base b n : Nat) (xs : Nat → Int32) (μ : Nat × Nat → Nat) (h h' : am_H) (o : Option am_V ⊕ Nat) : Array Value → State → Outcome → State → Prop := fun _ st oc t =>
  ∃ (v : Option am_V) (μ' : Nat × Nat → Nat), o = .inl v ∧ oc = .returned (v.map (am_v μ')) ∧ am_ext μ h μ' ∧ am_Rel D dA base b n xs μ' h' t.heap ∧ (∀ w, v = some w → am_clo h' w) ∧ va_F (fun q : Nat => base ≤ q) st t
def am_XC (D : va_G) (dA : Nat → ClassId) (base b n : Nat) (xs : Nat → Int32) (μ : Nat × Nat → Nat) (h h' : am_H) (o : Option am_V ⊕ Nat) : String → State → State → Prop := fun E st t =>
  ∃ (k : Nat) (μ' : Nat × Nat → Nat), o = .inr k ∧ E = am_xn k ∧ am_ext μ h μ' ∧ am_Rel D dA base b n xs μ' h' t.heap ∧ va_F (fun q : Nat => base ≤ q) st t
def am_rm (d mc ms : Nat) : Room := { frames := d, locals := 36 * d, cells := mc, slots := ms }
def am_Con (M : am_M) (d : Nat) (As : List am_V) (h : am_H) (r : am_R) : Prop := ∀ (h' : am_H) (o : Option am_V ⊕ Nat), r = some (h', o) → am_le h h' ∧ (am_cls h As →
  ∀ (l : Launch) (D : va_G) (dA : Nat → ClassId) (base b n : Nat) (xs : Nat → Int32) (μ : Nat × Nat → Nat), l.stackTraces = false →
    vx_Met l M.1 (am_w M) (am_rm d (m_nc h' - m_nc h) (m_ns h' - m_ns h)) (am_Pc D dA base b n xs μ h As) (am_Qc D dA base b n xs μ h h' o) (am_XC D dA base b n xs μ h h' o) (m_nc h' - m_nc h) (m_ns h' - m_ns h) (fun q : Nat => base ≤ q))
theorem am_Pc.blind {D : va_G} {dA : Nat → ClassId} {base b n : Nat} {xs : Nat → Int32} {μ : Nat × Nat → Nat} {h : am_H} {As : List am_V} : FrameBlind (am_Pc D dA base b n xs μ h As) := fun a U g mk q =>
  ⟨q.1, am_Wd.moved (u := U) (U := U.calling g mk a) (Vm.Alike.refl U.vm) q.2.1, q.2.2⟩
/-- the locals at the entry -/
def am_lv0 : List am_V → List (Option am_V)
  | [] => []
  | .inr (.inl y) :: l => some (.inr (.inl y)) :: none :: am_lv0 l
  | v :: l => some v :: am_lv0 l
def am_lvN (nL : Nat) (As : List am_V) : List (Option am_V) := am_lv0 As ++ List.replicate (nL - (am_lv0 As).length) none
theorem am_pr_app {μ : Nat × Nat → Nat} : ∀ {l l' : List (Option am_V)} {k : Nat}, am_pr μ k (l ++ l') = am_pr μ k l ++ am_pr μ (k + l.length) l'
  | [], _, _ => rfl
  | none :: l, l', k => by
    rw [List.cons_append, am_pr, am_pr, am_pr_app, List.length_cons, show k + 1 + l.length = k + (l.length + 1) by omega]
  | some v :: l, l', k => by
    rw [List.cons_append, am_pr, am_pr, am_pr_app, List.length_cons, show k + 1 + l.length = k + (l.length + 1) by omega]; rfl
theorem am_pr_none {μ : Nat × Nat → Nat} : ∀ {n k : Nat}, am_pr μ k (List.replicate n none) = []
  | 0, _ => rfl
  | n + 1, k => by rw [List.replicate_succ, am_pr, am_pr_none]
theorem am_pr_lv0 {μ : Nat × Nat → Nat} : ∀ {As : List am_V} {k : Nat}, am_pr μ k (am_lv0 As) = lv_args k (As.map (am_v μ))
  | [], _ => rfl
  | .inr (.inl y) :: l, k => by
    rw [List.map_cons, lv_args, am_lv0, am_pr, am_pr, am_pr_lv0, if_pos (show (am_v μ (.inr (.inl y))).category = 2 from rfl)]
  | .inl x :: l, k => by
    rw [List.map_cons, lv_args, am_lv0, am_pr, am_pr_lv0, if_neg (show ¬ (am_v μ (.inl x)).category = 2 by rw [am_cat1]; decide)]
    intro y hy; cases hy
  | .inr (.inr o) :: l, k => by
    rw [List.map_cons, lv_args, am_lv0, am_pr, am_pr_lv0, if_neg (show ¬ (am_v μ (.inr (.inr o))).category = 2 by rw [am_cat1r]; decide)]
    intro y hy; cases hy
theorem am_lv0_mem : ∀ {As : List am_V} {v : am_V}, some v ∈ am_lv0 As → v ∈ As
  | [], v, h => by simp [am_lv0] at h
  | .inr (.inl y) :: l, v, h => by
    simp only [am_lv0, List.mem_cons, Option.some.injEq, reduceCtorEq, false_or] at h
    rcases h with h | h
    · rw [h]; exact List.mem_cons_self
    · exact List.mem_cons_of_mem _ (am_lv0_mem h)
  | .inl x :: l, v, h => by
    simp only [am_lv0, List.mem_cons, Option.some.injEq] at h
    rcases h with h | h
    · rw [h]; exact List.mem_cons_self
    · exact List.mem_cons_of_mem _ (am_lv0_mem h)
  | .inr (.inr o) :: l, v, h => by
    simp only [am_lv0, List.mem_cons, Option.some.injEq] at h
    rcases h with h | h
    · rw [h]; exact List.mem_cons_self
    · exact List.mem_cons_of_mem _ (am_lv0_mem h)
theorem am_Ls0 {nL : Nat} {μ : Nat × Nat → Nat} {h : am_H} {As : List am_V} {ls : Array Slot} (hl : lv_has ls nL (lv_args 0 (As.map (am_v μ)))) (hc : am_cls h As) : am_Ls nL μ h (am_lvN nL As) ls := by
  refine ⟨?_, fun i v hi => ?_⟩
  · rw [am_lvN, am_pr_app, am_pr_none, List.append_nil, am_pr_lv0]
    exact hl
  · have := List.mem_of_getElem? hi
    rw [am_lvN, List.mem_append] at this
    rcases this with h1 | h1
    · exact hc v (am_lv0_mem h1)
    · exact absurd (List.eq_of_mem_replicate h1) (by simp)
theorem am_sl_len {μ : Nat × Nat → Nat} : ∀ {As : List am_V}, (lg_sl (As.map (am_v μ))).length = (am_lv0 As).length
  | [] => rfl
  | .inr (.inl y) :: l => by
    have := am_sl_len (μ := μ) (As := l)
    simp only [lg_sl, List.map_cons, List.flatMap_cons, List.length_append, am_lv0, List.length_cons] at this ⊢
    rw [if_pos (show (am_v μ (.inr (.inl y))).category = 2 from rfl), this]
    simp; omega
  | .inl x :: l => by
    have := am_sl_len (μ := μ) (As := l)
    simp only [lg_sl, List.map_cons, List.flatMap_cons, List.length_append, am_lv0, List.length_cons] at this ⊢
    rw [if_neg (show ¬ (am_v μ (.inl x)).category = 2 by rw [am_cat1]; decide), this]
    simp; omega
  | .inr (.inr o) :: l => by
    have := am_sl_len (μ := μ) (As := l)
    simp only [lg_sl, List.map_cons, List.flatMap_cons, List.length_append, am_lv0, List.length_cons] at this ⊢
    rw [if_neg (show ¬ (am_v μ (.inr (.inr o))).category = 2 by rw [am_cat1r]; decide), this]
    simp; omega
theorem am_body {M : am_M} {d : Nat} {As : List am_V} {h : am_H} {r : am_R} (hsz : (am_lv0 As).length ≤ M.2.2.1) (k : Sim M d 0 (am_lvN M.2.2.1 As) [] h r) {h' : am_H} {o : Option am_V ⊕ Nat} (e : r = some (h', o)) (hcl : am_cls h As)
    {l : Launch} {D : va_G} {dA : Nat → ClassId} {base b n : Nat} {xs : Nat → Int32} {μ : Nat × Nat → Nat} (hst : l.stackTraces = false) {p : Program} {e9 : Env} {s : State} {m : MethodId} {args : Array Value} {below : List Frame} {meth : Method} {c : Code} {s₁ : State}
    (B : BodyLoose p l M.1 (headSpec (am_w M) (am_rm d (m_nc h' - m_nc h) (m_ns h' - m_ns h))) M.2.1 M.2.2.1 M.2.2.2.1 e9 s m args below meth c s₁) (hml : c.maxLocals = M.2.2.1) (htab : c.exceptionTable.toList = tableOf M.2.2.2.2) (hv : am_Pc D dA base b n xs μ h As args s) :
    W p l e9 (headSpec (am_w M) (am_rm d (m_nc h' - m_nc h) (m_ns h' - m_ns h))).room s m args below meth c s.heap [] 0 0 (vx_MQ below (am_Qc D dA base b n xs μ h h' o) (am_XC D dA base b n xs μ h h' o) args s (m_nc h' - m_nc h) (m_ns h' - m_ns h) (fun q : Nat => base ≤ q)) (entryFrame m args M.2.2.1) := by
  obtain ⟨q1, q2⟩ := k h' o e
  obtain ⟨rfl, hW, hR⟩ := hv
  have hts := atoms_spec (ws := am_w M) B.pre
  rw [lg_entry_eq]
  have hl := lv_entry (As.map (am_v μ)) (n := M.2.2.1) (by rw [am_sl_len]; exact hsz)
  generalize (lg_sl (As.map (am_v μ)) ++ List.replicate (M.2.2.1 - (lg_sl (As.map (am_v μ))).length) Slot.unset).toArray = ls at hl ⊢
  exact q2 l D dA base b n xs p e9 _ s m _ below meth c (m_nc h' - m_nc h) (m_ns h' - m_ns h) _ _ ⟨B.exec, B.bytes, hml, B.returns, findClass_of_methodNamed B.named, B.notSynchronized, (name_of_methodNamed B.named B.method).1, fun w hw => hts w (List.mem_cons_of_mem _ hw), htab, hst, ⟨Nat.le_refl _, Nat.le_refl _, Nat.le_refl _, Nat.le_refl _⟩, hW⟩
    μ s.heap [] 0 0 ls hR va_S.rf (am_Ls0 hl hcl) (fun v hv => by cases hv) (Nat.zero_add _) (Nat.zero_add _)
    (fun μ' t e1 e2 e3 e4 => ⟨fun v ho hcl => ⟨v, μ', ho, rfl, e1, e2, hcl, e4⟩, fun k ho => ⟨k, μ', ho, rfl, e1, e2, e4⟩⟩)
theorem am_con {y : MethodName} {cc : ByteArray} {nL : Nat} {ret : Option FieldType} {d : Nat} {As : List am_V} {h : am_H} {r : am_R} (hpl : plainName y.cls = true) (hsz : (am_lv0 As).length ≤ nL) (k : Sim (y, cc, nL, ret, []) d 0 (am_lvN nL As) [] h r) : am_Con (y, cc, nL, ret, []) d As h r := by
  intro h' o e
  refine ⟨(k h' o e).1, fun hcl l D dA base b n xs μ hst => ?_⟩
  refine vx_ofW (cc := cc) (maxL := nL) (ret := ret) hpl rfl ?_
  intro p e9 s m args below meth c s₁ B hml htab hv
  exact am_body (M := (y, cc, nL, ret, [])) hsz k e hcl hst B hml (by
    show c.exceptionTable.toList = []
    cases hx : c.exceptionTable.toList with
    | nil => rfl
    | cons x l => exact (htab x (by rw [hx]; exact List.mem_cons_self)).elim) hv
theorem am_conX {y : MethodName} {cc : ByteArray} {nL : Nat} {ret : Option FieldType} {x0 : Nat × Nat × Nat × Nat} {hh : List (Nat × Nat × Nat × Nat)} {d : Nat} {As : List am_V} {h : am_H} {r : am_R} (hpl : plainName y.cls = true) (hsz : (am_lv0 As).length ≤ nL) (k : Sim (y, cc, nL, ret, x0 :: hh) d 0 (am_lvN nL As) [] h r) : am_Con (y, cc, nL, ret, x0 :: hh) d As h r := by
  intro h' o e
  refine ⟨(k h' o e).1, fun hcl l D dA base b n xs μ hst => ?_⟩
  refine vx_ofWH (cc := cc) (maxL := nL) (ret := ret) (hh := x0 :: hh) hpl rfl ?_
  intro p e9 s m args below meth c s₁ B hml hv
  exact am_body (M := (y, cc, nL, ret, x0 :: hh)) hsz k e hcl hst B hml (vx_table (x := y) (y := y) (bytes := cc) (maxL' := nL) (ret' := ret) (hh := x0 :: hh) B (atoms_spec (ws := am_w (y, cc, nL, ret, x0 :: hh)) B.pre _ List.mem_cons_self)) hv
/-- thrown over the frame -/
def SimX (M : am_M) (d pc : Nat) (lv : List (Option am_V)) (h1 : am_H) (kx : Nat) (r : am_R) : Prop :=
  ∀ (h' : am_H) (o : Option am_V ⊕ Nat), r = some (h', o) → am_le h1 h' ∧
  ∀ (l : Launch) (D : va_G) (dA : Nat → ClassId) (base b n : Nat) (xs : Nat → Int32) (p : Program) (e : Env) (R : Room) (s : State) (m : MethodId) (args : Array Value) (below : List Frame) (meth : Method) (c : Code) (mc ms : Nat) (Qc : Array Value → State → Outcome → State → Prop) (XC : String → State → State → Prop),
    am_Cx l D dA base b n xs M d p R s m args meth c mc ms →
    ∀ (μ : Nat × Nat → Nat) (H : Heap) (locs : List Loc) (cells slots : Nat) (ls : Array Slot) (rest : List Value) (q : Addr) (ce : Cell),
      am_Rel D dA base b n xs μ h1 H → va_S (fun q : Nat => base ≤ q) s.heap H locs → am_Ls M.2.2.1 μ h1 lv ls →
      cells + (m_nc h' - m_nc h1) = mc → slots + (m_ns h' - m_ns h1) = ms → am_Fin D dA base b n xs s args μ h1 h' o Qc XC →
      H[q]? = some ce → ce.vm = .none → s.vm.findClass (am_xn kx) = some ce.cls →
      vx_W p l e R s m args below meth c H locs cells slots (vx_MQ below Qc XC args s mc ms (fun q : Nat => base ≤ q)) (F0 m pc ls rest) q
theorem simx_out {y : MethodName} {cc : ByteArray} {nL : Nat} {ret : Option FieldType} {d pc : Nat} {lv : List (Option am_V)} {h1 : am_H} {kx : Nat} : SimX (y, cc, nL, ret, []) d pc lv h1 kx (some (h1, .inr kx)) := by
  intro h' o e
  cases e
  refine ⟨am_le.refl _, fun l D dA base b n xs p e R s m args below meth c mc ms Qc XC C μ H locs cells slots ls rest q ce a1 a2 a3 a5 a6 a7 g1 g2 g3 => ?_⟩
  refine vx_out (E := am_xn kx) (ce := ce) (fun x hx => ?_) C.2.2.2.2.2.1 g1 g2 g3 (fun t ht hv => (a7 μ t (am_ext.refl _ _) (by rw [ht]; exact a1) hv (a2.F ht)).2 kx rfl) a2.2.2 (by omega) (by omega)
  have h9 : c.exceptionTable.toList = [] := C.2.2.2.2.2.2.2.2.1
  rw [h9] at hx
  cases hx
/-- the heart of every call -/
theorem sim_core {M M1 : am_M} {d pc : Nat} {lv : List (Option am_V)} {st rest : List am_V} {h : am_H} {r r1 : am_R}
    (hrest : am_cls h st → am_cls h rest) (hle1 : ∀ h1 o1, r1 = some (h1, o1) → am_le h h1) (hnone : r1 = none → r = none)
    (hret : ∀ h1 v, r1 = some (h1, .inl v) → Sim M d (pc + 3) lv (v.toList ++ rest) h1 r) (hexc : ∀ h1 k, r1 = some (h1, .inr k) → SimX M d pc lv h1 k r)
    (hrun : ¬ r = none → ∀ (h1 : am_H) (o1 : Option am_V ⊕ Nat), r1 = some (h1, o1) → ∀ (l : Launch) (D : va_G) (dA : Nat → ClassId) (base b n : Nat) (xs : Nat → Int32) (p : Program) (e : Env) (R : Room) (s : State) (m : MethodId) (args : Array Value) (below : List Frame) (meth : Method) (c : Code) (mc ms : Nat),
      am_Cx l D dA base b n xs M d p R s m args meth c mc ms → ∀ (μ : Nat × Nat → Nat) (H : Heap) (locs : List Loc) (cells slots : Nat) (ls : Array Slot),
      am_Rel D dA base b n xs μ h H → va_S (fun q : Nat => base ≤ q) s.heap H locs → am_Ls M.2.2.1 μ h lv ls → am_cls h st → cells + (m_nc h1 - m_nc h) ≤ mc → slots + (m_ns h1 - m_ns h) ≤ ms →
      ∃ a0, vx_Run p l e R s m args below meth c H locs cells slots (m_nc h1 - m_nc h) (m_ns h1 - m_ns h) (F0 m pc ls (st.map (am_v μ))) (rest.map (am_v μ)) (am_Qc D dA base b n xs μ h h1 o1 a0) (am_XC D dA base b n xs μ h h1 o1) (fun q : Nat => base ≤ q)) :
    Sim M d pc lv st h r := by
  intro h' o e
  rcases hr1 : r1 with _ | ⟨h1, o1⟩
  · rw [hnone hr1] at e; cases e
  have hl1 := hle1 h1 o1 hr1
  have hboth : am_le h1 h' := by
    rcases o1 with v | k
    · exact (hret h1 v hr1 h' o e).1
    · exact (hexc h1 k hr1 h' o e).1
  refine ⟨hl1.trans hboth, fun l D dA base b n xs p e9 R s m args below meth c mc ms Qc XC C μ H locs cells slots ls a1 a2 a3 a4 a5 a6 a7 => ?_⟩
  have z1 := hl1.1
  have z2 := hl1.2.1
  have z3 := hboth.1
  have z4 := hboth.2.1
  obtain ⟨a0, run⟩ := hrun (by rw [e]; exact fun z => by cases z) h1 o1 hr1 l D dA base b n xs p e9 R s m args below meth c mc ms C μ H locs cells slots ls a1 a2 a3 a4 (by omega) (by omega)
  intro T hT X
  rcases run T hT X with ⟨v', st₀, t, T', L, h0, X', hL, e1, e2, ⟨v, μ', ho, hov, ex, hRel, hcl, hF⟩, go⟩ | ⟨q, st₀, t, T', L, E, ce, h0, X', hL, e1, e2, ⟨k, μ', ho, hE, ex, hRel, hF⟩, hce, hcv, hcls, go⟩
  · subst ho
    cases hov
    obtain ⟨k1, k2, k3⟩ := vx_keep h0 e1 a2 (fun q _ h => h) (fun q h => h) hL hF
    have K := (hret h1 v hr1 h' o e).2 l D dA base b n xs p e9 R s m args below meth c mc ms Qc XC C μ' T'.heap (locs ++ L) (cells + (m_nc h1 - m_nc h)) (slots + (m_ns h1 - m_ns h)) ls (by rw [e1]; exact hRel) k3 (a3.move ex hl1)
      (fun w hw => by
        rcases List.mem_append.mp hw with g | g
        · cases v with
          | none => cases g
          | some u =>
            simp only [Option.toList, List.mem_singleton] at g
            rw [g]; exact hcl u rfl
        · exact (hrest a4 w g).mono hl1) (by omega) (by omega) (fun μ2 t2 f1 f2 f3 f4 => a7 μ2 t2 (ex.trans hl1 f1) f2 f3 f4)
    rw [List.map_append, am_vs_ext ex (hrest a4)] at K
    have hv : v.toList.map (am_v μ') = (v.map (am_v μ')).toList := by cases v <;> rfl
    rw [hv] at K
    obtain ⟨t2, g1, g2⟩ := K T' rfl X'
    exact ⟨t2, go t2 g1, g2⟩
  · subst ho
    obtain ⟨k1, k2, k3⟩ := vx_keep h0 e1 a2 (fun q _ h => h) (fun q h => h) hL hF
    have K := (hexc h1 k hr1 h' o e).2 l D dA base b n xs p e9 R s m args below meth c mc ms Qc XC C μ' T'.heap (locs ++ L) (cells + (m_nc h1 - m_nc h)) (slots + (m_ns h1 - m_ns h)) ls (rest.map (am_v μ)) q ce (by rw [e1]; exact hRel) k3 (a3.move ex hl1) (by omega) (by omega) (fun μ2 t2 f1 f2 f3 f4 => a7 μ2 t2 (ex.trans hl1 f1) f2 f3 f4) (by rw [e1]; exact hce) hcv (by rw [← hE]; exact hcls)
    obtain ⟨t2, g1, g2⟩ := K T' rfl X'
    exact ⟨t2, go.trans g1, g2⟩
theorem am_run_of {p : Program} {l : Launch} {e : Env} {R : Room} {s : State} {m : MethodId} {args : Array Value} {below : List Frame} {meth : Method} {c : Code} {H : Heap} {locs : List Loc} {cells slots mc ms : Nat} {g : JFrame} {rest : List Value} {Qa : State → Outcome → State → Prop} {XC : String → State → State → Prop} {free : Addr → Prop}
    (h : va_Run p l e R s m args below meth c H locs cells slots mc ms g rest Qa free) : vx_Run p l e R s m args below meth c H locs cells slots mc ms g rest Qa XC free := fun T hT X => Or.inl (h T hT X)
theorem am_met_of {l : Launch} {y : MethodName} {ws : List Cond} {rm : Room} {Pc : Array Value → State → Prop} {Qc : Array Value → State → Outcome → State → Prop} {XC : String → State → State → Prop} {mc ms : Nat} {free : Addr → Prop} (h : vx_Met l y ws rm Pc Qc XC mc ms free) (hx : ∀ E st t, ¬ XC E st t) : Met l y ws rm Pc Qc mc ms free :=
  MetFree.mono h (fun _ _ h => h) (fun _ _ _ _ _ h => h) (fun a s o t hP hq => by
    rcases hq with h | ⟨q, -, E, ce, L, h, -⟩
    · exact h
    · exact (hx _ _ _ h).elim)
end
section
section SimCalls
variable {M : am_M} {d pc : Nat} {lv : List (Option am_V)} {st rest : List am_V} {h : am_H} {r r1 : am_R}
def am_wd (l : List am_V) : Nat := match l with
  | [] => 0
  | .inr (.inl _) :: l => 2 + am_wd l
  | _ :: l => 1 + am_wd l
theorem am_wd_eq {μ : Nat × Nat → Nat} : ∀ {l : List am_V}, ((l.map (am_v μ)).map fun v => v.category).sum = am_wd l
  | [] => rfl
  | .inr (.inl y) :: l => by rw [List.map_cons, List.map_cons, List.sum_cons, am_wd_eq (l := l)]; rfl
  | .inl x :: l => by
    rw [List.map_cons, List.map_cons, List.sum_cons, am_wd_eq (l := l), am_cat1, am_wd]
    intro y hy; cases hy
  | .inr (.inr o) :: l => by
    rw [List.map_cons, List.map_cons, List.sum_cons, am_wd_eq (l := l), am_cat1r, am_wd]
    intro y hy; cases hy
/-- what the tables say of a method that is called: kd 0 static, 1 a constructor, 2 by the receiver -/
def am_Cal (M1 : am_M) (n kd : Nat) : Prop := am_cw M1 ∈ am_T ∧ Cond.initialized M1.1.cls ∈ am_T ∧ (kd = 0 → Cond.static M1.1 ∈ am_T) ∧ (kd ≠ 0 → Cond.instanceMethod M1.1 ∈ am_T) ∧ (kd = 1 → M1.1.name = "<init>") ∧ (kd = 2 → Cond.selects M1.1.cls M1.1 M1.1 ∈ am_T) ∧
  (M1.1.cls ≠ "java/lang/invoke/MethodHandle" ∧ M1.1.cls ≠ "java/lang/invoke/VarHandle") ∧ (parseMethodDescriptor M1.1.desc).map (fun d => d.parameters.length) = some n ∧ M1.2.2.1 ≤ 17
theorem am_hws {M1 : am_M} {n kd : Nat} (hc : am_Cal M1 n kd) {args : Array Value} {s : State} (ht : ∀ w ∈ am_T, w.before args s = true) : ∀ w ∈ am_w M1, ∀ (a' : Array Value) (U : State), s.WarmedH U.vm → w.before a' U = true := by
  intro w hw a' U hW
  have hm : w ∈ am_T := by
    rcases List.mem_cons.mp hw with e | e
    · rw [e]; exact hc.1
    · exact e
  exact am_gw_warm (List.mem_filter.mp hm).2 hW (ht w hm)
theorem am_len {y : MethodName} {n : Nat} (h : (parseMethodDescriptor y.desc).map (fun d => d.parameters.length) = some n) : ∀ sig, parseMethodDescriptor y.desc = some sig → n = sig.parameters.length := fun sig e => by
  rw [e] at h
  exact (Option.some.inj h).symm
theorem am_PcU {l : Launch} {D : va_G} {dA : Nat → ClassId} {base b n : Nat} {xs : Nat → Int32} {p : Program} {R : Room} {s : State} {m : MethodId} {args : Array Value} {meth : Method} {c : Code} {mc ms : Nat} {μ : Nat × Nat → Nat} {H : Heap} {locs : List Loc} {As : List am_V}
    (C : am_Cx l D dA base b n xs M d p R s m args meth c mc ms) (hR : am_Rel D dA base b n xs μ h H) (hS : va_S (fun q : Nat => base ≤ q) s.heap H locs) : ∀ U : State, U.heap = H → s.WarmedH U.vm → am_Pc D dA base b n xs μ h As (As.map (am_v μ)).toArray U := fun U hU hW =>
  ⟨rfl, by rw [hU]; exact (C.2.2.2.2.2.2.2.2.2.2.2.kept hS.1 hS.2.1).moved hW.alike, by rw [hU]; exact hR⟩
theorem sim_static {y : MethodName} {bytes : ByteArray} {nL1 ix i n : Nat} {ret1 : Option FieldType} {As : List am_V} (d1 : Nat) (d0 : decode M.2.1 pc = .ok (.invokestatic ix, 3)) (con : am_Con (y, bytes, nL1, ret1, []) d1 As h r1) (hc : am_Cal (y, bytes, nL1, ret1, []) n 0) (wl : lw_tbl[i]? = some (.methodLink M.1.cls ix y)) (hst : st = As.reverse ++ rest) (hn : As.length = n) (hd : d1 + 1 ≤ d) (hw : am_wd rest ≤ 8)
    (hnone : r1 = none → r = none) (hret : ∀ h1 v, r1 = some (h1, .inl v) → Sim M d (pc + 3) lv (v.toList ++ rest) h1 r) (hexc : ∀ h1 k, r1 = some (h1, .inr k) → SimX M d pc lv h1 k r) : Sim M d pc lv st h r := by
  subst hst
  refine sim_core (M1 := M) (rest := rest) (fun c w hw => c w (List.mem_append_right _ hw)) (fun h1 o1 e => (con h1 o1 e).1) hnone hret hexc ?_
  intro hrn h1 o1 e1 l D dA base b n0 xs p e R s m args below meth c mc ms C μ H locs cells slots ls a1 a2 a3 a4 a5 a6
  have hAs : am_cls h As := fun w hw => a4 w (List.mem_append_left _ (List.mem_reverse.mpr hw))
  have hts := C.2.2.2.2.2.2.2.1
  have hRm := C.2.2.2.2.2.2.2.2.2.2.1
  refine ⟨(As.map (am_v μ)).toArray, vx_runS (g := F0 m pc ls ((As.reverse ++ rest).map (am_v μ))) (As := As.map (am_v μ)) (n := n) (Ts := am_T) ⟨C.1, C.2.1, C.2.2.1, C.2.2.2.2.1, hts⟩ ((con h1 o1 e1).2 hAs l D dA base b n0 xs μ C.2.2.2.2.2.2.2.2.2.1)
    ⟨⟨rfl, rfl, Nat.le_trans hd hRm.1, Nat.le_trans (by have := hc.2.2.2.2.2.2.2.2; show 8 + (nL1 + 11) + 36 * d1 ≤ 36 * d; have h9 : nL1 ≤ 17 := this; omega) hRm.2.1, am_hws hc hts, List.mem_cons_self, hts _ hc.1, hts _ hc.2.1, hc.2.2.2.2.2.2.1, am_len hc.2.2.2.2.2.2.2.1, am_Tw hts wl rfl⟩, hts _ (hc.2.2.1 rfl)⟩
    ⟨am_Pc.blind, am_PcU C a1 a2⟩ rfl (by rw [List.length_map]; exact hn) a3.1.1 (by rw [List.map_append, List.map_reverse]) (lv_room (by rw [am_wd_eq]; exact hw)) d0 ⟨Nat.le_trans a5 hRm.2.2.1, Nat.le_trans a6 hRm.2.2.2⟩⟩
theorem sim_staticX {y : MethodName} {bytes : ByteArray} {nL1 ix i n : Nat} {ret1 : Option FieldType} {x0 : Nat × Nat × Nat × Nat} {hh : List (Nat × Nat × Nat × Nat)} {As : List am_V} (d1 : Nat) (d0 : decode M.2.1 pc = .ok (.invokestatic ix, 3)) (con : am_Con (y, bytes, nL1, ret1, x0 :: hh) d1 As h r1) (hc : am_Cal (y, bytes, nL1, ret1, x0 :: hh) n 0) (wl : lw_tbl[i]? = some (.methodLink M.1.cls ix y)) (hst : st = As.reverse ++ rest) (hn : As.length = n) (hd : d1 + 1 ≤ d) (hw : am_wd rest ≤ 8)
    (hnone : r1 = none → r = none) (hret : ∀ h1 v, r1 = some (h1, .inl v) → Sim M d (pc + 3) lv (v.toList ++ rest) h1 r) (hexc : ∀ h1 k, r1 = some (h1, .inr k) → SimX M d pc lv h1 k r) : Sim M d pc lv st h r := by
  subst hst
  refine sim_core (M1 := M) (rest := rest) (fun c w hw => c w (List.mem_append_right _ hw)) (fun h1 o1 e => (con h1 o1 e).1) hnone hret hexc ?_
  intro hrn h1 o1 e1 l D dA base b n0 xs p e R s m args below meth c mc ms C μ H locs cells slots ls a1 a2 a3 a4 a5 a6
  have hAs : am_cls h As := fun w hw => a4 w (List.mem_append_left _ (List.mem_reverse.mpr hw))
  have hts := C.2.2.2.2.2.2.2.1
  have hRm := C.2.2.2.2.2.2.2.2.2.2.1
  refine ⟨(As.map (am_v μ)).toArray, vx_runSX (hh := x0 :: hh) (g := F0 m pc ls ((As.reverse ++ rest).map (am_v μ))) (As := As.map (am_v μ)) (n := n) (Ts := am_T) ⟨C.1, C.2.1, C.2.2.1, C.2.2.2.2.1, hts⟩ ((con h1 o1 e1).2 hAs l D dA base b n0 xs μ C.2.2.2.2.2.2.2.2.2.1)
    ⟨⟨rfl, rfl, Nat.le_trans hd hRm.1, Nat.le_trans (by have := hc.2.2.2.2.2.2.2.2; show 8 + (nL1 + 11) + 36 * d1 ≤ 36 * d; have h9 : nL1 ≤ 17 := this; omega) hRm.2.1, am_hws hc hts, List.mem_cons_self⟩, hts _ hc.1, hts _ hc.2.1, hc.2.2.2.2.2.2.1, am_len hc.2.2.2.2.2.2.2.1, am_Tw hts wl rfl, hts _ (hc.2.2.1 rfl)⟩
    ⟨am_Pc.blind, am_PcU C a1 a2⟩ rfl (by rw [List.length_map]; exact hn) a3.1.1 (by rw [List.map_append, List.map_reverse]) (lv_room (by rw [am_wd_eq]; exact hw)) d0 ⟨Nat.le_trans a5 hRm.2.2.1, Nat.le_trans a6 hRm.2.2.2⟩⟩
theorem am_recv {D : va_G} {dA : Nat → ClassId} {base b n : Nat} {xs : Nat → Int32} {μ : Nat × Nat → Nat} {H : Heap} {s : State} {a : Nat × Nat} {ci : Nat} {C : String} {T : u_T} {N : Nat} (hK : va_K D vwCl (am_tys dA) s) (hR : am_Rel D dA base b n xs μ h H) (hcl : vwCl[ci]? = some (C, T, N)) (ho : am_isO a.1 ci = true) (ha : a.2 < m_nx h a.1) : ∃ cellB : Cell, H[μ a]? = some cellB ∧ cellB.vm.isStatics = false ∧ s.vm.findClass C = some cellB.cls := by
  obtain ⟨L, b1, b2, b3, b4, b5⟩ := hR
  obtain ⟨i, hi⟩ := List.getElem?_of_mem ((b4 a).mpr ⟨ha, am_kd0 ho⟩)
  have h1 := am_ws_at (dA := dA) (μ := μ) (h := h) hi
  rw [am_ent0 ho] at h1
  exact va_recv hK b1 hcl h1
theorem sim_virt {y : MethodName} {bytes : ByteArray} {nL1 ix i n ci : Nat} {ret1 : Option FieldType} {As : List am_V} {a : Nat × Nat} {C : String} {T : u_T} {N : Nat} (d1 : Nat) (ho : am_isO a.1 ci = true) (d0 : decode M.2.1 pc = .ok (.invokevirtual ix, 3)) (con : am_Con (y, bytes, nL1, ret1, []) d1 (.inr (.inr (some a)) :: As) h r1) (hc : am_Cal (y, bytes, nL1, ret1, []) n 2) (hcl : vwCl[ci]? = some (C, T, N)) (hyc : y.cls = C) (wl : lw_tbl[i]? = some (.methodLink M.1.cls ix y)) (hst : st = As.reverse ++ .inr (.inr (some a)) :: rest) (hn : As.length = n) (hd : d1 + 1 ≤ d) (hw : am_wd rest ≤ 8)
    (hnone : r1 = none → r = none) (hret : ∀ h1 v, r1 = some (h1, .inl v) → Sim M d (pc + 3) lv (v.toList ++ rest) h1 r) (hexc : ∀ h1 k, r1 = some (h1, .inr k) → SimX M d pc lv h1 k r) : Sim M d pc lv st h r := by
  subst hst
  refine sim_core (M1 := M) (rest := rest) (fun c w hw => c w (List.mem_append_right _ (List.mem_cons_of_mem _ hw))) (fun h1 o1 e => (con h1 o1 e).1) hnone hret hexc ?_
  intro hrn h1 o1 e1 l D dA base b n0 xs p e R s m args below meth c mc ms C9 μ H locs cells slots ls a1 a2 a3 a4 a5 a6
  have hra : am_clo h (.inr (.inr (some a))) := a4 _ (List.mem_append_right _ List.mem_cons_self)
  have hAs : am_cls h (.inr (.inr (some a)) :: As) := am_cls.cons hra (fun w hw => a4 w (List.mem_append_left _ (List.mem_reverse.mpr hw)))
  have hts := C9.2.2.2.2.2.2.2.1
  have hRm := C9.2.2.2.2.2.2.2.2.2.2.1
  have hsel := hts _ (hc.2.2.2.2.2.1 rfl)
  have hsel : (Cond.selects C y y).before args s = true := hyc ▸ hsel
  refine ⟨(((.inr (.inr (some a)) : am_V) :: As).map (am_v μ)).toArray, vx_runV (C := C) (g := F0 m pc ls ((As.reverse ++ .inr (.inr (some a)) :: rest).map (am_v μ))) (As := As.map (am_v μ)) (b := μ a) (n := n) (Ts := am_T) ⟨C9.1, C9.2.1, C9.2.2.1, C9.2.2.2.2.1, hts⟩ ((con h1 o1 e1).2 hAs l D dA base b n0 xs μ C9.2.2.2.2.2.2.2.2.2.1)
    ⟨⟨rfl, rfl, Nat.le_trans hd hRm.1, Nat.le_trans (by have := hc.2.2.2.2.2.2.2.2; show 8 + (nL1 + 11) + 36 * d1 ≤ 36 * d; have h9 : nL1 ≤ 17 := this; omega) hRm.2.1, am_hws hc hts, List.mem_cons_self, hts _ hc.1, hts _ hc.2.1, hc.2.2.2.2.2.2.1, am_len hc.2.2.2.2.2.2.2.1, am_Tw hts wl rfl⟩, hts _ (hc.2.2.2.1 (by decide)), hsel⟩
    ⟨am_Pc.blind, am_recv C9.2.2.2.2.2.2.2.2.2.2.2.1 a1 hcl ho hra, am_PcU (As := .inr (.inr (some a)) :: As) C9 a1 a2⟩ rfl (by rw [List.length_map]; exact hn) a3.1.1 (by rw [List.map_append, List.map_reverse]; rfl) (lv_room (by rw [am_wd_eq]; exact hw)) d0 ⟨Nat.le_trans a5 hRm.2.2.1, Nat.le_trans a6 hRm.2.2.2⟩⟩
/-- calls of what cannot throw -/
theorem am_noX {D : va_G} {dA : Nat → ClassId} {base b n : Nat} {xs : Nat → Int32} {μ : Nat × Nat → Nat} {h h' : am_H} {v : Option am_V} : ∀ E st t, ¬ am_XC D dA base b n xs μ h h' (.inl v) E st t := fun E st t ⟨k, μ', e, _⟩ => by cases e
theorem sim_ctor {y : MethodName} {bytes : ByteArray} {nL1 ix i n : Nat} {As : List am_V} {a : Nat × Nat} (d1 : Nat) (d0 : decode M.2.1 pc = .ok (.invokespecial ix, 3)) (con : am_Con (y, bytes, nL1, none, []) d1 (.inr (.inr (some a)) :: As) h r1) (hc : am_Cal (y, bytes, nL1, none, []) n 1) (wl : lw_tbl[i]? = some (.methodLink M.1.cls ix y)) (hst : st = As.reverse ++ .inr (.inr (some a)) :: rest) (hn : As.length = n) (hd : d1 + 1 ≤ d) (hw : am_wd rest ≤ 8)
    (hnone : r1 = none → r = none) (hnx : ∀ h1 k, r1 = some (h1, .inr k) → r = none) (hret : ∀ h1 v, r1 = some (h1, .inl v) → Sim M d (pc + 3) lv (v.toList ++ rest) h1 r) : Sim M d pc lv st h r := by
  subst hst
  refine sim_core (M1 := M) (rest := rest) (fun c w hw => c w (List.mem_append_right _ (List.mem_cons_of_mem _ hw))) (fun h1 o1 e => (con h1 o1 e).1) hnone hret (fun h1 k e => by rw [hnx h1 k e]; exact fun h' o e => by cases e) ?_
  intro hrn h1 o1 e1 l D dA base b n0 xs p e R s m args below meth c mc ms C9 μ H locs cells slots ls a1 a2 a3 a4 a5 a6
  have hra : am_clo h (.inr (.inr (some a))) := a4 _ (List.mem_append_right _ List.mem_cons_self)
  have hAs : am_cls h (.inr (.inr (some a)) :: As) := am_cls.cons hra (fun w hw => a4 w (List.mem_append_left _ (List.mem_reverse.mpr hw)))
  have hts := C9.2.2.2.2.2.2.2.1
  have hRm := C9.2.2.2.2.2.2.2.2.2.2.1
  rcases o1 with v | k
  · refine ⟨(((.inr (.inr (some a)) : am_V) :: As).map (am_v μ)).toArray, am_run_of (va_runI (g := F0 m pc ls ((As.reverse ++ .inr (.inr (some a)) :: rest).map (am_v μ))) (As := As.map (am_v μ)) (b := μ a) (n := n) (Ts := am_T) ⟨C9.1, C9.2.1, C9.2.2.1, C9.2.2.2.2.1, hts⟩ (am_met_of ((con h1 _ e1).2 hAs l D dA base b n0 xs μ C9.2.2.2.2.2.2.2.2.2.1) am_noX)
      ⟨⟨rfl, rfl, Nat.le_trans hd hRm.1, Nat.le_trans (by have := hc.2.2.2.2.2.2.2.2; show 8 + (nL1 + 11) + 36 * d1 ≤ 36 * d; have h9 : nL1 ≤ 17 := this; omega) hRm.2.1, am_hws hc hts, List.mem_cons_self, hts _ hc.1, hts _ hc.2.1, hc.2.2.2.2.2.2.1, am_len hc.2.2.2.2.2.2.2.1, am_Tw hts wl rfl⟩, hc.2.2.2.2.1 rfl, hts _ (hc.2.2.2.1 (by decide))⟩
      ⟨am_Pc.blind, am_PcU (As := .inr (.inr (some a)) :: As) C9 a1 a2⟩ rfl (by rw [List.length_map]; exact hn) a3.1.1 (by rw [List.map_append, List.map_reverse]; rfl) (lv_room (by rw [am_wd_eq]; exact hw)) d0 ⟨Nat.le_trans a5 hRm.2.2.1, Nat.le_trans a6 hRm.2.2.2⟩)⟩
  · exact absurd (hnx h1 k e1) hrn
theorem sim_ctorN {y : MethodName} {host : String} {bytes : ByteArray} {nL1 ix i n : Nat} {As : List am_V} {a : Nat × Nat} (d1 : Nat) (d0 : decode M.2.1 pc = .ok (.invokespecial ix, 3)) (con : am_Con (y, bytes, nL1, none, []) d1 (.inr (.inr (some a)) :: As) h r1) (hc : am_Cal (y, bytes, nL1, none, []) n 1) (wl : lw_tbl[i]? = some (.methodLinkNest M.1.cls ix y host)) (hst : st = As.reverse ++ .inr (.inr (some a)) :: rest) (hn : As.length = n) (hd : d1 + 1 ≤ d) (hw : am_wd rest ≤ 8)
    (hnone : r1 = none → r = none) (hnx : ∀ h1 k, r1 = some (h1, .inr k) → r = none) (hret : ∀ h1 v, r1 = some (h1, .inl v) → Sim M d (pc + 3) lv (v.toList ++ rest) h1 r) : Sim M d pc lv st h r := by
  subst hst
  refine sim_core (M1 := M) (rest := rest) (fun c w hw => c w (List.mem_append_right _ (List.mem_cons_of_mem _ hw))) (fun h1 o1 e => (con h1 o1 e).1) hnone hret (fun h1 k e => by rw [hnx h1 k e]; exact fun h' o e => by cases e) ?_
  intro hrn h1 o1 e1 l D dA base b n0 xs p e R s m args below meth c mc ms C9 μ H locs cells slots ls a1 a2 a3 a4 a5 a6
  have hra : am_clo h (.inr (.inr (some a))) := a4 _ (List.mem_append_right _ List.mem_cons_self)
  have hAs : am_cls h (.inr (.inr (some a)) :: As) := am_cls.cons hra (fun w hw => a4 w (List.mem_append_left _ (List.mem_reverse.mpr hw)))
  have hts := C9.2.2.2.2.2.2.2.1
  have hRm := C9.2.2.2.2.2.2.2.2.2.2.1
  rcases o1 with v | k
  · refine ⟨(((.inr (.inr (some a)) : am_V) :: As).map (am_v μ)).toArray, am_run_of (va_runIN (g := F0 m pc ls ((As.reverse ++ .inr (.inr (some a)) :: rest).map (am_v μ))) (As := As.map (am_v μ)) (b := μ a) (n := n) (Ts := am_T) ⟨C9.1, C9.2.1, C9.2.2.1, C9.2.2.2.2.1, hts⟩ (am_met_of ((con h1 _ e1).2 hAs l D dA base b n0 xs μ C9.2.2.2.2.2.2.2.2.2.1) am_noX)
      ⟨⟨⟨rfl, rfl, Nat.le_trans hd hRm.1, Nat.le_trans (by have := hc.2.2.2.2.2.2.2.2; show 8 + (nL1 + 11) + 36 * d1 ≤ 36 * d; have h9 : nL1 ≤ 17 := this; omega) hRm.2.1, am_hws hc hts, List.mem_cons_self⟩, hts _ hc.1, hts _ hc.2.1, hc.2.2.2.2.2.2.1, am_len hc.2.2.2.2.2.2.2.1, am_Tw hts wl rfl⟩, hc.2.2.2.2.1 rfl, hts _ (hc.2.2.2.1 (by decide))⟩
      ⟨am_Pc.blind, am_PcU (As := .inr (.inr (some a)) :: As) C9 a1 a2⟩ rfl (by rw [List.length_map]; exact hn) a3.1.1 (by rw [List.map_append, List.map_reverse]; rfl) (lv_room (by rw [am_wd_eq]; exact hw)) d0 ⟨Nat.le_trans a5 hRm.2.2.1, Nat.le_trans a6 hRm.2.2.2⟩)⟩
  · exact absurd (hnx h1 k e1) hrn
theorem sim_staticN {y : MethodName} {host : String} {bytes : ByteArray} {nL1 ix i n : Nat} {ret1 : Option FieldType} {As : List am_V} (d1 : Nat) (d0 : decode M.2.1 pc = .ok (.invokestatic ix, 3)) (con : am_Con (y, bytes, nL1, ret1, []) d1 As h r1) (hc : am_Cal (y, bytes, nL1, ret1, []) n 0) (wl : lw_tbl[i]? = some (.methodLinkNest M.1.cls ix y host)) (hst : st = As.reverse ++ rest) (hn : As.length = n) (hd : d1 + 1 ≤ d) (hw : am_wd rest ≤ 8)
    (hnone : r1 = none → r = none) (hnx : ∀ h1 k, r1 = some (h1, .inr k) → r = none) (hret : ∀ h1 v, r1 = some (h1, .inl v) → Sim M d (pc + 3) lv (v.toList ++ rest) h1 r) : Sim M d pc lv st h r := by
  subst hst
  refine sim_core (M1 := M) (rest := rest) (fun c w hw => c w (List.mem_append_right _ hw)) (fun h1 o1 e => (con h1 o1 e).1) hnone hret (fun h1 k e => by rw [hnx h1 k e]; exact fun h' o e => by cases e) ?_
  intro hrn h1 o1 e1 l D dA base b n0 xs p e R s m args below meth c mc ms C9 μ H locs cells slots ls a1 a2 a3 a4 a5 a6
  have hAs : am_cls h As := fun w hw => a4 w (List.mem_append_left _ (List.mem_reverse.mpr hw))
  have hts := C9.2.2.2.2.2.2.2.1
  have hRm := C9.2.2.2.2.2.2.2.2.2.2.1
  rcases o1 with v | k
  · refine ⟨(As.map (am_v μ)).toArray, am_run_of (va_runSN (g := F0 m pc ls ((As.reverse ++ rest).map (am_v μ))) (As := As.map (am_v μ)) (n := n) (Ts := am_T) ⟨C9.1, C9.2.1, C9.2.2.1, C9.2.2.2.2.1, hts⟩ (am_met_of ((con h1 _ e1).2 hAs l D dA base b n0 xs μ C9.2.2.2.2.2.2.2.2.2.1) am_noX)
      ⟨⟨⟨rfl, rfl, Nat.le_trans hd hRm.1, Nat.le_trans (by have := hc.2.2.2.2.2.2.2.2; show 8 + (nL1 + 11) + 36 * d1 ≤ 36 * d; have h9 : nL1 ≤ 17 := this; omega) hRm.2.1, am_hws hc hts, List.mem_cons_self⟩, hts _ hc.1, hts _ hc.2.1, hc.2.2.2.2.2.2.1, am_len hc.2.2.2.2.2.2.2.1, am_Tw hts wl rfl⟩, hts _ (hc.2.2.1 rfl), trivial⟩
      ⟨am_Pc.blind, am_PcU C9 a1 a2⟩ rfl (by rw [List.length_map]; exact hn) a3.1.1 (by rw [List.map_append, List.map_reverse]) (lv_room (by rw [am_wd_eq]; exact hw)) d0 ⟨Nat.le_trans a5 hRm.2.2.1, Nat.le_trans a6 hRm.2.2.2⟩)⟩
  · exact absurd (hnx h1 k e1) hrn
/-- Object's own constructor -/
theorem sim_obj {ix i : Nat} {a : Nat × Nat} (d0 : decode M.2.1 pc = .ok (.invokespecial ix, 3)) (wl : lw_tbl[i]? = some (.methodLink M.1.cls ix objectInit)) (wi : Cond.instanceMethod objectInit ∈ am_T) (wc : Cond.code objectInit ⟨#[0xb1]⟩ 1 none ∈ am_T) (hd : 1 ≤ d) (hw : am_wd st ≤ 8) (k : Sim M d (pc + 3) lv st h r) : Sim M d pc lv (.inr (.inr (some a)) :: st) h r := by
  intro h' o e
  obtain ⟨q1, q2⟩ := k h' o e
  refine ⟨q1, fun l D dA base b n xs p e9 R s m args below meth c mc ms Qc XC C μ H locs cells slots ls a1 a2 a3 a4 a5 a6 a7 => ?_⟩
  have hts := C.2.2.2.2.2.2.2.1
  have hRm := C.2.2.2.2.2.2.2.2.2.2.1
  have hr := lv_room (m := m) (pc := pc) (ls := ls) (rest := am_v μ (.inr (.inr (some a))) :: st.map (am_v μ)) (st := st.map (am_v μ)) (by rw [am_wd_eq]; exact hw)
  have hl9 : 36 * d ≤ R.locals := hRm.2.1
  refine W.objInit C.1 C.2.1 C.2.2.2.2.1 (am_Tw hts wl rfl) (hts _ wi) (hts _ wc) rfl (by rw [C.2.2.1]; exact a3.1.1) rfl d0 (Nat.le_trans hd hRm.1) (Nat.le_trans (Nat.add_le_add_right hr 12) (by omega)) ?_
  exact q2 l D dA base b n xs p e9 R s m args below meth c mc ms Qc XC C μ H locs cells slots ls a1 a2 a3 a4.tail a5 a6 a7
theorem sim_copy {ix i1 i2 i3 i4 : Nat} {a0 a1 : Nat × Nat} {sp dp n : Int32} (d0 : decode M.2.1 pc = .ok (.invokestatic ix, 3)) (w1 : lw_tbl[i1]? = some (.methodLink M.1.cls ix arraycopyName)) (w2 : lw_tbl[i2]? = some (.native arraycopyName)) (w3 : lw_tbl[i3]? = some (.static arraycopyName)) (w4 : lw_tbl[i4]? = some (.initialized "java/lang/System")) (hd : 2 ≤ d) (hw : am_wd st ≤ 8)
    (k : Sim M d (pc + 3) lv st (m_cp h a0.1 a0.2 sp.toNatClampNeg a1.1 a1.2 dp.toNatClampNeg n.toNatClampNeg) r) : Sim M d pc lv (.inl n :: .inl dp :: .inr (.inr (some a1)) :: .inl sp :: .inr (.inr (some a0)) :: st) h
      (m_ck (am_isA a0.1 0 && am_isA a1.1 0 && decide (¬ sp < 0 ∧ ¬ dp < 0 ∧ ¬ n < 0 ∧ sp.toNatClampNeg + n.toNatClampNeg ≤ am_ln a0.1 ∧ dp.toNatClampNeg + n.toNatClampNeg ≤ am_ln a1.1)) r) :=
  sim_ck fun ho => by
    obtain ⟨o1, o2⟩ := Bool.and_eq_true_iff.mp ho
    obtain ⟨o3, o4⟩ := Bool.and_eq_true_iff.mp o1
    obtain ⟨h1, h2, h3, h4, h5⟩ := of_decide_eq_true o2
    intro h' o e
    obtain ⟨q1, q2⟩ := k h' o e
    have hle := am_le_cp h a0.1 a0.2 sp.toNatClampNeg a1.1 a1.2 dp.toNatClampNeg n.toNatClampNeg
    refine ⟨hle.trans q1, fun l D dA base b n9 xs p e9 R s m args below meth c mc ms Qc XC C μ H locs cells slots ls a1' a2 a3 a4 a5 a6 a7 => ?_⟩
    obtain ⟨L, b1, b2, b3, b4, b5, b6, b7, b8, b9⟩ := id a1'
    have hts := C.2.2.2.2.2.2.2.1
    have hRm := C.2.2.2.2.2.2.2.2.2.2.1
    obtain ⟨j0, hj0⟩ := List.getElem?_of_mem ((b4 a0).mpr ⟨a4 (.inr (.inr (some a0))) (by simp), am_kd1 o3⟩)
    obtain ⟨j1, hj1⟩ := List.getElem?_of_mem ((b4 a1).mpr ⟨a4 (.inr (.inr (some a1))) (by simp), am_kd1 o4⟩)
    have e0 := am_ws_at (dA := dA) (μ := μ) (h := h) hj0
    have e1 := am_ws_at (dA := dA) (μ := μ) (h := h) hj1
    rw [am_ent1 o3] at e0
    rw [am_ent1 o4] at e1
    have hl9 : 36 * d ≤ R.locals := hRm.2.1
    refine va_copyi C.1 C.2.1 (by rw [C.2.2.1]; exact a3.1.1.symm) C.2.2.2.2.1 (am_Tw hts w1 rfl) (am_Tw hts w2 rfl) (am_Tw hts w3 rfl) (am_Tw hts w4 rfl) C.2.2.2.2.2.2.2.2.2.2.2.1 b1 b2 a2 j0 j1 0 0 e0 e1 rfl rfl rfl h1 h2 h3 h4 h5 (fun i _ => rfl) (Nat.le_trans (by omega) hRm.1) (by
      rw [am_wd_eq]
      have h9 : nativeFrameWords "java/lang/System" "arraycopy" 5 ≤ 50 := by decide +kernel
      omega) d0 (fun H1 locs1 c1 c2 c3 => ?_)
    have hf : va_cpy (fun j => m_gi h a0.1 a0.2 j) (fun j => m_gi h a1.1 a1.2 j) sp.toNatClampNeg dp.toNatClampNeg n.toNatClampNeg = fun j => m_gi (m_cp h a0.1 a0.2 sp.toNatClampNeg a1.1 a1.2 dp.toNatClampNeg n.toNatClampNeg) a1.1 a1.2 j := by
      funext z
      show _ = (if a1.1 = a1.1 ∧ a1.2 = a1.2 then _ else _)
      rw [if_pos ⟨rfl, rfl⟩]; rfl
    have hent : am_ent dA μ (m_cp h a0.1 a0.2 sp.toNatClampNeg a1.1 a1.2 dp.toNatClampNeg n.toNatClampNeg) a1 = .inl (dA 0, (am_ln a1.1, .inl (va_cpy (fun j => m_gi h a0.1 a0.2 j) (fun j => m_gi h a1.1 a1.2 j) sp.toNatClampNeg dp.toNatClampNeg n.toNatClampNeg))) := by
      rw [am_ent1 o4, hf]
    have hset := am_ws_set (dA := dA) (μ := μ) (h := h) (h1 := m_cp h a0.1 a0.2 sp.toNatClampNeg a1.1 a1.2 dp.toNatClampNeg n.toNatClampNeg) hj1 b3 (fun a' hne => am_ent_eq (fun j => by
      show (if a'.1 = a1.1 ∧ a'.2 = a1.2 then _ else _) = _
      rw [if_neg (am_pr_ne hne)]; rfl) (fun _ => rfl) (fun _ => rfl))
    rw [← hent, hset] at c1 c2
    have g1 : ∀ k j, m_gi (m_cp h a0.1 a0.2 sp.toNatClampNeg a1.1 a1.2 dp.toNatClampNeg n.toNatClampNeg) 1 k j = m_gi h 1 k j := fun k j => by
      show (if 1 = a1.1 ∧ k = a1.2 then _ else _) = _
      rw [if_neg (fun z => am_1 (am_kd1 o4) z.1)]; rfl
    exact q2 l D dA base b n9 xs p e9 R s m args below meth c mc ms Qc XC C μ H1 locs1 cells slots ls ⟨L, c1, c2, b3, b4, b5, b6, fun j => by rw [g1]; exact b7 j, by rw [g1]; exact b8, b9⟩ c3 (a3.move (am_ext.refl μ h) hle) (a4.tail.tail.tail.tail.tail.mono hle) a5 a6 a7
/-! throwing and catching -/
def am_up9 : List String := ["java/lang/RuntimeException", "java/lang/Exception"]
theorem am_str {own tx : String} {k : Nat} {args : Array Value} {s : State} (h : (Cond.stringRef own k tx).before args s = true) : ∃ a, vk_R own k tx a s := by
  cases hc : s.vm.findClass own with
  | none => simp [Cond.before, Cond.holds, Cond.value, hc] at h
  | some cc =>
    have h1 : (Cond.stringRef own k tx).before #[] s = true := h
    obtain ⟨k1, cf, i, a, -, -, -, -, -, he⟩ := Cond.stringRef_spec hc h1
    exact ⟨a, h1, he⟩
theorem sim_throw {y : MethodName} {cc : ByteArray} {nL : Nat} {ret : Option FieldType} {ik is ic i1 i2 i3 : Nat} {tx : String} (kx : Nat) (hkx : kx < 3) (d0 : decode cc pc = .ok (.new ik, 3)) (d3 : decode cc (pc + 3) = .ok (.dup, 1)) (d4 : decode cc (pc + 4) = .ok (.ldc is, 2)) (d6 : decode cc (pc + 6) = .ok (.invokespecial ic, 3)) (d9 : decode cc (pc + 9) = .ok (.athrow, 1))
    (w1 : lw_tbl[i1]? = some (.classLink y.cls ik (am_xn kx))) (w2 : lw_tbl[i2]? = some (.initialized (am_xn kx))) (w3 : lw_tbl[i3]? = some (.stringRef y.cls is tx)) (hat : ∀ w ∈ vx_atS y.cls ic (am_xn kx) am_up9, w ∈ am_T) (hgood : ∀ w ∈ Cond.classLink y.cls ik (am_xn kx) :: Cond.initialized (am_xn kx) :: vx_atS y.cls ic (am_xn kx) am_up9, vx_ot w = true)
    (hd : 6 ≤ d) (hw : am_wd st ≤ 8) : Sim (y, cc, nL, ret, []) d pc lv st h (m_ex h kx) := by
  intro h' o e
  cases e
  have hle := am_le_th h
  refine ⟨hle, fun l D dA base b n xs p e9 R s m args below meth c mc ms Qc XC C μ H locs cells slots ls a1 a2 a3 a4 a5 a6 a7 => ?_⟩
  have hts := C.2.2.2.2.2.2.2.1
  have hRm := C.2.2.2.2.2.2.2.2.2.2.1
  have hWd := C.2.2.2.2.2.2.2.2.2.2.2
  have hl9 : 36 * d ≤ R.locals := hRm.2.1
  have hc9 : m_nc (m_th h) = m_nc h + 1 := rfl
  have hs9 : m_ns (m_th h) = m_ns h + 6 := rfl
  obtain ⟨sa, hsa⟩ := am_str (am_Tw hts w3 rfl)
  have h9 : c.exceptionTable.toList = [] := C.2.2.2.2.2.2.2.2.1
  refine vx_throwS (names := am_up9) (sa := sa) (A := fun q : Nat => base ≤ q) C.1 C.2.1 C.2.2.2.2.2.2.2.2.2.1 C.2.2.2.2.1 (by
    rcases (show kx = 0 ∨ kx = 1 ∨ kx = 2 by omega) with q | q | q <;> subst q <;> decide +kernel) (by decide +kernel) (am_Tw hts w1 rfl) (am_Tw hts w2 rfl) hsa (fun w hw => hts w (hat w hw)) hgood hWd.2.1 hWd.2.2.1 a2 (by rw [C.2.2.1]; exact a3.1.1) d0 d3 d4 d6 d9 (fun x hx => by rw [h9] at hx; cases hx)
    (show 2 + 3 < R.frames from Nat.lt_of_lt_of_le (by omega) hRm.1) (by rw [am_wd_eq]; show _ + (13 * (2 + 1) + 43) ≤ _; omega) (Nat.le_trans (by omega) hRm.2.2.1) (Nat.le_trans (by omega) hRm.2.2.2) C.2.2.2.2.2.1
    (fun t hv hz hk => (a7 μ t (fun _ _ => rfl) ?_ hv ⟨Nat.le_trans a2.1 hz, fun q hq hA => (hk q (Nat.lt_of_lt_of_le hq a2.1)).trans (a2.2.1 q hq hA)⟩).2 kx rfl) a2.2.2 (by omega) (by omega)
  obtain ⟨L, b1, b2, b3, b4, b5, b6, b7, b8, b9⟩ := a1
  exact ⟨L, b1.kept (fun k q hq => hk q.1 ((b1 k q hq).lt)), b2, b3, b4, b5, b6, b7, b8, b9⟩
theorem sim_throwW {y : MethodName} {cc : ByteArray} {nL : Nat} {ret : Option FieldType} {ik is ic i1 i2 i3 : Nat} {tx : String} (kx : Nat) (hkx : kx < 3) (d0 : decode cc pc = .ok (.new ik, 3)) (d3 : decode cc (pc + 3) = .ok (.dup, 1)) (d4 : decode cc (pc + 4) = .ok (.ldc_w is, 3)) (d6 : decode cc (pc + 7) = .ok (.invokespecial ic, 3)) (d9 : decode cc (pc + 10) = .ok (.athrow, 1))
    (w1 : lw_tbl[i1]? = some (.classLink y.cls ik (am_xn kx))) (w2 : lw_tbl[i2]? = some (.initialized (am_xn kx))) (w3 : lw_tbl[i3]? = some (.stringRef y.cls is tx)) (hat : ∀ w ∈ vx_atS y.cls ic (am_xn kx) am_up9, w ∈ am_T) (hgood : ∀ w ∈ Cond.classLink y.cls ik (am_xn kx) :: Cond.initialized (am_xn kx) :: vx_atS y.cls ic (am_xn kx) am_up9, vx_ot w = true)
    (hd : 6 ≤ d) (hw : am_wd st ≤ 8) : Sim (y, cc, nL, ret, []) d pc lv st h (m_ex h kx) := by
  intro h' o e
  cases e
  have hle := am_le_th h
  refine ⟨hle, fun l D dA base b n xs p e9 R s m args below meth c mc ms Qc XC C μ H locs cells slots ls a1 a2 a3 a4 a5 a6 a7 => ?_⟩
  have hts := C.2.2.2.2.2.2.2.1
  have hRm := C.2.2.2.2.2.2.2.2.2.2.1
  have hWd := C.2.2.2.2.2.2.2.2.2.2.2
  have hl9 : 36 * d ≤ R.locals := hRm.2.1
  have hc9 : m_nc (m_th h) = m_nc h + 1 := rfl
  have hs9 : m_ns (m_th h) = m_ns h + 6 := rfl
  obtain ⟨sa, hsa⟩ := am_str (am_Tw hts w3 rfl)
  have h9 : c.exceptionTable.toList = [] := C.2.2.2.2.2.2.2.2.1
  refine vx_throwSW (names := am_up9) (sa := sa) (A := fun q : Nat => base ≤ q) C.1 C.2.1 C.2.2.2.2.2.2.2.2.2.1 C.2.2.2.2.1 (by
    rcases (show kx = 0 ∨ kx = 1 ∨ kx = 2 by omega) with q | q | q <;> subst q <;> decide +kernel) (by decide +kernel) (am_Tw hts w1 rfl) (am_Tw hts w2 rfl) hsa (fun w hw => hts w (hat w hw)) hgood hWd.2.1 hWd.2.2.1 a2 (by rw [C.2.2.1]; exact a3.1.1) d0 d3 d4 d6 d9 (fun x hx => by rw [h9] at hx; cases hx)
    (show 2 + 3 < R.frames from Nat.lt_of_lt_of_le (by omega) hRm.1) (by rw [am_wd_eq]; show _ + (13 * (2 + 1) + 43) ≤ _; omega) (Nat.le_trans (by omega) hRm.2.2.1) (Nat.le_trans (by omega) hRm.2.2.2) C.2.2.2.2.2.1
    (fun t hv hz hk => (a7 μ t (fun _ _ => rfl) ?_ hv ⟨Nat.le_trans a2.1 hz, fun q hq hA => (hk q (Nat.lt_of_lt_of_le hq a2.1)).trans (a2.2.1 q hq hA)⟩).2 kx rfl) a2.2.2 (by omega) (by omega)
  obtain ⟨L, b1, b2, b3, b4, b5, b6, b7, b8, b9⟩ := a1
  exact ⟨L, b1.kept (fun k q hq => hk q.1 ((b1 k q hq).lt)), b2, b3, b4, b5, b6, b7, b8, b9⟩
/-- a table's row takes what is thrown -/
theorem simx_catch {y : MethodName} {cc : ByteArray} {nL : Nat} {ret : Option FieldType} {hh : List (Nat × Nat × Nat × Nat)} {h1 : am_H} {kx : Nat} (pre : List (Nat × Nat × Nat × Nat)) (x : Nat × Nat × Nat × Nat) (suf : List (Nat × Nat × Nat × Nat)) (hsp : hh = pre ++ x :: suf) (hcv : x.1 ≤ pc ∧ pc < x.2.1) (hct : x.2.2.2 ≠ 0) {i1 i2 : Nat}
    (w1 : lw_tbl[i1]? = some (.classLink y.cls x.2.2.2 (am_xn kx))) (w2 : lw_tbl[i2]? = some (.castable (am_xn kx) (am_xn kx))) (hkx : kx < 3) (hpre : ∀ z ∈ pre, z.2.2.2 ≠ 0 ∧ ∃ (j i3 : Nat), j < 3 ∧ j ≠ kx ∧ lw_tbl[i3]? = some (.classLink y.cls z.2.2.2 (am_xn j)))
    (k : Sim (y, cc, nL, ret, hh) d x.2.2.1 lv [.inr (.inr (some (0, m_nx h1 0)))] (m_op h1) r) : SimX (y, cc, nL, ret, hh) d pc lv h1 kx r := by
  intro h' o e
  obtain ⟨q1, q2⟩ := k h' o e
  have hle := am_le_op h1
  refine ⟨hle.trans q1, fun l D dA base b n xs p e9 R s m args below meth c mc ms Qc XC C μ H locs cells slots ls rest q ce a1 a2 a3 a5 a6 a7 g1 g2 g3 => ?_⟩
  have hts := C.2.2.2.2.2.2.2.1
  have hWd := C.2.2.2.2.2.2.2.2.2.2.2
  have ht : c.exceptionTable.toList = tableOf hh := C.2.2.2.2.2.2.2.2.1
  have hext : am_ext μ h1 (am_up μ (0, m_nx h1 0) q) := am_up_ext
  have hcov : ∀ z : Nat × Nat × Nat × Nat, z.1 ≤ pc ∧ pc < z.2.1 → covers ⟨z.1, z.2.1, z.2.2.1, z.2.2.2⟩ pc = true := fun z hz => by simp [covers, hz.1, hz.2]
  refine vx_catch (own := y.cls) (name := am_xn kx) C.2.2.2.2.1 (tableOf pre) ⟨x.1, x.2.1, x.2.2.1, x.2.2.2⟩ (tableOf suf) (by rw [ht, hsp]; simp [tableOf]) (fun z hz => ?_) (hcov x hcv) hct (am_Tw hts w1 rfl) (am_Tw hts w2 rfl) g1 g2 g3 ?_
  · simp only [tableOf, List.mem_map] at hz
    obtain ⟨z0, hz0, rfl⟩ := hz
    obtain ⟨f1, j, i3, f2, f3, f4⟩ := hpre z0 hz0
    exact Or.inr ⟨f1, am_xn j, am_Tw hts f4 rfl, hWd.2.2.2.2.2.2 kx j hkx f2 (fun z => f3 z.symm)⟩
  · obtain ⟨L, b1, b2, b3, b4, b5, b6, b7, b8, b9⟩ := a1
    have hnx : ∀ a, m_nx (m_op h1) a = if a = 0 then m_nx h1 0 + 1 else m_nx h1 a := fun _ => rfl
    have hL : ∀ a ∈ L, a.2 < m_nx h1 a.1 := fun a ha => ((b4 a).mp ha).1
    have hws : am_ws dA (am_up μ (0, m_nx h1 0) q) (m_op h1) L = am_ws dA μ h1 L := by
      unfold am_ws
      apply List.map_congr_left
      intro a ha
      rw [am_up_ne (am_lt_ne (hL a ha)), am_ent_eq (μ1 := am_up μ (0, m_nx h1 0) q) (h1 := m_op h1) (h := h1) (μ := μ) (fun j => rfl) (fun j => by
        show (m_gr h1 a.1 a.2 j).map _ = _
        cases hg : m_gr h1 a.1 a.2 j with
        | none => rfl
        | some c => exact congrArg some (am_up_ne (am_lt_ne (b5 _ _ _ _ hg)))) (fun j => rfl)]
    have K := q2 l D dA base b n xs p e9 R s m args below meth c mc ms Qc XC C (am_up μ (0, m_nx h1 0) q) H locs cells slots ls
      ⟨L, by rw [hws]; exact b1, by rw [hws]; exact b2, b3, fun a => by
        rw [b4 a, hnx]
        by_cases h0 : a.1 = 0
        · have hk9 : am_kd a.1 = 9 := by rw [h0]; rfl
          simp [hk9]
        · rw [if_neg h0], fun s k j c hc => Nat.lt_of_lt_of_le (b5 s k j c hc) (hle.2.2 _), by rw [am_up_ne (fun z => by cases congrArg Prod.fst z)]; exact b6, b7, b8, by rw [hnx, if_neg (by decide)]; exact b9⟩
      a2 (a3.move hext hle) (am_cls.cons (show m_nx h1 0 < m_nx (m_op h1) 0 by rw [hnx, if_pos rfl]; exact Nat.lt_succ_self _) (fun v hv => by cases hv)) a5 a6 (fun μ' t e1 e2 e3 e4 => a7 μ' t (hext.trans hle e1) e2 e3 e4)
    rw [List.map_cons, show am_v (am_up μ (0, m_nx h1 0) q) (.inr (.inr (some (0, m_nx h1 0)))) = .ref q from by show Value.ref (am_up μ (0, m_nx h1 0) q (0, m_nx h1 0)) = _; rw [am_up_eq]] at K
    exact K
end SimCalls
end
section
/-! ## what a caller does with what comes back -/
def m_bJ (r : am_R) (k : am_H → Int32 → am_R) : am_R := match r with
  | some (h, .inl (some (.inl x))) => k h x
  | _ => none
def m_bW (r : am_R) (k : am_H → am_R) : am_R := match r with
  | some (h, .inl none) => k h
  | _ => none
section SimBind
variable {M : am_M} {d pc : Nat} {lv : List (Option am_V)} {rest : List am_V} {r1 : am_R}
theorem am_nI {K : am_H → Int32 → am_R} : r1 = none → m_bI r1 K = none := by rintro rfl; rfl
theorem am_nR {K : am_H → Option (Nat × Nat) → am_R} : r1 = none → m_bR r1 K = none := by rintro rfl; rfl
theorem am_nV {K : am_H → am_R} : r1 = none → m_bV r1 K = none := by rintro rfl; rfl
theorem am_nJ {K : am_H → Int32 → am_R} : r1 = none → m_bJ r1 K = none := by rintro rfl; rfl
theorem am_nW {K : am_H → am_R} : r1 = none → m_bW r1 K = none := by rintro rfl; rfl
theorem am_nIx {K : am_H → Int32 → am_R} {X : am_H → Nat → am_R} : r1 = none → m_bIx r1 K X = none := by rintro rfl; rfl
theorem am_nVx {K : am_H → am_R} {X : am_H → Nat → am_R} : r1 = none → m_bVx r1 K X = none := by rintro rfl; rfl
theorem am_xJ {K : am_H → Int32 → am_R} : ∀ h1 k, r1 = some (h1, .inr k) → m_bJ r1 K = none := by rintro h1 k rfl; rfl
theorem am_xW {K : am_H → am_R} : ∀ h1 k, r1 = some (h1, .inr k) → m_bW r1 K = none := by rintro h1 k rfl; rfl
theorem am_rI {K : am_H → Int32 → am_R} (k : ∀ h1 x, Sim M d pc lv (.inl x :: rest) h1 (K h1 x)) : ∀ h1 v, r1 = some (h1, .inl v) → Sim M d pc lv (v.toList ++ rest) h1 (m_bI r1 K) := by
  rintro h1 v rfl
  rcases v with _ | x | y | o
  · exact sim_none
  · exact k h1 x
  · exact sim_none
  · exact sim_none
theorem am_rJ {K : am_H → Int32 → am_R} (k : ∀ h1 x, Sim M d pc lv (.inl x :: rest) h1 (K h1 x)) : ∀ h1 v, r1 = some (h1, .inl v) → Sim M d pc lv (v.toList ++ rest) h1 (m_bJ r1 K) := by
  rintro h1 v rfl
  rcases v with _ | x | y | o
  · exact sim_none
  · exact k h1 x
  · exact sim_none
  · exact sim_none
theorem am_rIx {K : am_H → Int32 → am_R} {X : am_H → Nat → am_R} (k : ∀ h1 x, Sim M d pc lv (.inl x :: rest) h1 (K h1 x)) : ∀ h1 v, r1 = some (h1, .inl v) → Sim M d pc lv (v.toList ++ rest) h1 (m_bIx r1 K X) := by
  rintro h1 v rfl
  rcases v with _ | x | y | o
  · exact sim_none
  · exact k h1 x
  · exact sim_none
  · exact sim_none
theorem am_rR {K : am_H → Option (Nat × Nat) → am_R} (k : ∀ h1 x, Sim M d pc lv (.inr (.inr x) :: rest) h1 (K h1 x)) : ∀ h1 v, r1 = some (h1, .inl v) → Sim M d pc lv (v.toList ++ rest) h1 (m_bR r1 K) := by
  rintro h1 v rfl
  rcases v with _ | x | y | o
  · exact sim_none
  · exact sim_none
  · exact sim_none
  · exact k h1 o
theorem am_rV {K : am_H → am_R} (k : ∀ h1, Sim M d pc lv rest h1 (K h1)) : ∀ h1 v, r1 = some (h1, .inl v) → Sim M d pc lv (v.toList ++ rest) h1 (m_bV r1 K) := by
  rintro h1 v rfl
  rcases v with _ | x
  · exact k h1
  · exact sim_none
theorem am_rVx {K : am_H → am_R} {X : am_H → Nat → am_R} (k : ∀ h1, Sim M d pc lv rest h1 (K h1)) : ∀ h1 v, r1 = some (h1, .inl v) → Sim M d pc lv (v.toList ++ rest) h1 (m_bVx r1 K X) := by
  rintro h1 v rfl
  rcases v with _ | x
  · exact k h1
  · exact sim_none
theorem am_rW {K : am_H → am_R} (k : ∀ h1, Sim M d pc lv rest h1 (K h1)) : ∀ h1 v, r1 = some (h1, .inl v) → Sim M d pc lv (v.toList ++ rest) h1 (m_bW r1 K) := by
  rintro h1 v rfl
  rcases v with _ | x
  · exact k h1
  · exact sim_none
end SimBind
section SimExc
variable {y : MethodName} {cc : ByteArray} {nL : Nat} {ret : Option FieldType} {d pc : Nat} {lv : List (Option am_V)} {r1 : am_R}
theorem am_eI {K : am_H → Int32 → am_R} : ∀ h1 k, r1 = some (h1, .inr k) → SimX (y, cc, nL, ret, []) d pc lv h1 k (m_bI r1 K) := by rintro h1 k rfl; exact simx_out
theorem am_eR {K : am_H → Option (Nat × Nat) → am_R} : ∀ h1 k, r1 = some (h1, .inr k) → SimX (y, cc, nL, ret, []) d pc lv h1 k (m_bR r1 K) := by rintro h1 k rfl; exact simx_out
theorem am_eV {K : am_H → am_R} : ∀ h1 k, r1 = some (h1, .inr k) → SimX (y, cc, nL, ret, []) d pc lv h1 k (m_bV r1 K) := by rintro h1 k rfl; exact simx_out
end SimExc
section SimScr
variable {M : am_M} {d pc : Nat} {lv : List (Option am_V)} {st : List am_V} {h : am_H} {r : am_R}
theorem am_scr_in {i : Int32} {n : Nat} (hn : n ≤ 2560) (h1 : ¬ i < 0) (h2 : i < Int32.ofNat n) : vp_in i n := by
  obtain ⟨j, hj, rfl⟩ := nI_of h1
  have : j < n := (nI_ltI hj (by omega)).mp h2
  exact vp_in_nI this (by omega)
/-- the script's own rows -/
theorem sim_sld {i : Int32} (d0 : decode M.2.1 pc = .ok (.iaload, 1)) (k : Sim M d (pc + 1) lv (.inl (m_gi h 1 0 i.toNatClampNeg) :: st) h r) : Sim M d pc lv (.inl i :: .inr (.inr (some (1, 0))) :: st) h (m_ck (decide (¬ i < 0 ∧ i < m_gi h 1 1 0)) r) :=
  sim_ck fun ho => by
    obtain ⟨g1, g2⟩ := of_decide_eq_true ho
    intro h' o e
    obtain ⟨q1, q2⟩ := k h' o e
    refine ⟨q1, fun l D dA base b n xs p e R s m args below meth c mc ms Qc XC C μ H locs cells slots ls a1 a2 a3 a4 a5 a6 a7 => ?_⟩
    obtain ⟨L, b1, b2, b3, b4, b5, b6, b7, b8, b9⟩ := id a1
    have hWd := C.2.2.2.2.2.2.2.2.2.2.2
    have K := q2 l D dA base b n xs p e R s m args below meth c mc ms Qc XC C μ H locs cells slots ls a1 a2 a3 (a4.tail.tail.cons am_clo_i) a5 a6 a7
    rw [List.map_cons, show am_v μ (.inl (m_gi h 1 0 i.toNatClampNeg)) = .int (xs i.toNatClampNeg) from by show Value.int _ = _; rw [b7]] at K
    rw [List.map_cons, List.map_cons, show am_v μ (.inr (.inr (some (1, 0)))) = .ref b from by show Value.ref (μ (1, 0)) = _; rw [b6]]
    exact va_sld C.1 C.2.1 hWd.2.2.2.1.1 (Nat.lt_of_lt_of_le hWd.2.2.2.2.1 hWd.2.2.2.2.2.1) (Nat.not_le.mpr hWd.2.2.2.2.1) a2 (am_scr_in hWd.2.2.2.1.2 g1 (by rw [← b8]; exact g2)) d0 K
theorem sim_slen (d0 : decode M.2.1 pc = .ok (.arraylength, 1)) (k : Sim M d (pc + 1) lv (.inl (m_gi h 1 1 0) :: st) h r) : Sim M d pc lv (.inr (.inr (some (1, 0))) :: st) h r := by
  intro h' o e
  obtain ⟨q1, q2⟩ := k h' o e
  refine ⟨q1, fun l D dA base b n xs p e R s m args below meth c mc ms Qc XC C μ H locs cells slots ls a1 a2 a3 a4 a5 a6 a7 => ?_⟩
  obtain ⟨L, b1, b2, b3, b4, b5, b6, b7, b8, b9⟩ := id a1
  have hWd := C.2.2.2.2.2.2.2.2.2.2.2
  have K := q2 l D dA base b n xs p e R s m args below meth c mc ms Qc XC C μ H locs cells slots ls a1 a2 a3 (a4.tail.cons am_clo_i) a5 a6 a7
  rw [List.map_cons, show am_v μ (.inl (m_gi h 1 1 0)) = .int (Int32.ofNat n) from by show Value.int _ = _; rw [b8]] at K
  rw [List.map_cons, show am_v μ (.inr (.inr (some (1, 0)))) = .ref b from by show Value.ref (μ (1, 0)) = _; rw [b6]]
  exact va_slen C.1 C.2.1 hWd.2.2.2.1.1 (Nat.lt_of_lt_of_le hWd.2.2.2.2.1 hWd.2.2.2.2.2.1) (Nat.not_le.mpr hWd.2.2.2.2.1) a2 d0 K
end SimScr
end
section
/-! ## the words that the printed functions are written in -/
def m_gI (o : Option (Nat × Nat)) (ci j : Nat) (h : am_H) (K : Int32 → am_R) : am_R := m_as o fun a => m_ck (am_isO a.1 ci) (K (m_gi h a.1 a.2 j))
def m_gR (o : Option (Nat × Nat)) (ci j : Nat) (h : am_H) (K : Option (Nat × Nat) → am_R) : am_R := m_as o fun a => m_ck (am_isO a.1 ci) (K (m_gr h a.1 a.2 j))
def m_pI (o : Option (Nat × Nat)) (ci j : Nat) (x : Int32) (h : am_H) (K : am_H → am_R) : am_R := m_as o fun a => m_ck (am_isO a.1 ci) (K (m_si h a.1 a.2 j x))
def m_pZ (o : Option (Nat × Nat)) (ci j : Nat) (x : Int32) (h : am_H) (K : am_H → am_R) : am_R := m_as o fun a => m_ck (m_nz x) (m_ck (am_isO a.1 ci) (K (m_si h a.1 a.2 j x)))
def m_pC (o : Option (Nat × Nat)) (ci j : Nat) (x : Int32) (h : am_H) (K : am_H → am_R) : am_R := m_as o fun a => m_ck (m_nzc x) (m_ck (am_isO a.1 ci) (K (m_si h a.1 a.2 j x)))
def m_pR (o : Option (Nat × Nat)) (ci j : Nat) (v : Option (Nat × Nat)) (h : am_H) (K : am_H → am_R) : am_R := m_as o fun a => m_ck (am_isO a.1 ci) (K (m_sr h a.1 a.2 j v))
def m_aI (o : Option (Nat × Nat)) (t : Nat) (i : Int32) (h : am_H) (K : Int32 → am_R) : am_R := m_as o fun a => m_ck (am_isA a.1 t && m_in i (am_ln a.1)) (K (m_gi h a.1 a.2 i.toNatClampNeg))
def m_aL (o : Option (Nat × Nat)) (i : Int32) (h : am_H) (K : Int64 → am_R) : am_R := m_as o fun a => m_ck (am_isL a.1 && m_in i (am_ln a.1)) (K (m_gl h a.1 a.2 i.toNatClampNeg))
def m_aR (o : Option (Nat × Nat)) (t : Nat) (i : Int32) (h : am_H) (K : Option (Nat × Nat) → am_R) : am_R := m_as o fun a => m_ck (am_isQ a.1 t && m_in i (am_ln a.1)) (K (m_gr h a.1 a.2 i.toNatClampNeg))
def m_sI (o : Option (Nat × Nat)) (i x : Int32) (h : am_H) (K : am_H → am_R) : am_R := m_as o fun a => m_ck (am_isA a.1 0 && m_in i (am_ln a.1)) (K (m_si h a.1 a.2 i.toNatClampNeg x))
def m_sZ (o : Option (Nat × Nat)) (i x : Int32) (h : am_H) (K : am_H → am_R) : am_R := m_as o fun a => m_ck (m_nz x) (m_ck (am_isA a.1 1 && m_in i (am_ln a.1)) (K (m_si h a.1 a.2 i.toNatClampNeg x)))
def m_sC (o : Option (Nat × Nat)) (i x : Int32) (h : am_H) (K : am_H → am_R) : am_R := m_as o fun a => m_ck (m_nzc x) (m_ck (am_isA a.1 2 && m_in i (am_ln a.1)) (K (m_si h a.1 a.2 i.toNatClampNeg x)))
def m_sL (o : Option (Nat × Nat)) (i : Int32) (x : Int64) (h : am_H) (K : am_H → am_R) : am_R := m_as o fun a => m_ck (am_isL a.1 && m_in i (am_ln a.1)) (K (m_sl h a.1 a.2 i.toNatClampNeg x))
def m_sR (o : Option (Nat × Nat)) (t c : Nat) (i : Int32) (v : Option (Nat × Nat)) (h : am_H) (K : am_H → am_R) : am_R := m_as o fun a => m_as v fun w => m_ck (am_isO w.1 c && (am_isQ a.1 t && m_in i (am_ln a.1))) (K (m_sr h a.1 a.2 i.toNatClampNeg (some w)))
def m_ao (o : Option (Nat × Nat)) (ci : Nat) (K : Nat × Nat → am_R) : am_R := m_as o fun a => m_ck (am_isO a.1 ci) (K a)
def m_new (s n : Nat) (h : am_H) (K : Nat × Nat → am_H → am_R) : am_R := K (s, m_nx h s) (m_al h s n)
def m_len (o : Option (Nat × Nat)) (K : Int32 → am_R) : am_R := m_as o fun a => m_ck (am_isA a.1 0) (K (Int32.ofNat (am_ln a.1)))
def m_scr (i : Int32) (h : am_H) (K : Int32 → am_R) : am_R := m_ck (decide (¬ i < 0 ∧ i < m_gi h 1 1 0)) (K (m_gi h 1 0 i.toNatClampNeg))
def m_cpy (o0 : Option (Nat × Nat)) (sp : Int32) (o1 : Option (Nat × Nat)) (dp n : Int32) (h : am_H) (K : am_H → am_R) : am_R := m_as o0 fun a0 => m_as o1 fun a1 =>
  m_ck (am_isA a0.1 0 && am_isA a1.1 0 && decide (¬ sp < 0 ∧ ¬ dp < 0 ∧ ¬ n < 0 ∧ sp.toNatClampNeg + n.toNatClampNeg ≤ am_ln a0.1 ∧ dp.toNatClampNeg + n.toNatClampNeg ≤ am_ln a1.1)) (K (m_cp h a0.1 a0.2 sp.toNatClampNeg a1.1 a1.2 dp.toNatClampNeg n.toNatClampNeg))
def m_rz (h : am_H) (x : Int32) : am_R := m_ck (m_nz x) (m_rt h (some (.inl x)))
def m_rc (h : am_H) (x : Int32) : am_R := m_ck (m_nzc x) (m_rt h (some (.inl x)))
def m_ri (h : am_H) (x : Int32) : am_R := m_rt h (some (.inl x))
def m_ra (h : am_H) (o : Option (Nat × Nat)) : am_R := m_rt h (some (.inr (.inr o)))
def m_dv (y : Int32) (r : am_R) : am_R := m_ck (!(y == 0)) r
section SimComb
variable {M : am_M} {d pc : Nat} {lv : List (Option am_V)} {st : List am_V} {h : am_H} {o : Option (Nat × Nat)}
theorem sim_gI {ix i : Nat} {K : Int32 → am_R} (ci j : Nat) {C : String} {T : u_T} {N : Nat} (d0 : decode M.2.1 pc = .ok (.getfield ix, 3)) (hcl : vwCl[ci]? = some (C, T, N)) (hw : lw_tbl[i]? = some (.fieldLink M.1.cls ix (T j).1 (T j).2.1 (T j).2.2.1)) (hj : j < N) (hr : am_rf ci j = false)
    (k : ∀ v, Sim M d (pc + 3) lv (.inl v :: st) h (K v)) : Sim M d pc lv (.inr (.inr o) :: st) h (m_gI o ci j h K) := sim_as0 fun _ => sim_getI ci j d0 hcl hw hj hr (k _)
theorem sim_gR {ix i : Nat} {K : Option (Nat × Nat) → am_R} (ci j : Nat) {C : String} {T : u_T} {N : Nat} (d0 : decode M.2.1 pc = .ok (.getfield ix, 3)) (hcl : vwCl[ci]? = some (C, T, N)) (hw : lw_tbl[i]? = some (.fieldLink M.1.cls ix (T j).1 (T j).2.1 (T j).2.2.1)) (hj : j < N) (hr : am_rf ci j = true)
    (k : ∀ v, Sim M d (pc + 3) lv (.inr (.inr v) :: st) h (K v)) : Sim M d pc lv (.inr (.inr o) :: st) h (m_gR o ci j h K) := sim_as0 fun _ => sim_getR ci j d0 hcl hw hj hr (k _)
theorem sim_pI {ix i : Nat} {x : Int32} {K : am_H → am_R} (ci j : Nat) {C : String} {T : u_T} {N : Nat} (d0 : decode M.2.1 pc = .ok (.putfield ix, 3)) (hcl : vwCl[ci]? = some (C, T, N)) (hw : lw_tbl[i]? = some (.fieldLink M.1.cls ix (T j).1 (T j).2.1 (T j).2.2.1)) (hj : j < N) (hr : am_rf ci j = false) (hfin : (T j).2.2.2 = false ∨ ((T j).2.2.2 = true ∧ M.1.name = "<init>" ∧ (T j).1 = M.1.cls)) (hty : am_tyX ci j = .int)
    (k : ∀ h1, Sim M d (pc + 3) lv st h1 (K h1)) : Sim M d pc lv (.inl x :: .inr (.inr o) :: st) h (m_pI o ci j x h K) := sim_as1 fun _ => sim_putI ci j d0 hcl hw hj hr hfin (by rw [hty]; exact ⟨rfl, rfl⟩) (k _)
theorem sim_pZ {ix i : Nat} {x : Int32} {K : am_H → am_R} (ci j : Nat) {C : String} {T : u_T} {N : Nat} (d0 : decode M.2.1 pc = .ok (.putfield ix, 3)) (hcl : vwCl[ci]? = some (C, T, N)) (hw : lw_tbl[i]? = some (.fieldLink M.1.cls ix (T j).1 (T j).2.1 (T j).2.2.1)) (hj : j < N) (hr : am_rf ci j = false) (hfin : (T j).2.2.2 = false ∨ ((T j).2.2.2 = true ∧ M.1.name = "<init>" ∧ (T j).1 = M.1.cls)) (hty : am_tyX ci j = .boolean)
    (k : ∀ h1, Sim M d (pc + 3) lv st h1 (K h1)) : Sim M d pc lv (.inl x :: .inr (.inr o) :: st) h (m_pZ o ci j x h K) := sim_as1 fun _ => sim_putZ ci j d0 hcl hw hj hr hfin hty (k _)
theorem sim_pC {ix i : Nat} {x : Int32} {K : am_H → am_R} (ci j : Nat) {C : String} {T : u_T} {N : Nat} (d0 : decode M.2.1 pc = .ok (.putfield ix, 3)) (hcl : vwCl[ci]? = some (C, T, N)) (hw : lw_tbl[i]? = some (.fieldLink M.1.cls ix (T j).1 (T j).2.1 (T j).2.2.1)) (hj : j < N) (hr : am_rf ci j = false) (hfin : (T j).2.2.2 = false ∨ ((T j).2.2.2 = true ∧ M.1.name = "<init>" ∧ (T j).1 = M.1.cls)) (hty : am_tyX ci j = .char)
    (k : ∀ h1, Sim M d (pc + 3) lv st h1 (K h1)) : Sim M d pc lv (.inl x :: .inr (.inr o) :: st) h (m_pC o ci j x h K) := sim_as1 fun _ => sim_putC ci j d0 hcl hw hj hr hfin hty (k _)
theorem sim_pR {ix i : Nat} {v : Option (Nat × Nat)} {K : am_H → am_R} (ci j : Nat) {C : String} {T : u_T} {N : Nat} (d0 : decode M.2.1 pc = .ok (.putfield ix, 3)) (hcl : vwCl[ci]? = some (C, T, N)) (hw : lw_tbl[i]? = some (.fieldLink M.1.cls ix (T j).1 (T j).2.1 (T j).2.2.1)) (hj : j < N) (hr : am_rf ci j = true) (hfin : (T j).2.2.2 = false ∨ ((T j).2.2.2 = true ∧ M.1.name = "<init>" ∧ (T j).1 = M.1.cls))
    (k : ∀ h1, Sim M d (pc + 3) lv st h1 (K h1)) : Sim M d pc lv (.inr (.inr v) :: .inr (.inr o) :: st) h (m_pR o ci j v h K) := sim_as1 fun _ => sim_putR ci j d0 hcl hw hj hr hfin (k _)
theorem sim_aI {i : Int32} {K : Int32 → am_R} (d0 : decode M.2.1 pc = .ok (.iaload, 1)) (k : ∀ v, Sim M d (pc + 1) lv (.inl v :: st) h (K v)) : Sim M d pc lv (.inl i :: .inr (.inr o) :: st) h (m_aI o 0 i h K) := sim_as1 fun _ => sim_iald d0 (k _)
theorem sim_aZ {i : Int32} {K : Int32 → am_R} (d0 : decode M.2.1 pc = .ok (.baload, 1)) (k : ∀ v, Sim M d (pc + 1) lv (.inl v :: st) h (K v)) : Sim M d pc lv (.inl i :: .inr (.inr o) :: st) h (m_aI o 1 i h K) := sim_as1 fun _ => sim_zald d0 (k _)
theorem sim_aC {i : Int32} {K : Int32 → am_R} (d0 : decode M.2.1 pc = .ok (.caload, 1)) (k : ∀ v, Sim M d (pc + 1) lv (.inl v :: st) h (K v)) : Sim M d pc lv (.inl i :: .inr (.inr o) :: st) h (m_aI o 2 i h K) := sim_as1 fun _ => sim_cald d0 (k _)
theorem sim_aL {i : Int32} {K : Int64 → am_R} (d0 : decode M.2.1 pc = .ok (.laload, 1)) (k : ∀ v, Sim M d (pc + 1) lv (.inr (.inl v) :: st) h (K v)) : Sim M d pc lv (.inl i :: .inr (.inr o) :: st) h (m_aL o i h K) := sim_as1 fun _ => sim_lald d0 (k _)
theorem sim_aR {i : Int32} {K : Option (Nat × Nat) → am_R} (t : Nat) {c : Nat} {C : String} (ht : am_rty t = some (c, C)) (d0 : decode M.2.1 pc = .ok (.aaload, 1)) (k : ∀ v, Sim M d (pc + 1) lv (.inr (.inr v) :: st) h (K v)) : Sim M d pc lv (.inl i :: .inr (.inr o) :: st) h (m_aR o t i h K) := sim_as1 fun _ => sim_aald t ht d0 (k _)
theorem sim_sI {i x : Int32} {K : am_H → am_R} (d0 : decode M.2.1 pc = .ok (.iastore, 1)) (k : ∀ h1, Sim M d (pc + 1) lv st h1 (K h1)) : Sim M d pc lv (.inl x :: .inl i :: .inr (.inr o) :: st) h (m_sI o i x h K) := sim_as2 fun _ => sim_iast d0 (k _)
theorem sim_sZ {i x : Int32} {K : am_H → am_R} (d0 : decode M.2.1 pc = .ok (.bastore, 1)) (k : ∀ h1, Sim M d (pc + 1) lv st h1 (K h1)) : Sim M d pc lv (.inl x :: .inl i :: .inr (.inr o) :: st) h (m_sZ o i x h K) := sim_as2 fun _ => sim_zast d0 (k _)
theorem sim_sC {i x : Int32} {K : am_H → am_R} (d0 : decode M.2.1 pc = .ok (.castore, 1)) (k : ∀ h1, Sim M d (pc + 1) lv st h1 (K h1)) : Sim M d pc lv (.inl x :: .inl i :: .inr (.inr o) :: st) h (m_sC o i x h K) := sim_as2 fun _ => sim_cast d0 (k _)
theorem sim_sL {i : Int32} {x : Int64} {K : am_H → am_R} (d0 : decode M.2.1 pc = .ok (.lastore, 1)) (k : ∀ h1, Sim M d (pc + 1) lv st h1 (K h1)) : Sim M d pc lv (.inr (.inl x) :: .inl i :: .inr (.inr o) :: st) h (m_sL o i x h K) := sim_as2 fun _ => sim_last d0 (k _)
theorem sim_sR {i : Int32} {v : Option (Nat × Nat)} {K : am_H → am_R} (t : Nat) {c : Nat} {C : String} (ht : am_rty t = some (c, C)) (d0 : decode M.2.1 pc = .ok (.aastore, 1)) (k : ∀ h1, Sim M d (pc + 1) lv st h1 (K h1)) : Sim M d pc lv (.inr (.inr v) :: .inl i :: .inr (.inr o) :: st) h (m_sR o t c i v h K) := sim_as2 fun _ => sim_as0 fun _ => sim_aast t ht d0 (k _)
theorem sim_nw {ix i1 i2 i3 : Nat} {K : Nat × Nat → am_H → am_R} (s ci : Nat) {C : String} {T : u_T} (N : Nat) (d0 : decode M.2.1 pc = .ok (.new ix, 3)) (hcl : vwCl[ci]? = some (C, T, N)) (hs : am_isO s ci = true) (w1 : lw_tbl[i1]? = some (.classLink M.1.cls ix C)) (w2 : lw_tbl[i2]? = some (.instantiable C N)) (w3 : lw_tbl[i3]? = some (.initialized C))
    (k : ∀ a h1, Sim M d (pc + 3) lv (.inr (.inr (some a)) :: st) h1 (K a h1)) : Sim M d pc lv st h (m_new s N h K) := sim_new s ci N d0 hcl hs w1 w2 w3 (k _ _)
theorem sim_nwI {atype : ArrayType} {i1 : Nat} {n : Int32} {K : Nat × Nat → am_H → am_R} (s t : Nat) {ty : FieldType} (N : Nat) (d0 : decode M.2.1 pc = .ok (.newarray atype, 2)) (hty : newarray.typeOf atype = ty) (hs : am_isA s t = true) (hN : am_ln s = N) (hn : n = nI N) (hN2 : N ≤ 100000) (ht : ∀ dA : Nat → ClassId, (am_tys dA)[t]? = some (dA t, ty)) (hdf : defaultValue ty = .int 0) (hcb : componentBytes ty ≤ 8) (w1 : lw_tbl[i1]? = some (.arrayClass ty))
    (k : ∀ a h1, Sim M d (pc + 2) lv (.inr (.inr (some a)) :: st) h1 (K a h1)) : Sim M d pc lv (.inl n :: st) h (m_new s N h K) := sim_newI s t N d0 hty hs hN hn hN2 ht hdf hcb w1 (k _ _)
theorem sim_nwL {i1 : Nat} {n : Int32} {K : Nat × Nat → am_H → am_R} (s N : Nat) (d0 : decode M.2.1 pc = .ok (.newarray .long, 2)) (hs : am_isL s = true) (hN : am_ln s = N) (hn : n = nI N) (hN2 : N ≤ 100000) (w1 : lw_tbl[i1]? = some (.arrayClass .long))
    (k : ∀ a h1, Sim M d (pc + 2) lv (.inr (.inr (some a)) :: st) h1 (K a h1)) : Sim M d pc lv (.inl n :: st) h (m_new s N h K) := sim_newL s N d0 hs hN hn hN2 w1 (k _ _)
theorem sim_nwR {ix i1 i2 c0 : Nat} {n : Int32} {K : Nat × Nat → am_H → am_R} (s t N : Nat) {C : String} (d0 : decode M.2.1 pc = .ok (.anewarray ix, 3)) (ht : am_rty t = some (c0, C)) (hs : am_isQ s t = true) (hN : am_ln s = N) (hn : n = nI N) (hN2 : N ≤ 100000) (w1 : lw_tbl[i1]? = some (.classLink M.1.cls ix C)) (w2 : lw_tbl[i2]? = some (.arrayOver (.object C)))
    (k : ∀ a h1, Sim M d (pc + 3) lv (.inr (.inr (some a)) :: st) h1 (K a h1)) : Sim M d pc lv (.inl n :: st) h (m_new s N h K) := sim_newR s t N d0 ht hs hN hn hN2 w1 w2 (k _ _)
theorem sim_len {K : Int32 → am_R} (d0 : decode M.2.1 pc = .ok (.arraylength, 1)) (k : ∀ v, Sim M d (pc + 1) lv (.inl v :: st) h (K v)) : Sim M d pc lv (.inr (.inr o) :: st) h (m_len o K) := sim_as0 fun _ => sim_alenI 0 d0 (k _)
theorem sim_scr {i : Int32} {K : Int32 → am_R} (d0 : decode M.2.1 pc = .ok (.iaload, 1)) (k : ∀ v, Sim M d (pc + 1) lv (.inl v :: st) h (K v)) : Sim M d pc lv (.inl i :: .inr (.inr (some (1, 0))) :: st) h (m_scr i h K) := sim_sld d0 (k _)
theorem sim_cpy {ix i1 i2 i3 i4 : Nat} {o1 : Option (Nat × Nat)} {sp dp n : Int32} {K : am_H → am_R} (d0 : decode M.2.1 pc = .ok (.invokestatic ix, 3)) (w1 : lw_tbl[i1]? = some (.methodLink M.1.cls ix arraycopyName)) (w2 : lw_tbl[i2]? = some (.native arraycopyName)) (w3 : lw_tbl[i3]? = some (.static arraycopyName)) (w4 : lw_tbl[i4]? = some (.initialized "java/lang/System")) (hd : 2 ≤ d) (hw : am_wd st ≤ 8)
    (k : ∀ h1, Sim M d (pc + 3) lv st h1 (K h1)) : Sim M d pc lv (.inl n :: .inl dp :: .inr (.inr o1) :: .inl sp :: .inr (.inr o) :: st) h (m_cpy o sp o1 dp n h K) := sim_as4 fun _ => sim_as2 fun _ => sim_copy d0 w1 w2 w3 w4 hd hw (k _)
theorem sim_dv {x y : Int32} {r : am_R} (d0 : decode M.2.1 pc = .ok (.idiv, 1)) (k : Sim M d (pc + 1) lv (.inl (x / y) :: st) h r) : Sim M d pc lv (.inl y :: .inl x :: st) h (m_dv y r) := sim_idiv d0 k
theorem sim_rm {x y : Int32} {r : am_R} (d0 : decode M.2.1 pc = .ok (.irem, 1)) (k : Sim M d (pc + 1) lv (.inl (x - x / y * y) :: st) h r) : Sim M d pc lv (.inl y :: .inl x :: st) h (m_dv y r) := sim_irem d0 k
theorem sim_ao0 {ci : Nat} {K : Nat × Nat → am_R} (k : ∀ a, am_isO a.1 ci = true → Sim M d pc lv (.inr (.inr (some a)) :: st) h (K a)) : Sim M d pc lv (.inr (.inr o) :: st) h (m_ao o ci K) := sim_as0 fun a => sim_ck fun e => k a e
theorem sim_ao1 {ci : Nat} {v1 : am_V} {K : Nat × Nat → am_R} (k : ∀ a, am_isO a.1 ci = true → Sim M d pc lv (v1 :: .inr (.inr (some a)) :: st) h (K a)) : Sim M d pc lv (v1 :: .inr (.inr o) :: st) h (m_ao o ci K) := sim_as1 fun a => sim_ck fun e => k a e
theorem sim_ao2 {ci : Nat} {v1 v2 : am_V} {K : Nat × Nat → am_R} (k : ∀ a, am_isO a.1 ci = true → Sim M d pc lv (v1 :: v2 :: .inr (.inr (some a)) :: st) h (K a)) : Sim M d pc lv (v1 :: v2 :: .inr (.inr o) :: st) h (m_ao o ci K) := sim_as2 fun a => sim_ck fun e => k a e
theorem sim_ao3 {ci : Nat} {v1 v2 v3 : am_V} {K : Nat × Nat → am_R} (k : ∀ a, am_isO a.1 ci = true → Sim M d pc lv (v1 :: v2 :: v3 :: .inr (.inr (some a)) :: st) h (K a)) : Sim M d pc lv (v1 :: v2 :: v3 :: .inr (.inr o) :: st) h (m_ao o ci K) := sim_as3 fun a => sim_ck fun e => k a e
theorem sim_ao4 {ci : Nat} {v1 v2 v3 v4 : am_V} {K : Nat × Nat → am_R} (k : ∀ a, am_isO a.1 ci = true → Sim M d pc lv (v1 :: v2 :: v3 :: v4 :: .inr (.inr (some a)) :: st) h (K a)) : Sim M d pc lv (v1 :: v2 :: v3 :: v4 :: .inr (.inr o) :: st) h (m_ao o ci K) := sim_as4 fun a => sim_ck fun e => k a e
theorem am_leT {l : List (Option am_V)} : am_leL [] l := trivial
theorem am_leN {l l' : List (Option am_V)} {x : Option am_V} (h : am_leL l l') : am_leL (none :: l) (x :: l') := h
theorem am_leS {l l' : List (Option am_V)} {v : am_V} (h : am_leL l l') : am_leL (some v :: l) (some v :: l') := ⟨rfl, h⟩
end SimComb
end
section
theorem am_mem {w : Cond} (i : Nat) (h : lw_tbl[i]? = some w) (hg : am_gw w = true) : w ∈ am_T := List.mem_filter.mpr ⟨List.mem_of_getElem? h, hg⟩
theorem wobj_i : Cond.instanceMethod objectInit ∈ am_T := List.mem_filter.mpr ⟨List.mem_of_getElem? (i := 84) (by decide +kernel), rfl⟩
theorem wobj_c : Cond.code objectInit ⟨#[0xb1]⟩ 1 none ∈ am_T := List.mem_filter.mpr ⟨List.mem_of_getElem? (i := 85) (by decide +kernel), rfl⟩
def m_max (x y : Int32) : Int32 := if x < y then y else x
def m_min (x y : Int32) : Int32 := if y < x then y else x
theorem sim_mmax {M : am_M} {d pc : Nat} {lv : List (Option am_V)} {st : List am_V} {h : am_H} {r : am_R} {ix i1 i2 i3 i4 : Nat} {x y : Int32} (d0 : decode M.2.1 pc = .ok (.invokestatic ix, 3)) (w1 : lw_tbl[i1]? = some (.methodLink M.1.cls ix Lib.Math.max.name)) (w2 : lw_tbl[i2]? = some (.static Lib.Math.max.name)) (w4 : lw_tbl[i4]? = some (.initialized "java/lang/Math")) (w3 : lw_tbl[i3]? = some (.code Lib.Math.max.name Lib.Math.max.code 2 (some .int))) (hd : 1 ≤ d) (hw : am_wd st ≤ 8) (k : Sim M d (pc + 3) lv (.inl (m_max x y) :: st) h r) : Sim M d pc lv (.inl y :: .inl x :: st) h r := by
  intro h' o e
  obtain ⟨q1, q2⟩ := k h' o e
  refine ⟨q1, fun l D dA base b n xs p e9 R s m args below meth c mc ms Qc XC C μ H locs cells slots ls a1 a2 a3 a4 a5 a6 a7 => ?_⟩
  have hts := C.2.2.2.2.2.2.2.1
  have hRm := C.2.2.2.2.2.2.2.2.2.2.1
  have hl9 : 36 * d ≤ R.locals := hRm.2.1
  exact va_mmax C.1 C.2.1 (by rw [C.2.2.1]; exact a3.1.1.symm) C.2.2.2.2.1 (am_Tw hts w1 rfl) (am_Tw hts w2 rfl) (am_Tw hts w4 rfl) (am_Tw hts w3 rfl) (Nat.le_trans hd hRm.1) (by rw [am_wd_eq]; omega) (Nat.le_trans (by omega) hRm.2.2.1) (Nat.le_trans (by omega) hRm.2.2.2) d0 (q2 l D dA base b n xs p e9 R s m args below meth c mc ms Qc XC C μ H locs cells slots ls a1 a2 a3 (a4.tail.tail.cons am_clo_i) a5 a6 a7)
theorem sim_mmin {M : am_M} {d pc : Nat} {lv : List (Option am_V)} {st : List am_V} {h : am_H} {r : am_R} {ix i1 i2 i3 i4 : Nat} {x y : Int32} (d0 : decode M.2.1 pc = .ok (.invokestatic ix, 3)) (w1 : lw_tbl[i1]? = some (.methodLink M.1.cls ix Lib.Math.min.name)) (w2 : lw_tbl[i2]? = some (.static Lib.Math.min.name)) (w4 : lw_tbl[i4]? = some (.initialized "java/lang/Math")) (w3 : lw_tbl[i3]? = some (.code Lib.Math.min.name Lib.Math.min.code 2 (some .int))) (hd : 1 ≤ d) (hw : am_wd st ≤ 8) (k : Sim M d (pc + 3) lv (.inl (m_min x y) :: st) h r) : Sim M d pc lv (.inl y :: .inl x :: st) h r := by
  intro h' o e
  obtain ⟨q1, q2⟩ := k h' o e
  refine ⟨q1, fun l D dA base b n xs p e9 R s m args below meth c mc ms Qc XC C μ H locs cells slots ls a1 a2 a3 a4 a5 a6 a7 => ?_⟩
  have hts := C.2.2.2.2.2.2.2.1
  have hRm := C.2.2.2.2.2.2.2.2.2.2.1
  have hl9 : 36 * d ≤ R.locals := hRm.2.1
  exact va_mmin C.1 C.2.1 (by rw [C.2.2.1]; exact a3.1.1.symm) C.2.2.2.2.1 (am_Tw hts w1 rfl) (am_Tw hts w2 rfl) (am_Tw hts w4 rfl) (am_Tw hts w3 rfl) (Nat.le_trans hd hRm.1) (by rw [am_wd_eq]; omega) (Nat.le_trans (by omega) hRm.2.2.1) (Nat.le_trans (by omega) hRm.2.2.2) d0 (q2 l D dA base b n xs p e9 R s m args below meth c mc ms Qc XC C μ H locs cells slots ls a1 a2 a3 (a4.tail.tail.cons am_clo_i) a5 a6 a7)
def m_sln (h : am_H) (K : Int32 → am_R) : am_R := K (m_gi h 1 1 0)
theorem sim_sln {M : am_M} {d pc : Nat} {lv : List (Option am_V)} {st : List am_V} {h : am_H} {K : Int32 → am_R} (d0 : decode M.2.1 pc = .ok (.arraylength, 1)) (k : ∀ v, Sim M d (pc + 1) lv (.inl v :: st) h (K v)) : Sim M d pc lv (.inr (.inr (some (1, 0))) :: st) h (m_sln h K) := sim_slen d0 (k _)
theorem simx_none {M : am_M} {d pc : Nat} {lv : List (Option am_V)} {h1 : am_H} {kx : Nat} : SimX M d pc lv h1 kx none := fun h' o e => by cases e
theorem simx_case {M : am_M} {d pc : Nat} {lv : List (Option am_V)} {h1 : am_H} {kx : Nat} {P : Prop} [Decidable P] {r1 r2 : am_R} (kt : P → SimX M d pc lv h1 kx r1) (kf : ¬ P → SimX M d pc lv h1 kx r2) : SimX M d pc lv h1 kx (if P then r1 else r2) := by
  by_cases q : P
  · rw [if_pos q]; exact kt q
  · rw [if_neg q]; exact kf q
theorem am_eIx {M : am_M} {d pc : Nat} {lv : List (Option am_V)} {r1 : am_R} {K : am_H → Int32 → am_R} {X : am_H → Nat → am_R} (k : ∀ h1 k, SimX M d pc lv h1 k (X (m_op h1) k)) : ∀ h1 k, r1 = some (h1, .inr k) → SimX M d pc lv h1 k (m_bIx r1 K X) := by
  rintro h1 k9 rfl
  exact k h1 k9
theorem am_eVx {M : am_M} {d pc : Nat} {lv : List (Option am_V)} {r1 : am_R} {K : am_H → am_R} {X : am_H → Nat → am_R} (k : ∀ h1 k, SimX M d pc lv h1 k (X (m_op h1) k)) : ∀ h1 k, r1 = some (h1, .inr k) → SimX M d pc lv h1 k (m_bVx r1 K X) := by
  rintro h1 k9 rfl
  exact k h1 k9
end
section
theorem wc_RX10_162 : lw_tbl[461]? = some (.classLink RX10 162 "java/lang/IndexOutOfBoundsException") := by decide +kernel
theorem wx_RX10_162 : lw_tbl[461]? = some (.classLink RX10 162 (am_xn 0)) := by decide +kernel
theorem wy_0 : lw_tbl[70]? = some (.initialized (am_xn 0)) := by decide +kernel
theorem ws_RX10_378 : lw_tbl[470]? = some (.stringRef RX10 378 "there is no such PERSON") := by decide +kernel
theorem at_RX10_166 : ∀ w ∈ vx_atS RX10 166 (am_xn 0) am_up9, w ∈ am_T := am_in_T (by decide +kernel) (by decide +kernel)
theorem gd_RX10_166 : ∀ w ∈ Cond.classLink RX10 162 (am_xn 0) :: Cond.initialized (am_xn 0) :: vx_atS RX10 166 (am_xn 0) am_up9, vx_ot w = true := by decide +kernel
theorem wm_RX10_82 : lw_tbl[458]? = some (.methodLink RX10 82 yX10_checkPerson) := by decide +kernel
theorem wf_RX10_15 : lw_tbl[227]? = some (.fieldLink RX10 15 (TX10 2).1 (TX10 2).2.1 (TX10 2).2.2.1) := by decide +kernel
theorem wf_RX10_88 : lw_tbl[209]? = some (.fieldLink RX10 88 (TX3 0).1 (TX3 0).2.1 (TX3 0).2.2.1) := by decide +kernel
theorem wm_RX10_91 : lw_tbl[478]? = some (.methodLink RX10 91 yX10_has) := by decide +kernel
theorem wm_RX10_95 : lw_tbl[269]? = some (.methodLink RX10 95 yX10_with) := by decide +kernel
theorem wc_RX10_66 : lw_tbl[366]? = some (.classLink RX10 66 "java/lang/IllegalArgumentException") := by decide +kernel
theorem wx_RX10_66 : lw_tbl[366]? = some (.classLink RX10 66 (am_xn 1)) := by decide +kernel
theorem wy_1 : lw_tbl[68]? = some (.initialized (am_xn 1)) := by decide +kernel
theorem ws_RX10_86 : lw_tbl[477]? = some (.stringRef RX10 86 "both are the same") := by decide +kernel
theorem at_RX10_70 : ∀ w ∈ vx_atS RX10 70 (am_xn 1) am_up9, w ∈ am_T := am_in_T (by decide +kernel) (by decide +kernel)
theorem gd_RX10_70 : ∀ w ∈ Cond.classLink RX10 66 (am_xn 1) :: Cond.initialized (am_xn 1) :: vx_atS RX10 70 (am_xn 1) am_up9, vx_ot w = true := by decide +kernel
theorem wm_RL_17 : lw_tbl[454]? = some (.methodLink RL 17 yX10_block) := by decide +kernel
theorem wx_RL_21 : lw_tbl[453]? = some (.classLink RL 21 (am_xn 0)) := by decide +kernel
theorem wca_0 : lw_tbl[463]? = some (.castable (am_xn 0) (am_xn 0)) := by decide +kernel
theorem wx_RL_13 : lw_tbl[360]? = some (.classLink RL 13 (am_xn 1)) := by decide +kernel
theorem wca_1 : lw_tbl[368]? = some (.castable (am_xn 1) (am_xn 1)) := by decide +kernel
theorem wf_RX10_327 : lw_tbl[237]? = some (.fieldLink RX10 327 (TX10 12).1 (TX10 12).2.1 (TX10 12).2.2.1) := by decide +kernel
theorem wf_RX10_61 : lw_tbl[236]? = some (.fieldLink RX10 61 (TX10 11).1 (TX10 11).2.1 (TX10 11).2.2.1) := by decide +kernel
theorem ws_RX10_386 : lw_tbl[973]? = some (.stringRef RX10 386 "there is no such comment") := by decide +kernel
theorem wm_RX10_318 : lw_tbl[969]? = some (.methodLink RX10 318 yX10_commentAt) := by decide +kernel
theorem wf_RX10_339 : lw_tbl[1007]? = some (.fieldLink RX10 339 (TX1 3).1 (TX1 3).2.1 (TX1 3).2.2.1) := by decide +kernel
theorem wf_RX10_342 : lw_tbl[1010]? = some (.fieldLink RX10 342 (TX1 5).1 (TX1 5).2.1 (TX1 5).2.2.1) := by decide +kernel
theorem wf_RX10_345 : lw_tbl[1008]? = some (.fieldLink RX10 345 (TX1 4).1 (TX1 4).2.1 (TX1 4).2.2.1) := by decide +kernel
theorem ws_RX10_232 : lw_tbl[765]? = some (.stringRef RX10 232 "what is out of range") := by decide +kernel
theorem wm_RL_110 : lw_tbl[1027]? = some (.methodLink RL 110 yX10_change) := by decide +kernel
theorem wf_RX10_104 : lw_tbl[229]? = some (.fieldLink RX10 104 (TX10 4).1 (TX10 4).2.1 (TX10 4).2.2.1) := by decide +kernel
theorem ws_RX10_384 : lw_tbl[565]? = some (.stringRef RX10 384 "there is no such WORK") := by decide +kernel
theorem wm_RX10_361 : lw_tbl[561]? = some (.methodLink RX10 361 yX10_checkWork) := by decide +kernel
theorem wf_RX10_21 : lw_tbl[228]? = some (.fieldLink RX10 21 (TX10 3).1 (TX10 3).2.1 (TX10 3).2.2.1) := by decide +kernel
theorem wm_RX10_112 : lw_tbl[557]? = some (.methodLink RX10 112 yX10_workAt) := by decide +kernel
theorem wf_RX10_133 : lw_tbl[511]? = some (.fieldLink RX10 133 (TX9 3).1 (TX9 3).2.1 (TX9 3).2.2.1) := by decide +kernel
theorem wf_RX10_138 : lw_tbl[509]? = some (.fieldLink RX10 138 (TX9 2).1 (TX9 2).2.1 (TX9 2).2.2.1) := by decide +kernel
theorem wf_RX10_73 : lw_tbl[225]? = some (.fieldLink RX10 73 (TX10 0).1 (TX10 0).2.1 (TX10 0).2.2.1) := by decide +kernel
theorem wc_RX10_77 : lw_tbl[434]? = some (.classLink RX10 77 "java/lang/IllegalStateException") := by decide +kernel
theorem wx_RX10_77 : lw_tbl[434]? = some (.classLink RX10 77 (am_xn 2)) := by decide +kernel
theorem wy_2 : lw_tbl[69]? = some (.initialized (am_xn 2)) := by decide +kernel
theorem ws_RX10_136 : lw_tbl[588]? = some (.stringRef RX10 136 "the WORK has 8 chapters") := by decide +kernel
theorem at_RX10_81 : ∀ w ∈ vx_atS RX10 81 (am_xn 2) am_up9, w ∈ am_T := am_in_T (by decide +kernel) (by decide +kernel)
theorem gd_RX10_81 : ∀ w ∈ Cond.classLink RX10 77 (am_xn 2) :: Cond.initialized (am_xn 2) :: vx_atS RX10 81 (am_xn 2) am_up9, vx_ot w = true := by decide +kernel
theorem wm_RL_37 : lw_tbl[584]? = some (.methodLink RL 37 yX10_chapter) := by decide +kernel
theorem wx_RL_15 : lw_tbl[361]? = some (.classLink RL 15 (am_xn 2)) := by decide +kernel
theorem wca_2 : lw_tbl[436]? = some (.castable (am_xn 2) (am_xn 2)) := by decide +kernel
theorem wf_RX10_156 : lw_tbl[231]? = some (.fieldLink RX10 156 (TX10 6).1 (TX10 6).2.1 (TX10 6).2.2.1) := by decide +kernel
theorem wf_RX10_167 : lw_tbl[517]? = some (.fieldLink RX10 167 (TX9 6).1 (TX9 6).2.1 (TX9 6).2.2.1) := by decide +kernel
theorem wf_RX10_27 : lw_tbl[230]? = some (.fieldLink RX10 27 (TX10 5).1 (TX10 5).2.1 (TX10 5).2.2.1) := by decide +kernel
theorem ws_RX10_171 : lw_tbl[639]? = some (.stringRef RX10 171 "the WORK is in a collection") := by decide +kernel
theorem ws_RX10_164 : lw_tbl[638]? = some (.stringRef RX10 164 "there is no such collection") := by decide +kernel
theorem wm_RL_50 : lw_tbl[634]? = some (.methodLink RL 50 yX10_collect) := by decide +kernel
theorem wm_RX0_1 : lw_tbl[621]? = some (.methodLink RX0 1 objectInit) := by decide +kernel
theorem wf_RX0_7 : lw_tbl[622]? = some (.fieldLink RX0 7 (TX0 0).1 (TX0 0).2.1 (TX0 0).2.2.1) := by decide +kernel
theorem wf_RX0_13 : lw_tbl[624]? = some (.fieldLink RX0 13 (TX0 1).1 (TX0 1).2.1 (TX0 1).2.2.1) := by decide +kernel
theorem wc_RX10_25 : lw_tbl[90]? = some (.classLink RX10 25 RX0) := by decide +kernel
theorem wi_RX0 : lw_tbl[617]? = some (.instantiable RX0 2) := by decide +kernel
theorem wz_RX0 : lw_tbl[73]? = some (.initialized RX0) := by decide +kernel
theorem wm_RX10_161 : lw_tbl[618]? = some (.methodLink RX10 161 yX0_init) := by decide +kernel
theorem ws_RX10_159 : lw_tbl[616]? = some (.stringRef RX10 159 "there are 6 collections") := by decide +kernel
theorem ws_RX10_154 : lw_tbl[615]? = some (.stringRef RX10 154 "opens or names is out of range") := by decide +kernel
theorem wm_RL_47 : lw_tbl[611]? = some (.methodLink RL 47 yX10_collection) := by decide +kernel
theorem ws_RX10_376 : lw_tbl[489]? = some (.stringRef RX10 376 "there is no such FACE") := by decide +kernel
theorem wm_RX10_455 : lw_tbl[983]? = some (.methodLink RX10 455 yX10_isBlockedBy) := by decide +kernel
theorem wf_RX9_19 : lw_tbl[506]? = some (.fieldLink RX9 19 (TX9 1).1 (TX9 1).2.1 (TX9 1).2.2.1) := by decide +kernel
theorem wn_RX9_25 : lw_tbl[571]? = some (.methodLinkNest RX9 25 yX10_has "Tagwranglery") := by decide +kernel
theorem wf_RX9_15 : lw_tbl[512]? = some (.fieldLink RX9 15 (TX9 4).1 (TX9 4).2.1 (TX9 4).2.2.1) := by decide +kernel
theorem wm_RX9_29 : lw_tbl[651]? = some (.methodLink RX9 29 yX9_isOwnedBy) := by decide +kernel
theorem wf_RX9_33 : lw_tbl[516]? = some (.fieldLink RX9 33 (TX9 6).1 (TX9 6).2.1 (TX9 6).2.2.1) := by decide +kernel
theorem wf_RX9_37 : lw_tbl[623]? = some (.fieldLink RX9 37 (TX0 0).1 (TX0 0).2.1 (TX0 0).2.2.1) := by decide +kernel
theorem wm_RX9_42 : lw_tbl[652]? = some (.methodLink RX9 42 yX9_isPosted) := by decide +kernel
theorem wf_RX9_46 : lw_tbl[514]? = some (.fieldLink RX9 46 (TX9 5).1 (TX9 5).2.1 (TX9 5).2.2.1) := by decide +kernel
theorem wm_RX10_173 : lw_tbl[647]? = some (.methodLink RX10 173 yX9_isSeenBy) := by decide +kernel
theorem wf_RX10_446 : lw_tbl[1004]? = some (.fieldLink RX10 446 (TX1 1).1 (TX1 1).2.1 (TX1 1).2.2.1) := by decide +kernel
theorem wm_RX10_125 : lw_tbl[567]? = some (.methodLink RX10 125 yX9_isOwnedBy) := by decide +kernel
theorem wf_RX1_24 : lw_tbl[1006]? = some (.fieldLink RX1 24 (TX1 3).1 (TX1 3).2.1 (TX1 3).2.2.1) := by decide +kernel
theorem wf_RX1_16 : lw_tbl[1005]? = some (.fieldLink RX1 16 (TX1 2).1 (TX1 2).2.1 (TX1 2).2.2.1) := by decide +kernel
theorem wf_RX10_116 : lw_tbl[507]? = some (.fieldLink RX10 116 (TX9 1).1 (TX9 1).2.1 (TX9 1).2.2.1) := by decide +kernel
theorem wm_RX10_449 : lw_tbl[979]? = some (.methodLink RX10 449 yX10_isBlockedByAny) := by decide +kernel
theorem wm_RX10_348 : lw_tbl[987]? = some (.methodLink RX10 348 yX10_isReadBy) := by decide +kernel
theorem wm_RX10_452 : lw_tbl[991]? = some (.methodLink RX10 452 yX1_isFrozenHereOrAbove) := by decide +kernel
theorem wm_RX1_1 : lw_tbl[1000]? = some (.methodLink RX1 1 objectInit) := by decide +kernel
theorem wf_RX1_7 : lw_tbl[1001]? = some (.fieldLink RX1 7 (TX1 0).1 (TX1 0).2.1 (TX1 0).2.2.1) := by decide +kernel
theorem wf_RX1_13 : lw_tbl[1003]? = some (.fieldLink RX1 13 (TX1 1).1 (TX1 1).2.1 (TX1 1).2.2.1) := by decide +kernel
theorem wf_RX1_20 : lw_tbl[1009]? = some (.fieldLink RX1 20 (TX1 5).1 (TX1 5).2.1 (TX1 5).2.2.1) := by decide +kernel
theorem wm_RX10_99 : lw_tbl[486]? = some (.methodLink RX10 99 yX10_checkFace) := by decide +kernel
theorem wf_RX10_322 : lw_tbl[1002]? = some (.fieldLink RX10 322 (TX1 0).1 (TX1 0).2.1 (TX1 0).2.2.1) := by decide +kernel
theorem ws_RX10_325 : lw_tbl[974]? = some (.stringRef RX10 325 "the comment is on another WORK") := by decide +kernel
theorem wm_RX10_330 : lw_tbl[975]? = some (.methodLink RX10 330 yX10_mayComment) := by decide +kernel
theorem wf_RX10_315 : lw_tbl[523]? = some (.fieldLink RX10 315 (TX9 10).1 (TX9 10).2.1 (TX9 10).2.2.1) := by decide +kernel
theorem wc_RX10_59 : lw_tbl[199]? = some (.classLink RX10 59 RX1) := by decide +kernel
theorem wi_RX1 : lw_tbl[996]? = some (.instantiable RX1 6) := by decide +kernel
theorem wz_RX1 : lw_tbl[77]? = some (.initialized RX1) := by decide +kernel
theorem wm_RX10_336 : lw_tbl[997]? = some (.methodLink RX10 336 yX1_init) := by decide +kernel
theorem ws_RX10_334 : lw_tbl[995]? = some (.stringRef RX10 334 "the FACE cannot comment there, or there are 60 comments") := by decide +kernel
theorem wm_RL_106 : lw_tbl[965]? = some (.methodLink RL 106 yX10_comment) := by decide +kernel
theorem wk_RJ6_265 : lw_tbl[353]? = some (.constant RJ6 265 (1431655765)) := by decide +kernel
theorem wk_RJ6_266 : lw_tbl[354]? = some (.constant RJ6 266 (858993459)) := by decide +kernel
theorem wk_RJ6_267 : lw_tbl[355]? = some (.constant RJ6 267 (252645135)) := by decide +kernel
theorem wn_RX3_27 : lw_tbl[1079]? = some (.methodLinkNest RX3 27 yX10_has "Tagwranglery") := by decide +kernel
theorem wf_RX3_15 : lw_tbl[212]? = some (.fieldLink RX3 15 (TX3 2).1 (TX3 2).2.1 (TX3 2).2.2.1) := by decide +kernel
theorem wm_RX3_31 : lw_tbl[1080]? = some (.methodLink RX3 31 Lib.Math.min.name) := by decide +kernel
theorem wms_min : lw_tbl[1081]? = some (.static Lib.Math.min.name) := by decide +kernel
theorem wmc_min : lw_tbl[1082]? = some (.code Lib.Math.min.name Lib.Math.min.code 2 (some .int)) := by decide +kernel
theorem wz_RJ9 : lw_tbl[75]? = some (.initialized RJ9) := by decide +kernel
theorem wf_RX9_9 : lw_tbl[508]? = some (.fieldLink RX9 9 (TX9 2).1 (TX9 2).2.1 (TX9 2).2.2.1) := by decide +kernel
theorem wm_RX9_56 : lw_tbl[896]? = some (.methodLink RX9 56 Lib.Math.max.name) := by decide +kernel
theorem wms_max : lw_tbl[897]? = some (.static Lib.Math.max.name) := by decide +kernel
theorem wmc_max : lw_tbl[898]? = some (.code Lib.Math.max.name Lib.Math.max.code 2 (some .int)) := by decide +kernel
theorem wf_RX9_62 : lw_tbl[510]? = some (.fieldLink RX9 62 (TX9 3).1 (TX9 3).2.1 (TX9 3).2.2.1) := by decide +kernel
theorem wm_RX9_65 : lw_tbl[892]? = some (.methodLink RX9 65 yX9_outDay) := by decide +kernel
theorem wn_RX9_69 : lw_tbl[1088]? = some (.methodLinkNest RX9 69 yX10_with "Tagwranglery") := by decide +kernel
theorem wf_RX9_50 : lw_tbl[625]? = some (.fieldLink RX9 50 (TX0 1).1 (TX0 1).2.1 (TX0 1).2.2.1) := by decide +kernel
theorem wm_RX9_53 : lw_tbl[664]? = some (.methodLink RX9 53 yX9_isSeenBy) := by decide +kernel
theorem wm_RX10_141 : lw_tbl[596]? = some (.methodLink RX10 141 yX9_isPosted) := by decide +kernel
theorem wf_RX10_367 : lw_tbl[211]? = some (.fieldLink RX10 367 (TX3 1).1 (TX3 1).2.1 (TX3 1).2.2.1) := by decide +kernel
theorem wm_RX10_176 : lw_tbl[660]? = some (.methodLink RX10 176 yX9_ownersToldTo) := by decide +kernel
theorem wm_RX10_458 : lw_tbl[1075]? = some (.methodLink RX10 458 yX3_firstDayOfAny) := by decide +kernel
theorem wm_RX10_461 : lw_tbl[1083]? = some (.methodLink RX10 461 Lib.Math.min.name) := by decide +kernel
theorem wm_RX10_466 : lw_tbl[1084]? = some (.methodLink RX10 466 yX9_chaptersOutFrom) := by decide +kernel
theorem wf_RX10_373 : lw_tbl[215]? = some (.fieldLink RX10 373 (TX3 3).1 (TX3 3).2.1 (TX3 3).2.2.1) := by decide +kernel
theorem wm_RX10_370 : lw_tbl[1071]? = some (.methodLink RX10 370 yX10_newChapters) := by decide +kernel
theorem wm_RX10_119 : lw_tbl[566]? = some (.methodLink RX10 119 yJ6_bitCount_0f7a4) := by decide +kernel
theorem wm_RL_129 : lw_tbl[1092]? = some (.methodLink RL 129 yX10_digest) := by decide +kernel
theorem ws_RX10_129 : lw_tbl[572]? = some (.stringRef RX10 129 "the PERSON cannot become an OWNER") := by decide +kernel
theorem wm_RL_31 : lw_tbl[553]? = some (.methodLink RL 31 yX10_join) := by decide +kernel
theorem wf_RX10_352 : lw_tbl[524]? = some (.fieldLink RX10 352 (TX9 11).1 (TX9 11).2.1 (TX9 11).2.2.1) := by decide +kernel
theorem wf_RX10_9 : lw_tbl[226]? = some (.fieldLink RX10 9 (TX10 1).1 (TX10 1).2.1 (TX10 1).2.2.1) := by decide +kernel
theorem wm_RX10_357 : lw_tbl[1046]? = some (.methodLink RX10 357 yX10_countKudos) := by decide +kernel
theorem ws_RX10_355 : lw_tbl[1045]? = some (.stringRef RX10 355 "the FACE cannot give kudos to the WORK") := by decide +kernel
theorem wm_RL_116 : lw_tbl[1041]? = some (.methodLink RL 116 yX10_kudos) := by decide +kernel
theorem ws_RX10_131 : lw_tbl[580]? = some (.stringRef RX10 131 "the PERSON is no OWNER of it") := by decide +kernel
theorem wm_RL_34 : lw_tbl[576]? = some (.methodLink RL 34 yX10_leave) := by decide +kernel
theorem wm_RL_119 : lw_tbl[1053]? = some (.methodLink RL 119 yX10_liked) := by decide +kernel
theorem wf_RX10_150 : lw_tbl[515]? = some (.fieldLink RX10 150 (TX9 5).1 (TX9 5).2.1 (TX9 5).2.2.1) := by decide +kernel
theorem wm_RL_43 : lw_tbl[604]? = some (.methodLink RL 43 yX10_lock) := by decide +kernel
theorem wf_RX10_34 : lw_tbl[232]? = some (.fieldLink RX10 34 (TX10 7).1 (TX10 7).2.1 (TX10 7).2.2.1) := by decide +kernel
theorem wf_RX10_180 : lw_tbl[99]? = some (.fieldLink RX10 180 (TX7 0).1 (TX7 0).2.1 (TX7 0).2.2.1) := by decide +kernel
theorem ws_RX10_380 : lw_tbl[688]? = some (.stringRef RX10 380 "there is no such TAG") := by decide +kernel
theorem wf_RX10_244 : lw_tbl[522]? = some (.fieldLink RX10 244 (TX9 9).1 (TX9 9).2.1 (TX9 9).2.2.1) := by decide +kernel
theorem wf_RX10_234 : lw_tbl[518]? = some (.fieldLink RX10 234 (TX9 7).1 (TX9 7).2.1 (TX9 7).2.2.1) := by decide +kernel
theorem wf_RX7_9 : lw_tbl[100]? = some (.fieldLink RX7 9 (TX7 1).1 (TX7 1).2.1 (TX7 1).2.2.1) := by decide +kernel
theorem wm_RX10_189 : lw_tbl[684]? = some (.methodLink RX10 189 yX10_checkTag) := by decide +kernel
theorem wm_RX10_192 : lw_tbl[689]? = some (.methodLink RX10 192 yX7_kindOf) := by decide +kernel
theorem wm_RX10_197 : lw_tbl[694]? = some (.methodLink RX10 197 yX7_makeMain) := by decide +kernel
theorem wm_RX10_200 : lw_tbl[698]? = some (.methodLink RX10 200 yX10_letTaggedWorksWait) := by decide +kernel
theorem ws_RX10_195 : lw_tbl[693]? = some (.stringRef RX10 195 "the TAG is MAIN") := by decide +kernel
theorem wm_RL_64 : lw_tbl[680]? = some (.methodLink RL 64 yX10_make) := by decide +kernel
end
section
theorem wf_RX7_21 : lw_tbl[98]? = some (.fieldLink RX7 21 (TX7 0).1 (TX7 0).2.1 (TX7 0).2.2.1) := by decide +kernel
theorem wn_RX7_25 : lw_tbl[344]? = some (.methodLinkNest RX7 25 yX10_has "Tagwranglery") := by decide +kernel
theorem wf_RX7_18 : lw_tbl[102]? = some (.fieldLink RX7 18 (TX7 3).1 (TX7 3).2.1 (TX7 3).2.2.1) := by decide +kernel
theorem wf_RX6_19 : lw_tbl[925]? = some (.fieldLink RX6 19 (TX6 3).1 (TX6 3).2.1 (TX6 3).2.2.1) := by decide +kernel
theorem wf_RX6_7 : lw_tbl[921]? = some (.fieldLink RX6 7 (TX6 0).1 (TX6 0).2.1 (TX6 0).2.2.1) := by decide +kernel
theorem wn_RX6_22 : lw_tbl[337]? = some (.methodLinkNest RX6 22 yX10_has "Tagwranglery") := by decide +kernel
theorem wf_RX6_13 : lw_tbl[923]? = some (.fieldLink RX6 13 (TX6 1).1 (TX6 1).2.1 (TX6 1).2.2.1) := by decide +kernel
theorem wm_RX6_28 : lw_tbl[340]? = some (.methodLink RX6 28 yX7_meaningsOf) := by decide +kernel
theorem wf_RX6_16 : lw_tbl[924]? = some (.fieldLink RX6 16 (TX6 2).1 (TX6 2).2.1 (TX6 2).2.2.1) := by decide +kernel
theorem wm_RX6_34 : lw_tbl[345]? = some (.methodLink RX6 34 yX7_belongUnder) := by decide +kernel
theorem wf_RX2_24 : lw_tbl[186]? = some (.fieldLink RX2 24 (TX2 1).1 (TX2 1).2.1 (TX2 1).2.2.1) := by decide +kernel
theorem wf_RX2_17 : lw_tbl[188]? = some (.fieldLink RX2 17 (TX2 2).1 (TX2 2).2.1 (TX2 2).2.2.1) := by decide +kernel
theorem wf_RX2_11 : lw_tbl[185]? = some (.fieldLink RX2 11 (TX2 0).1 (TX2 0).2.1 (TX2 0).2.2.1) := by decide +kernel
theorem wm_RX2_56 : lw_tbl[333]? = some (.methodLink RX2 56 yX6_suits) := by decide +kernel
theorem wn_RX2_39 : lw_tbl[349]? = some (.methodLinkNest RX2 39 yX10_with "Tagwranglery") := by decide +kernel
theorem wm_RX2_47 : lw_tbl[329]? = some (.methodLink RX2 47 yX2_findReceivers) := by decide +kernel
theorem wf_RX2_21 : lw_tbl[189]? = some (.fieldLink RX2 21 (TX2 3).1 (TX2 3).2.1 (TX2 3).2.2.1) := by decide +kernel
theorem wm_RX2_50 : lw_tbl[350]? = some (.methodLink RX2 50 yJ6_bitCount_0f7a4) := by decide +kernel
theorem wn_RX2_43 : lw_tbl[356]? = some (.methodLinkNest RX2 43 yX10_has "Tagwranglery") := by decide +kernel
theorem wm_RX2_31 : lw_tbl[325]? = some (.methodLink RX2 31 yX2_findWays) := by decide +kernel
theorem wm_RX2_35 : lw_tbl[951]? = some (.methodLink RX2 35 yX2_lowestReceiver) := by decide +kernel
theorem wf_RX10_55 : lw_tbl[235]? = some (.fieldLink RX10 55 (TX10 10).1 (TX10 10).2.1 (TX10 10).2.2.1) := by decide +kernel
theorem wf_RX10_294 : lw_tbl[187]? = some (.fieldLink RX10 294 (TX2 1).1 (TX2 1).2.1 (TX2 1).2.2.1) := by decide +kernel
theorem wm_RX10_307 : lw_tbl[947]? = some (.methodLink RX10 307 yX2_receiverOf) := by decide +kernel
theorem ws_RX10_305 : lw_tbl[946]? = some (.stringRef RX10 305 "there is no such SIGN") := by decide +kernel
theorem wm_RL_100 : lw_tbl[942]? = some (.methodLink RL 100 yX10_match) := by decide +kernel
theorem wf_RX7_15 : lw_tbl[101]? = some (.fieldLink RX7 15 (TX7 2).1 (TX7 2).2.1 (TX7 2).2.2.1) := by decide +kernel
theorem wm_RX7_36 : lw_tbl[723]? = some (.methodLink RX7 36 arraycopyName) := by decide +kernel
theorem wcp_n : lw_tbl[725]? = some (.native arraycopyName) := by decide +kernel
theorem wcp_s : lw_tbl[724]? = some (.static arraycopyName) := by decide +kernel
theorem wz_RJ10 : lw_tbl[74]? = some (.initialized RJ10) := by decide +kernel
theorem wm_RX7_33 : lw_tbl[719]? = some (.methodLink RX7 33 yX7_findAbove) := by decide +kernel
theorem wn_RX7_29 : lw_tbl[718]? = some (.methodLinkNest RX7 29 yX10_with "Tagwranglery") := by decide +kernel
theorem wm_RX10_203 : lw_tbl[709]? = some (.methodLink RX10 203 yX7_isAbove) := by decide +kernel
theorem wm_RX10_208 : lw_tbl[714]? = some (.methodLink RX10 208 yX7_makeAlias) := by decide +kernel
theorem ws_RX10_206 : lw_tbl[713]? = some (.stringRef RX10 206 "the TAG cannot become an ALIAS of the other one") := by decide +kernel
theorem wm_RL_67 : lw_tbl[705]? = some (.methodLink RL 67 yX10_merge) := by decide +kernel
theorem wm_RL_126 : lw_tbl[1067]? = some (.methodLink RL 126 yX10_news) := by decide +kernel
theorem wf_RX10_388 : lw_tbl[520]? = some (.fieldLink RX10 388 (TX9 8).1 (TX9 8).2.1 (TX9 8).2.2.1) := by decide +kernel
theorem wm_RX10_220 : lw_tbl[749]? = some (.methodLink RX10 220 yX7_meaningOf) := by decide +kernel
theorem wm_RX10_223 : lw_tbl[753]? = some (.methodLink RX10 223 yX7_aboveOf) := by decide +kernel
theorem wm_RX10_226 : lw_tbl[757]? = some (.methodLink RX10 226 yX10_countWith) := by decide +kernel
theorem wm_RX10_229 : lw_tbl[761]? = some (.methodLink RX10 229 yX10_countFiledUnder) := by decide +kernel
theorem wm_RL_73 : lw_tbl[745]? = some (.methodLink RL 73 yX10_ofTag) := by decide +kernel
theorem wm_RL_57 : lw_tbl[656]? = some (.methodLink RL 57 yX10_owners) := by decide +kernel
theorem wm_RX10_213 : lw_tbl[734]? = some (.methodLink RX10 213 yX7_isParent) := by decide +kernel
theorem wm_RX10_216 : lw_tbl[738]? = some (.methodLink RX10 216 yX7_setParent) := by decide +kernel
theorem ws_RX10_211 : lw_tbl[733]? = some (.stringRef RX10 211 "the other one cannot be told to be a PARENT, or none") := by decide +kernel
theorem wm_RL_70 : lw_tbl[729]? = some (.methodLink RL 70 yX10_parent) := by decide +kernel
theorem ws_RX10_79 : lw_tbl[443]? = some (.stringRef RX10 79 "the DAY would be above 2000") := by decide +kernel
theorem ws_RX10_68 : lw_tbl[407]? = some (.stringRef RX10 68 "days is out of range") := by decide +kernel
theorem wm_RL_7 : lw_tbl[362]? = some (.methodLink RL 7 yX10_pass) := by decide +kernel
theorem wf_RX10_147 : lw_tbl[513]? = some (.fieldLink RX10 147 (TX9 4).1 (TX9 4).2.1 (TX9 4).2.2.1) := by decide +kernel
theorem ws_RX10_145 : lw_tbl[600]? = some (.stringRef RX10 145 "the WORK is POSTED, or has no chapter") := by decide +kernel
theorem wm_RL_40 : lw_tbl[592]? = some (.methodLink RL 40 yX10_post) := by decide +kernel
theorem wf_RX9_73 : lw_tbl[519]? = some (.fieldLink RX9 73 (TX9 8).1 (TX9 8).2.1 (TX9 8).2.2.1) := by decide +kernel
theorem wf_RX9_76 : lw_tbl[521]? = some (.fieldLink RX9 76 (TX9 9).1 (TX9 9).2.1 (TX9 9).2.2.1) := by decide +kernel
theorem wm_RX10_236 : lw_tbl[773]? = some (.methodLink RX10 236 yX7_belongUnder) := by decide +kernel
theorem wm_RX10_239 : lw_tbl[774]? = some (.methodLink RX10 239 yX9_fileUnder) := by decide +kernel
theorem wm_RL_76 : lw_tbl[769]? = some (.methodLink RL 76 yX10_put) := by decide +kernel
theorem wm_RL_113 : lw_tbl[1034]? = some (.methodLink RL 113 yX10_reads) := by decide +kernel
theorem wf_RX4_9 : lw_tbl[125]? = some (.fieldLink RX4 9 (TX4 0).1 (TX4 0).2.1 (TX4 0).2.2.1) := by decide +kernel
theorem wf_RX4_15 : lw_tbl[126]? = some (.fieldLink RX4 15 (TX4 1).1 (TX4 1).2.1 (TX4 1).2.2.1) := by decide +kernel
theorem wf_RX4_19 : lw_tbl[127]? = some (.fieldLink RX4 19 (TX4 2).1 (TX4 2).2.1 (TX4 2).2.2.1) := by decide +kernel
theorem wm_RX4_32 : lw_tbl[296]? = some (.methodLink RX4 32 yX4_isFigure) := by decide +kernel
theorem wf_RX4_39 : lw_tbl[130]? = some (.fieldLink RX4 39 (TX4 4).1 (TX4 4).2.1 (TX4 4).2.2.1) := by decide +kernel
theorem wf_RX4_35 : lw_tbl[128]? = some (.fieldLink RX4 35 (TX4 3).1 (TX4 3).2.1 (TX4 3).2.2.1) := by decide +kernel
theorem wm_RX4_46 : lw_tbl[299]? = some (.methodLink RX4 46 yX4_greatestOf) := by decide +kernel
theorem wm_RX4_42 : lw_tbl[306]? = some (.methodLink RX4 42 yX4_figuresOf) := by decide +kernel
theorem wm_RX4_29 : lw_tbl[309]? = some (.methodLink RX4 29 yX4_takesLink) := by decide +kernel
theorem wm_RX4_26 : lw_tbl[302]? = some (.methodLink RX4 26 yX4_takesItem) := by decide +kernel
theorem wm_RX4_22 : lw_tbl[292]? = some (.methodLink RX4 22 yX4_takesFigure) := by decide +kernel
theorem wf_RX8_18 : lw_tbl[148]? = some (.fieldLink RX8 18 (TX8 2).1 (TX8 2).2.1 (TX8 2).2.2.1) := by decide +kernel
theorem wm_RX8_34 : lw_tbl[284]? = some (.methodLink RX8 34 yX4_start) := by decide +kernel
theorem wf_RX8_30 : lw_tbl[146]? = some (.fieldLink RX8 30 (TX8 1).1 (TX8 1).2.1 (TX8 1).2.2.1) := by decide +kernel
theorem wm_RX8_40 : lw_tbl[313]? = some (.methodLink RX8 40 yX4_isAtEnd) := by decide +kernel
theorem wf_RX8_9 : lw_tbl[144]? = some (.fieldLink RX8 9 (TX8 0).1 (TX8 0).2.1 (TX8 0).2.2.1) := by decide +kernel
theorem wm_RX8_37 : lw_tbl[288]? = some (.methodLink RX8 37 yX4_takes) := by decide +kernel
theorem wf_RX10_41 : lw_tbl[233]? = some (.fieldLink RX10 41 (TX10 8).1 (TX10 8).2.1 (TX10 8).2.2.1) := by decide +kernel
theorem wm_RX10_271 : lw_tbl[280]? = some (.methodLink RX10 271 yX8_firstFault) := by decide +kernel
theorem ws_RX10_382 : lw_tbl[831]? = some (.stringRef RX10 382 "the tape is no query") := by decide +kernel
theorem wm_RX10_443 : lw_tbl[888]? = some (.methodLink RX10 443 yX9_latest) := by decide +kernel
theorem wm_RX10_247 : lw_tbl[793]? = some (.methodLink RX10 247 yX10_placesOf) := by decide +kernel
theorem wf_RX10_440 : lw_tbl[505]? = some (.fieldLink RX10 440 (TX9 0).1 (TX9 0).2.1 (TX9 0).2.2.1) := by decide +kernel
theorem wm_RX10_436 : lw_tbl[866]? = some (.methodLink RX10 436 yX10_isTagSo) := by decide +kernel
theorem wf_RX5_9 : lw_tbl[163]? = some (.fieldLink RX5 9 (TX5 0).1 (TX5 0).2.1 (TX5 0).2.2.1) := by decide +kernel
theorem wf_RX5_22 : lw_tbl[166]? = some (.fieldLink RX5 22 (TX5 3).1 (TX5 3).2.1 (TX5 3).2.2.1) := by decide +kernel
theorem wf_RX5_15 : lw_tbl[164]? = some (.fieldLink RX5 15 (TX5 1).1 (TX5 1).2.1 (TX5 1).2.2.1) := by decide +kernel
theorem wf_RX5_18 : lw_tbl[165]? = some (.fieldLink RX5 18 (TX5 2).1 (TX5 2).2.1 (TX5 2).2.2.1) := by decide +kernel
theorem wm_RX5_26 : lw_tbl[841]? = some (.methodLink RX5 26 yX5_clear) := by decide +kernel
theorem wm_RX5_29 : lw_tbl[850]? = some (.methodLink RX5 29 yX5_end) := by decide +kernel
theorem wm_RX5_33 : lw_tbl[854]? = some (.methodLink RX5 33 yX5_item) := by decide +kernel
theorem wf_RX10_393 : lw_tbl[149]? = some (.fieldLink RX10 393 (TX8 2).1 (TX8 2).2.1 (TX8 2).2.2.1) := by decide +kernel
theorem wm_RX10_397 : lw_tbl[836]? = some (.methodLink RX10 397 yX4_start) := by decide +kernel
theorem wf_RX10_48 : lw_tbl[234]? = some (.fieldLink RX10 48 (TX10 9).1 (TX10 9).2.1 (TX10 9).2.2.1) := by decide +kernel
theorem wm_RX10_402 : lw_tbl[837]? = some (.methodLink RX10 402 yX5_start) := by decide +kernel
theorem wf_RX10_263 : lw_tbl[147]? = some (.fieldLink RX10 263 (TX8 1).1 (TX8 1).2.1 (TX8 1).2.2.1) := by decide +kernel
theorem wm_RX10_430 : lw_tbl[871]? = some (.methodLink RX10 430 yX5_end) := by decide +kernel
theorem wm_RX10_433 : lw_tbl[872]? = some (.methodLink RX10 433 yX10_worksSeenBy) := by decide +kernel
theorem wf_RX10_403 : lw_tbl[145]? = some (.fieldLink RX10 403 (TX8 0).1 (TX8 0).2.1 (TX8 0).2.2.1) := by decide +kernel
theorem wm_RX10_407 : lw_tbl[845]? = some (.methodLink RX10 407 yX4_takes) := by decide +kernel
theorem wm_RX10_410 : lw_tbl[846]? = some (.methodLink RX10 410 yX5_mark) := by decide +kernel
theorem wm_RX10_413 : lw_tbl[858]? = some (.methodLink RX10 413 yX4_hasItem) := by decide +kernel
theorem wf_RX10_416 : lw_tbl[129]? = some (.fieldLink RX10 416 (TX4 3).1 (TX4 3).2.1 (TX4 3).2.2.1) := by decide +kernel
theorem wf_RX10_420 : lw_tbl[131]? = some (.fieldLink RX10 420 (TX4 4).1 (TX4 4).2.1 (TX4 4).2.2.1) := by decide +kernel
theorem wm_RX10_423 : lw_tbl[862]? = some (.methodLink RX10 423 yX10_worksOfItem) := by decide +kernel
theorem wm_RX10_427 : lw_tbl[870]? = some (.methodLink RX10 427 yX5_item) := by decide +kernel
theorem wm_RX10_274 : lw_tbl[827]? = some (.methodLink RX10 274 yX10_checkQuery) := by decide +kernel
theorem wm_RX10_277 : lw_tbl[832]? = some (.methodLink RX10 277 yX10_found) := by decide +kernel
theorem ws_RX10_281 : lw_tbl[883]? = some (.stringRef RX10 281 "place is below 0") := by decide +kernel
theorem wm_RX10_283 : lw_tbl[884]? = some (.methodLink RX10 283 yX10_countAheadOf) := by decide +kernel
theorem wm_RL_93 : lw_tbl[879]? = some (.methodLink RL 93 yX10_result) := by decide +kernel
theorem wm_RL_23 : lw_tbl[482]? = some (.methodLink RL 23 yX10_same) := by decide +kernel
theorem wm_RL_103 : lw_tbl[958]? = some (.methodLink RL 103 yX10_screen) := by decide +kernel
theorem wm_RL_90 : lw_tbl[823]? = some (.methodLink RL 90 yX10_search) := by decide +kernel
theorem wm_RL_54 : lw_tbl[643]? = some (.methodLink RL 54 yX10_sees) := by decide +kernel
theorem wf_RX2_28 : lw_tbl[922]? = some (.fieldLink RX2 28 (TX6 0).1 (TX6 0).2.1 (TX6 0).2.2.1) := by decide +kernel
theorem wm_RX6_1 : lw_tbl[920]? = some (.methodLink RX6 1 objectInit) := by decide +kernel
theorem wm_RX10_286 : lw_tbl[906]? = some (.methodLink RX10 286 yX10_isWithin) := by decide +kernel
theorem wm_RX10_291 : lw_tbl[910]? = some (.methodLink RX10 291 yX2_hasSignOf) := by decide +kernel
theorem wc_RX10_297 : lw_tbl[915]? = some (.classLink RX10 297 RX6) := by decide +kernel
theorem wi_RX6 : lw_tbl[916]? = some (.instantiable RX6 4) := by decide +kernel
theorem wz_RX6 : lw_tbl[76]? = some (.initialized RX6) := by decide +kernel
theorem wm_RX10_299 : lw_tbl[917]? = some (.methodLink RX10 299 yX6_init) := by decide +kernel
theorem wm_RX10_302 : lw_tbl[935]? = some (.methodLink RX10 302 yX2_add) := by decide +kernel
theorem ws_RX10_295 : lw_tbl[914]? = some (.stringRef RX10 295 "the PERSON has a SIGN, or there are 8") := by decide +kernel
theorem ws_RX10_289 : lw_tbl[909]? = some (.stringRef RX10 289 "a set has what there is not") := by decide +kernel
theorem wm_RL_96 : lw_tbl[902]? = some (.methodLink RL 96 yX10_sign) := by decide +kernel
theorem wf_RX10_364 : lw_tbl[213]? = some (.fieldLink RX10 364 (TX3 2).1 (TX3 2).2.1 (TX3 2).2.2.1) := by decide +kernel
theorem wm_RL_122 : lw_tbl[1060]? = some (.methodLink RL 122 yX10_subscribe) := by decide +kernel
theorem wm_RX10_185 : lw_tbl[673]? = some (.methodLink RX10 185 yX7_add) := by decide +kernel
theorem ws_RX10_183 : lw_tbl[672]? = some (.stringRef RX10 183 "there are 30 TAGS") := by decide +kernel
theorem wm_RL_60 : lw_tbl[668]? = some (.methodLink RL 60 yX10_tag) := by decide +kernel
theorem wl_RX10_391 : lw_tbl[808]? = some (.constantLong RX10 391 (255)) := by decide +kernel
theorem wm_RX8_22 : lw_tbl[812]? = some (.methodLink RX8 22 yX4_isFigure) := by decide +kernel
theorem wm_RX8_26 : lw_tbl[813]? = some (.methodLink RX8 26 yX4_figuresOf) := by decide +kernel
theorem ws_RX10_266 : lw_tbl[815]? = some (.stringRef RX10 266 "the tape would have more than 60 characters") := by decide +kernel
theorem wm_RX10_253 : lw_tbl[805]? = some (.methodLink RX10 253 yX10_characterAt) := by decide +kernel
theorem wm_RX10_257 : lw_tbl[809]? = some (.methodLink RX10 257 yX8_holds) := by decide +kernel
theorem ws_RX10_261 : lw_tbl[814]? = some (.stringRef RX10 261 "a character cannot be on the tape") := by decide +kernel
theorem wm_RX10_268 : lw_tbl[816]? = some (.methodLink RX10 268 yX8_add) := by decide +kernel
theorem ws_RX10_251 : lw_tbl[804]? = some (.stringRef RX10 251 "n is out of range") := by decide +kernel
theorem wm_RL_86 : lw_tbl[800]? = some (.methodLink RL 86 yX10_type) := by decide +kernel
theorem wm_RL_82 : lw_tbl[789]? = some (.methodLink RL 82 yX10_under) := by decide +kernel
theorem ws_RX10_242 : lw_tbl[785]? = some (.stringRef RX10 242 "most is out of range") := by decide +kernel
theorem wm_RL_79 : lw_tbl[781]? = some (.methodLink RL 79 yX10_wave) := by decide +kernel
theorem wm_RX9_3 : lw_tbl[503]? = some (.methodLink RX9 3 objectInit) := by decide +kernel
theorem wa_int : lw_tbl[112]? = some (.arrayClass .int) := by decide +kernel
theorem wf_RX9_22 : lw_tbl[504]? = some (.fieldLink RX9 22 (TX9 0).1 (TX9 0).2.1 (TX9 0).2.2.1) := by decide +kernel
theorem wc_RX10_19 : lw_tbl[88]? = some (.classLink RX10 19 RX9) := by decide +kernel
end
section
theorem wi_RX9 : lw_tbl[499]? = some (.instantiable RX9 12) := by decide +kernel
theorem wz_RX9 : lw_tbl[71]? = some (.initialized RX9) := by decide +kernel
theorem wm_RX10_109 : lw_tbl[500]? = some (.methodLink RX10 109 yX9_init) := by decide +kernel
theorem ws_RX10_107 : lw_tbl[498]? = some (.stringRef RX10 107 "there are 20 WORKS") := by decide +kernel
theorem ws_RX10_102 : lw_tbl[497]? = some (.stringRef RX10 102 "rating is out of range") := by decide +kernel
theorem wm_RL_27 : lw_tbl[493]? = some (.methodLink RL 27 yX10_work) := by decide +kernel
theorem wm_RX2_3 : lw_tbl[182]? = some (.methodLink RX2 3 objectInit) := by decide +kernel
theorem wo_RX6 : lw_tbl[184]? = some (.arrayOver (.object RX6)) := by decide +kernel
theorem wc_RX2_9 : lw_tbl[183]? = some (.classLink RX2 9 RX6) := by decide +kernel
theorem wm_RX3_3 : lw_tbl[205]? = some (.methodLink RX3 3 objectInit) := by decide +kernel
theorem wf_RX3_9 : lw_tbl[210]? = some (.fieldLink RX3 9 (TX3 1).1 (TX3 1).2.1 (TX3 1).2.2.1) := by decide +kernel
theorem wf_RX3_18 : lw_tbl[214]? = some (.fieldLink RX3 18 (TX3 3).1 (TX3 3).2.1 (TX3 3).2.2.1) := by decide +kernel
theorem wm_RX3_21 : lw_tbl[206]? = some (.methodLink RX3 21 yJ7_fill_53178) := by decide +kernel
theorem wm_RX5_3 : lw_tbl[162]? = some (.methodLink RX5 3 objectInit) := by decide +kernel
theorem wa_boolean : lw_tbl[176]? = some (.arrayClass .boolean) := by decide +kernel
theorem wm_RX7_3 : lw_tbl[97]? = some (.methodLink RX7 3 objectInit) := by decide +kernel
theorem wm_RX4_3 : lw_tbl[124]? = some (.methodLink RX4 3 objectInit) := by decide +kernel
theorem wm_RX8_3 : lw_tbl[118]? = some (.methodLink RX8 3 objectInit) := by decide +kernel
theorem wa_char : lw_tbl[143]? = some (.arrayClass .char) := by decide +kernel
theorem wc_RX8_15 : lw_tbl[119]? = some (.classLink RX8 15 RX4) := by decide +kernel
theorem wi_RX4 : lw_tbl[120]? = some (.instantiable RX4 5) := by decide +kernel
theorem wz_RX4 : lw_tbl[59]? = some (.initialized RX4) := by decide +kernel
theorem wn_RX8_17 : lw_tbl[121]? = some (.methodLinkNest RX8 17 yX4_init "Tagwranglery") := by decide +kernel
theorem wm_RX10_3 : lw_tbl[83]? = some (.methodLink RX10 3 objectInit) := by decide +kernel
theorem wo_RX3 : lw_tbl[87]? = some (.arrayOver (.object RX3)) := by decide +kernel
theorem wc_RX10_13 : lw_tbl[86]? = some (.classLink RX10 13 RX3) := by decide +kernel
theorem wo_RX9 : lw_tbl[89]? = some (.arrayOver (.object RX9)) := by decide +kernel
theorem wo_RX0 : lw_tbl[91]? = some (.arrayOver (.object RX0)) := by decide +kernel
theorem wc_RX10_31 : lw_tbl[92]? = some (.classLink RX10 31 RX7) := by decide +kernel
theorem wi_RX7 : lw_tbl[93]? = some (.instantiable RX7 4) := by decide +kernel
theorem wz_RX7 : lw_tbl[57]? = some (.initialized RX7) := by decide +kernel
theorem wn_RX10_33 : lw_tbl[94]? = some (.methodLinkNest RX10 33 yX7_init "Tagwranglery") := by decide +kernel
theorem wc_RX10_38 : lw_tbl[113]? = some (.classLink RX10 38 RX8) := by decide +kernel
theorem wi_RX8 : lw_tbl[114]? = some (.instantiable RX8 3) := by decide +kernel
theorem wz_RX8 : lw_tbl[58]? = some (.initialized RX8) := by decide +kernel
theorem wn_RX10_40 : lw_tbl[115]? = some (.methodLinkNest RX10 40 yX8_init "Tagwranglery") := by decide +kernel
theorem wc_RX10_45 : lw_tbl[157]? = some (.classLink RX10 45 RX5) := by decide +kernel
theorem wi_RX5 : lw_tbl[158]? = some (.instantiable RX5 4) := by decide +kernel
theorem wz_RX5 : lw_tbl[60]? = some (.initialized RX5) := by decide +kernel
theorem wn_RX10_47 : lw_tbl[159]? = some (.methodLinkNest RX10 47 yX5_init "Tagwranglery") := by decide +kernel
theorem wc_RX10_52 : lw_tbl[177]? = some (.classLink RX10 52 RX2) := by decide +kernel
theorem wi_RX2 : lw_tbl[178]? = some (.instantiable RX2 4) := by decide +kernel
theorem wz_RX2 : lw_tbl[61]? = some (.initialized RX2) := by decide +kernel
theorem wn_RX10_54 : lw_tbl[179]? = some (.methodLinkNest RX10 54 yX2_init "Tagwranglery") := by decide +kernel
theorem wo_RX1 : lw_tbl[200]? = some (.arrayOver (.object RX1)) := by decide +kernel
theorem wi_RX3 : lw_tbl[201]? = some (.instantiable RX3 4) := by decide +kernel
theorem wz_RX3 : lw_tbl[62]? = some (.initialized RX3) := by decide +kernel
theorem wm_RX10_65 : lw_tbl[202]? = some (.methodLink RX10 65 yX3_init) := by decide +kernel
theorem wm_RX10_311 : lw_tbl[321]? = some (.methodLink RX10 311 yX2_countMatches) := by decide +kernel
theorem wf_RX11_125 : lw_tbl[1102]? = some (.fieldLink RX11 125 (TX11 0).1 (TX11 0).2.1 (TX11 0).2.2.1) := by decide +kernel
theorem wm_RX11_129 : lw_tbl[1252]? = some (.methodLink RX11 129 yX11_in) := by decide +kernel
theorem wm_RX11_146 : lw_tbl[1263]? = some (.methodLink RX11 146 yX11_isPerson) := by decide +kernel
theorem wm_RX11_142 : lw_tbl[1255]? = some (.methodLink RX11 142 yX11_holds) := by decide +kernel
theorem wf_RX11_7 : lw_tbl[1104]? = some (.fieldLink RX11 7 (TX11 2).1 (TX11 2).2.1 (TX11 2).2.2.1) := by decide +kernel
theorem wf_RX11_248 : lw_tbl[1139]? = some (.fieldLink RX11 248 (TX11 37).1 (TX11 37).2.1 (TX11 37).2.2.1) := by decide +kernel
theorem wf_RX11_107 : lw_tbl[1143]? = some (.fieldLink RX11 107 (TX11 41).1 (TX11 41).2.1 (TX11 41).2.2.1) := by decide +kernel
theorem wf_RX11_113 : lw_tbl[1145]? = some (.fieldLink RX11 113 (TX11 43).1 (TX11 43).2.1 (TX11 43).2.2.1) := by decide +kernel
theorem wf_RX11_110 : lw_tbl[1144]? = some (.fieldLink RX11 110 (TX11 42).1 (TX11 42).2.1 (TX11 42).2.2.1) := by decide +kernel
theorem wf_RX11_133 : lw_tbl[1106]? = some (.fieldLink RX11 133 (TX11 4).1 (TX11 4).2.1 (TX11 4).2.2.1) := by decide +kernel
theorem wm_RX11_152 : lw_tbl[1281]? = some (.methodLink RX11 152 yX11_isWork) := by decide +kernel
theorem wf_RX11_23 : lw_tbl[1109]? = some (.fieldLink RX11 23 (TX11 7).1 (TX11 7).2.1 (TX11 7).2.2.1) := by decide +kernel
theorem wf_RX11_26 : lw_tbl[1110]? = some (.fieldLink RX11 26 (TX11 8).1 (TX11 8).2.1 (TX11 8).2.2.1) := by decide +kernel
theorem wf_RX11_139 : lw_tbl[1103]? = some (.fieldLink RX11 139 (TX11 1).1 (TX11 1).2.1 (TX11 1).2.2.1) := by decide +kernel
theorem wf_RX11_163 : lw_tbl[1119]? = some (.fieldLink RX11 163 (TX11 17).1 (TX11 17).2.1 (TX11 17).2.2.1) := by decide +kernel
theorem wf_RX11_35 : lw_tbl[1113]? = some (.fieldLink RX11 35 (TX11 11).1 (TX11 11).2.1 (TX11 11).2.2.1) := by decide +kernel
theorem wf_RX11_53 : lw_tbl[1120]? = some (.fieldLink RX11 53 (TX11 18).1 (TX11 18).2.1 (TX11 18).2.2.1) := by decide +kernel
theorem wf_RX11_56 : lw_tbl[1121]? = some (.fieldLink RX11 56 (TX11 19).1 (TX11 19).2.1 (TX11 19).2.2.1) := by decide +kernel
theorem wf_RX11_20 : lw_tbl[1108]? = some (.fieldLink RX11 20 (TX11 6).1 (TX11 6).2.1 (TX11 6).2.2.1) := by decide +kernel
theorem wm_RX11_155 : lw_tbl[1285]? = some (.methodLink RX11 155 yX11_has) := by decide +kernel
theorem wm_RX11_166 : lw_tbl[1323]? = some (.methodLink RX11 166 yX11_isOwner) := by decide +kernel
theorem wf_RX11_29 : lw_tbl[1111]? = some (.fieldLink RX11 29 (TX11 9).1 (TX11 9).2.1 (TX11 9).2.2.1) := by decide +kernel
theorem wf_RX11_32 : lw_tbl[1112]? = some (.fieldLink RX11 32 (TX11 10).1 (TX11 10).2.1 (TX11 10).2.2.1) := by decide +kernel
theorem wf_RX11_98 : lw_tbl[1140]? = some (.fieldLink RX11 98 (TX11 38).1 (TX11 38).2.1 (TX11 38).2.2.1) := by decide +kernel
theorem wf_RX11_101 : lw_tbl[1141]? = some (.fieldLink RX11 101 (TX11 39).1 (TX11 39).2.1 (TX11 39).2.2.1) := by decide +kernel
theorem wm_RX11_169 : lw_tbl[1319]? = some (.methodLink RX11 169 yX11_isSeen) := by decide +kernel
theorem wm_RX11_254 : lw_tbl[1493]? = some (.methodLink RX11 254 yX11_isRead) := by decide +kernel
theorem wm_RX11_251 : lw_tbl[1489]? = some (.methodLink RX11 251 yX11_isBlocked) := by decide +kernel
theorem wf_RX11_104 : lw_tbl[1142]? = some (.fieldLink RX11 104 (TX11 40).1 (TX11 40).2.1 (TX11 40).2.2.1) := by decide +kernel
theorem wm_RX11_149 : lw_tbl[1270]? = some (.methodLink RX11 149 yX11_isFace) := by decide +kernel
theorem wm_RX11_257 : lw_tbl[1485]? = some (.methodLink RX11 257 yX11_canComment) := by decide +kernel
theorem wf_RX11_47 : lw_tbl[1117]? = some (.fieldLink RX11 47 (TX11 15).1 (TX11 15).2.1 (TX11 15).2.2.1) := by decide +kernel
theorem wf_RX11_122 : lw_tbl[1148]? = some (.fieldLink RX11 122 (TX11 46).1 (TX11 46).2.1 (TX11 46).2.2.1) := by decide +kernel
theorem wm_RX11_233 : lw_tbl[1453]? = some (.methodLink RX11 233 yX11_outDay) := by decide +kernel
theorem wf_RX11_116 : lw_tbl[1146]? = some (.fieldLink RX11 116 (TX11 44).1 (TX11 44).2.1 (TX11 44).2.2.1) := by decide +kernel
theorem wm_RX11_172 : lw_tbl[1331]? = some (.methodLink RX11 172 yX11_areTold) := by decide +kernel
theorem wf_RX11_119 : lw_tbl[1147]? = some (.fieldLink RX11 119 (TX11 45).1 (TX11 45).2.1 (TX11 45).2.2.1) := by decide +kernel
theorem wm_RX11_263 : lw_tbl[1525]? = some (.methodLink RX11 263 yX11_isNews) := by decide +kernel
theorem wm_RX11_194 : lw_tbl[1403]? = some (.methodLink RX11 194 yX11_isFigure) := by decide +kernel
theorem wf_RX11_202 : lw_tbl[1126]? = some (.fieldLink RX11 202 (TX11 24).1 (TX11 24).2.1 (TX11 24).2.2.1) := by decide +kernel
theorem wf_RX11_68 : lw_tbl[1127]? = some (.fieldLink RX11 68 (TX11 25).1 (TX11 25).2.1 (TX11 25).2.2.1) := by decide +kernel
theorem wm_RX11_205 : lw_tbl[1418]? = some (.methodLink RX11 205 yX11_behind) := by decide +kernel
theorem wm_RX11_209 : lw_tbl[1414]? = some (.methodLink RX11 209 yX11_faultOf) := by decide +kernel
theorem wm_RX11_1 : lw_tbl[1101]? = some (.methodLink RX11 1 objectInit) := by decide +kernel
theorem wf_RX11_13 : lw_tbl[1105]? = some (.fieldLink RX11 13 (TX11 3).1 (TX11 3).2.1 (TX11 3).2.2.1) := by decide +kernel
theorem wf_RX11_17 : lw_tbl[1107]? = some (.fieldLink RX11 17 (TX11 5).1 (TX11 5).2.1 (TX11 5).2.2.1) := by decide +kernel
theorem wf_RX11_38 : lw_tbl[1114]? = some (.fieldLink RX11 38 (TX11 12).1 (TX11 12).2.1 (TX11 12).2.2.1) := by decide +kernel
theorem wf_RX11_41 : lw_tbl[1115]? = some (.fieldLink RX11 41 (TX11 13).1 (TX11 13).2.1 (TX11 13).2.2.1) := by decide +kernel
theorem wf_RX11_44 : lw_tbl[1116]? = some (.fieldLink RX11 44 (TX11 14).1 (TX11 14).2.1 (TX11 14).2.2.1) := by decide +kernel
theorem wf_RX11_50 : lw_tbl[1118]? = some (.fieldLink RX11 50 (TX11 16).1 (TX11 16).2.1 (TX11 16).2.2.1) := by decide +kernel
theorem wf_RX11_59 : lw_tbl[1123]? = some (.fieldLink RX11 59 (TX11 21).1 (TX11 21).2.1 (TX11 21).2.2.1) := by decide +kernel
theorem wf_RX11_62 : lw_tbl[1124]? = some (.fieldLink RX11 62 (TX11 22).1 (TX11 22).2.1 (TX11 22).2.2.1) := by decide +kernel
theorem wf_RX11_65 : lw_tbl[1125]? = some (.fieldLink RX11 65 (TX11 23).1 (TX11 23).2.1 (TX11 23).2.2.1) := by decide +kernel
theorem wf_RX11_71 : lw_tbl[1128]? = some (.fieldLink RX11 71 (TX11 26).1 (TX11 26).2.1 (TX11 26).2.2.1) := by decide +kernel
theorem wf_RX11_74 : lw_tbl[1129]? = some (.fieldLink RX11 74 (TX11 27).1 (TX11 27).2.1 (TX11 27).2.2.1) := by decide +kernel
theorem wf_RX11_77 : lw_tbl[1130]? = some (.fieldLink RX11 77 (TX11 28).1 (TX11 28).2.1 (TX11 28).2.2.1) := by decide +kernel
theorem wf_RX11_80 : lw_tbl[1133]? = some (.fieldLink RX11 80 (TX11 31).1 (TX11 31).2.1 (TX11 31).2.2.1) := by decide +kernel
theorem wf_RX11_83 : lw_tbl[1134]? = some (.fieldLink RX11 83 (TX11 32).1 (TX11 32).2.1 (TX11 32).2.2.1) := by decide +kernel
theorem wf_RX11_86 : lw_tbl[1135]? = some (.fieldLink RX11 86 (TX11 33).1 (TX11 33).2.1 (TX11 33).2.2.1) := by decide +kernel
theorem wf_RX11_89 : lw_tbl[1136]? = some (.fieldLink RX11 89 (TX11 34).1 (TX11 34).2.1 (TX11 34).2.2.1) := by decide +kernel
theorem wf_RX11_92 : lw_tbl[1137]? = some (.fieldLink RX11 92 (TX11 35).1 (TX11 35).2.1 (TX11 35).2.2.1) := by decide +kernel
theorem wf_RX11_95 : lw_tbl[1138]? = some (.fieldLink RX11 95 (TX11 36).1 (TX11 36).2.1 (TX11 36).2.2.1) := by decide +kernel
theorem wm_RX11_159 : lw_tbl[1288]? = some (.methodLink RX11 159 yX11_bits) := by decide +kernel
theorem wm_RX11_260 : lw_tbl[1509]? = some (.methodLink RX11 260 yX11_gave) := by decide +kernel
theorem wf_RX11_136 : lw_tbl[1122]? = some (.fieldLink RX11 136 (TX11 20).1 (TX11 20).2.1 (TX11 20).2.2.1) := by decide +kernel
theorem wm_RX11_184 : lw_tbl[1343]? = some (.methodLink RX11 184 yX11_isTag) := by decide +kernel
theorem wm_RX11_187 : lw_tbl[1347]? = some (.methodLink RX11 187 yX11_letsWait) := by decide +kernel
theorem wm_RX11_175 : lw_tbl[1367]? = some (.methodLink RX11 175 yX11_meaning) := by decide +kernel
theorem wm_RX11_178 : lw_tbl[1355]? = some (.methodLink RX11 178 yX11_aboveOf) := by decide +kernel
theorem wf_RX11_239 : lw_tbl[1132]? = some (.fieldLink RX11 239 (TX11 30).1 (TX11 30).2.1 (TX11 30).2.2.1) := by decide +kernel
theorem wm_RX11_242 : lw_tbl[1469]? = some (.methodLink RX11 242 yX11_suits) := by decide +kernel
theorem wm_RX11_245 : lw_tbl[1465]? = some (.methodLink RX11 245 yX11_counts) := by decide +kernel
theorem wm_RX11_181 : lw_tbl[1379]? = some (.methodLink RX11 181 yX11_belongs) := by decide +kernel
theorem wm_RX11_190 : lw_tbl[1375]? = some (.methodLink RX11 190 yX11_files) := by decide +kernel
theorem wf_RX11_213 : lw_tbl[1131]? = some (.fieldLink RX11 213 (TX11 29).1 (TX11 29).2.1 (TX11 29).2.2.1) := by decide +kernel
theorem wm_RX11_216 : lw_tbl[1433]? = some (.methodLink RX11 216 yX11_opens) := by decide +kernel
theorem wm_RX11_222 : lw_tbl[1441]? = some (.methodLink RX11 222 yX11_isOfTag) := by decide +kernel
theorem wm_RX11_218 : lw_tbl[1437]? = some (.methodLink RX11 218 yX11_gets) := by decide +kernel
theorem wm_RX11_226 : lw_tbl[1429]? = some (.methodLink RX11 226 yX11_isSo) := by decide +kernel
theorem wm_RX11_229 : lw_tbl[1425]? = some (.methodLink RX11 229 yX11_searchOf) := by decide +kernel
theorem wm_RX11_236 : lw_tbl[1449]? = some (.methodLink RX11 236 yX11_latest) := by decide +kernel
theorem wl_RX11_197 : lw_tbl[1399]? = some (.constantLong RX11 197 (255)) := by decide +kernel
theorem wm_RX11_199 : lw_tbl[1400]? = some (.methodLink RX11 199 yX11_canBe) := by decide +kernel
theorem wc_RL_8 : lw_tbl[78]? = some (.classLink RL 8 RX10) := by decide +kernel
theorem wi_RX10 : lw_tbl[79]? = some (.instantiable RX10 13) := by decide +kernel
theorem wz_RX10 : lw_tbl[56]? = some (.initialized RX10) := by decide +kernel
theorem wm_RL_132 : lw_tbl[80]? = some (.methodLink RL 132 yX10_init) := by decide +kernel
theorem wc_RL_133 : lw_tbl[1096]? = some (.classLink RL 133 RX11) := by decide +kernel
theorem wi_RX11 : lw_tbl[1097]? = some (.instantiable RX11 47) := by decide +kernel
theorem wz_RX11 : lw_tbl[64]? = some (.initialized RX11) := by decide +kernel
theorem wm_RL_135 : lw_tbl[1098]? = some (.methodLink RL 135 yX11_init) := by decide +kernel
theorem wa_long : lw_tbl[1534]? = some (.arrayClass .long) := by decide +kernel
theorem wm_RL_136 : lw_tbl[357]? = some (.methodLink RL 136 yL_pass) := by decide +kernel
theorem wm_RL_141 : lw_tbl[1248]? = some (.methodLink RL 141 yX11_pass) := by decide +kernel
theorem wm_RL_142 : lw_tbl[1244]? = some (.methodLink RL 142 yX11_thrown) := by decide +kernel
theorem wm_RL_149 : lw_tbl[479]? = some (.methodLink RL 149 yL_same) := by decide +kernel
theorem wm_RL_152 : lw_tbl[1266]? = some (.methodLink RL 152 yX11_same) := by decide +kernel
theorem wm_RL_153 : lw_tbl[490]? = some (.methodLink RL 153 yL_work) := by decide +kernel
theorem wm_RL_155 : lw_tbl[1273]? = some (.methodLink RL 155 yX11_work) := by decide +kernel
theorem wm_RL_156 : lw_tbl[550]? = some (.methodLink RL 156 yL_join) := by decide +kernel
theorem wm_RL_158 : lw_tbl[1277]? = some (.methodLink RL 158 yX11_join) := by decide +kernel
end
section
theorem wm_RL_159 : lw_tbl[573]? = some (.methodLink RL 159 yL_leave) := by decide +kernel
theorem wm_RL_161 : lw_tbl[1291]? = some (.methodLink RL 161 yX11_leave) := by decide +kernel
theorem wm_RL_162 : lw_tbl[581]? = some (.methodLink RL 162 yL_chapter) := by decide +kernel
theorem wm_RL_164 : lw_tbl[1295]? = some (.methodLink RL 164 yX11_chapter) := by decide +kernel
theorem wm_RL_165 : lw_tbl[589]? = some (.methodLink RL 165 yL_post) := by decide +kernel
theorem wm_RL_167 : lw_tbl[1299]? = some (.methodLink RL 167 yX11_post) := by decide +kernel
theorem wm_RL_172 : lw_tbl[608]? = some (.methodLink RL 172 yL_collection) := by decide +kernel
theorem wm_RL_174 : lw_tbl[1307]? = some (.methodLink RL 174 yX11_collection) := by decide +kernel
theorem wm_RL_175 : lw_tbl[631]? = some (.methodLink RL 175 yL_collect) := by decide +kernel
theorem wm_RL_178 : lw_tbl[1311]? = some (.methodLink RL 178 yX11_collect) := by decide +kernel
theorem wm_RL_179 : lw_tbl[640]? = some (.methodLink RL 179 yL_sees) := by decide +kernel
theorem wm_RL_181 : lw_tbl[1315]? = some (.methodLink RL 181 yX11_sees) := by decide +kernel
theorem wm_RL_182 : lw_tbl[653]? = some (.methodLink RL 182 yL_owners) := by decide +kernel
theorem wm_RL_184 : lw_tbl[1327]? = some (.methodLink RL 184 yX11_owners) := by decide +kernel
theorem wm_RL_185 : lw_tbl[665]? = some (.methodLink RL 185 yL_tag) := by decide +kernel
theorem wm_RL_188 : lw_tbl[1335]? = some (.methodLink RL 188 yX11_tag) := by decide +kernel
theorem wm_RL_189 : lw_tbl[677]? = some (.methodLink RL 189 yL_make) := by decide +kernel
theorem wm_RL_191 : lw_tbl[1339]? = some (.methodLink RL 191 yX11_make) := by decide +kernel
theorem wm_RL_192 : lw_tbl[702]? = some (.methodLink RL 192 yL_merge) := by decide +kernel
theorem wm_RL_194 : lw_tbl[1351]? = some (.methodLink RL 194 yX11_merge) := by decide +kernel
theorem wm_RL_198 : lw_tbl[742]? = some (.methodLink RL 198 yL_ofTag) := by decide +kernel
theorem wm_RL_200 : lw_tbl[1363]? = some (.methodLink RL 200 yX11_ofTag) := by decide +kernel
theorem wm_RL_204 : lw_tbl[778]? = some (.methodLink RL 204 yL_wave) := by decide +kernel
theorem wm_RL_206 : lw_tbl[1383]? = some (.methodLink RL 206 yX11_wave) := by decide +kernel
theorem wm_RL_207 : lw_tbl[265]? = some (.methodLink RL 207 yX10_waiting) := by decide +kernel
theorem wm_RL_210 : lw_tbl[1387]? = some (.methodLink RL 210 yX11_waiting) := by decide +kernel
theorem wl_RL_214 : lw_tbl[1533]? = some (.constantLong RL 214 (4294967295)) := by decide +kernel
theorem wm_RL_216 : lw_tbl[797]? = some (.methodLink RL 216 yL_type) := by decide +kernel
theorem wm_RL_219 : lw_tbl[1395]? = some (.methodLink RL 219 yX11_type) := by decide +kernel
theorem wm_RL_220 : lw_tbl[272]? = some (.methodLink RL 220 yX10_wipe) := by decide +kernel
theorem wm_RL_223 : lw_tbl[1406]? = some (.methodLink RL 223 yX11_wipe) := by decide +kernel
theorem wm_RL_224 : lw_tbl[276]? = some (.methodLink RL 224 yX10_fault) := by decide +kernel
theorem wm_RL_227 : lw_tbl[1410]? = some (.methodLink RL 227 yX11_fault) := by decide +kernel
theorem wm_RL_231 : lw_tbl[876]? = some (.methodLink RL 231 yL_result) := by decide +kernel
theorem wm_RL_233 : lw_tbl[1445]? = some (.methodLink RL 233 yX11_result) := by decide +kernel
theorem wm_RL_234 : lw_tbl[899]? = some (.methodLink RL 234 yL_sign) := by decide +kernel
theorem wm_RL_237 : lw_tbl[1457]? = some (.methodLink RL 237 yX11_sign) := by decide +kernel
theorem wm_RL_238 : lw_tbl[939]? = some (.methodLink RL 238 yL_match) := by decide +kernel
theorem wm_RL_240 : lw_tbl[1461]? = some (.methodLink RL 240 yX11_match) := by decide +kernel
theorem wm_RL_241 : lw_tbl[317]? = some (.methodLink RL 241 yX10_matches) := by decide +kernel
theorem wm_RL_244 : lw_tbl[1473]? = some (.methodLink RL 244 yX11_matches) := by decide +kernel
theorem wm_RL_248 : lw_tbl[962]? = some (.methodLink RL 248 yL_comment) := by decide +kernel
theorem wm_RL_251 : lw_tbl[1481]? = some (.methodLink RL 251 yX11_comment) := by decide +kernel
theorem wm_RL_252 : lw_tbl[1024]? = some (.methodLink RL 252 yL_change) := by decide +kernel
theorem wm_RL_254 : lw_tbl[1497]? = some (.methodLink RL 254 yX11_change) := by decide +kernel
theorem wm_RL_255 : lw_tbl[1031]? = some (.methodLink RL 255 yL_reads) := by decide +kernel
theorem wm_RL_257 : lw_tbl[1501]? = some (.methodLink RL 257 yX11_reads) := by decide +kernel
theorem wm_RL_258 : lw_tbl[1038]? = some (.methodLink RL 258 yL_kudos) := by decide +kernel
theorem wm_RL_260 : lw_tbl[1505]? = some (.methodLink RL 260 yX11_kudos) := by decide +kernel
theorem wm_RL_261 : lw_tbl[1050]? = some (.methodLink RL 261 yL_liked) := by decide +kernel
theorem wm_RL_263 : lw_tbl[1513]? = some (.methodLink RL 263 yX11_liked) := by decide +kernel
theorem wm_RL_268 : lw_tbl[1064]? = some (.methodLink RL 268 yL_news) := by decide +kernel
theorem wm_RL_270 : lw_tbl[1521]? = some (.methodLink RL 270 yX11_news) := by decide +kernel
theorem wm_RL_271 : lw_tbl[1089]? = some (.methodLink RL 271 yL_digest) := by decide +kernel
theorem wm_RL_273 : lw_tbl[1529]? = some (.methodLink RL 273 yX11_digest) := by decide +kernel
theorem wm_RL_264 : lw_tbl[1057]? = some (.methodLink RL 264 yL_subscribe) := by decide +kernel
theorem wm_RL_267 : lw_tbl[1517]? = some (.methodLink RL 267 yX11_subscribe) := by decide +kernel
theorem wm_RL_245 : lw_tbl[955]? = some (.methodLink RL 245 yL_screen) := by decide +kernel
theorem wm_RL_247 : lw_tbl[1477]? = some (.methodLink RL 247 yX11_screen) := by decide +kernel
theorem wm_RL_228 : lw_tbl[820]? = some (.methodLink RL 228 yL_search) := by decide +kernel
theorem wm_RL_230 : lw_tbl[1421]? = some (.methodLink RL 230 yX11_search) := by decide +kernel
theorem wm_RL_211 : lw_tbl[786]? = some (.methodLink RL 211 yL_under) := by decide +kernel
theorem wm_RL_213 : lw_tbl[1391]? = some (.methodLink RL 213 yX11_under) := by decide +kernel
theorem wm_RL_201 : lw_tbl[766]? = some (.methodLink RL 201 yL_put) := by decide +kernel
theorem wm_RL_203 : lw_tbl[1371]? = some (.methodLink RL 203 yX11_put) := by decide +kernel
theorem wm_RL_195 : lw_tbl[726]? = some (.methodLink RL 195 yL_parent) := by decide +kernel
theorem wm_RL_197 : lw_tbl[1359]? = some (.methodLink RL 197 yX11_parent) := by decide +kernel
theorem wm_RL_168 : lw_tbl[601]? = some (.methodLink RL 168 yL_lock) := by decide +kernel
theorem wm_RL_171 : lw_tbl[1303]? = some (.methodLink RL 171 yX11_lock) := by decide +kernel
theorem wm_RL_145 : lw_tbl[450]? = some (.methodLink RL 145 yL_block) := by decide +kernel
theorem wm_RL_148 : lw_tbl[1259]? = some (.methodLink RL 148 yX11_block) := by decide +kernel
end
section
theorem dX10_checkPerson_0 : decode cX10_checkPerson 0 = .ok (.iload_n 0, 1) := by decide +kernel
theorem dX10_checkPerson_1 : decode cX10_checkPerson 1 = .ok (.ifCond .lt 9, 3) := by decide +kernel
theorem dX10_checkPerson_4 : decode cX10_checkPerson 4 = .ok (.iload_n 0, 1) := by decide +kernel
theorem dX10_checkPerson_5 : decode cX10_checkPerson 5 = .ok (.bipush 12, 2) := by decide +kernel
theorem dX10_checkPerson_7 : decode cX10_checkPerson 7 = .ok (.if_icmp .lt 14, 3) := by decide +kernel
theorem dX10_checkPerson_10 : decode cX10_checkPerson 10 = .ok (.new 162, 3) := by decide +kernel
theorem dX10_checkPerson_13 : decode cX10_checkPerson 13 = .ok (.dup, 1) := by decide +kernel
theorem dX10_checkPerson_14 : decode cX10_checkPerson 14 = .ok (.ldc_w 378, 3) := by decide +kernel
theorem dX10_checkPerson_17 : decode cX10_checkPerson 17 = .ok (.invokespecial 166, 3) := by decide +kernel
theorem dX10_checkPerson_20 : decode cX10_checkPerson 20 = .ok (.athrow, 1) := by decide +kernel
theorem dX10_checkPerson_21 : decode cX10_checkPerson 21 = .ok (.return_, 1) := by decide +kernel
abbrev m_X10_checkPerson : am_M := (yX10_checkPerson, cX10_checkPerson, 1, none, [])
def f_X10_checkPerson_10   (h : am_H) : am_R := m_ex h 0
theorem t_X10_checkPerson_10 (d : Nat) (hd : 6 ≤ d)   (h : am_H) : Sim m_X10_checkPerson d 10 [none] [] h (f_X10_checkPerson_10   h) := by
  unfold f_X10_checkPerson_10
  exact sim_throwW 0 (by decide) dX10_checkPerson_10 dX10_checkPerson_13 dX10_checkPerson_14 dX10_checkPerson_17 dX10_checkPerson_20 wx_RX10_162 wy_0 ws_RX10_378 at_RX10_166 gd_RX10_166 (by omega) (Nat.le_of_ble_eq_true rfl)
def f_X10_checkPerson (x0 : Int32) (h : am_H) : am_R := if x0 < 0 then (f_X10_checkPerson_10 h) else (if x0 < (12 : Int32) then (m_rt h none) else (f_X10_checkPerson_10 h))
theorem k_X10_checkPerson (d : Nat) (hd : 6 ≤ d) (x0 : Int32) (h : am_H) : am_Con m_X10_checkPerson d [.inl x0] h (f_X10_checkPerson x0 h) := am_con (by decide +kernel) (Nat.le_of_ble_eq_true rfl) (by
  unfold f_X10_checkPerson
  refine sim_iload_n dX10_checkPerson_0 rfl ?_
  refine sim_if_lt 10 dX10_checkPerson_1 (by decide) (fun c => ?_) (fun c => ?_)
  · exact sim_lv (am_leN am_leT) (t_X10_checkPerson_10 d (by omega) _)
  · refine sim_iload_n dX10_checkPerson_4 rfl ?_
    refine sim_bipush (12) dX10_checkPerson_5 (by decide +kernel) ?_
    refine sim_ic_lt 21 dX10_checkPerson_7 (by decide) (fun c => ?_) (fun c => ?_)
    · exact sim_vret dX10_checkPerson_21 rfl
    · exact sim_lv (am_leN am_leT) (t_X10_checkPerson_10 d (by omega) _))
theorem q_X10_checkPerson : am_Cal m_X10_checkPerson 1 0 := ⟨am_mem 460 (w := Cond.code yX10_checkPerson cX10_checkPerson 1 none) (by decide +kernel) rfl, am_mem 56 (w := Cond.initialized RX10) (by decide +kernel) rfl, fun _ => am_mem 459 (w := Cond.static yX10_checkPerson) (by decide +kernel) rfl, fun z => absurd rfl z, fun z => absurd z (by decide), fun z => absurd z (by decide), by decide +kernel, by decide +kernel, Nat.le_of_ble_eq_true rfl⟩
theorem dX10_has_0 : decode cX10_has 0 = .ok (.iload_n 0, 1) := by decide +kernel
theorem dX10_has_1 : decode cX10_has 1 = .ok (.iload_n 1, 1) := by decide +kernel
theorem dX10_has_2 : decode cX10_has 2 = .ok (.iushr, 1) := by decide +kernel
theorem dX10_has_3 : decode cX10_has 3 = .ok (.iconst 1, 1) := by decide +kernel
theorem dX10_has_4 : decode cX10_has 4 = .ok (.iand, 1) := by decide +kernel
theorem dX10_has_5 : decode cX10_has 5 = .ok (.ifCond .eq 7, 3) := by decide +kernel
theorem dX10_has_8 : decode cX10_has 8 = .ok (.iconst 1, 1) := by decide +kernel
theorem dX10_has_9 : decode cX10_has 9 = .ok (.goto 4, 3) := by decide +kernel
theorem dX10_has_12 : decode cX10_has 12 = .ok (.iconst 0, 1) := by decide +kernel
theorem dX10_has_13 : decode cX10_has 13 = .ok (.ireturn, 1) := by decide +kernel
abbrev m_X10_has : am_M := (yX10_has, cX10_has, 2, some .boolean, [])
def f_X10_has_13  (s0 : Int32) (h : am_H) : am_R := m_rz h s0
theorem t_X10_has_13 (d : Nat) (hd : 0 ≤ d)  (s0 : Int32) (h : am_H) : Sim m_X10_has d 13 [none, none] [.inl s0] h (f_X10_has_13  s0 h) := by
  unfold f_X10_has_13
  exact sim_zret dX10_has_13 rfl
def f_X10_has (x0 : Int32) (x1 : Int32) (h : am_H) : am_R := if ((m_ushr x0 x1) &&& (1 : Int32)) = 0 then (f_X10_has_13 (0 : Int32) h) else (f_X10_has_13 (1 : Int32) h)
theorem k_X10_has (d : Nat) (hd : 0 ≤ d) (x0 : Int32) (x1 : Int32) (h : am_H) : am_Con m_X10_has d [.inl x0, .inl x1] h (f_X10_has x0 x1 h) := am_con (by decide +kernel) (Nat.le_of_ble_eq_true rfl) (by
  unfold f_X10_has
  refine sim_iload_n dX10_has_0 rfl ?_
  refine sim_iload_n dX10_has_1 rfl ?_
  refine sim_iushr dX10_has_2 ?_
  refine sim_iconst (1) dX10_has_3 (by decide +kernel) ?_
  refine sim_iand dX10_has_4 ?_
  refine sim_if_eq 12 dX10_has_5 (by decide) (fun c => ?_) (fun c => ?_)
  · refine sim_iconst (0) dX10_has_12 (by decide +kernel) ?_
    exact sim_lv (am_leN (am_leN am_leT)) (t_X10_has_13 d (by omega) _ _)
  · refine sim_iconst (1) dX10_has_8 (by decide +kernel) ?_
    refine sim_goto 13 dX10_has_9 (by decide) ?_
    exact sim_lv (am_leN (am_leN am_leT)) (t_X10_has_13 d (by omega) _ _))
theorem q_X10_has : am_Cal m_X10_has 2 0 := ⟨am_mem 339 (w := Cond.code yX10_has cX10_has 2 (some .boolean)) (by decide +kernel) rfl, am_mem 56 (w := Cond.initialized RX10) (by decide +kernel) rfl, fun _ => am_mem 338 (w := Cond.static yX10_has) (by decide +kernel) rfl, fun z => absurd rfl z, fun z => absurd z (by decide), fun z => absurd z (by decide), by decide +kernel, by decide +kernel, Nat.le_of_ble_eq_true rfl⟩
theorem dX10_with_0 : decode cX10_with 0 = .ok (.iload_n 2, 1) := by decide +kernel
theorem dX10_with_1 : decode cX10_with 1 = .ok (.ifCond .eq 11, 3) := by decide +kernel
theorem dX10_with_4 : decode cX10_with 4 = .ok (.iload_n 0, 1) := by decide +kernel
theorem dX10_with_5 : decode cX10_with 5 = .ok (.iconst 1, 1) := by decide +kernel
theorem dX10_with_6 : decode cX10_with 6 = .ok (.iload_n 1, 1) := by decide +kernel
theorem dX10_with_7 : decode cX10_with 7 = .ok (.ishl, 1) := by decide +kernel
theorem dX10_with_8 : decode cX10_with 8 = .ok (.ior, 1) := by decide +kernel
theorem dX10_with_9 : decode cX10_with 9 = .ok (.goto 10, 3) := by decide +kernel
theorem dX10_with_12 : decode cX10_with 12 = .ok (.iload_n 0, 1) := by decide +kernel
theorem dX10_with_13 : decode cX10_with 13 = .ok (.iconst 1, 1) := by decide +kernel
theorem dX10_with_14 : decode cX10_with 14 = .ok (.iload_n 1, 1) := by decide +kernel
theorem dX10_with_15 : decode cX10_with 15 = .ok (.ishl, 1) := by decide +kernel
theorem dX10_with_16 : decode cX10_with 16 = .ok (.iconst (-1), 1) := by decide +kernel
theorem dX10_with_17 : decode cX10_with 17 = .ok (.ixor, 1) := by decide +kernel
theorem dX10_with_18 : decode cX10_with 18 = .ok (.iand, 1) := by decide +kernel
theorem dX10_with_19 : decode cX10_with 19 = .ok (.ireturn, 1) := by decide +kernel
abbrev m_X10_with : am_M := (yX10_with, cX10_with, 3, some .int, [])
def f_X10_with_19  (s0 : Int32) (h : am_H) : am_R := m_ri h s0
theorem t_X10_with_19 (d : Nat) (hd : 0 ≤ d)  (s0 : Int32) (h : am_H) : Sim m_X10_with d 19 [none, none, none] [.inl s0] h (f_X10_with_19  s0 h) := by
  unfold f_X10_with_19
  exact sim_iret dX10_with_19 rfl
def f_X10_with (x0 : Int32) (x1 : Int32) (x2 : Int32) (h : am_H) : am_R := if x2 = 0 then (f_X10_with_19 (x0 &&& (((1 : Int32) <<< (x1 &&& 31)) ^^^ (-1 : Int32))) h) else (f_X10_with_19 (x0 ||| ((1 : Int32) <<< (x1 &&& 31))) h)
theorem k_X10_with (d : Nat) (hd : 0 ≤ d) (x0 : Int32) (x1 : Int32) (x2 : Int32) (h : am_H) : am_Con m_X10_with d [.inl x0, .inl x1, .inl x2] h (f_X10_with x0 x1 x2 h) := am_con (by decide +kernel) (Nat.le_of_ble_eq_true rfl) (by
  unfold f_X10_with
  refine sim_iload_n dX10_with_0 rfl ?_
  refine sim_if_eq 12 dX10_with_1 (by decide) (fun c => ?_) (fun c => ?_)
  · refine sim_iload_n dX10_with_12 rfl ?_
    refine sim_iconst (1) dX10_with_13 (by decide +kernel) ?_
    refine sim_iload_n dX10_with_14 rfl ?_
    refine sim_ishl dX10_with_15 ?_
    refine sim_iconst (-1) dX10_with_16 (by decide +kernel) ?_
    refine sim_ixor dX10_with_17 ?_
    refine sim_iand dX10_with_18 ?_
    exact sim_lv (am_leN (am_leN (am_leN am_leT))) (t_X10_with_19 d (by omega) _ _)
  · refine sim_iload_n dX10_with_4 rfl ?_
    refine sim_iconst (1) dX10_with_5 (by decide +kernel) ?_
    refine sim_iload_n dX10_with_6 rfl ?_
    refine sim_ishl dX10_with_7 ?_
    refine sim_ior dX10_with_8 ?_
    refine sim_goto 19 dX10_with_9 (by decide) ?_
    exact sim_lv (am_leN (am_leN (am_leN am_leT))) (t_X10_with_19 d (by omega) _ _))
theorem q_X10_with : am_Cal m_X10_with 3 0 := ⟨am_mem 271 (w := Cond.code yX10_with cX10_with 3 (some .int)) (by decide +kernel) rfl, am_mem 56 (w := Cond.initialized RX10) (by decide +kernel) rfl, fun _ => am_mem 270 (w := Cond.static yX10_with) (by decide +kernel) rfl, fun z => absurd rfl z, fun z => absurd z (by decide), fun z => absurd z (by decide), by decide +kernel, by decide +kernel, Nat.le_of_ble_eq_true rfl⟩
theorem dX10_block_0 : decode cX10_block 0 = .ok (.iload_n 1, 1) := by decide +kernel
theorem dX10_block_1 : decode cX10_block 1 = .ok (.invokestatic 82, 3) := by decide +kernel
theorem dX10_block_4 : decode cX10_block 4 = .ok (.iload_n 2, 1) := by decide +kernel
theorem dX10_block_5 : decode cX10_block 5 = .ok (.invokestatic 82, 3) := by decide +kernel
theorem dX10_block_8 : decode cX10_block 8 = .ok (.iload_n 1, 1) := by decide +kernel
theorem dX10_block_9 : decode cX10_block 9 = .ok (.iload_n 2, 1) := by decide +kernel
theorem dX10_block_10 : decode cX10_block 10 = .ok (.if_icmp .ne 13, 3) := by decide +kernel
theorem dX10_block_13 : decode cX10_block 13 = .ok (.new 66, 3) := by decide +kernel
theorem dX10_block_16 : decode cX10_block 16 = .ok (.dup, 1) := by decide +kernel
theorem dX10_block_17 : decode cX10_block 17 = .ok (.ldc 86, 2) := by decide +kernel
theorem dX10_block_19 : decode cX10_block 19 = .ok (.invokespecial 70, 3) := by decide +kernel
theorem dX10_block_22 : decode cX10_block 22 = .ok (.athrow, 1) := by decide +kernel
theorem dX10_block_23 : decode cX10_block 23 = .ok (.aload_n 0, 1) := by decide +kernel
theorem dX10_block_24 : decode cX10_block 24 = .ok (.getfield 15, 3) := by decide +kernel
theorem dX10_block_27 : decode cX10_block 27 = .ok (.iload_n 1, 1) := by decide +kernel
theorem dX10_block_28 : decode cX10_block 28 = .ok (.aaload, 1) := by decide +kernel
theorem dX10_block_29 : decode cX10_block 29 = .ok (.astore 4, 2) := by decide +kernel
theorem dX10_block_31 : decode cX10_block 31 = .ok (.aload 4, 2) := by decide +kernel
theorem dX10_block_33 : decode cX10_block 33 = .ok (.getfield 88, 3) := by decide +kernel
theorem dX10_block_36 : decode cX10_block 36 = .ok (.iload_n 2, 1) := by decide +kernel
theorem dX10_block_37 : decode cX10_block 37 = .ok (.invokestatic 91, 3) := by decide +kernel
theorem dX10_block_40 : decode cX10_block 40 = .ok (.istore 5, 2) := by decide +kernel
theorem dX10_block_42 : decode cX10_block 42 = .ok (.aload 4, 2) := by decide +kernel
theorem dX10_block_44 : decode cX10_block 44 = .ok (.aload 4, 2) := by decide +kernel
theorem dX10_block_46 : decode cX10_block 46 = .ok (.getfield 88, 3) := by decide +kernel
theorem dX10_block_49 : decode cX10_block 49 = .ok (.iload_n 2, 1) := by decide +kernel
theorem dX10_block_50 : decode cX10_block 50 = .ok (.iload_n 3, 1) := by decide +kernel
theorem dX10_block_51 : decode cX10_block 51 = .ok (.invokestatic 95, 3) := by decide +kernel
theorem dX10_block_54 : decode cX10_block 54 = .ok (.putfield 88, 3) := by decide +kernel
theorem dX10_block_57 : decode cX10_block 57 = .ok (.iload 5, 2) := by decide +kernel
theorem dX10_block_59 : decode cX10_block 59 = .ok (.ireturn, 1) := by decide +kernel
abbrev m_X10_block : am_M := (yX10_block, cX10_block, 6, some .boolean, [])
def f_X10_block (a0 : Nat × Nat) (x1 : Int32) (x2 : Int32) (x3 : Int32) (h : am_H) : am_R := m_bV (f_X10_checkPerson x1 h) fun h1 => m_bV (f_X10_checkPerson x2 h1) fun h3 => if x1 = x2 then (m_ex h3 1) else (m_gR (some a0) 10 2 h3 fun o5 => m_aR o5 4 x1 h3 fun o6 => m_gI o6 3 0 h3 fun v7 => m_bI (f_X10_has v7 x2 h3) fun h8 v9 => m_gI o6 3 0 h8 fun v10 => m_bI (f_X10_with v10 x2 x3 h8) fun h11 v12 => m_pI o6 3 0 v12 h11 fun h13 => m_rz h13 v9)
theorem k_X10_block (d : Nat) (hd : 7 ≤ d) (a0 : Nat × Nat) (x1 : Int32) (x2 : Int32) (x3 : Int32) (h : am_H) : am_Con m_X10_block d [.inr (.inr (some a0)), .inl x1, .inl x2, .inl x3] h (f_X10_block a0 x1 x2 x3 h) := am_con (by decide +kernel) (Nat.le_of_ble_eq_true rfl) (by
  unfold f_X10_block
  refine sim_iload_n dX10_block_0 rfl ?_
  refine sim_static (d - 1) dX10_block_1 (k_X10_checkPerson (d - 1) (by omega) _ _) q_X10_checkPerson wm_RX10_82 rfl rfl (by omega) (Nat.le_of_ble_eq_true rfl) am_nV (am_rV fun h1 => ?_) am_eV
  refine sim_iload_n dX10_block_4 rfl ?_
  refine sim_static (d - 1) dX10_block_5 (k_X10_checkPerson (d - 1) (by omega) _ _) q_X10_checkPerson wm_RX10_82 rfl rfl (by omega) (Nat.le_of_ble_eq_true rfl) am_nV (am_rV fun h3 => ?_) am_eV
  refine sim_iload_n dX10_block_8 rfl ?_
  refine sim_iload_n dX10_block_9 rfl ?_
  refine sim_ic_ne 23 dX10_block_10 (by decide) (fun c => ?_) (fun c => ?_)
  · refine sim_aload_n dX10_block_23 rfl ?_
    refine sim_gR 10 2 dX10_block_24 rfl wf_RX10_15 (Nat.le_of_ble_eq_true rfl) rfl (fun o5 => ?_)
    refine sim_iload_n dX10_block_27 rfl ?_
    refine sim_aR 4 rfl dX10_block_28 (fun o6 => ?_)
    refine sim_astore dX10_block_29 (Nat.le_of_ble_eq_true rfl) ?_
    refine sim_aload dX10_block_31 rfl ?_
    refine sim_gI 3 0 dX10_block_33 rfl wf_RX10_88 (Nat.le_of_ble_eq_true rfl) rfl (fun v7 => ?_)
    refine sim_iload_n dX10_block_36 rfl ?_
    refine sim_static (d - 1) dX10_block_37 (k_X10_has (d - 1) (by omega) _ _ _) q_X10_has wm_RX10_91 rfl rfl (by omega) (Nat.le_of_ble_eq_true rfl) am_nI (am_rI fun h8 v9 => ?_) am_eI
    refine sim_istore dX10_block_40 (Nat.le_of_ble_eq_true rfl) ?_
    refine sim_aload dX10_block_42 rfl ?_
    refine sim_aload dX10_block_44 rfl ?_
    refine sim_gI 3 0 dX10_block_46 rfl wf_RX10_88 (Nat.le_of_ble_eq_true rfl) rfl (fun v10 => ?_)
    refine sim_iload_n dX10_block_49 rfl ?_
    refine sim_iload_n dX10_block_50 rfl ?_
    refine sim_static (d - 1) dX10_block_51 (k_X10_with (d - 1) (by omega) _ _ _ _) q_X10_with wm_RX10_95 rfl rfl (by omega) (Nat.le_of_ble_eq_true rfl) am_nI (am_rI fun h11 v12 => ?_) am_eI
    refine sim_pI 3 0 dX10_block_54 rfl wf_RX10_88 (Nat.le_of_ble_eq_true rfl) rfl (Or.inl rfl) rfl (fun h13 => ?_)
    refine sim_iload dX10_block_57 rfl ?_
    exact sim_zret dX10_block_59 rfl
  · exact sim_throw 1 (by decide) dX10_block_13 dX10_block_16 dX10_block_17 dX10_block_19 dX10_block_22 wx_RX10_66 wy_1 ws_RX10_86 at_RX10_70 gd_RX10_70 (by omega) (Nat.le_of_ble_eq_true rfl))
theorem q_X10_block : am_Cal m_X10_block 3 2 := ⟨am_mem 457 (w := Cond.code yX10_block cX10_block 6 (some .boolean)) (by decide +kernel) rfl, am_mem 56 (w := Cond.initialized RX10) (by decide +kernel) rfl, fun z => absurd z (by decide), fun _ => am_mem 455 (w := Cond.instanceMethod yX10_block) (by decide +kernel) rfl, fun z => absurd z (by decide), fun _ => am_mem 456 (w := Cond.selects RX10 yX10_block yX10_block) (by decide +kernel) rfl, by decide +kernel, by decide +kernel, Nat.le_of_ble_eq_true rfl⟩
theorem dL_block_0 : decode cL_block 0 = .ok (.aload 4, 2) := by decide +kernel
theorem dL_block_2 : decode cL_block 2 = .ok (.iconst 0, 1) := by decide +kernel
theorem dL_block_3 : decode cL_block 3 = .ok (.aload_n 0, 1) := by decide +kernel
theorem dL_block_4 : decode cL_block 4 = .ok (.iload_n 1, 1) := by decide +kernel
theorem dL_block_5 : decode cL_block 5 = .ok (.iload_n 2, 1) := by decide +kernel
theorem dL_block_6 : decode cL_block 6 = .ok (.iload_n 3, 1) := by decide +kernel
theorem dL_block_7 : decode cL_block 7 = .ok (.invokevirtual 17, 3) := by decide +kernel
theorem dL_block_10 : decode cL_block 10 = .ok (.ifCond .eq 7, 3) := by decide +kernel
theorem dL_block_13 : decode cL_block 13 = .ok (.lconst 1, 1) := by decide +kernel
theorem dL_block_14 : decode cL_block 14 = .ok (.goto 4, 3) := by decide +kernel
theorem dL_block_17 : decode cL_block 17 = .ok (.lconst 0, 1) := by decide +kernel
theorem dL_block_18 : decode cL_block 18 = .ok (.lastore, 1) := by decide +kernel
theorem dL_block_19 : decode cL_block 19 = .ok (.goto 11, 3) := by decide +kernel
theorem dL_block_22 : decode cL_block 22 = .ok (.astore 5, 2) := by decide +kernel
theorem dL_block_24 : decode cL_block 24 = .ok (.iconst 1, 1) := by decide +kernel
theorem dL_block_25 : decode cL_block 25 = .ok (.ireturn, 1) := by decide +kernel
theorem dL_block_26 : decode cL_block 26 = .ok (.astore 5, 2) := by decide +kernel
theorem dL_block_28 : decode cL_block 28 = .ok (.iconst 2, 1) := by decide +kernel
theorem dL_block_29 : decode cL_block 29 = .ok (.ireturn, 1) := by decide +kernel
theorem dL_block_30 : decode cL_block 30 = .ok (.iconst 0, 1) := by decide +kernel
theorem dL_block_31 : decode cL_block 31 = .ok (.ireturn, 1) := by decide +kernel
abbrev m_L_block : am_M := (yL_block, cL_block, 6, some .int, [(0, 19, 22, 21), (0, 19, 26, 13)])
def f_L_block_18  (s0 : Int64) (s1 : Int32) (s2 : Option (Nat × Nat)) (h : am_H) : am_R := m_sL s2 s1 s0 h fun h6 => m_ri h6 (0 : Int32)
theorem t_L_block_18 (d : Nat) (hd : 8 ≤ d)  (s0 : Int64) (s1 : Int32) (s2 : Option (Nat × Nat)) (h : am_H) : Sim m_L_block d 18 [none, none, none, none, none, none] [.inr (.inl s0), .inl s1, .inr (.inr s2)] h (f_L_block_18  s0 s1 s2 h) := by
  unfold f_L_block_18
  refine sim_sL dL_block_18 (fun h6 => ?_)
  refine sim_goto 30 dL_block_19 (by decide) ?_
  refine sim_iconst (0) dL_block_30 (by decide +kernel) ?_
  exact sim_iret dL_block_31 rfl
def f_L_block (x0 : Option (Nat × Nat)) (x1 : Int32) (x2 : Int32) (x3 : Int32) (x4 : Option (Nat × Nat)) (h : am_H) : am_R := m_ao x0 10 fun a3 => m_bIx (f_X10_block a3 x1 x2 x3 h) (fun h1 v2 => if v2 = 0 then (f_L_block_18 (0 : Int64) (0 : Int32) x4 h1) else (f_L_block_18 (1 : Int64) (0 : Int32) x4 h1)) (fun h4 e5 => if e5 = 0 then (m_ri h4 (1 : Int32)) else if e5 = 1 then (m_ri h4 (2 : Int32)) else none)
theorem k_L_block (d : Nat) (hd : 8 ≤ d) (x0 : Option (Nat × Nat)) (x1 : Int32) (x2 : Int32) (x3 : Int32) (x4 : Option (Nat × Nat)) (h : am_H) : am_Con m_L_block d [.inr (.inr x0), .inl x1, .inl x2, .inl x3, .inr (.inr x4)] h (f_L_block x0 x1 x2 x3 x4 h) := am_conX (by decide +kernel) (Nat.le_of_ble_eq_true rfl) (by
  unfold f_L_block
  refine sim_aload dL_block_0 rfl ?_
  refine sim_iconst (0) dL_block_2 (by decide +kernel) ?_
  refine sim_aload_n dL_block_3 rfl ?_
  refine sim_iload_n dL_block_4 rfl ?_
  refine sim_iload_n dL_block_5 rfl ?_
  refine sim_iload_n dL_block_6 rfl ?_
  refine sim_ao3 (fun a3 e => ?_)
  refine sim_virt (d - 1) e dL_block_7 (k_X10_block (d - 1) (by omega) _ _ _ _ _) q_X10_block rfl rfl wm_RL_17 rfl rfl (by omega) (Nat.le_of_ble_eq_true rfl) am_nIx (am_rIx fun h1 v2 => ?_) (am_eIx fun h9 k9 => ?_)
  · refine sim_if_eq 17 dL_block_10 (by decide) (fun c => ?_) (fun c => ?_)
    · refine sim_lconst (0) dL_block_17 (by decide +kernel) ?_
      exact sim_lv (am_leN (am_leN (am_leN (am_leN (am_leN (am_leN am_leT)))))) (t_L_block_18 d (by omega) _ _ _ _)
    · refine sim_lconst (1) dL_block_13 (by decide +kernel) ?_
      refine sim_goto 18 dL_block_14 (by decide) ?_
      exact sim_lv (am_leN (am_leN (am_leN (am_leN (am_leN (am_leN am_leT)))))) (t_L_block_18 d (by omega) _ _ _ _)
  · refine simx_case (fun cx => ?_) (fun cx => ?_)
    · subst cx
      refine simx_catch [] (0, 19, 22, 21) [(0, 19, 26, 13)] rfl ⟨by decide, by decide⟩ (by decide) wx_RL_21 wca_0 (by decide) (fun z hz => by cases hz) ?_
      refine sim_astore dL_block_22 (Nat.le_of_ble_eq_true rfl) ?_
      refine sim_iconst (1) dL_block_24 (by decide +kernel) ?_
      exact sim_iret dL_block_25 rfl
    refine simx_case (fun cx => ?_) (fun cx => ?_)
    · subst cx
      refine simx_catch [(0, 19, 22, 21)] (0, 19, 26, 13) [] rfl ⟨by decide, by decide⟩ (by decide) wx_RL_13 wca_1 (by decide) (fun z hz => by simp only [List.mem_cons, List.not_mem_nil, or_false] at hz; subst hz; exact ⟨by decide, 0, _, by decide, by decide, wx_RL_21⟩) ?_
      refine sim_astore dL_block_26 (Nat.le_of_ble_eq_true rfl) ?_
      refine sim_iconst (2) dL_block_28 (by decide +kernel) ?_
      exact sim_iret dL_block_29 rfl
    exact simx_none)
theorem q_L_block : am_Cal m_L_block 5 0 := ⟨am_mem 452 (w := Cond.codeWith yL_block cL_block 6 (some .int) [(0, 19, 22, 21), (0, 19, 26, 13)]) (by decide +kernel) rfl, am_mem 55 (w := Cond.initialized RL) (by decide +kernel) rfl, fun _ => am_mem 451 (w := Cond.static yL_block) (by decide +kernel) rfl, fun z => absurd rfl z, fun z => absurd z (by decide), fun z => absurd z (by decide), by decide +kernel, by decide +kernel, Nat.le_of_ble_eq_true rfl⟩
theorem dX10_commentAt_0 : decode cX10_commentAt 0 = .ok (.iload_n 1, 1) := by decide +kernel
theorem dX10_commentAt_1 : decode cX10_commentAt 1 = .ok (.ifCond .lt 11, 3) := by decide +kernel
theorem dX10_commentAt_4 : decode cX10_commentAt 4 = .ok (.iload_n 1, 1) := by decide +kernel
theorem dX10_commentAt_5 : decode cX10_commentAt 5 = .ok (.aload_n 0, 1) := by decide +kernel
theorem dX10_commentAt_6 : decode cX10_commentAt 6 = .ok (.getfield 327, 3) := by decide +kernel
theorem dX10_commentAt_9 : decode cX10_commentAt 9 = .ok (.if_icmp .lt 14, 3) := by decide +kernel
theorem dX10_commentAt_12 : decode cX10_commentAt 12 = .ok (.new 162, 3) := by decide +kernel
theorem dX10_commentAt_15 : decode cX10_commentAt 15 = .ok (.dup, 1) := by decide +kernel
theorem dX10_commentAt_16 : decode cX10_commentAt 16 = .ok (.ldc_w 386, 3) := by decide +kernel
theorem dX10_commentAt_19 : decode cX10_commentAt 19 = .ok (.invokespecial 166, 3) := by decide +kernel
theorem dX10_commentAt_22 : decode cX10_commentAt 22 = .ok (.athrow, 1) := by decide +kernel
theorem dX10_commentAt_23 : decode cX10_commentAt 23 = .ok (.aload_n 0, 1) := by decide +kernel
theorem dX10_commentAt_24 : decode cX10_commentAt 24 = .ok (.getfield 61, 3) := by decide +kernel
theorem dX10_commentAt_27 : decode cX10_commentAt 27 = .ok (.iload_n 1, 1) := by decide +kernel
theorem dX10_commentAt_28 : decode cX10_commentAt 28 = .ok (.aaload, 1) := by decide +kernel
theorem dX10_commentAt_29 : decode cX10_commentAt 29 = .ok (.areturn, 1) := by decide +kernel
abbrev m_X10_commentAt : am_M := (yX10_commentAt, cX10_commentAt, 2, some (.object RX1), [])
def f_X10_commentAt_12   (h : am_H) : am_R := m_ex h 0
theorem t_X10_commentAt_12 (d : Nat) (hd : 6 ≤ d)   (h : am_H) : Sim m_X10_commentAt d 12 [none, none] [] h (f_X10_commentAt_12   h) := by
  unfold f_X10_commentAt_12
  exact sim_throwW 0 (by decide) dX10_commentAt_12 dX10_commentAt_15 dX10_commentAt_16 dX10_commentAt_19 dX10_commentAt_22 wx_RX10_162 wy_0 ws_RX10_386 at_RX10_166 gd_RX10_166 (by omega) (Nat.le_of_ble_eq_true rfl)
def f_X10_commentAt (a0 : Nat × Nat) (x1 : Int32) (h : am_H) : am_R := if x1 < 0 then (f_X10_commentAt_12 h) else (m_gI (some a0) 10 12 h fun v1 => if x1 < v1 then (m_gR (some a0) 10 11 h fun o2 => m_aR o2 7 x1 h fun o3 => m_ra h o3) else (f_X10_commentAt_12 h))
theorem k_X10_commentAt (d : Nat) (hd : 6 ≤ d) (a0 : Nat × Nat) (x1 : Int32) (h : am_H) : am_Con m_X10_commentAt d [.inr (.inr (some a0)), .inl x1] h (f_X10_commentAt a0 x1 h) := am_con (by decide +kernel) (Nat.le_of_ble_eq_true rfl) (by
  unfold f_X10_commentAt
  refine sim_iload_n dX10_commentAt_0 rfl ?_
  refine sim_if_lt 12 dX10_commentAt_1 (by decide) (fun c => ?_) (fun c => ?_)
  · exact sim_lv (am_leN (am_leN am_leT)) (t_X10_commentAt_12 d (by omega) _)
  · refine sim_iload_n dX10_commentAt_4 rfl ?_
    refine sim_aload_n dX10_commentAt_5 rfl ?_
    refine sim_gI 10 12 dX10_commentAt_6 rfl wf_RX10_327 (Nat.le_of_ble_eq_true rfl) rfl (fun v1 => ?_)
    refine sim_ic_lt 23 dX10_commentAt_9 (by decide) (fun c => ?_) (fun c => ?_)
    · refine sim_aload_n dX10_commentAt_23 rfl ?_
      refine sim_gR 10 11 dX10_commentAt_24 rfl wf_RX10_61 (Nat.le_of_ble_eq_true rfl) rfl (fun o2 => ?_)
      refine sim_iload_n dX10_commentAt_27 rfl ?_
      refine sim_aR 7 rfl dX10_commentAt_28 (fun o3 => ?_)
      exact sim_aret dX10_commentAt_29 rfl
    · exact sim_lv (am_leN (am_leN am_leT)) (t_X10_commentAt_12 d (by omega) _))
theorem q_X10_commentAt : am_Cal m_X10_commentAt 1 2 := ⟨am_mem 972 (w := Cond.code yX10_commentAt cX10_commentAt 2 (some (.object RX1))) (by decide +kernel) rfl, am_mem 56 (w := Cond.initialized RX10) (by decide +kernel) rfl, fun z => absurd z (by decide), fun _ => am_mem 971 (w := Cond.instanceMethod yX10_commentAt) (by decide +kernel) rfl, fun z => absurd z (by decide), fun _ => am_mem 22 (w := Cond.selects RX10 yX10_commentAt yX10_commentAt) (by decide +kernel) rfl, by decide +kernel, by decide +kernel, Nat.le_of_ble_eq_true rfl⟩
theorem dX10_change_0 : decode cX10_change 0 = .ok (.aload_n 0, 1) := by decide +kernel
theorem dX10_change_1 : decode cX10_change 1 = .ok (.iload_n 1, 1) := by decide +kernel
theorem dX10_change_2 : decode cX10_change 2 = .ok (.invokevirtual 318, 3) := by decide +kernel
theorem dX10_change_5 : decode cX10_change 5 = .ok (.astore_n 3, 1) := by decide +kernel
theorem dX10_change_6 : decode cX10_change 6 = .ok (.iload_n 2, 1) := by decide +kernel
theorem dX10_change_7 : decode cX10_change 7 = .ok (.tableswitch 101 0 3 #[29, 51, 65, 79], 29) := by decide +kernel
theorem dX10_change_36 : decode cX10_change 36 = .ok (.aload_n 3, 1) := by decide +kernel
theorem dX10_change_37 : decode cX10_change 37 = .ok (.getfield 339, 3) := by decide +kernel
theorem dX10_change_40 : decode cX10_change 40 = .ok (.ifCond .ne 7, 3) := by decide +kernel
theorem dX10_change_43 : decode cX10_change 43 = .ok (.iconst 1, 1) := by decide +kernel
theorem dX10_change_44 : decode cX10_change 44 = .ok (.goto 4, 3) := by decide +kernel
theorem dX10_change_47 : decode cX10_change 47 = .ok (.iconst 0, 1) := by decide +kernel
theorem dX10_change_48 : decode cX10_change 48 = .ok (.istore 4, 2) := by decide +kernel
theorem dX10_change_50 : decode cX10_change 50 = .ok (.aload_n 3, 1) := by decide +kernel
theorem dX10_change_51 : decode cX10_change 51 = .ok (.iconst 1, 1) := by decide +kernel
theorem dX10_change_52 : decode cX10_change 52 = .ok (.putfield 339, 3) := by decide +kernel
theorem dX10_change_55 : decode cX10_change 55 = .ok (.iload 4, 2) := by decide +kernel
theorem dX10_change_57 : decode cX10_change 57 = .ok (.ireturn, 1) := by decide +kernel
theorem dX10_change_58 : decode cX10_change 58 = .ok (.aload_n 3, 1) := by decide +kernel
theorem dX10_change_59 : decode cX10_change 59 = .ok (.getfield 339, 3) := by decide +kernel
theorem dX10_change_62 : decode cX10_change 62 = .ok (.istore 4, 2) := by decide +kernel
theorem dX10_change_64 : decode cX10_change 64 = .ok (.aload_n 3, 1) := by decide +kernel
theorem dX10_change_65 : decode cX10_change 65 = .ok (.iconst 0, 1) := by decide +kernel
theorem dX10_change_66 : decode cX10_change 66 = .ok (.putfield 339, 3) := by decide +kernel
theorem dX10_change_69 : decode cX10_change 69 = .ok (.iload 4, 2) := by decide +kernel
theorem dX10_change_71 : decode cX10_change 71 = .ok (.ireturn, 1) := by decide +kernel
theorem dX10_change_72 : decode cX10_change 72 = .ok (.aload_n 3, 1) := by decide +kernel
theorem dX10_change_73 : decode cX10_change 73 = .ok (.getfield 342, 3) := by decide +kernel
theorem dX10_change_76 : decode cX10_change 76 = .ok (.istore 4, 2) := by decide +kernel
theorem dX10_change_78 : decode cX10_change 78 = .ok (.aload_n 3, 1) := by decide +kernel
theorem dX10_change_79 : decode cX10_change 79 = .ok (.iconst 0, 1) := by decide +kernel
theorem dX10_change_80 : decode cX10_change 80 = .ok (.putfield 342, 3) := by decide +kernel
theorem dX10_change_83 : decode cX10_change 83 = .ok (.iload 4, 2) := by decide +kernel
theorem dX10_change_85 : decode cX10_change 85 = .ok (.ireturn, 1) := by decide +kernel
theorem dX10_change_86 : decode cX10_change 86 = .ok (.aload_n 3, 1) := by decide +kernel
theorem dX10_change_87 : decode cX10_change 87 = .ok (.getfield 345, 3) := by decide +kernel
theorem dX10_change_90 : decode cX10_change 90 = .ok (.ifCond .ne 7, 3) := by decide +kernel
theorem dX10_change_93 : decode cX10_change 93 = .ok (.iconst 1, 1) := by decide +kernel
theorem dX10_change_94 : decode cX10_change 94 = .ok (.goto 4, 3) := by decide +kernel
theorem dX10_change_97 : decode cX10_change 97 = .ok (.iconst 0, 1) := by decide +kernel
theorem dX10_change_98 : decode cX10_change 98 = .ok (.istore 4, 2) := by decide +kernel
theorem dX10_change_100 : decode cX10_change 100 = .ok (.aload_n 3, 1) := by decide +kernel
theorem dX10_change_101 : decode cX10_change 101 = .ok (.iconst 1, 1) := by decide +kernel
theorem dX10_change_102 : decode cX10_change 102 = .ok (.putfield 345, 3) := by decide +kernel
theorem dX10_change_105 : decode cX10_change 105 = .ok (.iload 4, 2) := by decide +kernel
theorem dX10_change_107 : decode cX10_change 107 = .ok (.ireturn, 1) := by decide +kernel
theorem dX10_change_108 : decode cX10_change 108 = .ok (.new 66, 3) := by decide +kernel
theorem dX10_change_111 : decode cX10_change 111 = .ok (.dup, 1) := by decide +kernel
theorem dX10_change_112 : decode cX10_change 112 = .ok (.ldc 232, 2) := by decide +kernel
theorem dX10_change_114 : decode cX10_change 114 = .ok (.invokespecial 70, 3) := by decide +kernel
theorem dX10_change_117 : decode cX10_change 117 = .ok (.athrow, 1) := by decide +kernel
abbrev m_X10_change : am_M := (yX10_change, cX10_change, 5, some .boolean, [])
def f_X10_change_98  (x3 : Option (Nat × Nat)) (s0 : Int32) (h : am_H) : am_R := m_pZ x3 1 4 (1 : Int32) h fun h10 => m_rz h10 s0
theorem t_X10_change_98 (d : Nat) (hd : 7 ≤ d)  (x3 : Option (Nat × Nat)) (s0 : Int32) (h : am_H) : Sim m_X10_change d 98 [none, none, none, some (.inr (.inr x3)), none] [.inl s0] h (f_X10_change_98  x3 s0 h) := by
  unfold f_X10_change_98
  refine sim_istore dX10_change_98 (Nat.le_of_ble_eq_true rfl) ?_
  refine sim_aload_n dX10_change_100 rfl ?_
  refine sim_iconst (1) dX10_change_101 (by decide +kernel) ?_
  refine sim_pZ 1 4 dX10_change_102 rfl wf_RX10_345 (Nat.le_of_ble_eq_true rfl) rfl (Or.inl rfl) rfl (fun h10 => ?_)
  refine sim_iload dX10_change_105 rfl ?_
  exact sim_zret dX10_change_107 rfl
def f_X10_change_48  (x3 : Option (Nat × Nat)) (s0 : Int32) (h : am_H) : am_R := m_pZ x3 1 3 (1 : Int32) h fun h11 => m_rz h11 s0
theorem t_X10_change_48 (d : Nat) (hd : 7 ≤ d)  (x3 : Option (Nat × Nat)) (s0 : Int32) (h : am_H) : Sim m_X10_change d 48 [none, none, none, some (.inr (.inr x3)), none] [.inl s0] h (f_X10_change_48  x3 s0 h) := by
  unfold f_X10_change_48
  refine sim_istore dX10_change_48 (Nat.le_of_ble_eq_true rfl) ?_
  refine sim_aload_n dX10_change_50 rfl ?_
  refine sim_iconst (1) dX10_change_51 (by decide +kernel) ?_
  refine sim_pZ 1 3 dX10_change_52 rfl wf_RX10_339 (Nat.le_of_ble_eq_true rfl) rfl (Or.inl rfl) rfl (fun h11 => ?_)
  refine sim_iload dX10_change_55 rfl ?_
  exact sim_zret dX10_change_57 rfl
def f_X10_change (a0 : Nat × Nat) (x1 : Int32) (x2 : Int32) (h : am_H) : am_R := m_ao (some a0) 10 fun a3 => m_bR (f_X10_commentAt a3 x1 h) fun h1 o2 => if x2 = 0 then (m_gI o2 1 3 h1 fun v4 => if v4 = 0 then (f_X10_change_48 o2 (1 : Int32) h1) else (f_X10_change_48 o2 (0 : Int32) h1)) else if x2 = 1 then (m_gI o2 1 3 h1 fun v5 => m_pZ o2 1 3 (0 : Int32) h1 fun h6 => m_rz h6 v5) else if x2 = 2 then (m_gI o2 1 5 h1 fun v7 => m_pZ o2 1 5 (0 : Int32) h1 fun h8 => m_rz h8 v7) else if x2 = 3 then (m_gI o2 1 4 h1 fun v9 => if v9 = 0 then (f_X10_change_98 o2 (1 : Int32) h1) else (f_X10_change_98 o2 (0 : Int32) h1)) else (m_ex h1 1)
theorem k_X10_change (d : Nat) (hd : 7 ≤ d) (a0 : Nat × Nat) (x1 : Int32) (x2 : Int32) (h : am_H) : am_Con m_X10_change d [.inr (.inr (some a0)), .inl x1, .inl x2] h (f_X10_change a0 x1 x2 h) := am_con (by decide +kernel) (Nat.le_of_ble_eq_true rfl) (by
  unfold f_X10_change
  refine sim_aload_n dX10_change_0 rfl ?_
  refine sim_iload_n dX10_change_1 rfl ?_
  refine sim_ao1 (fun a3 e => ?_)
  refine sim_virt (d - 1) e dX10_change_2 (k_X10_commentAt (d - 1) (by omega) _ _ _) q_X10_commentAt rfl rfl wm_RX10_318 rfl rfl (by omega) (Nat.le_of_ble_eq_true rfl) am_nR (am_rR fun h1 o2 => ?_) am_eR
  refine sim_astore_n dX10_change_5 (Nat.le_of_ble_eq_true rfl) ?_
  refine sim_iload_n dX10_change_6 rfl ?_
  refine sim_case (fun c7_0 => ?_) (fun c7_0 => ?_)
  · refine sim_tableIn (off := 29) (0) 36 c7_0 dX10_change_7 (by decide +kernel) (by decide +kernel) (by decide +kernel) (by decide) ?_
    refine sim_aload_n dX10_change_36 rfl ?_
    refine sim_gI 1 3 dX10_change_37 rfl wf_RX10_339 (Nat.le_of_ble_eq_true rfl) rfl (fun v4 => ?_)
    refine sim_if_ne 47 dX10_change_40 (by decide) (fun c => ?_) (fun c => ?_)
    · refine sim_iconst (0) dX10_change_47 (by decide +kernel) ?_
      exact sim_lv (am_leN (am_leN (am_leN (am_leS (am_leN am_leT))))) (t_X10_change_48 d (by omega) _ _ _)
    · refine sim_iconst (1) dX10_change_43 (by decide +kernel) ?_
      refine sim_goto 48 dX10_change_44 (by decide) ?_
      exact sim_lv (am_leN (am_leN (am_leN (am_leS (am_leN am_leT))))) (t_X10_change_48 d (by omega) _ _ _)
  refine sim_case (fun c7_1 => ?_) (fun c7_1 => ?_)
  · refine sim_tableIn (off := 51) (1) 58 c7_1 dX10_change_7 (by decide +kernel) (by decide +kernel) (by decide +kernel) (by decide) ?_
    refine sim_aload_n dX10_change_58 rfl ?_
    refine sim_gI 1 3 dX10_change_59 rfl wf_RX10_339 (Nat.le_of_ble_eq_true rfl) rfl (fun v5 => ?_)
    refine sim_istore dX10_change_62 (Nat.le_of_ble_eq_true rfl) ?_
    refine sim_aload_n dX10_change_64 rfl ?_
    refine sim_iconst (0) dX10_change_65 (by decide +kernel) ?_
    refine sim_pZ 1 3 dX10_change_66 rfl wf_RX10_339 (Nat.le_of_ble_eq_true rfl) rfl (Or.inl rfl) rfl (fun h6 => ?_)
    refine sim_iload dX10_change_69 rfl ?_
    exact sim_zret dX10_change_71 rfl
  refine sim_case (fun c7_2 => ?_) (fun c7_2 => ?_)
  · refine sim_tableIn (off := 65) (2) 72 c7_2 dX10_change_7 (by decide +kernel) (by decide +kernel) (by decide +kernel) (by decide) ?_
    refine sim_aload_n dX10_change_72 rfl ?_
    refine sim_gI 1 5 dX10_change_73 rfl wf_RX10_342 (Nat.le_of_ble_eq_true rfl) rfl (fun v7 => ?_)
    refine sim_istore dX10_change_76 (Nat.le_of_ble_eq_true rfl) ?_
    refine sim_aload_n dX10_change_78 rfl ?_
    refine sim_iconst (0) dX10_change_79 (by decide +kernel) ?_
    refine sim_pZ 1 5 dX10_change_80 rfl wf_RX10_342 (Nat.le_of_ble_eq_true rfl) rfl (Or.inl rfl) rfl (fun h8 => ?_)
    refine sim_iload dX10_change_83 rfl ?_
    exact sim_zret dX10_change_85 rfl
  refine sim_case (fun c7_3 => ?_) (fun c7_3 => ?_)
  · refine sim_tableIn (off := 79) (3) 86 c7_3 dX10_change_7 (by decide +kernel) (by decide +kernel) (by decide +kernel) (by decide) ?_
    refine sim_aload_n dX10_change_86 rfl ?_
    refine sim_gI 1 4 dX10_change_87 rfl wf_RX10_345 (Nat.le_of_ble_eq_true rfl) rfl (fun v9 => ?_)
    refine sim_if_ne 97 dX10_change_90 (by decide) (fun c => ?_) (fun c => ?_)
    · refine sim_iconst (0) dX10_change_97 (by decide +kernel) ?_
      exact sim_lv (am_leN (am_leN (am_leN (am_leS (am_leN am_leT))))) (t_X10_change_98 d (by omega) _ _ _)
    · refine sim_iconst (1) dX10_change_93 (by decide +kernel) ?_
      refine sim_goto 98 dX10_change_94 (by decide) ?_
      exact sim_lv (am_leN (am_leN (am_leN (am_leS (am_leN am_leT))))) (t_X10_change_98 d (by omega) _ _ _)
  refine sim_tableOut 108 dX10_change_7 ((am_out (N := 4) (by decide) (lt_s (lt_s (lt_s (lt_s lt_0 c7_0) c7_1) c7_2) c7_3)).imp id (fun z => by omega)) (by decide) ?_
  exact sim_throw 1 (by decide) dX10_change_108 dX10_change_111 dX10_change_112 dX10_change_114 dX10_change_117 wx_RX10_66 wy_1 ws_RX10_232 at_RX10_70 gd_RX10_70 (by omega) (Nat.le_of_ble_eq_true rfl))
theorem q_X10_change : am_Cal m_X10_change 2 2 := ⟨am_mem 1030 (w := Cond.code yX10_change cX10_change 5 (some .boolean)) (by decide +kernel) rfl, am_mem 56 (w := Cond.initialized RX10) (by decide +kernel) rfl, fun z => absurd z (by decide), fun _ => am_mem 1028 (w := Cond.instanceMethod yX10_change) (by decide +kernel) rfl, fun z => absurd z (by decide), fun _ => am_mem 1029 (w := Cond.selects RX10 yX10_change yX10_change) (by decide +kernel) rfl, by decide +kernel, by decide +kernel, Nat.le_of_ble_eq_true rfl⟩
theorem dL_change_0 : decode cL_change 0 = .ok (.aload_n 3, 1) := by decide +kernel
theorem dL_change_1 : decode cL_change 1 = .ok (.iconst 0, 1) := by decide +kernel
theorem dL_change_2 : decode cL_change 2 = .ok (.aload_n 0, 1) := by decide +kernel
theorem dL_change_3 : decode cL_change 3 = .ok (.iload_n 1, 1) := by decide +kernel
theorem dL_change_4 : decode cL_change 4 = .ok (.iload_n 2, 1) := by decide +kernel
theorem dL_change_5 : decode cL_change 5 = .ok (.invokevirtual 110, 3) := by decide +kernel
theorem dL_change_8 : decode cL_change 8 = .ok (.ifCond .eq 7, 3) := by decide +kernel
theorem dL_change_11 : decode cL_change 11 = .ok (.lconst 1, 1) := by decide +kernel
theorem dL_change_12 : decode cL_change 12 = .ok (.goto 4, 3) := by decide +kernel
theorem dL_change_15 : decode cL_change 15 = .ok (.lconst 0, 1) := by decide +kernel
theorem dL_change_16 : decode cL_change 16 = .ok (.lastore, 1) := by decide +kernel
theorem dL_change_17 : decode cL_change 17 = .ok (.goto 11, 3) := by decide +kernel
theorem dL_change_20 : decode cL_change 20 = .ok (.astore 4, 2) := by decide +kernel
theorem dL_change_22 : decode cL_change 22 = .ok (.iconst 1, 1) := by decide +kernel
theorem dL_change_23 : decode cL_change 23 = .ok (.ireturn, 1) := by decide +kernel
theorem dL_change_24 : decode cL_change 24 = .ok (.astore 4, 2) := by decide +kernel
theorem dL_change_26 : decode cL_change 26 = .ok (.iconst 2, 1) := by decide +kernel
theorem dL_change_27 : decode cL_change 27 = .ok (.ireturn, 1) := by decide +kernel
theorem dL_change_28 : decode cL_change 28 = .ok (.iconst 0, 1) := by decide +kernel
theorem dL_change_29 : decode cL_change 29 = .ok (.ireturn, 1) := by decide +kernel
abbrev m_L_change : am_M := (yL_change, cL_change, 5, some .int, [(0, 17, 20, 21), (0, 17, 24, 13)])
def f_L_change_16  (s0 : Int64) (s1 : Int32) (s2 : Option (Nat × Nat)) (h : am_H) : am_R := m_sL s2 s1 s0 h fun h6 => m_ri h6 (0 : Int32)
theorem t_L_change_16 (d : Nat) (hd : 8 ≤ d)  (s0 : Int64) (s1 : Int32) (s2 : Option (Nat × Nat)) (h : am_H) : Sim m_L_change d 16 [none, none, none, none, none] [.inr (.inl s0), .inl s1, .inr (.inr s2)] h (f_L_change_16  s0 s1 s2 h) := by
  unfold f_L_change_16
  refine sim_sL dL_change_16 (fun h6 => ?_)
  refine sim_goto 28 dL_change_17 (by decide) ?_
  refine sim_iconst (0) dL_change_28 (by decide +kernel) ?_
  exact sim_iret dL_change_29 rfl
def f_L_change (x0 : Option (Nat × Nat)) (x1 : Int32) (x2 : Int32) (x3 : Option (Nat × Nat)) (h : am_H) : am_R := m_ao x0 10 fun a3 => m_bIx (f_X10_change a3 x1 x2 h) (fun h1 v2 => if v2 = 0 then (f_L_change_16 (0 : Int64) (0 : Int32) x3 h1) else (f_L_change_16 (1 : Int64) (0 : Int32) x3 h1)) (fun h4 e5 => if e5 = 0 then (m_ri h4 (1 : Int32)) else if e5 = 1 then (m_ri h4 (2 : Int32)) else none)
theorem k_L_change (d : Nat) (hd : 8 ≤ d) (x0 : Option (Nat × Nat)) (x1 : Int32) (x2 : Int32) (x3 : Option (Nat × Nat)) (h : am_H) : am_Con m_L_change d [.inr (.inr x0), .inl x1, .inl x2, .inr (.inr x3)] h (f_L_change x0 x1 x2 x3 h) := am_conX (by decide +kernel) (Nat.le_of_ble_eq_true rfl) (by
  unfold f_L_change
  refine sim_aload_n dL_change_0 rfl ?_
  refine sim_iconst (0) dL_change_1 (by decide +kernel) ?_
  refine sim_aload_n dL_change_2 rfl ?_
  refine sim_iload_n dL_change_3 rfl ?_
  refine sim_iload_n dL_change_4 rfl ?_
  refine sim_ao2 (fun a3 e => ?_)
  refine sim_virt (d - 1) e dL_change_5 (k_X10_change (d - 1) (by omega) _ _ _ _) q_X10_change rfl rfl wm_RL_110 rfl rfl (by omega) (Nat.le_of_ble_eq_true rfl) am_nIx (am_rIx fun h1 v2 => ?_) (am_eIx fun h9 k9 => ?_)
  · refine sim_if_eq 15 dL_change_8 (by decide) (fun c => ?_) (fun c => ?_)
    · refine sim_lconst (0) dL_change_15 (by decide +kernel) ?_
      exact sim_lv (am_leN (am_leN (am_leN (am_leN (am_leN am_leT))))) (t_L_change_16 d (by omega) _ _ _ _)
    · refine sim_lconst (1) dL_change_11 (by decide +kernel) ?_
      refine sim_goto 16 dL_change_12 (by decide) ?_
      exact sim_lv (am_leN (am_leN (am_leN (am_leN (am_leN am_leT))))) (t_L_change_16 d (by omega) _ _ _ _)
  · refine simx_case (fun cx => ?_) (fun cx => ?_)
    · subst cx
      refine simx_catch [] (0, 17, 20, 21) [(0, 17, 24, 13)] rfl ⟨by decide, by decide⟩ (by decide) wx_RL_21 wca_0 (by decide) (fun z hz => by cases hz) ?_
      refine sim_astore dL_change_20 (Nat.le_of_ble_eq_true rfl) ?_
      refine sim_iconst (1) dL_change_22 (by decide +kernel) ?_
      exact sim_iret dL_change_23 rfl
    refine simx_case (fun cx => ?_) (fun cx => ?_)
    · subst cx
      refine simx_catch [(0, 17, 20, 21)] (0, 17, 24, 13) [] rfl ⟨by decide, by decide⟩ (by decide) wx_RL_13 wca_1 (by decide) (fun z hz => by simp only [List.mem_cons, List.not_mem_nil, or_false] at hz; subst hz; exact ⟨by decide, 0, _, by decide, by decide, wx_RL_21⟩) ?_
      refine sim_astore dL_change_24 (Nat.le_of_ble_eq_true rfl) ?_
      refine sim_iconst (2) dL_change_26 (by decide +kernel) ?_
      exact sim_iret dL_change_27 rfl
    exact simx_none)
theorem q_L_change : am_Cal m_L_change 4 0 := ⟨am_mem 1026 (w := Cond.codeWith yL_change cL_change 5 (some .int) [(0, 17, 20, 21), (0, 17, 24, 13)]) (by decide +kernel) rfl, am_mem 55 (w := Cond.initialized RL) (by decide +kernel) rfl, fun _ => am_mem 1025 (w := Cond.static yL_change) (by decide +kernel) rfl, fun z => absurd rfl z, fun z => absurd z (by decide), fun z => absurd z (by decide), by decide +kernel, by decide +kernel, Nat.le_of_ble_eq_true rfl⟩
theorem dX10_checkWork_0 : decode cX10_checkWork 0 = .ok (.iload_n 1, 1) := by decide +kernel
theorem dX10_checkWork_1 : decode cX10_checkWork 1 = .ok (.ifCond .lt 11, 3) := by decide +kernel
theorem dX10_checkWork_4 : decode cX10_checkWork 4 = .ok (.iload_n 1, 1) := by decide +kernel
theorem dX10_checkWork_5 : decode cX10_checkWork 5 = .ok (.aload_n 0, 1) := by decide +kernel
theorem dX10_checkWork_6 : decode cX10_checkWork 6 = .ok (.getfield 104, 3) := by decide +kernel
theorem dX10_checkWork_9 : decode cX10_checkWork 9 = .ok (.if_icmp .lt 14, 3) := by decide +kernel
theorem dX10_checkWork_12 : decode cX10_checkWork 12 = .ok (.new 162, 3) := by decide +kernel
theorem dX10_checkWork_15 : decode cX10_checkWork 15 = .ok (.dup, 1) := by decide +kernel
theorem dX10_checkWork_16 : decode cX10_checkWork 16 = .ok (.ldc_w 384, 3) := by decide +kernel
theorem dX10_checkWork_19 : decode cX10_checkWork 19 = .ok (.invokespecial 166, 3) := by decide +kernel
theorem dX10_checkWork_22 : decode cX10_checkWork 22 = .ok (.athrow, 1) := by decide +kernel
theorem dX10_checkWork_23 : decode cX10_checkWork 23 = .ok (.return_, 1) := by decide +kernel
abbrev m_X10_checkWork : am_M := (yX10_checkWork, cX10_checkWork, 2, none, [])
def f_X10_checkWork_12   (h : am_H) : am_R := m_ex h 0
theorem t_X10_checkWork_12 (d : Nat) (hd : 6 ≤ d)   (h : am_H) : Sim m_X10_checkWork d 12 [none, none] [] h (f_X10_checkWork_12   h) := by
  unfold f_X10_checkWork_12
  exact sim_throwW 0 (by decide) dX10_checkWork_12 dX10_checkWork_15 dX10_checkWork_16 dX10_checkWork_19 dX10_checkWork_22 wx_RX10_162 wy_0 ws_RX10_384 at_RX10_166 gd_RX10_166 (by omega) (Nat.le_of_ble_eq_true rfl)
def f_X10_checkWork (a0 : Nat × Nat) (x1 : Int32) (h : am_H) : am_R := if x1 < 0 then (f_X10_checkWork_12 h) else (m_gI (some a0) 10 4 h fun v1 => if x1 < v1 then (m_rt h none) else (f_X10_checkWork_12 h))
theorem k_X10_checkWork (d : Nat) (hd : 6 ≤ d) (a0 : Nat × Nat) (x1 : Int32) (h : am_H) : am_Con m_X10_checkWork d [.inr (.inr (some a0)), .inl x1] h (f_X10_checkWork a0 x1 h) := am_con (by decide +kernel) (Nat.le_of_ble_eq_true rfl) (by
  unfold f_X10_checkWork
  refine sim_iload_n dX10_checkWork_0 rfl ?_
  refine sim_if_lt 12 dX10_checkWork_1 (by decide) (fun c => ?_) (fun c => ?_)
  · exact sim_lv (am_leN (am_leN am_leT)) (t_X10_checkWork_12 d (by omega) _)
  · refine sim_iload_n dX10_checkWork_4 rfl ?_
    refine sim_aload_n dX10_checkWork_5 rfl ?_
    refine sim_gI 10 4 dX10_checkWork_6 rfl wf_RX10_104 (Nat.le_of_ble_eq_true rfl) rfl (fun v1 => ?_)
    refine sim_ic_lt 23 dX10_checkWork_9 (by decide) (fun c => ?_) (fun c => ?_)
    · exact sim_vret dX10_checkWork_23 rfl
    · exact sim_lv (am_leN (am_leN am_leT)) (t_X10_checkWork_12 d (by omega) _))
theorem q_X10_checkWork : am_Cal m_X10_checkWork 1 2 := ⟨am_mem 564 (w := Cond.code yX10_checkWork cX10_checkWork 2 none) (by decide +kernel) rfl, am_mem 56 (w := Cond.initialized RX10) (by decide +kernel) rfl, fun z => absurd z (by decide), fun _ => am_mem 563 (w := Cond.instanceMethod yX10_checkWork) (by decide +kernel) rfl, fun z => absurd z (by decide), fun _ => am_mem 7 (w := Cond.selects RX10 yX10_checkWork yX10_checkWork) (by decide +kernel) rfl, by decide +kernel, by decide +kernel, Nat.le_of_ble_eq_true rfl⟩
theorem dX10_workAt_0 : decode cX10_workAt 0 = .ok (.aload_n 0, 1) := by decide +kernel
theorem dX10_workAt_1 : decode cX10_workAt 1 = .ok (.iload_n 1, 1) := by decide +kernel
theorem dX10_workAt_2 : decode cX10_workAt 2 = .ok (.invokevirtual 361, 3) := by decide +kernel
theorem dX10_workAt_5 : decode cX10_workAt 5 = .ok (.aload_n 0, 1) := by decide +kernel
theorem dX10_workAt_6 : decode cX10_workAt 6 = .ok (.getfield 21, 3) := by decide +kernel
theorem dX10_workAt_9 : decode cX10_workAt 9 = .ok (.iload_n 1, 1) := by decide +kernel
theorem dX10_workAt_10 : decode cX10_workAt 10 = .ok (.aaload, 1) := by decide +kernel
theorem dX10_workAt_11 : decode cX10_workAt 11 = .ok (.areturn, 1) := by decide +kernel
abbrev m_X10_workAt : am_M := (yX10_workAt, cX10_workAt, 2, some (.object RX9), [])
def f_X10_workAt (a0 : Nat × Nat) (x1 : Int32) (h : am_H) : am_R := m_ao (some a0) 10 fun a3 => m_bV (f_X10_checkWork a3 x1 h) fun h1 => m_gR (some a0) 10 3 h1 fun o4 => m_aR o4 5 x1 h1 fun o5 => m_ra h1 o5
theorem k_X10_workAt (d : Nat) (hd : 7 ≤ d) (a0 : Nat × Nat) (x1 : Int32) (h : am_H) : am_Con m_X10_workAt d [.inr (.inr (some a0)), .inl x1] h (f_X10_workAt a0 x1 h) := am_con (by decide +kernel) (Nat.le_of_ble_eq_true rfl) (by
  unfold f_X10_workAt
  refine sim_aload_n dX10_workAt_0 rfl ?_
  refine sim_iload_n dX10_workAt_1 rfl ?_
  refine sim_ao1 (fun a3 e => ?_)
  refine sim_virt (d - 1) e dX10_workAt_2 (k_X10_checkWork (d - 1) (by omega) _ _ _) q_X10_checkWork rfl rfl wm_RX10_361 rfl rfl (by omega) (Nat.le_of_ble_eq_true rfl) am_nV (am_rV fun h1 => ?_) am_eV
  refine sim_aload_n dX10_workAt_5 rfl ?_
  refine sim_gR 10 3 dX10_workAt_6 rfl wf_RX10_21 (Nat.le_of_ble_eq_true rfl) rfl (fun o4 => ?_)
  refine sim_iload_n dX10_workAt_9 rfl ?_
  refine sim_aR 5 rfl dX10_workAt_10 (fun o5 => ?_)
  exact sim_aret dX10_workAt_11 rfl)
theorem q_X10_workAt : am_Cal m_X10_workAt 1 2 := ⟨am_mem 560 (w := Cond.code yX10_workAt cX10_workAt 2 (some (.object RX9))) (by decide +kernel) rfl, am_mem 56 (w := Cond.initialized RX10) (by decide +kernel) rfl, fun z => absurd z (by decide), fun _ => am_mem 559 (w := Cond.instanceMethod yX10_workAt) (by decide +kernel) rfl, fun z => absurd z (by decide), fun _ => am_mem 6 (w := Cond.selects RX10 yX10_workAt yX10_workAt) (by decide +kernel) rfl, by decide +kernel, by decide +kernel, Nat.le_of_ble_eq_true rfl⟩
theorem dX10_chapter_0 : decode cX10_chapter 0 = .ok (.aload_n 0, 1) := by decide +kernel
theorem dX10_chapter_1 : decode cX10_chapter 1 = .ok (.iload_n 1, 1) := by decide +kernel
theorem dX10_chapter_2 : decode cX10_chapter 2 = .ok (.invokevirtual 112, 3) := by decide +kernel
theorem dX10_chapter_5 : decode cX10_chapter 5 = .ok (.astore_n 2, 1) := by decide +kernel
theorem dX10_chapter_6 : decode cX10_chapter 6 = .ok (.aload_n 2, 1) := by decide +kernel
theorem dX10_chapter_7 : decode cX10_chapter 7 = .ok (.getfield 133, 3) := by decide +kernel
theorem dX10_chapter_10 : decode cX10_chapter 10 = .ok (.bipush 8, 2) := by decide +kernel
theorem dX10_chapter_12 : decode cX10_chapter 12 = .ok (.if_icmp .lt 13, 3) := by decide +kernel
theorem dX10_chapter_15 : decode cX10_chapter 15 = .ok (.new 77, 3) := by decide +kernel
theorem dX10_chapter_18 : decode cX10_chapter 18 = .ok (.dup, 1) := by decide +kernel
theorem dX10_chapter_19 : decode cX10_chapter 19 = .ok (.ldc 136, 2) := by decide +kernel
theorem dX10_chapter_21 : decode cX10_chapter 21 = .ok (.invokespecial 81, 3) := by decide +kernel
theorem dX10_chapter_24 : decode cX10_chapter 24 = .ok (.athrow, 1) := by decide +kernel
theorem dX10_chapter_25 : decode cX10_chapter 25 = .ok (.aload_n 2, 1) := by decide +kernel
theorem dX10_chapter_26 : decode cX10_chapter 26 = .ok (.getfield 138, 3) := by decide +kernel
theorem dX10_chapter_29 : decode cX10_chapter 29 = .ok (.aload_n 2, 1) := by decide +kernel
theorem dX10_chapter_30 : decode cX10_chapter 30 = .ok (.getfield 133, 3) := by decide +kernel
theorem dX10_chapter_33 : decode cX10_chapter 33 = .ok (.aload_n 0, 1) := by decide +kernel
theorem dX10_chapter_34 : decode cX10_chapter 34 = .ok (.getfield 73, 3) := by decide +kernel
theorem dX10_chapter_37 : decode cX10_chapter 37 = .ok (.iastore, 1) := by decide +kernel
theorem dX10_chapter_38 : decode cX10_chapter 38 = .ok (.aload_n 2, 1) := by decide +kernel
theorem dX10_chapter_39 : decode cX10_chapter 39 = .ok (.dup, 1) := by decide +kernel
theorem dX10_chapter_40 : decode cX10_chapter 40 = .ok (.getfield 133, 3) := by decide +kernel
theorem dX10_chapter_43 : decode cX10_chapter 43 = .ok (.iconst 1, 1) := by decide +kernel
theorem dX10_chapter_44 : decode cX10_chapter 44 = .ok (.iadd, 1) := by decide +kernel
theorem dX10_chapter_45 : decode cX10_chapter 45 = .ok (.putfield 133, 3) := by decide +kernel
theorem dX10_chapter_48 : decode cX10_chapter 48 = .ok (.aload_n 2, 1) := by decide +kernel
theorem dX10_chapter_49 : decode cX10_chapter 49 = .ok (.getfield 133, 3) := by decide +kernel
theorem dX10_chapter_52 : decode cX10_chapter 52 = .ok (.iconst 1, 1) := by decide +kernel
theorem dX10_chapter_53 : decode cX10_chapter 53 = .ok (.isub, 1) := by decide +kernel
theorem dX10_chapter_54 : decode cX10_chapter 54 = .ok (.ireturn, 1) := by decide +kernel
abbrev m_X10_chapter : am_M := (yX10_chapter, cX10_chapter, 3, some .int, [])
def f_X10_chapter (a0 : Nat × Nat) (x1 : Int32) (h : am_H) : am_R := m_ao (some a0) 10 fun a3 => m_bR (f_X10_workAt a3 x1 h) fun h1 o2 => m_gI o2 9 3 h1 fun v4 => if v4 < (8 : Int32) then (m_gR o2 9 2 h1 fun o5 => m_gI o2 9 3 h1 fun v6 => m_gI (some a0) 10 0 h1 fun v7 => m_sI o5 v6 v7 h1 fun h8 => m_gI o2 9 3 h8 fun v9 => m_pI o2 9 3 (v9 + (1 : Int32)) h8 fun h10 => m_gI o2 9 3 h10 fun v11 => m_ri h10 (v11 - (1 : Int32))) else (m_ex h1 2)
theorem k_X10_chapter (d : Nat) (hd : 8 ≤ d) (a0 : Nat × Nat) (x1 : Int32) (h : am_H) : am_Con m_X10_chapter d [.inr (.inr (some a0)), .inl x1] h (f_X10_chapter a0 x1 h) := am_con (by decide +kernel) (Nat.le_of_ble_eq_true rfl) (by
  unfold f_X10_chapter
  refine sim_aload_n dX10_chapter_0 rfl ?_
  refine sim_iload_n dX10_chapter_1 rfl ?_
  refine sim_ao1 (fun a3 e => ?_)
  refine sim_virt (d - 1) e dX10_chapter_2 (k_X10_workAt (d - 1) (by omega) _ _ _) q_X10_workAt rfl rfl wm_RX10_112 rfl rfl (by omega) (Nat.le_of_ble_eq_true rfl) am_nR (am_rR fun h1 o2 => ?_) am_eR
  refine sim_astore_n dX10_chapter_5 (Nat.le_of_ble_eq_true rfl) ?_
  refine sim_aload_n dX10_chapter_6 rfl ?_
  refine sim_gI 9 3 dX10_chapter_7 rfl wf_RX10_133 (Nat.le_of_ble_eq_true rfl) rfl (fun v4 => ?_)
  refine sim_bipush (8) dX10_chapter_10 (by decide +kernel) ?_
  refine sim_ic_lt 25 dX10_chapter_12 (by decide) (fun c => ?_) (fun c => ?_)
  · refine sim_aload_n dX10_chapter_25 rfl ?_
    refine sim_gR 9 2 dX10_chapter_26 rfl wf_RX10_138 (Nat.le_of_ble_eq_true rfl) rfl (fun o5 => ?_)
    refine sim_aload_n dX10_chapter_29 rfl ?_
    refine sim_gI 9 3 dX10_chapter_30 rfl wf_RX10_133 (Nat.le_of_ble_eq_true rfl) rfl (fun v6 => ?_)
    refine sim_aload_n dX10_chapter_33 rfl ?_
    refine sim_gI 10 0 dX10_chapter_34 rfl wf_RX10_73 (Nat.le_of_ble_eq_true rfl) rfl (fun v7 => ?_)
    refine sim_sI dX10_chapter_37 (fun h8 => ?_)
    refine sim_aload_n dX10_chapter_38 rfl ?_
    refine sim_dup_r dX10_chapter_39 ?_
    refine sim_gI 9 3 dX10_chapter_40 rfl wf_RX10_133 (Nat.le_of_ble_eq_true rfl) rfl (fun v9 => ?_)
    refine sim_iconst (1) dX10_chapter_43 (by decide +kernel) ?_
    refine sim_iadd dX10_chapter_44 ?_
    refine sim_pI 9 3 dX10_chapter_45 rfl wf_RX10_133 (Nat.le_of_ble_eq_true rfl) rfl (Or.inl rfl) rfl (fun h10 => ?_)
    refine sim_aload_n dX10_chapter_48 rfl ?_
    refine sim_gI 9 3 dX10_chapter_49 rfl wf_RX10_133 (Nat.le_of_ble_eq_true rfl) rfl (fun v11 => ?_)
    refine sim_iconst (1) dX10_chapter_52 (by decide +kernel) ?_
    refine sim_isub dX10_chapter_53 ?_
    exact sim_iret dX10_chapter_54 rfl
  · exact sim_throw 2 (by decide) dX10_chapter_15 dX10_chapter_18 dX10_chapter_19 dX10_chapter_21 dX10_chapter_24 wx_RX10_77 wy_2 ws_RX10_136 at_RX10_81 gd_RX10_81 (by omega) (Nat.le_of_ble_eq_true rfl))
theorem q_X10_chapter : am_Cal m_X10_chapter 1 2 := ⟨am_mem 587 (w := Cond.code yX10_chapter cX10_chapter 3 (some .int)) (by decide +kernel) rfl, am_mem 56 (w := Cond.initialized RX10) (by decide +kernel) rfl, fun z => absurd z (by decide), fun _ => am_mem 585 (w := Cond.instanceMethod yX10_chapter) (by decide +kernel) rfl, fun z => absurd z (by decide), fun _ => am_mem 586 (w := Cond.selects RX10 yX10_chapter yX10_chapter) (by decide +kernel) rfl, by decide +kernel, by decide +kernel, Nat.le_of_ble_eq_true rfl⟩
theorem dL_chapter_0 : decode cL_chapter 0 = .ok (.aload_n 2, 1) := by decide +kernel
theorem dL_chapter_1 : decode cL_chapter 1 = .ok (.iconst 0, 1) := by decide +kernel
theorem dL_chapter_2 : decode cL_chapter 2 = .ok (.aload_n 0, 1) := by decide +kernel
theorem dL_chapter_3 : decode cL_chapter 3 = .ok (.iload_n 1, 1) := by decide +kernel
theorem dL_chapter_4 : decode cL_chapter 4 = .ok (.invokevirtual 37, 3) := by decide +kernel
theorem dL_chapter_7 : decode cL_chapter 7 = .ok (.i2l, 1) := by decide +kernel
theorem dL_chapter_8 : decode cL_chapter 8 = .ok (.lastore, 1) := by decide +kernel
theorem dL_chapter_9 : decode cL_chapter 9 = .ok (.goto 9, 3) := by decide +kernel
theorem dL_chapter_12 : decode cL_chapter 12 = .ok (.astore_n 3, 1) := by decide +kernel
theorem dL_chapter_13 : decode cL_chapter 13 = .ok (.iconst 1, 1) := by decide +kernel
theorem dL_chapter_14 : decode cL_chapter 14 = .ok (.ireturn, 1) := by decide +kernel
theorem dL_chapter_15 : decode cL_chapter 15 = .ok (.astore_n 3, 1) := by decide +kernel
theorem dL_chapter_16 : decode cL_chapter 16 = .ok (.iconst 2, 1) := by decide +kernel
theorem dL_chapter_17 : decode cL_chapter 17 = .ok (.ireturn, 1) := by decide +kernel
theorem dL_chapter_18 : decode cL_chapter 18 = .ok (.iconst 0, 1) := by decide +kernel
theorem dL_chapter_19 : decode cL_chapter 19 = .ok (.ireturn, 1) := by decide +kernel
abbrev m_L_chapter : am_M := (yL_chapter, cL_chapter, 4, some .int, [(0, 9, 12, 21), (0, 9, 15, 15)])
def f_L_chapter (x0 : Option (Nat × Nat)) (x1 : Int32) (x2 : Option (Nat × Nat)) (h : am_H) : am_R := m_ao x0 10 fun a3 => m_bIx (f_X10_chapter a3 x1 h) (fun h1 v2 => m_sL x2 (0 : Int32) (Int32.toInt64 v2) h1 fun h6 => m_ri h6 (0 : Int32)) (fun h4 e5 => if e5 = 0 then (m_ri h4 (1 : Int32)) else if e5 = 2 then (m_ri h4 (2 : Int32)) else none)
theorem k_L_chapter (d : Nat) (hd : 9 ≤ d) (x0 : Option (Nat × Nat)) (x1 : Int32) (x2 : Option (Nat × Nat)) (h : am_H) : am_Con m_L_chapter d [.inr (.inr x0), .inl x1, .inr (.inr x2)] h (f_L_chapter x0 x1 x2 h) := am_conX (by decide +kernel) (Nat.le_of_ble_eq_true rfl) (by
  unfold f_L_chapter
  refine sim_aload_n dL_chapter_0 rfl ?_
  refine sim_iconst (0) dL_chapter_1 (by decide +kernel) ?_
  refine sim_aload_n dL_chapter_2 rfl ?_
  refine sim_iload_n dL_chapter_3 rfl ?_
  refine sim_ao1 (fun a3 e => ?_)
  refine sim_virt (d - 1) e dL_chapter_4 (k_X10_chapter (d - 1) (by omega) _ _ _) q_X10_chapter rfl rfl wm_RL_37 rfl rfl (by omega) (Nat.le_of_ble_eq_true rfl) am_nIx (am_rIx fun h1 v2 => ?_) (am_eIx fun h9 k9 => ?_)
  · refine sim_i2l dL_chapter_7 ?_
    refine sim_sL dL_chapter_8 (fun h6 => ?_)
    refine sim_goto 18 dL_chapter_9 (by decide) ?_
    refine sim_iconst (0) dL_chapter_18 (by decide +kernel) ?_
    exact sim_iret dL_chapter_19 rfl
  · refine simx_case (fun cx => ?_) (fun cx => ?_)
    · subst cx
      refine simx_catch [] (0, 9, 12, 21) [(0, 9, 15, 15)] rfl ⟨by decide, by decide⟩ (by decide) wx_RL_21 wca_0 (by decide) (fun z hz => by cases hz) ?_
      refine sim_astore_n dL_chapter_12 (Nat.le_of_ble_eq_true rfl) ?_
      refine sim_iconst (1) dL_chapter_13 (by decide +kernel) ?_
      exact sim_iret dL_chapter_14 rfl
    refine simx_case (fun cx => ?_) (fun cx => ?_)
    · subst cx
      refine simx_catch [(0, 9, 12, 21)] (0, 9, 15, 15) [] rfl ⟨by decide, by decide⟩ (by decide) wx_RL_15 wca_2 (by decide) (fun z hz => by simp only [List.mem_cons, List.not_mem_nil, or_false] at hz; subst hz; exact ⟨by decide, 0, _, by decide, by decide, wx_RL_21⟩) ?_
      refine sim_astore_n dL_chapter_15 (Nat.le_of_ble_eq_true rfl) ?_
      refine sim_iconst (2) dL_chapter_16 (by decide +kernel) ?_
      exact sim_iret dL_chapter_17 rfl
    exact simx_none)
theorem q_L_chapter : am_Cal m_L_chapter 3 0 := ⟨am_mem 583 (w := Cond.codeWith yL_chapter cL_chapter 4 (some .int) [(0, 9, 12, 21), (0, 9, 15, 15)]) (by decide +kernel) rfl, am_mem 55 (w := Cond.initialized RL) (by decide +kernel) rfl, fun _ => am_mem 582 (w := Cond.static yL_chapter) (by decide +kernel) rfl, fun z => absurd rfl z, fun z => absurd z (by decide), fun z => absurd z (by decide), by decide +kernel, by decide +kernel, Nat.le_of_ble_eq_true rfl⟩
theorem dX10_collect_0 : decode cX10_collect 0 = .ok (.aload_n 0, 1) := by decide +kernel
theorem dX10_collect_1 : decode cX10_collect 1 = .ok (.iload_n 1, 1) := by decide +kernel
theorem dX10_collect_2 : decode cX10_collect 2 = .ok (.invokevirtual 112, 3) := by decide +kernel
theorem dX10_collect_5 : decode cX10_collect 5 = .ok (.astore_n 3, 1) := by decide +kernel
theorem dX10_collect_6 : decode cX10_collect 6 = .ok (.iload_n 2, 1) := by decide +kernel
theorem dX10_collect_7 : decode cX10_collect 7 = .ok (.ifCond .lt 11, 3) := by decide +kernel
theorem dX10_collect_10 : decode cX10_collect 10 = .ok (.iload_n 2, 1) := by decide +kernel
theorem dX10_collect_11 : decode cX10_collect 11 = .ok (.aload_n 0, 1) := by decide +kernel
theorem dX10_collect_12 : decode cX10_collect 12 = .ok (.getfield 156, 3) := by decide +kernel
theorem dX10_collect_15 : decode cX10_collect 15 = .ok (.if_icmp .lt 13, 3) := by decide +kernel
theorem dX10_collect_18 : decode cX10_collect 18 = .ok (.new 162, 3) := by decide +kernel
theorem dX10_collect_21 : decode cX10_collect 21 = .ok (.dup, 1) := by decide +kernel
theorem dX10_collect_22 : decode cX10_collect 22 = .ok (.ldc 164, 2) := by decide +kernel
theorem dX10_collect_24 : decode cX10_collect 24 = .ok (.invokespecial 166, 3) := by decide +kernel
theorem dX10_collect_27 : decode cX10_collect 27 = .ok (.athrow, 1) := by decide +kernel
theorem dX10_collect_28 : decode cX10_collect 28 = .ok (.aload_n 3, 1) := by decide +kernel
theorem dX10_collect_29 : decode cX10_collect 29 = .ok (.getfield 167, 3) := by decide +kernel
theorem dX10_collect_32 : decode cX10_collect 32 = .ok (.ifnull 13, 3) := by decide +kernel
theorem dX10_collect_35 : decode cX10_collect 35 = .ok (.new 77, 3) := by decide +kernel
theorem dX10_collect_38 : decode cX10_collect 38 = .ok (.dup, 1) := by decide +kernel
theorem dX10_collect_39 : decode cX10_collect 39 = .ok (.ldc 171, 2) := by decide +kernel
theorem dX10_collect_41 : decode cX10_collect 41 = .ok (.invokespecial 81, 3) := by decide +kernel
theorem dX10_collect_44 : decode cX10_collect 44 = .ok (.athrow, 1) := by decide +kernel
theorem dX10_collect_45 : decode cX10_collect 45 = .ok (.aload_n 3, 1) := by decide +kernel
theorem dX10_collect_46 : decode cX10_collect 46 = .ok (.aload_n 0, 1) := by decide +kernel
theorem dX10_collect_47 : decode cX10_collect 47 = .ok (.getfield 27, 3) := by decide +kernel
theorem dX10_collect_50 : decode cX10_collect 50 = .ok (.iload_n 2, 1) := by decide +kernel
theorem dX10_collect_51 : decode cX10_collect 51 = .ok (.aaload, 1) := by decide +kernel
theorem dX10_collect_52 : decode cX10_collect 52 = .ok (.putfield 167, 3) := by decide +kernel
theorem dX10_collect_55 : decode cX10_collect 55 = .ok (.return_, 1) := by decide +kernel
abbrev m_X10_collect : am_M := (yX10_collect, cX10_collect, 4, none, [])
def f_X10_collect_18   (h : am_H) : am_R := m_ex h 0
theorem t_X10_collect_18 (d : Nat) (hd : 8 ≤ d)   (h : am_H) : Sim m_X10_collect d 18 [none, none, none, none] [] h (f_X10_collect_18   h) := by
  unfold f_X10_collect_18
  exact sim_throw 0 (by decide) dX10_collect_18 dX10_collect_21 dX10_collect_22 dX10_collect_24 dX10_collect_27 wx_RX10_162 wy_0 ws_RX10_164 at_RX10_166 gd_RX10_166 (by omega) (Nat.le_of_ble_eq_true rfl)
def f_X10_collect (a0 : Nat × Nat) (x1 : Int32) (x2 : Int32) (h : am_H) : am_R := m_ao (some a0) 10 fun a3 => m_bR (f_X10_workAt a3 x1 h) fun h1 o2 => if x2 < 0 then (f_X10_collect_18 h1) else (m_gI (some a0) 10 6 h1 fun v4 => if x2 < v4 then (m_gR o2 9 6 h1 fun o5 => if o5 = none then (m_gR (some a0) 10 5 h1 fun o6 => m_aR o6 6 x2 h1 fun o7 => m_pR o2 9 6 o7 h1 fun h8 => m_rt h8 none) else (m_ex h1 2)) else (f_X10_collect_18 h1))
theorem k_X10_collect (d : Nat) (hd : 8 ≤ d) (a0 : Nat × Nat) (x1 : Int32) (x2 : Int32) (h : am_H) : am_Con m_X10_collect d [.inr (.inr (some a0)), .inl x1, .inl x2] h (f_X10_collect a0 x1 x2 h) := am_con (by decide +kernel) (Nat.le_of_ble_eq_true rfl) (by
  unfold f_X10_collect
  refine sim_aload_n dX10_collect_0 rfl ?_
  refine sim_iload_n dX10_collect_1 rfl ?_
  refine sim_ao1 (fun a3 e => ?_)
  refine sim_virt (d - 1) e dX10_collect_2 (k_X10_workAt (d - 1) (by omega) _ _ _) q_X10_workAt rfl rfl wm_RX10_112 rfl rfl (by omega) (Nat.le_of_ble_eq_true rfl) am_nR (am_rR fun h1 o2 => ?_) am_eR
  refine sim_astore_n dX10_collect_5 (Nat.le_of_ble_eq_true rfl) ?_
  refine sim_iload_n dX10_collect_6 rfl ?_
  refine sim_if_lt 18 dX10_collect_7 (by decide) (fun c => ?_) (fun c => ?_)
  · exact sim_lv (am_leN (am_leN (am_leN (am_leN am_leT)))) (t_X10_collect_18 d (by omega) _)
  · refine sim_iload_n dX10_collect_10 rfl ?_
    refine sim_aload_n dX10_collect_11 rfl ?_
    refine sim_gI 10 6 dX10_collect_12 rfl wf_RX10_156 (Nat.le_of_ble_eq_true rfl) rfl (fun v4 => ?_)
    refine sim_ic_lt 28 dX10_collect_15 (by decide) (fun c => ?_) (fun c => ?_)
    · refine sim_aload_n dX10_collect_28 rfl ?_
      refine sim_gR 9 6 dX10_collect_29 rfl wf_RX10_167 (Nat.le_of_ble_eq_true rfl) rfl (fun o5 => ?_)
      refine sim_ifnull 45 dX10_collect_32 (by decide) (fun c => ?_) (fun c => ?_)
      · refine sim_aload_n dX10_collect_45 rfl ?_
        refine sim_aload_n dX10_collect_46 rfl ?_
        refine sim_gR 10 5 dX10_collect_47 rfl wf_RX10_27 (Nat.le_of_ble_eq_true rfl) rfl (fun o6 => ?_)
        refine sim_iload_n dX10_collect_50 rfl ?_
        refine sim_aR 6 rfl dX10_collect_51 (fun o7 => ?_)
        refine sim_pR 9 6 dX10_collect_52 rfl wf_RX10_167 (Nat.le_of_ble_eq_true rfl) rfl (Or.inl rfl) (fun h8 => ?_)
        exact sim_vret dX10_collect_55 rfl
      · exact sim_throw 2 (by decide) dX10_collect_35 dX10_collect_38 dX10_collect_39 dX10_collect_41 dX10_collect_44 wx_RX10_77 wy_2 ws_RX10_171 at_RX10_81 gd_RX10_81 (by omega) (Nat.le_of_ble_eq_true rfl)
    · exact sim_lv (am_leN (am_leN (am_leN (am_leN am_leT)))) (t_X10_collect_18 d (by omega) _))
theorem q_X10_collect : am_Cal m_X10_collect 2 2 := ⟨am_mem 637 (w := Cond.code yX10_collect cX10_collect 4 none) (by decide +kernel) rfl, am_mem 56 (w := Cond.initialized RX10) (by decide +kernel) rfl, fun z => absurd z (by decide), fun _ => am_mem 635 (w := Cond.instanceMethod yX10_collect) (by decide +kernel) rfl, fun z => absurd z (by decide), fun _ => am_mem 636 (w := Cond.selects RX10 yX10_collect yX10_collect) (by decide +kernel) rfl, by decide +kernel, by decide +kernel, Nat.le_of_ble_eq_true rfl⟩
theorem dL_collect_0 : decode cL_collect 0 = .ok (.aload_n 0, 1) := by decide +kernel
theorem dL_collect_1 : decode cL_collect 1 = .ok (.iload_n 1, 1) := by decide +kernel
theorem dL_collect_2 : decode cL_collect 2 = .ok (.iload_n 2, 1) := by decide +kernel
theorem dL_collect_3 : decode cL_collect 3 = .ok (.invokevirtual 50, 3) := by decide +kernel
theorem dL_collect_6 : decode cL_collect 6 = .ok (.goto 9, 3) := by decide +kernel
theorem dL_collect_9 : decode cL_collect 9 = .ok (.astore_n 3, 1) := by decide +kernel
theorem dL_collect_10 : decode cL_collect 10 = .ok (.iconst 1, 1) := by decide +kernel
theorem dL_collect_11 : decode cL_collect 11 = .ok (.ireturn, 1) := by decide +kernel
theorem dL_collect_12 : decode cL_collect 12 = .ok (.astore_n 3, 1) := by decide +kernel
theorem dL_collect_13 : decode cL_collect 13 = .ok (.iconst 2, 1) := by decide +kernel
theorem dL_collect_14 : decode cL_collect 14 = .ok (.ireturn, 1) := by decide +kernel
theorem dL_collect_15 : decode cL_collect 15 = .ok (.iconst 0, 1) := by decide +kernel
theorem dL_collect_16 : decode cL_collect 16 = .ok (.ireturn, 1) := by decide +kernel
abbrev m_L_collect : am_M := (yL_collect, cL_collect, 4, some .int, [(0, 6, 9, 21), (0, 6, 12, 15)])
def f_L_collect (x0 : Option (Nat × Nat)) (x1 : Int32) (x2 : Int32) (h : am_H) : am_R := m_ao x0 10 fun a3 => m_bVx (f_X10_collect a3 x1 x2 h) (fun h1 => m_ri h1 (0 : Int32)) (fun h4 e5 => if e5 = 0 then (m_ri h4 (1 : Int32)) else if e5 = 2 then (m_ri h4 (2 : Int32)) else none)
theorem k_L_collect (d : Nat) (hd : 9 ≤ d) (x0 : Option (Nat × Nat)) (x1 : Int32) (x2 : Int32) (h : am_H) : am_Con m_L_collect d [.inr (.inr x0), .inl x1, .inl x2] h (f_L_collect x0 x1 x2 h) := am_conX (by decide +kernel) (Nat.le_of_ble_eq_true rfl) (by
  unfold f_L_collect
  refine sim_aload_n dL_collect_0 rfl ?_
  refine sim_iload_n dL_collect_1 rfl ?_
  refine sim_iload_n dL_collect_2 rfl ?_
  refine sim_ao2 (fun a3 e => ?_)
  refine sim_virt (d - 1) e dL_collect_3 (k_X10_collect (d - 1) (by omega) _ _ _ _) q_X10_collect rfl rfl wm_RL_50 rfl rfl (by omega) (Nat.le_of_ble_eq_true rfl) am_nVx (am_rVx fun h1 => ?_) (am_eVx fun h9 k9 => ?_)
  · refine sim_goto 15 dL_collect_6 (by decide) ?_
    refine sim_iconst (0) dL_collect_15 (by decide +kernel) ?_
    exact sim_iret dL_collect_16 rfl
  · refine simx_case (fun cx => ?_) (fun cx => ?_)
    · subst cx
      refine simx_catch [] (0, 6, 9, 21) [(0, 6, 12, 15)] rfl ⟨by decide, by decide⟩ (by decide) wx_RL_21 wca_0 (by decide) (fun z hz => by cases hz) ?_
      refine sim_astore_n dL_collect_9 (Nat.le_of_ble_eq_true rfl) ?_
      refine sim_iconst (1) dL_collect_10 (by decide +kernel) ?_
      exact sim_iret dL_collect_11 rfl
    refine simx_case (fun cx => ?_) (fun cx => ?_)
    · subst cx
      refine simx_catch [(0, 6, 9, 21)] (0, 6, 12, 15) [] rfl ⟨by decide, by decide⟩ (by decide) wx_RL_15 wca_2 (by decide) (fun z hz => by simp only [List.mem_cons, List.not_mem_nil, or_false] at hz; subst hz; exact ⟨by decide, 0, _, by decide, by decide, wx_RL_21⟩) ?_
      refine sim_astore_n dL_collect_12 (Nat.le_of_ble_eq_true rfl) ?_
      refine sim_iconst (2) dL_collect_13 (by decide +kernel) ?_
      exact sim_iret dL_collect_14 rfl
    exact simx_none)
theorem q_L_collect : am_Cal m_L_collect 3 0 := ⟨am_mem 633 (w := Cond.codeWith yL_collect cL_collect 4 (some .int) [(0, 6, 9, 21), (0, 6, 12, 15)]) (by decide +kernel) rfl, am_mem 55 (w := Cond.initialized RL) (by decide +kernel) rfl, fun _ => am_mem 632 (w := Cond.static yL_collect) (by decide +kernel) rfl, fun z => absurd rfl z, fun z => absurd z (by decide), fun z => absurd z (by decide), by decide +kernel, by decide +kernel, Nat.le_of_ble_eq_true rfl⟩
theorem dX0_init_0 : decode cX0_init 0 = .ok (.aload_n 0, 1) := by decide +kernel
theorem dX0_init_1 : decode cX0_init 1 = .ok (.invokespecial 1, 3) := by decide +kernel
theorem dX0_init_4 : decode cX0_init 4 = .ok (.aload_n 0, 1) := by decide +kernel
theorem dX0_init_5 : decode cX0_init 5 = .ok (.iload_n 1, 1) := by decide +kernel
theorem dX0_init_6 : decode cX0_init 6 = .ok (.putfield 7, 3) := by decide +kernel
theorem dX0_init_9 : decode cX0_init 9 = .ok (.aload_n 0, 1) := by decide +kernel
theorem dX0_init_10 : decode cX0_init 10 = .ok (.iload_n 2, 1) := by decide +kernel
theorem dX0_init_11 : decode cX0_init 11 = .ok (.putfield 13, 3) := by decide +kernel
theorem dX0_init_14 : decode cX0_init 14 = .ok (.return_, 1) := by decide +kernel
abbrev m_X0_init : am_M := (yX0_init, cX0_init, 3, none, [])
def f_X0_init (a0 : Nat × Nat) (x1 : Int32) (x2 : Int32) (h : am_H) : am_R := m_pI (some a0) 0 0 x1 h fun h1 => m_pI (some a0) 0 1 x2 h1 fun h2 => m_rt h2 none
theorem k_X0_init (d : Nat) (hd : 1 ≤ d) (a0 : Nat × Nat) (x1 : Int32) (x2 : Int32) (h : am_H) : am_Con m_X0_init d [.inr (.inr (some a0)), .inl x1, .inl x2] h (f_X0_init a0 x1 x2 h) := am_con (by decide +kernel) (Nat.le_of_ble_eq_true rfl) (by
  unfold f_X0_init
  refine sim_aload_n dX0_init_0 rfl ?_
  refine sim_obj dX0_init_1 wm_RX0_1 wobj_i wobj_c (by omega) (Nat.le_of_ble_eq_true rfl) ?_
  refine sim_aload_n dX0_init_4 rfl ?_
  refine sim_iload_n dX0_init_5 rfl ?_
  refine sim_pI 0 0 dX0_init_6 rfl wf_RX0_7 (Nat.le_of_ble_eq_true rfl) rfl (Or.inr ⟨rfl, rfl, rfl⟩) rfl (fun h1 => ?_)
  refine sim_aload_n dX0_init_9 rfl ?_
  refine sim_iload_n dX0_init_10 rfl ?_
  refine sim_pI 0 1 dX0_init_11 rfl wf_RX0_13 (Nat.le_of_ble_eq_true rfl) rfl (Or.inr ⟨rfl, rfl, rfl⟩) rfl (fun h2 => ?_)
  exact sim_vret dX0_init_14 rfl)
theorem q_X0_init : am_Cal m_X0_init 2 1 := ⟨am_mem 620 (w := Cond.code yX0_init cX0_init 3 none) (by decide +kernel) rfl, am_mem 73 (w := Cond.initialized RX0) (by decide +kernel) rfl, fun z => absurd z (by decide), fun _ => am_mem 619 (w := Cond.instanceMethod yX0_init) (by decide +kernel) rfl, fun _ => rfl, fun z => absurd z (by decide), by decide +kernel, by decide +kernel, Nat.le_of_ble_eq_true rfl⟩
theorem dX10_collection_0 : decode cX10_collection 0 = .ok (.iload_n 1, 1) := by decide +kernel
theorem dX10_collection_1 : decode cX10_collection 1 = .ok (.ifCond .lt 22, 3) := by decide +kernel
theorem dX10_collection_4 : decode cX10_collection 4 = .ok (.iload_n 1, 1) := by decide +kernel
theorem dX10_collection_5 : decode cX10_collection 5 = .ok (.sipush 2000, 3) := by decide +kernel
theorem dX10_collection_8 : decode cX10_collection 8 = .ok (.if_icmp .gt 15, 3) := by decide +kernel
theorem dX10_collection_11 : decode cX10_collection 11 = .ok (.iload_n 2, 1) := by decide +kernel
theorem dX10_collection_12 : decode cX10_collection 12 = .ok (.iload_n 1, 1) := by decide +kernel
theorem dX10_collection_13 : decode cX10_collection 13 = .ok (.if_icmp .lt 10, 3) := by decide +kernel
theorem dX10_collection_16 : decode cX10_collection 16 = .ok (.iload_n 2, 1) := by decide +kernel
theorem dX10_collection_17 : decode cX10_collection 17 = .ok (.sipush 2000, 3) := by decide +kernel
theorem dX10_collection_20 : decode cX10_collection 20 = .ok (.if_icmp .le 13, 3) := by decide +kernel
theorem dX10_collection_23 : decode cX10_collection 23 = .ok (.new 66, 3) := by decide +kernel
theorem dX10_collection_26 : decode cX10_collection 26 = .ok (.dup, 1) := by decide +kernel
theorem dX10_collection_27 : decode cX10_collection 27 = .ok (.ldc 154, 2) := by decide +kernel
theorem dX10_collection_29 : decode cX10_collection 29 = .ok (.invokespecial 70, 3) := by decide +kernel
theorem dX10_collection_32 : decode cX10_collection 32 = .ok (.athrow, 1) := by decide +kernel
theorem dX10_collection_33 : decode cX10_collection 33 = .ok (.aload_n 0, 1) := by decide +kernel
theorem dX10_collection_34 : decode cX10_collection 34 = .ok (.getfield 156, 3) := by decide +kernel
theorem dX10_collection_37 : decode cX10_collection 37 = .ok (.bipush 6, 2) := by decide +kernel
theorem dX10_collection_39 : decode cX10_collection 39 = .ok (.if_icmp .lt 13, 3) := by decide +kernel
theorem dX10_collection_42 : decode cX10_collection 42 = .ok (.new 77, 3) := by decide +kernel
theorem dX10_collection_45 : decode cX10_collection 45 = .ok (.dup, 1) := by decide +kernel
theorem dX10_collection_46 : decode cX10_collection 46 = .ok (.ldc 159, 2) := by decide +kernel
theorem dX10_collection_48 : decode cX10_collection 48 = .ok (.invokespecial 81, 3) := by decide +kernel
theorem dX10_collection_51 : decode cX10_collection 51 = .ok (.athrow, 1) := by decide +kernel
theorem dX10_collection_52 : decode cX10_collection 52 = .ok (.aload_n 0, 1) := by decide +kernel
theorem dX10_collection_53 : decode cX10_collection 53 = .ok (.getfield 27, 3) := by decide +kernel
theorem dX10_collection_56 : decode cX10_collection 56 = .ok (.aload_n 0, 1) := by decide +kernel
theorem dX10_collection_57 : decode cX10_collection 57 = .ok (.getfield 156, 3) := by decide +kernel
theorem dX10_collection_60 : decode cX10_collection 60 = .ok (.new 25, 3) := by decide +kernel
theorem dX10_collection_63 : decode cX10_collection 63 = .ok (.dup, 1) := by decide +kernel
theorem dX10_collection_64 : decode cX10_collection 64 = .ok (.iload_n 1, 1) := by decide +kernel
theorem dX10_collection_65 : decode cX10_collection 65 = .ok (.iload_n 2, 1) := by decide +kernel
theorem dX10_collection_66 : decode cX10_collection 66 = .ok (.invokespecial 161, 3) := by decide +kernel
theorem dX10_collection_69 : decode cX10_collection 69 = .ok (.aastore, 1) := by decide +kernel
theorem dX10_collection_70 : decode cX10_collection 70 = .ok (.aload_n 0, 1) := by decide +kernel
theorem dX10_collection_71 : decode cX10_collection 71 = .ok (.dup, 1) := by decide +kernel
theorem dX10_collection_72 : decode cX10_collection 72 = .ok (.getfield 156, 3) := by decide +kernel
theorem dX10_collection_75 : decode cX10_collection 75 = .ok (.iconst 1, 1) := by decide +kernel
theorem dX10_collection_76 : decode cX10_collection 76 = .ok (.iadd, 1) := by decide +kernel
theorem dX10_collection_77 : decode cX10_collection 77 = .ok (.putfield 156, 3) := by decide +kernel
theorem dX10_collection_80 : decode cX10_collection 80 = .ok (.aload_n 0, 1) := by decide +kernel
theorem dX10_collection_81 : decode cX10_collection 81 = .ok (.getfield 156, 3) := by decide +kernel
theorem dX10_collection_84 : decode cX10_collection 84 = .ok (.iconst 1, 1) := by decide +kernel
theorem dX10_collection_85 : decode cX10_collection 85 = .ok (.isub, 1) := by decide +kernel
theorem dX10_collection_86 : decode cX10_collection 86 = .ok (.ireturn, 1) := by decide +kernel
abbrev m_X10_collection : am_M := (yX10_collection, cX10_collection, 3, some .int, [])
def f_X10_collection_23   (h : am_H) : am_R := m_ex h 1
theorem t_X10_collection_23 (d : Nat) (hd : 6 ≤ d)   (h : am_H) : Sim m_X10_collection d 23 [none, none, none] [] h (f_X10_collection_23   h) := by
  unfold f_X10_collection_23
  exact sim_throw 1 (by decide) dX10_collection_23 dX10_collection_26 dX10_collection_27 dX10_collection_29 dX10_collection_32 wx_RX10_66 wy_1 ws_RX10_154 at_RX10_70 gd_RX10_70 (by omega) (Nat.le_of_ble_eq_true rfl)
def f_X10_collection (a0 : Nat × Nat) (x1 : Int32) (x2 : Int32) (h : am_H) : am_R := if x1 < 0 then (f_X10_collection_23 h) else (if (2000 : Int32) < x1 then (f_X10_collection_23 h) else (if x2 < x1 then (f_X10_collection_23 h) else (if x2 ≤ (2000 : Int32) then (m_gI (some a0) 10 6 h fun v1 => if v1 < (6 : Int32) then (m_gR (some a0) 10 5 h fun o2 => m_gI (some a0) 10 6 h fun v3 => m_new 28 2 h fun a4 h5 => m_bW (f_X0_init a4 x1 x2 h5) fun h6 => m_sR o2 6 0 v3 (some a4) h6 fun h8 => m_gI (some a0) 10 6 h8 fun v9 => m_pI (some a0) 10 6 (v9 + (1 : Int32)) h8 fun h10 => m_gI (some a0) 10 6 h10 fun v11 => m_ri h10 (v11 - (1 : Int32))) else (m_ex h 2)) else (f_X10_collection_23 h))))
theorem k_X10_collection (d : Nat) (hd : 6 ≤ d) (a0 : Nat × Nat) (x1 : Int32) (x2 : Int32) (h : am_H) : am_Con m_X10_collection d [.inr (.inr (some a0)), .inl x1, .inl x2] h (f_X10_collection a0 x1 x2 h) := am_con (by decide +kernel) (Nat.le_of_ble_eq_true rfl) (by
  unfold f_X10_collection
  refine sim_iload_n dX10_collection_0 rfl ?_
  refine sim_if_lt 23 dX10_collection_1 (by decide) (fun c => ?_) (fun c => ?_)
  · exact sim_lv (am_leN (am_leN (am_leN am_leT))) (t_X10_collection_23 d (by omega) _)
  · refine sim_iload_n dX10_collection_4 rfl ?_
    refine sim_sipush (2000) dX10_collection_5 (by decide +kernel) ?_
    refine sim_ic_gt 23 dX10_collection_8 (by decide) (fun c => ?_) (fun c => ?_)
    · exact sim_lv (am_leN (am_leN (am_leN am_leT))) (t_X10_collection_23 d (by omega) _)
    · refine sim_iload_n dX10_collection_11 rfl ?_
      refine sim_iload_n dX10_collection_12 rfl ?_
      refine sim_ic_lt 23 dX10_collection_13 (by decide) (fun c => ?_) (fun c => ?_)
      · exact sim_lv (am_leN (am_leN (am_leN am_leT))) (t_X10_collection_23 d (by omega) _)
      · refine sim_iload_n dX10_collection_16 rfl ?_
        refine sim_sipush (2000) dX10_collection_17 (by decide +kernel) ?_
        refine sim_ic_le 33 dX10_collection_20 (by decide) (fun c => ?_) (fun c => ?_)
        · refine sim_aload_n dX10_collection_33 rfl ?_
          refine sim_gI 10 6 dX10_collection_34 rfl wf_RX10_156 (Nat.le_of_ble_eq_true rfl) rfl (fun v1 => ?_)
          refine sim_bipush (6) dX10_collection_37 (by decide +kernel) ?_
          refine sim_ic_lt 52 dX10_collection_39 (by decide) (fun c => ?_) (fun c => ?_)
          · refine sim_aload_n dX10_collection_52 rfl ?_
            refine sim_gR 10 5 dX10_collection_53 rfl wf_RX10_27 (Nat.le_of_ble_eq_true rfl) rfl (fun o2 => ?_)
            refine sim_aload_n dX10_collection_56 rfl ?_
            refine sim_gI 10 6 dX10_collection_57 rfl wf_RX10_156 (Nat.le_of_ble_eq_true rfl) rfl (fun v3 => ?_)
            refine sim_nw 28 0 2 dX10_collection_60 rfl rfl wc_RX10_25 wi_RX0 wz_RX0 (fun a4 h5 => ?_)
            refine sim_dup_r dX10_collection_63 ?_
            refine sim_iload_n dX10_collection_64 rfl ?_
            refine sim_iload_n dX10_collection_65 rfl ?_
            refine sim_ctor (d - 1) dX10_collection_66 (k_X0_init (d - 1) (by omega) _ _ _ _) q_X0_init wm_RX10_161 rfl rfl (by omega) (Nat.le_of_ble_eq_true rfl) am_nW am_xW (am_rW fun h6 => ?_)
            refine sim_sR 6 rfl dX10_collection_69 (fun h8 => ?_)
            refine sim_aload_n dX10_collection_70 rfl ?_
            refine sim_dup_r dX10_collection_71 ?_
            refine sim_gI 10 6 dX10_collection_72 rfl wf_RX10_156 (Nat.le_of_ble_eq_true rfl) rfl (fun v9 => ?_)
            refine sim_iconst (1) dX10_collection_75 (by decide +kernel) ?_
            refine sim_iadd dX10_collection_76 ?_
            refine sim_pI 10 6 dX10_collection_77 rfl wf_RX10_156 (Nat.le_of_ble_eq_true rfl) rfl (Or.inl rfl) rfl (fun h10 => ?_)
            refine sim_aload_n dX10_collection_80 rfl ?_
            refine sim_gI 10 6 dX10_collection_81 rfl wf_RX10_156 (Nat.le_of_ble_eq_true rfl) rfl (fun v11 => ?_)
            refine sim_iconst (1) dX10_collection_84 (by decide +kernel) ?_
            refine sim_isub dX10_collection_85 ?_
            exact sim_iret dX10_collection_86 rfl
          · exact sim_throw 2 (by decide) dX10_collection_42 dX10_collection_45 dX10_collection_46 dX10_collection_48 dX10_collection_51 wx_RX10_77 wy_2 ws_RX10_159 at_RX10_81 gd_RX10_81 (by omega) (Nat.le_of_ble_eq_true rfl)
        · exact sim_lv (am_leN (am_leN (am_leN am_leT))) (t_X10_collection_23 d (by omega) _))
theorem q_X10_collection : am_Cal m_X10_collection 2 2 := ⟨am_mem 614 (w := Cond.code yX10_collection cX10_collection 3 (some .int)) (by decide +kernel) rfl, am_mem 56 (w := Cond.initialized RX10) (by decide +kernel) rfl, fun z => absurd z (by decide), fun _ => am_mem 612 (w := Cond.instanceMethod yX10_collection) (by decide +kernel) rfl, fun z => absurd z (by decide), fun _ => am_mem 613 (w := Cond.selects RX10 yX10_collection yX10_collection) (by decide +kernel) rfl, by decide +kernel, by decide +kernel, Nat.le_of_ble_eq_true rfl⟩
theorem dL_collection_0 : decode cL_collection 0 = .ok (.aload_n 3, 1) := by decide +kernel
theorem dL_collection_1 : decode cL_collection 1 = .ok (.iconst 0, 1) := by decide +kernel
theorem dL_collection_2 : decode cL_collection 2 = .ok (.aload_n 0, 1) := by decide +kernel
theorem dL_collection_3 : decode cL_collection 3 = .ok (.iload_n 1, 1) := by decide +kernel
theorem dL_collection_4 : decode cL_collection 4 = .ok (.iload_n 2, 1) := by decide +kernel
theorem dL_collection_5 : decode cL_collection 5 = .ok (.invokevirtual 47, 3) := by decide +kernel
theorem dL_collection_8 : decode cL_collection 8 = .ok (.i2l, 1) := by decide +kernel
theorem dL_collection_9 : decode cL_collection 9 = .ok (.lastore, 1) := by decide +kernel
theorem dL_collection_10 : decode cL_collection 10 = .ok (.goto 11, 3) := by decide +kernel
theorem dL_collection_13 : decode cL_collection 13 = .ok (.astore 4, 2) := by decide +kernel
theorem dL_collection_15 : decode cL_collection 15 = .ok (.iconst 1, 1) := by decide +kernel
theorem dL_collection_16 : decode cL_collection 16 = .ok (.ireturn, 1) := by decide +kernel
theorem dL_collection_17 : decode cL_collection 17 = .ok (.astore 4, 2) := by decide +kernel
theorem dL_collection_19 : decode cL_collection 19 = .ok (.iconst 2, 1) := by decide +kernel
theorem dL_collection_20 : decode cL_collection 20 = .ok (.ireturn, 1) := by decide +kernel
theorem dL_collection_21 : decode cL_collection 21 = .ok (.iconst 0, 1) := by decide +kernel
theorem dL_collection_22 : decode cL_collection 22 = .ok (.ireturn, 1) := by decide +kernel
abbrev m_L_collection : am_M := (yL_collection, cL_collection, 5, some .int, [(0, 10, 13, 13), (0, 10, 17, 15)])
def f_L_collection (x0 : Option (Nat × Nat)) (x1 : Int32) (x2 : Int32) (x3 : Option (Nat × Nat)) (h : am_H) : am_R := m_ao x0 10 fun a3 => m_bIx (f_X10_collection a3 x1 x2 h) (fun h1 v2 => m_sL x3 (0 : Int32) (Int32.toInt64 v2) h1 fun h6 => m_ri h6 (0 : Int32)) (fun h4 e5 => if e5 = 1 then (m_ri h4 (1 : Int32)) else if e5 = 2 then (m_ri h4 (2 : Int32)) else none)
theorem k_L_collection (d : Nat) (hd : 7 ≤ d) (x0 : Option (Nat × Nat)) (x1 : Int32) (x2 : Int32) (x3 : Option (Nat × Nat)) (h : am_H) : am_Con m_L_collection d [.inr (.inr x0), .inl x1, .inl x2, .inr (.inr x3)] h (f_L_collection x0 x1 x2 x3 h) := am_conX (by decide +kernel) (Nat.le_of_ble_eq_true rfl) (by
  unfold f_L_collection
  refine sim_aload_n dL_collection_0 rfl ?_
  refine sim_iconst (0) dL_collection_1 (by decide +kernel) ?_
  refine sim_aload_n dL_collection_2 rfl ?_
  refine sim_iload_n dL_collection_3 rfl ?_
  refine sim_iload_n dL_collection_4 rfl ?_
  refine sim_ao2 (fun a3 e => ?_)
  refine sim_virt (d - 1) e dL_collection_5 (k_X10_collection (d - 1) (by omega) _ _ _ _) q_X10_collection rfl rfl wm_RL_47 rfl rfl (by omega) (Nat.le_of_ble_eq_true rfl) am_nIx (am_rIx fun h1 v2 => ?_) (am_eIx fun h9 k9 => ?_)
  · refine sim_i2l dL_collection_8 ?_
    refine sim_sL dL_collection_9 (fun h6 => ?_)
    refine sim_goto 21 dL_collection_10 (by decide) ?_
    refine sim_iconst (0) dL_collection_21 (by decide +kernel) ?_
    exact sim_iret dL_collection_22 rfl
  · refine simx_case (fun cx => ?_) (fun cx => ?_)
    · subst cx
      refine simx_catch [] (0, 10, 13, 13) [(0, 10, 17, 15)] rfl ⟨by decide, by decide⟩ (by decide) wx_RL_13 wca_1 (by decide) (fun z hz => by cases hz) ?_
      refine sim_astore dL_collection_13 (Nat.le_of_ble_eq_true rfl) ?_
      refine sim_iconst (1) dL_collection_15 (by decide +kernel) ?_
      exact sim_iret dL_collection_16 rfl
    refine simx_case (fun cx => ?_) (fun cx => ?_)
    · subst cx
      refine simx_catch [(0, 10, 13, 13)] (0, 10, 17, 15) [] rfl ⟨by decide, by decide⟩ (by decide) wx_RL_15 wca_2 (by decide) (fun z hz => by simp only [List.mem_cons, List.not_mem_nil, or_false] at hz; subst hz; exact ⟨by decide, 1, _, by decide, by decide, wx_RL_13⟩) ?_
      refine sim_astore dL_collection_17 (Nat.le_of_ble_eq_true rfl) ?_
      refine sim_iconst (2) dL_collection_19 (by decide +kernel) ?_
      exact sim_iret dL_collection_20 rfl
    exact simx_none)
theorem q_L_collection : am_Cal m_L_collection 4 0 := ⟨am_mem 610 (w := Cond.codeWith yL_collection cL_collection 5 (some .int) [(0, 10, 13, 13), (0, 10, 17, 15)]) (by decide +kernel) rfl, am_mem 55 (w := Cond.initialized RL) (by decide +kernel) rfl, fun _ => am_mem 609 (w := Cond.static yL_collection) (by decide +kernel) rfl, fun z => absurd rfl z, fun z => absurd z (by decide), fun z => absurd z (by decide), by decide +kernel, by decide +kernel, Nat.le_of_ble_eq_true rfl⟩
theorem dX10_checkFace_0 : decode cX10_checkFace 0 = .ok (.iload_n 0, 1) := by decide +kernel
theorem dX10_checkFace_1 : decode cX10_checkFace 1 = .ok (.ifCond .lt 9, 3) := by decide +kernel
theorem dX10_checkFace_4 : decode cX10_checkFace 4 = .ok (.iload_n 0, 1) := by decide +kernel
theorem dX10_checkFace_5 : decode cX10_checkFace 5 = .ok (.bipush 32, 2) := by decide +kernel
theorem dX10_checkFace_7 : decode cX10_checkFace 7 = .ok (.if_icmp .lt 14, 3) := by decide +kernel
theorem dX10_checkFace_10 : decode cX10_checkFace 10 = .ok (.new 162, 3) := by decide +kernel
theorem dX10_checkFace_13 : decode cX10_checkFace 13 = .ok (.dup, 1) := by decide +kernel
theorem dX10_checkFace_14 : decode cX10_checkFace 14 = .ok (.ldc_w 376, 3) := by decide +kernel
theorem dX10_checkFace_17 : decode cX10_checkFace 17 = .ok (.invokespecial 166, 3) := by decide +kernel
theorem dX10_checkFace_20 : decode cX10_checkFace 20 = .ok (.athrow, 1) := by decide +kernel
theorem dX10_checkFace_21 : decode cX10_checkFace 21 = .ok (.return_, 1) := by decide +kernel
abbrev m_X10_checkFace : am_M := (yX10_checkFace, cX10_checkFace, 1, none, [])
def f_X10_checkFace_10   (h : am_H) : am_R := m_ex h 0
theorem t_X10_checkFace_10 (d : Nat) (hd : 6 ≤ d)   (h : am_H) : Sim m_X10_checkFace d 10 [none] [] h (f_X10_checkFace_10   h) := by
  unfold f_X10_checkFace_10
  exact sim_throwW 0 (by decide) dX10_checkFace_10 dX10_checkFace_13 dX10_checkFace_14 dX10_checkFace_17 dX10_checkFace_20 wx_RX10_162 wy_0 ws_RX10_376 at_RX10_166 gd_RX10_166 (by omega) (Nat.le_of_ble_eq_true rfl)
def f_X10_checkFace (x0 : Int32) (h : am_H) : am_R := if x0 < 0 then (f_X10_checkFace_10 h) else (if x0 < (32 : Int32) then (m_rt h none) else (f_X10_checkFace_10 h))
theorem k_X10_checkFace (d : Nat) (hd : 6 ≤ d) (x0 : Int32) (h : am_H) : am_Con m_X10_checkFace d [.inl x0] h (f_X10_checkFace x0 h) := am_con (by decide +kernel) (Nat.le_of_ble_eq_true rfl) (by
  unfold f_X10_checkFace
  refine sim_iload_n dX10_checkFace_0 rfl ?_
  refine sim_if_lt 10 dX10_checkFace_1 (by decide) (fun c => ?_) (fun c => ?_)
  · exact sim_lv (am_leN am_leT) (t_X10_checkFace_10 d (by omega) _)
  · refine sim_iload_n dX10_checkFace_4 rfl ?_
    refine sim_bipush (32) dX10_checkFace_5 (by decide +kernel) ?_
    refine sim_ic_lt 21 dX10_checkFace_7 (by decide) (fun c => ?_) (fun c => ?_)
    · exact sim_vret dX10_checkFace_21 rfl
    · exact sim_lv (am_leN am_leT) (t_X10_checkFace_10 d (by omega) _))
theorem q_X10_checkFace : am_Cal m_X10_checkFace 1 0 := ⟨am_mem 488 (w := Cond.code yX10_checkFace cX10_checkFace 1 none) (by decide +kernel) rfl, am_mem 56 (w := Cond.initialized RX10) (by decide +kernel) rfl, fun _ => am_mem 487 (w := Cond.static yX10_checkFace) (by decide +kernel) rfl, fun z => absurd rfl z, fun z => absurd z (by decide), fun z => absurd z (by decide), by decide +kernel, by decide +kernel, Nat.le_of_ble_eq_true rfl⟩
theorem dX10_isBlockedBy_0 : decode cX10_isBlockedBy 0 = .ok (.iload_n 1, 1) := by decide +kernel
theorem dX10_isBlockedBy_1 : decode cX10_isBlockedBy 1 = .ok (.ifCond .lt 29, 3) := by decide +kernel
theorem dX10_isBlockedBy_4 : decode cX10_isBlockedBy 4 = .ok (.iload_n 1, 1) := by decide +kernel
theorem dX10_isBlockedBy_5 : decode cX10_isBlockedBy 5 = .ok (.bipush 12, 2) := by decide +kernel
theorem dX10_isBlockedBy_7 : decode cX10_isBlockedBy 7 = .ok (.if_icmp .ge 23, 3) := by decide +kernel
theorem dX10_isBlockedBy_10 : decode cX10_isBlockedBy 10 = .ok (.aload_n 0, 1) := by decide +kernel
theorem dX10_isBlockedBy_11 : decode cX10_isBlockedBy 11 = .ok (.getfield 15, 3) := by decide +kernel
theorem dX10_isBlockedBy_14 : decode cX10_isBlockedBy 14 = .ok (.iload_n 1, 1) := by decide +kernel
theorem dX10_isBlockedBy_15 : decode cX10_isBlockedBy 15 = .ok (.aaload, 1) := by decide +kernel
theorem dX10_isBlockedBy_16 : decode cX10_isBlockedBy 16 = .ok (.getfield 88, 3) := by decide +kernel
theorem dX10_isBlockedBy_19 : decode cX10_isBlockedBy 19 = .ok (.iload_n 2, 1) := by decide +kernel
theorem dX10_isBlockedBy_20 : decode cX10_isBlockedBy 20 = .ok (.invokestatic 91, 3) := by decide +kernel
theorem dX10_isBlockedBy_23 : decode cX10_isBlockedBy 23 = .ok (.ifCond .eq 7, 3) := by decide +kernel
theorem dX10_isBlockedBy_26 : decode cX10_isBlockedBy 26 = .ok (.iconst 1, 1) := by decide +kernel
theorem dX10_isBlockedBy_27 : decode cX10_isBlockedBy 27 = .ok (.goto 4, 3) := by decide +kernel
theorem dX10_isBlockedBy_30 : decode cX10_isBlockedBy 30 = .ok (.iconst 0, 1) := by decide +kernel
theorem dX10_isBlockedBy_31 : decode cX10_isBlockedBy 31 = .ok (.ireturn, 1) := by decide +kernel
abbrev m_X10_isBlockedBy : am_M := (yX10_isBlockedBy, cX10_isBlockedBy, 3, some .boolean, [])
def f_X10_isBlockedBy_31  (s0 : Int32) (h : am_H) : am_R := m_rz h s0
theorem t_X10_isBlockedBy_31 (d : Nat) (hd : 1 ≤ d)  (s0 : Int32) (h : am_H) : Sim m_X10_isBlockedBy d 31 [none, none, none] [.inl s0] h (f_X10_isBlockedBy_31  s0 h) := by
  unfold f_X10_isBlockedBy_31
  exact sim_zret dX10_isBlockedBy_31 rfl
def f_X10_isBlockedBy_30   (h : am_H) : am_R := f_X10_isBlockedBy_31 (0 : Int32) h
theorem t_X10_isBlockedBy_30 (d : Nat) (hd : 1 ≤ d)   (h : am_H) : Sim m_X10_isBlockedBy d 30 [none, none, none] [] h (f_X10_isBlockedBy_30   h) := by
  unfold f_X10_isBlockedBy_30
  refine sim_iconst (0) dX10_isBlockedBy_30 (by decide +kernel) ?_
  exact sim_lv (am_leN (am_leN (am_leN am_leT))) (t_X10_isBlockedBy_31 d (by omega) _ _)
def f_X10_isBlockedBy (a0 : Nat × Nat) (x1 : Int32) (x2 : Int32) (h : am_H) : am_R := if x1 < 0 then (f_X10_isBlockedBy_30 h) else (if (12 : Int32) ≤ x1 then (f_X10_isBlockedBy_30 h) else (m_gR (some a0) 10 2 h fun o1 => m_aR o1 4 x1 h fun o2 => m_gI o2 3 0 h fun v3 => m_bI (f_X10_has v3 x2 h) fun h4 v5 => if v5 = 0 then (f_X10_isBlockedBy_30 h4) else (f_X10_isBlockedBy_31 (1 : Int32) h4)))
theorem k_X10_isBlockedBy (d : Nat) (hd : 1 ≤ d) (a0 : Nat × Nat) (x1 : Int32) (x2 : Int32) (h : am_H) : am_Con m_X10_isBlockedBy d [.inr (.inr (some a0)), .inl x1, .inl x2] h (f_X10_isBlockedBy a0 x1 x2 h) := am_con (by decide +kernel) (Nat.le_of_ble_eq_true rfl) (by
  unfold f_X10_isBlockedBy
  refine sim_iload_n dX10_isBlockedBy_0 rfl ?_
  refine sim_if_lt 30 dX10_isBlockedBy_1 (by decide) (fun c => ?_) (fun c => ?_)
  · exact sim_lv (am_leN (am_leN (am_leN am_leT))) (t_X10_isBlockedBy_30 d (by omega) _)
  · refine sim_iload_n dX10_isBlockedBy_4 rfl ?_
    refine sim_bipush (12) dX10_isBlockedBy_5 (by decide +kernel) ?_
    refine sim_ic_ge 30 dX10_isBlockedBy_7 (by decide) (fun c => ?_) (fun c => ?_)
    · exact sim_lv (am_leN (am_leN (am_leN am_leT))) (t_X10_isBlockedBy_30 d (by omega) _)
    · refine sim_aload_n dX10_isBlockedBy_10 rfl ?_
      refine sim_gR 10 2 dX10_isBlockedBy_11 rfl wf_RX10_15 (Nat.le_of_ble_eq_true rfl) rfl (fun o1 => ?_)
      refine sim_iload_n dX10_isBlockedBy_14 rfl ?_
      refine sim_aR 4 rfl dX10_isBlockedBy_15 (fun o2 => ?_)
      refine sim_gI 3 0 dX10_isBlockedBy_16 rfl wf_RX10_88 (Nat.le_of_ble_eq_true rfl) rfl (fun v3 => ?_)
      refine sim_iload_n dX10_isBlockedBy_19 rfl ?_
      refine sim_static (d - 1) dX10_isBlockedBy_20 (k_X10_has (d - 1) (by omega) _ _ _) q_X10_has wm_RX10_91 rfl rfl (by omega) (Nat.le_of_ble_eq_true rfl) am_nI (am_rI fun h4 v5 => ?_) am_eI
      refine sim_if_eq 30 dX10_isBlockedBy_23 (by decide) (fun c => ?_) (fun c => ?_)
      · exact sim_lv (am_leN (am_leN (am_leN am_leT))) (t_X10_isBlockedBy_30 d (by omega) _)
      · refine sim_iconst (1) dX10_isBlockedBy_26 (by decide +kernel) ?_
        refine sim_goto 31 dX10_isBlockedBy_27 (by decide) ?_
        exact sim_lv (am_leN (am_leN (am_leN am_leT))) (t_X10_isBlockedBy_31 d (by omega) _ _))
theorem q_X10_isBlockedBy : am_Cal m_X10_isBlockedBy 2 2 := ⟨am_mem 986 (w := Cond.code yX10_isBlockedBy cX10_isBlockedBy 3 (some .boolean)) (by decide +kernel) rfl, am_mem 56 (w := Cond.initialized RX10) (by decide +kernel) rfl, fun z => absurd z (by decide), fun _ => am_mem 985 (w := Cond.instanceMethod yX10_isBlockedBy) (by decide +kernel) rfl, fun z => absurd z (by decide), fun _ => am_mem 25 (w := Cond.selects RX10 yX10_isBlockedBy yX10_isBlockedBy) (by decide +kernel) rfl, by decide +kernel, by decide +kernel, Nat.le_of_ble_eq_true rfl⟩
theorem dX10_isBlockedByAny_0 : decode cX10_isBlockedByAny 0 = .ok (.iconst 0, 1) := by decide +kernel
theorem dX10_isBlockedByAny_1 : decode cX10_isBlockedByAny 1 = .ok (.istore_n 3, 1) := by decide +kernel
theorem dX10_isBlockedByAny_2 : decode cX10_isBlockedByAny 2 = .ok (.iload_n 3, 1) := by decide +kernel
theorem dX10_isBlockedByAny_3 : decode cX10_isBlockedByAny 3 = .ok (.bipush 12, 2) := by decide +kernel
theorem dX10_isBlockedByAny_5 : decode cX10_isBlockedByAny 5 = .ok (.if_icmp .ge 28, 3) := by decide +kernel
theorem dX10_isBlockedByAny_8 : decode cX10_isBlockedByAny 8 = .ok (.iload_n 1, 1) := by decide +kernel
theorem dX10_isBlockedByAny_9 : decode cX10_isBlockedByAny 9 = .ok (.iload_n 3, 1) := by decide +kernel
theorem dX10_isBlockedByAny_10 : decode cX10_isBlockedByAny 10 = .ok (.invokestatic 91, 3) := by decide +kernel
theorem dX10_isBlockedByAny_13 : decode cX10_isBlockedByAny 13 = .ok (.ifCond .eq 14, 3) := by decide +kernel
theorem dX10_isBlockedByAny_16 : decode cX10_isBlockedByAny 16 = .ok (.aload_n 0, 1) := by decide +kernel
theorem dX10_isBlockedByAny_17 : decode cX10_isBlockedByAny 17 = .ok (.iload_n 3, 1) := by decide +kernel
theorem dX10_isBlockedByAny_18 : decode cX10_isBlockedByAny 18 = .ok (.iload_n 2, 1) := by decide +kernel
theorem dX10_isBlockedByAny_19 : decode cX10_isBlockedByAny 19 = .ok (.invokevirtual 455, 3) := by decide +kernel
theorem dX10_isBlockedByAny_22 : decode cX10_isBlockedByAny 22 = .ok (.ifCond .eq 5, 3) := by decide +kernel
theorem dX10_isBlockedByAny_25 : decode cX10_isBlockedByAny 25 = .ok (.iconst 1, 1) := by decide +kernel
theorem dX10_isBlockedByAny_26 : decode cX10_isBlockedByAny 26 = .ok (.ireturn, 1) := by decide +kernel
theorem dX10_isBlockedByAny_27 : decode cX10_isBlockedByAny 27 = .ok (.iinc 3 1, 3) := by decide +kernel
theorem dX10_isBlockedByAny_30 : decode cX10_isBlockedByAny 30 = .ok (.goto (-28), 3) := by decide +kernel
theorem dX10_isBlockedByAny_33 : decode cX10_isBlockedByAny 33 = .ok (.iconst 0, 1) := by decide +kernel
theorem dX10_isBlockedByAny_34 : decode cX10_isBlockedByAny 34 = .ok (.ireturn, 1) := by decide +kernel
abbrev m_X10_isBlockedByAny : am_M := (yX10_isBlockedByAny, cX10_isBlockedByAny, 4, some .boolean, [])
def f_X10_isBlockedByAny_27 (rc2 : Nat × Nat → Int32 → Int32 → Int32 → am_H → am_R) (a0 : Nat × Nat) (x1 : Int32) (x2 : Int32) (x3 : Int32) (h : am_H) : am_R := rc2 a0 x1 x2 (x3 + 1) h
theorem t_X10_isBlockedByAny_27 (d : Nat) (hd : 2 ≤ d) (rc2 : Nat × Nat → Int32 → Int32 → Int32 → am_H → am_R) (hrc2 : ∀ a0 x1 x2 x3 h, Sim m_X10_isBlockedByAny d 2 [some (.inr (.inr (some a0))), some (.inl x1), some (.inl x2), some (.inl x3)] [] h (rc2 a0 x1 x2 x3 h)) (a0 : Nat × Nat) (x1 : Int32) (x2 : Int32) (x3 : Int32) (h : am_H) : Sim m_X10_isBlockedByAny d 27 [some (.inr (.inr (some a0))), some (.inl x1), some (.inl x2), some (.inl x3)] [] h (f_X10_isBlockedByAny_27 rc2 a0 x1 x2 x3 h) := by
  unfold f_X10_isBlockedByAny_27
  refine sim_iinc (1) dX10_isBlockedByAny_27 rfl (by decide +kernel) (Nat.le_of_ble_eq_true rfl) ?_
  refine sim_goto 2 dX10_isBlockedByAny_30 (by decide) ?_
  exact sim_lv (am_leS (am_leS (am_leS (am_leS am_leT)))) (hrc2 _ _ _ _ _)
def f_X10_isBlockedByAny_2  : Nat → Nat × Nat → Int32 → Int32 → Int32 → am_H → am_R
  | 0, _, _, _, _, _ => none
  | n + 1, a0, x1, x2, x3, h => if (12 : Int32) ≤ x3 then (m_rz h (0 : Int32)) else (m_bI (f_X10_has x1 x3 h) fun h1 v2 => if v2 = 0 then (f_X10_isBlockedByAny_27 (f_X10_isBlockedByAny_2  n) a0 x1 x2 x3 h1) else (m_ao (some a0) 10 fun a5 => m_bI (f_X10_isBlockedBy a5 x3 x2 h1) fun h3 v4 => if v4 = 0 then (f_X10_isBlockedByAny_27 (f_X10_isBlockedByAny_2  n) a0 x1 x2 x3 h3) else (m_rz h3 (1 : Int32))))
theorem t_X10_isBlockedByAny_2 (d : Nat) (hd : 2 ≤ d)  : ∀ (n : Nat) (a0 : Nat × Nat) (x1 : Int32) (x2 : Int32) (x3 : Int32) (h : am_H), Sim m_X10_isBlockedByAny d 2 [some (.inr (.inr (some a0))), some (.inl x1), some (.inl x2), some (.inl x3)] [] h (f_X10_isBlockedByAny_2  n a0 x1 x2 x3 h) := by
  intro n
  induction n with
  | zero => intros; exact sim_none
  | succ n hrc2 =>
    intro a0 x1 x2 x3 h
    rw [f_X10_isBlockedByAny_2]
    refine sim_iload_n dX10_isBlockedByAny_2 rfl ?_
    refine sim_bipush (12) dX10_isBlockedByAny_3 (by decide +kernel) ?_
    refine sim_ic_ge 33 dX10_isBlockedByAny_5 (by decide) (fun c => ?_) (fun c => ?_)
    · refine sim_iconst (0) dX10_isBlockedByAny_33 (by decide +kernel) ?_
      exact sim_zret dX10_isBlockedByAny_34 rfl
    · refine sim_iload_n dX10_isBlockedByAny_8 rfl ?_
      refine sim_iload_n dX10_isBlockedByAny_9 rfl ?_
      refine sim_static (d - 1) dX10_isBlockedByAny_10 (k_X10_has (d - 1) (by omega) _ _ _) q_X10_has wm_RX10_91 rfl rfl (by omega) (Nat.le_of_ble_eq_true rfl) am_nI (am_rI fun h1 v2 => ?_) am_eI
      refine sim_if_eq 27 dX10_isBlockedByAny_13 (by decide) (fun c => ?_) (fun c => ?_)
      · exact sim_lv (am_leS (am_leS (am_leS (am_leS am_leT)))) (t_X10_isBlockedByAny_27 d (by omega) _ hrc2 _ _ _ _ _)
      · refine sim_aload_n dX10_isBlockedByAny_16 rfl ?_
        refine sim_iload_n dX10_isBlockedByAny_17 rfl ?_
        refine sim_iload_n dX10_isBlockedByAny_18 rfl ?_
        refine sim_ao2 (fun a5 e => ?_)
        refine sim_virt (d - 1) e dX10_isBlockedByAny_19 (k_X10_isBlockedBy (d - 1) (by omega) _ _ _ _) q_X10_isBlockedBy rfl rfl wm_RX10_455 rfl rfl (by omega) (Nat.le_of_ble_eq_true rfl) am_nI (am_rI fun h3 v4 => ?_) am_eI
        refine sim_if_eq 27 dX10_isBlockedByAny_22 (by decide) (fun c => ?_) (fun c => ?_)
        · exact sim_lv (am_leS (am_leS (am_leS (am_leS am_leT)))) (t_X10_isBlockedByAny_27 d (by omega) _ hrc2 _ _ _ _ _)
        · refine sim_iconst (1) dX10_isBlockedByAny_25 (by decide +kernel) ?_
          exact sim_zret dX10_isBlockedByAny_26 rfl
def f_X10_isBlockedByAny (a0 : Nat × Nat) (x1 : Int32) (x2 : Int32) (h : am_H) : am_R := f_X10_isBlockedByAny_2 5000 a0 x1 x2 (0 : Int32) h
theorem k_X10_isBlockedByAny (d : Nat) (hd : 2 ≤ d) (a0 : Nat × Nat) (x1 : Int32) (x2 : Int32) (h : am_H) : am_Con m_X10_isBlockedByAny d [.inr (.inr (some a0)), .inl x1, .inl x2] h (f_X10_isBlockedByAny a0 x1 x2 h) := am_con (by decide +kernel) (Nat.le_of_ble_eq_true rfl) (by
  unfold f_X10_isBlockedByAny
  refine sim_iconst (0) dX10_isBlockedByAny_0 (by decide +kernel) ?_
  refine sim_istore_n dX10_isBlockedByAny_1 (Nat.le_of_ble_eq_true rfl) ?_
  exact sim_lv (am_leS (am_leS (am_leS (am_leS am_leT)))) (t_X10_isBlockedByAny_2 d (by omega) _ _ _ _ _ _))
theorem q_X10_isBlockedByAny : am_Cal m_X10_isBlockedByAny 2 2 := ⟨am_mem 982 (w := Cond.code yX10_isBlockedByAny cX10_isBlockedByAny 4 (some .boolean)) (by decide +kernel) rfl, am_mem 56 (w := Cond.initialized RX10) (by decide +kernel) rfl, fun z => absurd z (by decide), fun _ => am_mem 981 (w := Cond.instanceMethod yX10_isBlockedByAny) (by decide +kernel) rfl, fun z => absurd z (by decide), fun _ => am_mem 24 (w := Cond.selects RX10 yX10_isBlockedByAny yX10_isBlockedByAny) (by decide +kernel) rfl, by decide +kernel, by decide +kernel, Nat.le_of_ble_eq_true rfl⟩
theorem dX9_isOwnedBy_0 : decode cX9_isOwnedBy 0 = .ok (.aload_n 0, 1) := by decide +kernel
theorem dX9_isOwnedBy_1 : decode cX9_isOwnedBy 1 = .ok (.getfield 19, 3) := by decide +kernel
theorem dX9_isOwnedBy_4 : decode cX9_isOwnedBy 4 = .ok (.iload_n 1, 1) := by decide +kernel
theorem dX9_isOwnedBy_5 : decode cX9_isOwnedBy 5 = .ok (.invokestatic 25, 3) := by decide +kernel
theorem dX9_isOwnedBy_8 : decode cX9_isOwnedBy 8 = .ok (.ireturn, 1) := by decide +kernel
abbrev m_X9_isOwnedBy : am_M := (yX9_isOwnedBy, cX9_isOwnedBy, 2, some .boolean, [])
def f_X9_isOwnedBy (a0 : Nat × Nat) (x1 : Int32) (h : am_H) : am_R := m_gI (some a0) 9 1 h fun v1 => m_bJ (f_X10_has v1 x1 h) fun h2 v3 => m_rz h2 v3
theorem k_X9_isOwnedBy (d : Nat) (hd : 1 ≤ d) (a0 : Nat × Nat) (x1 : Int32) (h : am_H) : am_Con m_X9_isOwnedBy d [.inr (.inr (some a0)), .inl x1] h (f_X9_isOwnedBy a0 x1 h) := am_con (by decide +kernel) (Nat.le_of_ble_eq_true rfl) (by
  unfold f_X9_isOwnedBy
  refine sim_aload_n dX9_isOwnedBy_0 rfl ?_
  refine sim_gI 9 1 dX9_isOwnedBy_1 rfl wf_RX9_19 (Nat.le_of_ble_eq_true rfl) rfl (fun v1 => ?_)
  refine sim_iload_n dX9_isOwnedBy_4 rfl ?_
  refine sim_staticN (d - 1) dX9_isOwnedBy_5 (k_X10_has (d - 1) (by omega) _ _ _) q_X10_has wn_RX9_25 rfl rfl (by omega) (Nat.le_of_ble_eq_true rfl) am_nJ am_xJ (am_rJ fun h2 v3 => ?_)
  exact sim_zret dX9_isOwnedBy_8 rfl)
theorem q_X9_isOwnedBy : am_Cal m_X9_isOwnedBy 1 2 := ⟨am_mem 570 (w := Cond.code yX9_isOwnedBy cX9_isOwnedBy 2 (some .boolean)) (by decide +kernel) rfl, am_mem 71 (w := Cond.initialized RX9) (by decide +kernel) rfl, fun z => absurd z (by decide), fun _ => am_mem 568 (w := Cond.instanceMethod yX9_isOwnedBy) (by decide +kernel) rfl, fun z => absurd z (by decide), fun _ => am_mem 569 (w := Cond.selects RX9 yX9_isOwnedBy yX9_isOwnedBy) (by decide +kernel) rfl, by decide +kernel, by decide +kernel, Nat.le_of_ble_eq_true rfl⟩
theorem dX9_isPosted_0 : decode cX9_isPosted 0 = .ok (.aload_n 0, 1) := by decide +kernel
theorem dX9_isPosted_1 : decode cX9_isPosted 1 = .ok (.getfield 15, 3) := by decide +kernel
theorem dX9_isPosted_4 : decode cX9_isPosted 4 = .ok (.iconst (-1), 1) := by decide +kernel
theorem dX9_isPosted_5 : decode cX9_isPosted 5 = .ok (.if_icmp .eq 7, 3) := by decide +kernel
theorem dX9_isPosted_8 : decode cX9_isPosted 8 = .ok (.iconst 1, 1) := by decide +kernel
theorem dX9_isPosted_9 : decode cX9_isPosted 9 = .ok (.goto 4, 3) := by decide +kernel
theorem dX9_isPosted_12 : decode cX9_isPosted 12 = .ok (.iconst 0, 1) := by decide +kernel
theorem dX9_isPosted_13 : decode cX9_isPosted 13 = .ok (.ireturn, 1) := by decide +kernel
abbrev m_X9_isPosted : am_M := (yX9_isPosted, cX9_isPosted, 1, some .boolean, [])
def f_X9_isPosted_13  (s0 : Int32) (h : am_H) : am_R := m_rz h s0
theorem t_X9_isPosted_13 (d : Nat) (hd : 0 ≤ d)  (s0 : Int32) (h : am_H) : Sim m_X9_isPosted d 13 [none] [.inl s0] h (f_X9_isPosted_13  s0 h) := by
  unfold f_X9_isPosted_13
  exact sim_zret dX9_isPosted_13 rfl
def f_X9_isPosted (a0 : Nat × Nat) (h : am_H) : am_R := m_gI (some a0) 9 4 h fun v1 => if v1 = (-1 : Int32) then (f_X9_isPosted_13 (0 : Int32) h) else (f_X9_isPosted_13 (1 : Int32) h)
theorem k_X9_isPosted (d : Nat) (hd : 0 ≤ d) (a0 : Nat × Nat) (h : am_H) : am_Con m_X9_isPosted d [.inr (.inr (some a0))] h (f_X9_isPosted a0 h) := am_con (by decide +kernel) (Nat.le_of_ble_eq_true rfl) (by
  unfold f_X9_isPosted
  refine sim_aload_n dX9_isPosted_0 rfl ?_
  refine sim_gI 9 4 dX9_isPosted_1 rfl wf_RX9_15 (Nat.le_of_ble_eq_true rfl) rfl (fun v1 => ?_)
  refine sim_iconst (-1) dX9_isPosted_4 (by decide +kernel) ?_
  refine sim_ic_eq 12 dX9_isPosted_5 (by decide) (fun c => ?_) (fun c => ?_)
  · refine sim_iconst (0) dX9_isPosted_12 (by decide +kernel) ?_
    exact sim_lv (am_leN am_leT) (t_X9_isPosted_13 d (by omega) _ _)
  · refine sim_iconst (1) dX9_isPosted_8 (by decide +kernel) ?_
    refine sim_goto 13 dX9_isPosted_9 (by decide) ?_
    exact sim_lv (am_leN am_leT) (t_X9_isPosted_13 d (by omega) _ _))
theorem q_X9_isPosted : am_Cal m_X9_isPosted 0 2 := ⟨am_mem 599 (w := Cond.code yX9_isPosted cX9_isPosted 1 (some .boolean)) (by decide +kernel) rfl, am_mem 71 (w := Cond.initialized RX9) (by decide +kernel) rfl, fun z => absurd z (by decide), fun _ => am_mem 597 (w := Cond.instanceMethod yX9_isPosted) (by decide +kernel) rfl, fun z => absurd z (by decide), fun _ => am_mem 598 (w := Cond.selects RX9 yX9_isPosted yX9_isPosted) (by decide +kernel) rfl, by decide +kernel, by decide +kernel, Nat.le_of_ble_eq_true rfl⟩
end
section
theorem dX9_isSeenBy_0 : decode cX9_isSeenBy 0 = .ok (.aload_n 0, 1) := by decide +kernel
theorem dX9_isSeenBy_1 : decode cX9_isSeenBy 1 = .ok (.iload_n 1, 1) := by decide +kernel
theorem dX9_isSeenBy_2 : decode cX9_isSeenBy 2 = .ok (.invokevirtual 29, 3) := by decide +kernel
theorem dX9_isSeenBy_5 : decode cX9_isSeenBy 5 = .ok (.ifCond .eq 5, 3) := by decide +kernel
theorem dX9_isSeenBy_8 : decode cX9_isSeenBy 8 = .ok (.iconst 1, 1) := by decide +kernel
theorem dX9_isSeenBy_9 : decode cX9_isSeenBy 9 = .ok (.ireturn, 1) := by decide +kernel
theorem dX9_isSeenBy_10 : decode cX9_isSeenBy 10 = .ok (.aload_n 0, 1) := by decide +kernel
theorem dX9_isSeenBy_11 : decode cX9_isSeenBy 11 = .ok (.getfield 33, 3) := by decide +kernel
theorem dX9_isSeenBy_14 : decode cX9_isSeenBy 14 = .ok (.ifnull 14, 3) := by decide +kernel
theorem dX9_isSeenBy_17 : decode cX9_isSeenBy 17 = .ok (.aload_n 0, 1) := by decide +kernel
theorem dX9_isSeenBy_18 : decode cX9_isSeenBy 18 = .ok (.getfield 33, 3) := by decide +kernel
theorem dX9_isSeenBy_21 : decode cX9_isSeenBy 21 = .ok (.getfield 37, 3) := by decide +kernel
theorem dX9_isSeenBy_24 : decode cX9_isSeenBy 24 = .ok (.iload_n 2, 1) := by decide +kernel
theorem dX9_isSeenBy_25 : decode cX9_isSeenBy 25 = .ok (.if_icmp .gt 7, 3) := by decide +kernel
theorem dX9_isSeenBy_28 : decode cX9_isSeenBy 28 = .ok (.iconst 1, 1) := by decide +kernel
theorem dX9_isSeenBy_29 : decode cX9_isSeenBy 29 = .ok (.goto 4, 3) := by decide +kernel
theorem dX9_isSeenBy_32 : decode cX9_isSeenBy 32 = .ok (.iconst 0, 1) := by decide +kernel
theorem dX9_isSeenBy_33 : decode cX9_isSeenBy 33 = .ok (.istore_n 3, 1) := by decide +kernel
theorem dX9_isSeenBy_34 : decode cX9_isSeenBy 34 = .ok (.aload_n 0, 1) := by decide +kernel
theorem dX9_isSeenBy_35 : decode cX9_isSeenBy 35 = .ok (.invokevirtual 42, 3) := by decide +kernel
theorem dX9_isSeenBy_38 : decode cX9_isSeenBy 38 = .ok (.ifCond .eq 24, 3) := by decide +kernel
theorem dX9_isSeenBy_41 : decode cX9_isSeenBy 41 = .ok (.iload_n 3, 1) := by decide +kernel
theorem dX9_isSeenBy_42 : decode cX9_isSeenBy 42 = .ok (.ifCond .eq 20, 3) := by decide +kernel
theorem dX9_isSeenBy_45 : decode cX9_isSeenBy 45 = .ok (.aload_n 0, 1) := by decide +kernel
theorem dX9_isSeenBy_46 : decode cX9_isSeenBy 46 = .ok (.getfield 46, 3) := by decide +kernel
theorem dX9_isSeenBy_49 : decode cX9_isSeenBy 49 = .ok (.ifCond .eq 9, 3) := by decide +kernel
theorem dX9_isSeenBy_52 : decode cX9_isSeenBy 52 = .ok (.iload_n 1, 1) := by decide +kernel
theorem dX9_isSeenBy_53 : decode cX9_isSeenBy 53 = .ok (.bipush 12, 2) := by decide +kernel
theorem dX9_isSeenBy_55 : decode cX9_isSeenBy 55 = .ok (.if_icmp .ge 7, 3) := by decide +kernel
theorem dX9_isSeenBy_58 : decode cX9_isSeenBy 58 = .ok (.iconst 1, 1) := by decide +kernel
theorem dX9_isSeenBy_59 : decode cX9_isSeenBy 59 = .ok (.goto 4, 3) := by decide +kernel
theorem dX9_isSeenBy_62 : decode cX9_isSeenBy 62 = .ok (.iconst 0, 1) := by decide +kernel
theorem dX9_isSeenBy_63 : decode cX9_isSeenBy 63 = .ok (.ireturn, 1) := by decide +kernel
abbrev m_X9_isSeenBy : am_M := (yX9_isSeenBy, cX9_isSeenBy, 4, some .boolean, [])
def f_X9_isSeenBy_63  (s0 : Int32) (h : am_H) : am_R := m_rz h s0
theorem t_X9_isSeenBy_63 (d : Nat) (hd : 2 ≤ d)  (s0 : Int32) (h : am_H) : Sim m_X9_isSeenBy d 63 [none, none, none, none] [.inl s0] h (f_X9_isSeenBy_63  s0 h) := by
  unfold f_X9_isSeenBy_63
  exact sim_zret dX9_isSeenBy_63 rfl
def f_X9_isSeenBy_62   (h : am_H) : am_R := f_X9_isSeenBy_63 (0 : Int32) h
theorem t_X9_isSeenBy_62 (d : Nat) (hd : 2 ≤ d)   (h : am_H) : Sim m_X9_isSeenBy d 62 [none, none, none, none] [] h (f_X9_isSeenBy_62   h) := by
  unfold f_X9_isSeenBy_62
  refine sim_iconst (0) dX9_isSeenBy_62 (by decide +kernel) ?_
  exact sim_lv (am_leN (am_leN (am_leN (am_leN am_leT)))) (t_X9_isSeenBy_63 d (by omega) _ _)
def f_X9_isSeenBy_58   (h : am_H) : am_R := f_X9_isSeenBy_63 (1 : Int32) h
theorem t_X9_isSeenBy_58 (d : Nat) (hd : 2 ≤ d)   (h : am_H) : Sim m_X9_isSeenBy d 58 [none, none, none, none] [] h (f_X9_isSeenBy_58   h) := by
  unfold f_X9_isSeenBy_58
  refine sim_iconst (1) dX9_isSeenBy_58 (by decide +kernel) ?_
  refine sim_goto 63 dX9_isSeenBy_59 (by decide) ?_
  exact sim_lv (am_leN (am_leN (am_leN (am_leN am_leT)))) (t_X9_isSeenBy_63 d (by omega) _ _)
def f_X9_isSeenBy_33  (a0 : Nat × Nat) (x1 : Int32) (s0 : Int32) (h : am_H) : am_R := m_ao (some a0) 9 fun a9 => m_bI (f_X9_isPosted a9 h) fun h7 v8 => if v8 = 0 then (f_X9_isSeenBy_62 h7) else (if s0 = 0 then (f_X9_isSeenBy_62 h7) else (m_gI (some a0) 9 5 h7 fun v10 => if v10 = 0 then (f_X9_isSeenBy_58 h7) else (if (12 : Int32) ≤ x1 then (f_X9_isSeenBy_62 h7) else (f_X9_isSeenBy_58 h7))))
theorem t_X9_isSeenBy_33 (d : Nat) (hd : 2 ≤ d)  (a0 : Nat × Nat) (x1 : Int32) (s0 : Int32) (h : am_H) : Sim m_X9_isSeenBy d 33 [some (.inr (.inr (some a0))), some (.inl x1), none, none] [.inl s0] h (f_X9_isSeenBy_33  a0 x1 s0 h) := by
  unfold f_X9_isSeenBy_33
  refine sim_istore_n dX9_isSeenBy_33 (Nat.le_of_ble_eq_true rfl) ?_
  refine sim_aload_n dX9_isSeenBy_34 rfl ?_
  refine sim_ao0 (fun a9 e => ?_)
  refine sim_virt (d - 1) e dX9_isSeenBy_35 (k_X9_isPosted (d - 1) (by omega) _  _) q_X9_isPosted rfl rfl wm_RX9_42 rfl rfl (by omega) (Nat.le_of_ble_eq_true rfl) am_nI (am_rI fun h7 v8 => ?_) am_eI
  refine sim_if_eq 62 dX9_isSeenBy_38 (by decide) (fun c => ?_) (fun c => ?_)
  · exact sim_lv (am_leN (am_leN (am_leN (am_leN am_leT)))) (t_X9_isSeenBy_62 d (by omega) _)
  · refine sim_iload_n dX9_isSeenBy_41 rfl ?_
    refine sim_if_eq 62 dX9_isSeenBy_42 (by decide) (fun c => ?_) (fun c => ?_)
    · exact sim_lv (am_leN (am_leN (am_leN (am_leN am_leT)))) (t_X9_isSeenBy_62 d (by omega) _)
    · refine sim_aload_n dX9_isSeenBy_45 rfl ?_
      refine sim_gI 9 5 dX9_isSeenBy_46 rfl wf_RX9_46 (Nat.le_of_ble_eq_true rfl) rfl (fun v10 => ?_)
      refine sim_if_eq 58 dX9_isSeenBy_49 (by decide) (fun c => ?_) (fun c => ?_)
      · exact sim_lv (am_leN (am_leN (am_leN (am_leN am_leT)))) (t_X9_isSeenBy_58 d (by omega) _)
      · refine sim_iload_n dX9_isSeenBy_52 rfl ?_
        refine sim_bipush (12) dX9_isSeenBy_53 (by decide +kernel) ?_
        refine sim_ic_ge 62 dX9_isSeenBy_55 (by decide) (fun c => ?_) (fun c => ?_)
        · exact sim_lv (am_leN (am_leN (am_leN (am_leN am_leT)))) (t_X9_isSeenBy_62 d (by omega) _)
        · exact sim_lv (am_leN (am_leN (am_leN (am_leN am_leT)))) (t_X9_isSeenBy_58 d (by omega) _)
def f_X9_isSeenBy_28  (a0 : Nat × Nat) (x1 : Int32) (h : am_H) : am_R := f_X9_isSeenBy_33 a0 x1 (1 : Int32) h
theorem t_X9_isSeenBy_28 (d : Nat) (hd : 2 ≤ d)  (a0 : Nat × Nat) (x1 : Int32) (h : am_H) : Sim m_X9_isSeenBy d 28 [some (.inr (.inr (some a0))), some (.inl x1), none, none] [] h (f_X9_isSeenBy_28  a0 x1 h) := by
  unfold f_X9_isSeenBy_28
  refine sim_iconst (1) dX9_isSeenBy_28 (by decide +kernel) ?_
  refine sim_goto 33 dX9_isSeenBy_29 (by decide) ?_
  exact sim_lv (am_leS (am_leS (am_leN (am_leN am_leT)))) (t_X9_isSeenBy_33 d (by omega) _ _ _ _)
def f_X9_isSeenBy (a0 : Nat × Nat) (x1 : Int32) (x2 : Int32) (h : am_H) : am_R := m_ao (some a0) 9 fun a3 => m_bI (f_X9_isOwnedBy a3 x1 h) fun h1 v2 => if v2 = 0 then (m_gR (some a0) 9 6 h1 fun o4 => if o4 = none then (f_X9_isSeenBy_28 a0 x1 h1) else (m_gR (some a0) 9 6 h1 fun o5 => m_gI o5 0 0 h1 fun v6 => if x2 < v6 then (f_X9_isSeenBy_33 a0 x1 (0 : Int32) h1) else (f_X9_isSeenBy_28 a0 x1 h1))) else (m_rz h1 (1 : Int32))
theorem k_X9_isSeenBy (d : Nat) (hd : 2 ≤ d) (a0 : Nat × Nat) (x1 : Int32) (x2 : Int32) (h : am_H) : am_Con m_X9_isSeenBy d [.inr (.inr (some a0)), .inl x1, .inl x2] h (f_X9_isSeenBy a0 x1 x2 h) := am_con (by decide +kernel) (Nat.le_of_ble_eq_true rfl) (by
  unfold f_X9_isSeenBy
  refine sim_aload_n dX9_isSeenBy_0 rfl ?_
  refine sim_iload_n dX9_isSeenBy_1 rfl ?_
  refine sim_ao1 (fun a3 e => ?_)
  refine sim_virt (d - 1) e dX9_isSeenBy_2 (k_X9_isOwnedBy (d - 1) (by omega) _ _ _) q_X9_isOwnedBy rfl rfl wm_RX9_29 rfl rfl (by omega) (Nat.le_of_ble_eq_true rfl) am_nI (am_rI fun h1 v2 => ?_) am_eI
  refine sim_if_eq 10 dX9_isSeenBy_5 (by decide) (fun c => ?_) (fun c => ?_)
  · refine sim_aload_n dX9_isSeenBy_10 rfl ?_
    refine sim_gR 9 6 dX9_isSeenBy_11 rfl wf_RX9_33 (Nat.le_of_ble_eq_true rfl) rfl (fun o4 => ?_)
    refine sim_ifnull 28 dX9_isSeenBy_14 (by decide) (fun c => ?_) (fun c => ?_)
    · exact sim_lv (am_leS (am_leS (am_leN (am_leN am_leT)))) (t_X9_isSeenBy_28 d (by omega) _ _ _)
    · refine sim_aload_n dX9_isSeenBy_17 rfl ?_
      refine sim_gR 9 6 dX9_isSeenBy_18 rfl wf_RX9_33 (Nat.le_of_ble_eq_true rfl) rfl (fun o5 => ?_)
      refine sim_gI 0 0 dX9_isSeenBy_21 rfl wf_RX9_37 (Nat.le_of_ble_eq_true rfl) rfl (fun v6 => ?_)
      refine sim_iload_n dX9_isSeenBy_24 rfl ?_
      refine sim_ic_gt 32 dX9_isSeenBy_25 (by decide) (fun c => ?_) (fun c => ?_)
      · refine sim_iconst (0) dX9_isSeenBy_32 (by decide +kernel) ?_
        exact sim_lv (am_leS (am_leS (am_leN (am_leN am_leT)))) (t_X9_isSeenBy_33 d (by omega) _ _ _ _)
      · exact sim_lv (am_leS (am_leS (am_leN (am_leN am_leT)))) (t_X9_isSeenBy_28 d (by omega) _ _ _)
  · refine sim_iconst (1) dX9_isSeenBy_8 (by decide +kernel) ?_
    exact sim_zret dX9_isSeenBy_9 rfl)
theorem q_X9_isSeenBy : am_Cal m_X9_isSeenBy 2 2 := ⟨am_mem 650 (w := Cond.code yX9_isSeenBy cX9_isSeenBy 4 (some .boolean)) (by decide +kernel) rfl, am_mem 71 (w := Cond.initialized RX9) (by decide +kernel) rfl, fun z => absurd z (by decide), fun _ => am_mem 648 (w := Cond.instanceMethod yX9_isSeenBy) (by decide +kernel) rfl, fun z => absurd z (by decide), fun _ => am_mem 649 (w := Cond.selects RX9 yX9_isSeenBy yX9_isSeenBy) (by decide +kernel) rfl, by decide +kernel, by decide +kernel, Nat.le_of_ble_eq_true rfl⟩
theorem dX10_isReadBy_0 : decode cX10_isReadBy 0 = .ok (.aload_n 2, 1) := by decide +kernel
theorem dX10_isReadBy_1 : decode cX10_isReadBy 1 = .ok (.getfield 345, 3) := by decide +kernel
theorem dX10_isReadBy_4 : decode cX10_isReadBy 4 = .ok (.ifCond .ne 15, 3) := by decide +kernel
theorem dX10_isReadBy_7 : decode cX10_isReadBy 7 = .ok (.aload_n 3, 1) := by decide +kernel
theorem dX10_isReadBy_8 : decode cX10_isReadBy 8 = .ok (.iload_n 1, 1) := by decide +kernel
theorem dX10_isReadBy_9 : decode cX10_isReadBy 9 = .ok (.aload_n 0, 1) := by decide +kernel
theorem dX10_isReadBy_10 : decode cX10_isReadBy 10 = .ok (.getfield 73, 3) := by decide +kernel
theorem dX10_isReadBy_13 : decode cX10_isReadBy 13 = .ok (.invokevirtual 173, 3) := by decide +kernel
theorem dX10_isReadBy_16 : decode cX10_isReadBy 16 = .ok (.ifCond .ne 5, 3) := by decide +kernel
theorem dX10_isReadBy_19 : decode cX10_isReadBy 19 = .ok (.iconst 0, 1) := by decide +kernel
theorem dX10_isReadBy_20 : decode cX10_isReadBy 20 = .ok (.ireturn, 1) := by decide +kernel
theorem dX10_isReadBy_21 : decode cX10_isReadBy 21 = .ok (.aload_n 2, 1) := by decide +kernel
theorem dX10_isReadBy_22 : decode cX10_isReadBy 22 = .ok (.getfield 342, 3) := by decide +kernel
theorem dX10_isReadBy_25 : decode cX10_isReadBy 25 = .ok (.ifCond .eq 19, 3) := by decide +kernel
theorem dX10_isReadBy_28 : decode cX10_isReadBy 28 = .ok (.aload_n 2, 1) := by decide +kernel
theorem dX10_isReadBy_29 : decode cX10_isReadBy 29 = .ok (.getfield 446, 3) := by decide +kernel
theorem dX10_isReadBy_32 : decode cX10_isReadBy 32 = .ok (.iload_n 1, 1) := by decide +kernel
theorem dX10_isReadBy_33 : decode cX10_isReadBy 33 = .ok (.if_icmp .eq 11, 3) := by decide +kernel
theorem dX10_isReadBy_36 : decode cX10_isReadBy 36 = .ok (.aload_n 3, 1) := by decide +kernel
theorem dX10_isReadBy_37 : decode cX10_isReadBy 37 = .ok (.iload_n 1, 1) := by decide +kernel
theorem dX10_isReadBy_38 : decode cX10_isReadBy 38 = .ok (.invokevirtual 125, 3) := by decide +kernel
theorem dX10_isReadBy_41 : decode cX10_isReadBy 41 = .ok (.ifCond .eq 7, 3) := by decide +kernel
theorem dX10_isReadBy_44 : decode cX10_isReadBy 44 = .ok (.iconst 1, 1) := by decide +kernel
theorem dX10_isReadBy_45 : decode cX10_isReadBy 45 = .ok (.goto 4, 3) := by decide +kernel
theorem dX10_isReadBy_48 : decode cX10_isReadBy 48 = .ok (.iconst 0, 1) := by decide +kernel
theorem dX10_isReadBy_49 : decode cX10_isReadBy 49 = .ok (.ireturn, 1) := by decide +kernel
abbrev m_X10_isReadBy : am_M := (yX10_isReadBy, cX10_isReadBy, 4, some .boolean, [])
def f_X10_isReadBy_49  (s0 : Int32) (h : am_H) : am_R := m_rz h s0
theorem t_X10_isReadBy_49 (d : Nat) (hd : 3 ≤ d)  (s0 : Int32) (h : am_H) : Sim m_X10_isReadBy d 49 [none, none, none, none] [.inl s0] h (f_X10_isReadBy_49  s0 h) := by
  unfold f_X10_isReadBy_49
  exact sim_zret dX10_isReadBy_49 rfl
def f_X10_isReadBy_44   (h : am_H) : am_R := f_X10_isReadBy_49 (1 : Int32) h
theorem t_X10_isReadBy_44 (d : Nat) (hd : 3 ≤ d)   (h : am_H) : Sim m_X10_isReadBy d 44 [none, none, none, none] [] h (f_X10_isReadBy_44   h) := by
  unfold f_X10_isReadBy_44
  refine sim_iconst (1) dX10_isReadBy_44 (by decide +kernel) ?_
  refine sim_goto 49 dX10_isReadBy_45 (by decide) ?_
  exact sim_lv (am_leN (am_leN (am_leN (am_leN am_leT)))) (t_X10_isReadBy_49 d (by omega) _ _)
def f_X10_isReadBy_19   (h : am_H) : am_R := m_rz h (0 : Int32)
theorem t_X10_isReadBy_19 (d : Nat) (hd : 3 ≤ d)   (h : am_H) : Sim m_X10_isReadBy d 19 [none, none, none, none] [] h (f_X10_isReadBy_19   h) := by
  unfold f_X10_isReadBy_19
  refine sim_iconst (0) dX10_isReadBy_19 (by decide +kernel) ?_
  exact sim_zret dX10_isReadBy_20 rfl
def f_X10_isReadBy (a0 : Nat × Nat) (x1 : Int32) (x2 : Option (Nat × Nat)) (x3 : Option (Nat × Nat)) (h : am_H) : am_R := m_gI x2 1 4 h fun v1 => if v1 = 0 then (m_gI (some a0) 10 0 h fun v2 => m_ao x3 9 fun a5 => m_bI (f_X9_isSeenBy a5 x1 v2 h) fun h3 v4 => if v4 = 0 then (f_X10_isReadBy_19 h3) else (m_gI x2 1 5 h3 fun v6 => if v6 = 0 then (f_X10_isReadBy_44 h3) else (m_gI x2 1 1 h3 fun v7 => if v7 = x1 then (f_X10_isReadBy_44 h3) else (m_ao x3 9 fun a10 => m_bI (f_X9_isOwnedBy a10 x1 h3) fun h8 v9 => if v9 = 0 then (f_X10_isReadBy_49 (0 : Int32) h8) else (f_X10_isReadBy_44 h8))))) else (f_X10_isReadBy_19 h)
theorem k_X10_isReadBy (d : Nat) (hd : 3 ≤ d) (a0 : Nat × Nat) (x1 : Int32) (x2 : Option (Nat × Nat)) (x3 : Option (Nat × Nat)) (h : am_H) : am_Con m_X10_isReadBy d [.inr (.inr (some a0)), .inl x1, .inr (.inr x2), .inr (.inr x3)] h (f_X10_isReadBy a0 x1 x2 x3 h) := am_con (by decide +kernel) (Nat.le_of_ble_eq_true rfl) (by
  unfold f_X10_isReadBy
  refine sim_aload_n dX10_isReadBy_0 rfl ?_
  refine sim_gI 1 4 dX10_isReadBy_1 rfl wf_RX10_345 (Nat.le_of_ble_eq_true rfl) rfl (fun v1 => ?_)
  refine sim_if_ne 19 dX10_isReadBy_4 (by decide) (fun c => ?_) (fun c => ?_)
  · exact sim_lv (am_leN (am_leN (am_leN (am_leN am_leT)))) (t_X10_isReadBy_19 d (by omega) _)
  · refine sim_aload_n dX10_isReadBy_7 rfl ?_
    refine sim_iload_n dX10_isReadBy_8 rfl ?_
    refine sim_aload_n dX10_isReadBy_9 rfl ?_
    refine sim_gI 10 0 dX10_isReadBy_10 rfl wf_RX10_73 (Nat.le_of_ble_eq_true rfl) rfl (fun v2 => ?_)
    refine sim_ao2 (fun a5 e => ?_)
    refine sim_virt (d - 1) e dX10_isReadBy_13 (k_X9_isSeenBy (d - 1) (by omega) _ _ _ _) q_X9_isSeenBy rfl rfl wm_RX10_173 rfl rfl (by omega) (Nat.le_of_ble_eq_true rfl) am_nI (am_rI fun h3 v4 => ?_) am_eI
    refine sim_if_ne 21 dX10_isReadBy_16 (by decide) (fun c => ?_) (fun c => ?_)
    · refine sim_aload_n dX10_isReadBy_21 rfl ?_
      refine sim_gI 1 5 dX10_isReadBy_22 rfl wf_RX10_342 (Nat.le_of_ble_eq_true rfl) rfl (fun v6 => ?_)
      refine sim_if_eq 44 dX10_isReadBy_25 (by decide) (fun c => ?_) (fun c => ?_)
      · exact sim_lv (am_leN (am_leN (am_leN (am_leN am_leT)))) (t_X10_isReadBy_44 d (by omega) _)
      · refine sim_aload_n dX10_isReadBy_28 rfl ?_
        refine sim_gI 1 1 dX10_isReadBy_29 rfl wf_RX10_446 (Nat.le_of_ble_eq_true rfl) rfl (fun v7 => ?_)
        refine sim_iload_n dX10_isReadBy_32 rfl ?_
        refine sim_ic_eq 44 dX10_isReadBy_33 (by decide) (fun c => ?_) (fun c => ?_)
        · exact sim_lv (am_leN (am_leN (am_leN (am_leN am_leT)))) (t_X10_isReadBy_44 d (by omega) _)
        · refine sim_aload_n dX10_isReadBy_36 rfl ?_
          refine sim_iload_n dX10_isReadBy_37 rfl ?_
          refine sim_ao1 (fun a10 e => ?_)
          refine sim_virt (d - 1) e dX10_isReadBy_38 (k_X9_isOwnedBy (d - 1) (by omega) _ _ _) q_X9_isOwnedBy rfl rfl wm_RX10_125 rfl rfl (by omega) (Nat.le_of_ble_eq_true rfl) am_nI (am_rI fun h8 v9 => ?_) am_eI
          refine sim_if_eq 48 dX10_isReadBy_41 (by decide) (fun c => ?_) (fun c => ?_)
          · refine sim_iconst (0) dX10_isReadBy_48 (by decide +kernel) ?_
            exact sim_lv (am_leN (am_leN (am_leN (am_leN am_leT)))) (t_X10_isReadBy_49 d (by omega) _ _)
          · exact sim_lv (am_leN (am_leN (am_leN (am_leN am_leT)))) (t_X10_isReadBy_44 d (by omega) _)
    · exact sim_lv (am_leN (am_leN (am_leN (am_leN am_leT)))) (t_X10_isReadBy_19 d (by omega) _))
theorem q_X10_isReadBy : am_Cal m_X10_isReadBy 3 2 := ⟨am_mem 990 (w := Cond.code yX10_isReadBy cX10_isReadBy 4 (some .boolean)) (by decide +kernel) rfl, am_mem 56 (w := Cond.initialized RX10) (by decide +kernel) rfl, fun z => absurd z (by decide), fun _ => am_mem 989 (w := Cond.instanceMethod yX10_isReadBy) (by decide +kernel) rfl, fun z => absurd z (by decide), fun _ => am_mem 26 (w := Cond.selects RX10 yX10_isReadBy yX10_isReadBy) (by decide +kernel) rfl, by decide +kernel, by decide +kernel, Nat.le_of_ble_eq_true rfl⟩
theorem dX1_isFrozenHereOrAbove_0 : decode cX1_isFrozenHereOrAbove 0 = .ok (.aload_n 0, 1) := by decide +kernel
theorem dX1_isFrozenHereOrAbove_1 : decode cX1_isFrozenHereOrAbove 1 = .ok (.astore_n 1, 1) := by decide +kernel
theorem dX1_isFrozenHereOrAbove_2 : decode cX1_isFrozenHereOrAbove 2 = .ok (.aload_n 1, 1) := by decide +kernel
theorem dX1_isFrozenHereOrAbove_3 : decode cX1_isFrozenHereOrAbove 3 = .ok (.ifnull 20, 3) := by decide +kernel
theorem dX1_isFrozenHereOrAbove_6 : decode cX1_isFrozenHereOrAbove 6 = .ok (.aload_n 1, 1) := by decide +kernel
theorem dX1_isFrozenHereOrAbove_7 : decode cX1_isFrozenHereOrAbove 7 = .ok (.getfield 24, 3) := by decide +kernel
theorem dX1_isFrozenHereOrAbove_10 : decode cX1_isFrozenHereOrAbove 10 = .ok (.ifCond .eq 5, 3) := by decide +kernel
theorem dX1_isFrozenHereOrAbove_13 : decode cX1_isFrozenHereOrAbove 13 = .ok (.iconst 1, 1) := by decide +kernel
theorem dX1_isFrozenHereOrAbove_14 : decode cX1_isFrozenHereOrAbove 14 = .ok (.ireturn, 1) := by decide +kernel
theorem dX1_isFrozenHereOrAbove_15 : decode cX1_isFrozenHereOrAbove 15 = .ok (.aload_n 1, 1) := by decide +kernel
theorem dX1_isFrozenHereOrAbove_16 : decode cX1_isFrozenHereOrAbove 16 = .ok (.getfield 16, 3) := by decide +kernel
theorem dX1_isFrozenHereOrAbove_19 : decode cX1_isFrozenHereOrAbove 19 = .ok (.astore_n 1, 1) := by decide +kernel
theorem dX1_isFrozenHereOrAbove_20 : decode cX1_isFrozenHereOrAbove 20 = .ok (.goto (-18), 3) := by decide +kernel
theorem dX1_isFrozenHereOrAbove_23 : decode cX1_isFrozenHereOrAbove 23 = .ok (.iconst 0, 1) := by decide +kernel
theorem dX1_isFrozenHereOrAbove_24 : decode cX1_isFrozenHereOrAbove 24 = .ok (.ireturn, 1) := by decide +kernel
abbrev m_X1_isFrozenHereOrAbove : am_M := (yX1_isFrozenHereOrAbove, cX1_isFrozenHereOrAbove, 2, some .boolean, [])
def f_X1_isFrozenHereOrAbove_2  : Nat → Option (Nat × Nat) → am_H → am_R
  | 0, _, _ => none
  | n + 1, x1, h => if x1 = none then (m_rz h (0 : Int32)) else (m_gI x1 1 3 h fun v1 => if v1 = 0 then (m_gR x1 1 2 h fun o2 => (f_X1_isFrozenHereOrAbove_2  n) o2 h) else (m_rz h (1 : Int32)))
theorem t_X1_isFrozenHereOrAbove_2 (d : Nat) (hd : 0 ≤ d)  : ∀ (n : Nat) (x1 : Option (Nat × Nat)) (h : am_H), Sim m_X1_isFrozenHereOrAbove d 2 [none, some (.inr (.inr x1))] [] h (f_X1_isFrozenHereOrAbove_2  n x1 h) := by
  intro n
  induction n with
  | zero => intros; exact sim_none
  | succ n hrc2 =>
    intro x1 h
    rw [f_X1_isFrozenHereOrAbove_2]
    refine sim_aload_n dX1_isFrozenHereOrAbove_2 rfl ?_
    refine sim_ifnull 23 dX1_isFrozenHereOrAbove_3 (by decide) (fun c => ?_) (fun c => ?_)
    · refine sim_iconst (0) dX1_isFrozenHereOrAbove_23 (by decide +kernel) ?_
      exact sim_zret dX1_isFrozenHereOrAbove_24 rfl
    · refine sim_aload_n dX1_isFrozenHereOrAbove_6 rfl ?_
      refine sim_gI 1 3 dX1_isFrozenHereOrAbove_7 rfl wf_RX1_24 (Nat.le_of_ble_eq_true rfl) rfl (fun v1 => ?_)
      refine sim_if_eq 15 dX1_isFrozenHereOrAbove_10 (by decide) (fun c => ?_) (fun c => ?_)
      · refine sim_aload_n dX1_isFrozenHereOrAbove_15 rfl ?_
        refine sim_gR 1 2 dX1_isFrozenHereOrAbove_16 rfl wf_RX1_16 (Nat.le_of_ble_eq_true rfl) rfl (fun o2 => ?_)
        refine sim_astore_n dX1_isFrozenHereOrAbove_19 (Nat.le_of_ble_eq_true rfl) ?_
        refine sim_goto 2 dX1_isFrozenHereOrAbove_20 (by decide) ?_
        exact sim_lv (am_leN (am_leS am_leT)) (hrc2 _ _)
      · refine sim_iconst (1) dX1_isFrozenHereOrAbove_13 (by decide +kernel) ?_
        exact sim_zret dX1_isFrozenHereOrAbove_14 rfl
def f_X1_isFrozenHereOrAbove (a0 : Nat × Nat) (h : am_H) : am_R := f_X1_isFrozenHereOrAbove_2 5000 (some a0) h
theorem k_X1_isFrozenHereOrAbove (d : Nat) (hd : 0 ≤ d) (a0 : Nat × Nat) (h : am_H) : am_Con m_X1_isFrozenHereOrAbove d [.inr (.inr (some a0))] h (f_X1_isFrozenHereOrAbove a0 h) := am_con (by decide +kernel) (Nat.le_of_ble_eq_true rfl) (by
  unfold f_X1_isFrozenHereOrAbove
  refine sim_aload_n dX1_isFrozenHereOrAbove_0 rfl ?_
  refine sim_astore_n dX1_isFrozenHereOrAbove_1 (Nat.le_of_ble_eq_true rfl) ?_
  exact sim_lv (am_leN (am_leS am_leT)) (t_X1_isFrozenHereOrAbove_2 d (by omega) _ _ _))
theorem q_X1_isFrozenHereOrAbove : am_Cal m_X1_isFrozenHereOrAbove 0 2 := ⟨am_mem 994 (w := Cond.code yX1_isFrozenHereOrAbove cX1_isFrozenHereOrAbove 2 (some .boolean)) (by decide +kernel) rfl, am_mem 77 (w := Cond.initialized RX1) (by decide +kernel) rfl, fun z => absurd z (by decide), fun _ => am_mem 992 (w := Cond.instanceMethod yX1_isFrozenHereOrAbove) (by decide +kernel) rfl, fun z => absurd z (by decide), fun _ => am_mem 993 (w := Cond.selects RX1 yX1_isFrozenHereOrAbove yX1_isFrozenHereOrAbove) (by decide +kernel) rfl, by decide +kernel, by decide +kernel, Nat.le_of_ble_eq_true rfl⟩
theorem dX10_mayComment_0 : decode cX10_mayComment 0 = .ok (.aload_n 1, 1) := by decide +kernel
theorem dX10_mayComment_1 : decode cX10_mayComment 1 = .ok (.iload_n 2, 1) := by decide +kernel
theorem dX10_mayComment_2 : decode cX10_mayComment 2 = .ok (.aload_n 0, 1) := by decide +kernel
theorem dX10_mayComment_3 : decode cX10_mayComment 3 = .ok (.getfield 73, 3) := by decide +kernel
theorem dX10_mayComment_6 : decode cX10_mayComment 6 = .ok (.invokevirtual 173, 3) := by decide +kernel
theorem dX10_mayComment_9 : decode cX10_mayComment 9 = .ok (.ifCond .eq 15, 3) := by decide +kernel
theorem dX10_mayComment_12 : decode cX10_mayComment 12 = .ok (.aload_n 0, 1) := by decide +kernel
theorem dX10_mayComment_13 : decode cX10_mayComment 13 = .ok (.aload_n 1, 1) := by decide +kernel
theorem dX10_mayComment_14 : decode cX10_mayComment 14 = .ok (.getfield 116, 3) := by decide +kernel
theorem dX10_mayComment_17 : decode cX10_mayComment 17 = .ok (.iload_n 2, 1) := by decide +kernel
theorem dX10_mayComment_18 : decode cX10_mayComment 18 = .ok (.invokevirtual 449, 3) := by decide +kernel
theorem dX10_mayComment_21 : decode cX10_mayComment 21 = .ok (.ifCond .eq 5, 3) := by decide +kernel
theorem dX10_mayComment_24 : decode cX10_mayComment 24 = .ok (.iconst 0, 1) := by decide +kernel
theorem dX10_mayComment_25 : decode cX10_mayComment 25 = .ok (.ireturn, 1) := by decide +kernel
theorem dX10_mayComment_26 : decode cX10_mayComment 26 = .ok (.aload_n 3, 1) := by decide +kernel
theorem dX10_mayComment_27 : decode cX10_mayComment 27 = .ok (.ifnonnull 5, 3) := by decide +kernel
theorem dX10_mayComment_30 : decode cX10_mayComment 30 = .ok (.iconst 1, 1) := by decide +kernel
theorem dX10_mayComment_31 : decode cX10_mayComment 31 = .ok (.ireturn, 1) := by decide +kernel
theorem dX10_mayComment_32 : decode cX10_mayComment 32 = .ok (.aload_n 0, 1) := by decide +kernel
theorem dX10_mayComment_33 : decode cX10_mayComment 33 = .ok (.iload_n 2, 1) := by decide +kernel
theorem dX10_mayComment_34 : decode cX10_mayComment 34 = .ok (.aload_n 3, 1) := by decide +kernel
theorem dX10_mayComment_35 : decode cX10_mayComment 35 = .ok (.aload_n 1, 1) := by decide +kernel
theorem dX10_mayComment_36 : decode cX10_mayComment 36 = .ok (.invokevirtual 348, 3) := by decide +kernel
theorem dX10_mayComment_39 : decode cX10_mayComment 39 = .ok (.ifCond .eq 26, 3) := by decide +kernel
theorem dX10_mayComment_42 : decode cX10_mayComment 42 = .ok (.aload_n 3, 1) := by decide +kernel
theorem dX10_mayComment_43 : decode cX10_mayComment 43 = .ok (.invokevirtual 452, 3) := by decide +kernel
theorem dX10_mayComment_46 : decode cX10_mayComment 46 = .ok (.ifCond .ne 19, 3) := by decide +kernel
theorem dX10_mayComment_49 : decode cX10_mayComment 49 = .ok (.aload_n 0, 1) := by decide +kernel
theorem dX10_mayComment_50 : decode cX10_mayComment 50 = .ok (.aload_n 3, 1) := by decide +kernel
theorem dX10_mayComment_51 : decode cX10_mayComment 51 = .ok (.getfield 446, 3) := by decide +kernel
theorem dX10_mayComment_54 : decode cX10_mayComment 54 = .ok (.iload_n 2, 1) := by decide +kernel
theorem dX10_mayComment_55 : decode cX10_mayComment 55 = .ok (.invokevirtual 455, 3) := by decide +kernel
theorem dX10_mayComment_58 : decode cX10_mayComment 58 = .ok (.ifCond .ne 7, 3) := by decide +kernel
theorem dX10_mayComment_61 : decode cX10_mayComment 61 = .ok (.iconst 1, 1) := by decide +kernel
theorem dX10_mayComment_62 : decode cX10_mayComment 62 = .ok (.goto 4, 3) := by decide +kernel
theorem dX10_mayComment_65 : decode cX10_mayComment 65 = .ok (.iconst 0, 1) := by decide +kernel
theorem dX10_mayComment_66 : decode cX10_mayComment 66 = .ok (.ireturn, 1) := by decide +kernel
abbrev m_X10_mayComment : am_M := (yX10_mayComment, cX10_mayComment, 4, some .boolean, [])
def f_X10_mayComment_66  (s0 : Int32) (h : am_H) : am_R := m_rz h s0
theorem t_X10_mayComment_66 (d : Nat) (hd : 4 ≤ d)  (s0 : Int32) (h : am_H) : Sim m_X10_mayComment d 66 [none, none, none, none] [.inl s0] h (f_X10_mayComment_66  s0 h) := by
  unfold f_X10_mayComment_66
  exact sim_zret dX10_mayComment_66 rfl
def f_X10_mayComment_65   (h : am_H) : am_R := f_X10_mayComment_66 (0 : Int32) h
theorem t_X10_mayComment_65 (d : Nat) (hd : 4 ≤ d)   (h : am_H) : Sim m_X10_mayComment d 65 [none, none, none, none] [] h (f_X10_mayComment_65   h) := by
  unfold f_X10_mayComment_65
  refine sim_iconst (0) dX10_mayComment_65 (by decide +kernel) ?_
  exact sim_lv (am_leN (am_leN (am_leN (am_leN am_leT)))) (t_X10_mayComment_66 d (by omega) _ _)
def f_X10_mayComment_24   (h : am_H) : am_R := m_rz h (0 : Int32)
theorem t_X10_mayComment_24 (d : Nat) (hd : 4 ≤ d)   (h : am_H) : Sim m_X10_mayComment d 24 [none, none, none, none] [] h (f_X10_mayComment_24   h) := by
  unfold f_X10_mayComment_24
  refine sim_iconst (0) dX10_mayComment_24 (by decide +kernel) ?_
  exact sim_zret dX10_mayComment_25 rfl
def f_X10_mayComment (a0 : Nat × Nat) (x1 : Option (Nat × Nat)) (x2 : Int32) (x3 : Option (Nat × Nat)) (h : am_H) : am_R := m_gI (some a0) 10 0 h fun v1 => m_ao x1 9 fun a4 => m_bI (f_X9_isSeenBy a4 x2 v1 h) fun h2 v3 => if v3 = 0 then (f_X10_mayComment_24 h2) else (m_gI x1 9 1 h2 fun v5 => m_ao (some a0) 10 fun a8 => m_bI (f_X10_isBlockedByAny a8 v5 x2 h2) fun h6 v7 => if v7 = 0 then (if x3 = none then (m_rz h6 (1 : Int32)) else (m_ao (some a0) 10 fun a11 => m_bI (f_X10_isReadBy a11 x2 x3 x1 h6) fun h9 v10 => if v10 = 0 then (f_X10_mayComment_65 h9) else (m_ao x3 1 fun a14 => m_bI (f_X1_isFrozenHereOrAbove a14 h9) fun h12 v13 => if v13 = 0 then (m_gI x3 1 1 h12 fun v15 => m_ao (some a0) 10 fun a18 => m_bI (f_X10_isBlockedBy a18 v15 x2 h12) fun h16 v17 => if v17 = 0 then (f_X10_mayComment_66 (1 : Int32) h16) else (f_X10_mayComment_65 h16)) else (f_X10_mayComment_65 h12)))) else (f_X10_mayComment_24 h6))
theorem k_X10_mayComment (d : Nat) (hd : 4 ≤ d) (a0 : Nat × Nat) (x1 : Option (Nat × Nat)) (x2 : Int32) (x3 : Option (Nat × Nat)) (h : am_H) : am_Con m_X10_mayComment d [.inr (.inr (some a0)), .inr (.inr x1), .inl x2, .inr (.inr x3)] h (f_X10_mayComment a0 x1 x2 x3 h) := am_con (by decide +kernel) (Nat.le_of_ble_eq_true rfl) (by
  unfold f_X10_mayComment
  refine sim_aload_n dX10_mayComment_0 rfl ?_
  refine sim_iload_n dX10_mayComment_1 rfl ?_
  refine sim_aload_n dX10_mayComment_2 rfl ?_
  refine sim_gI 10 0 dX10_mayComment_3 rfl wf_RX10_73 (Nat.le_of_ble_eq_true rfl) rfl (fun v1 => ?_)
  refine sim_ao2 (fun a4 e => ?_)
  refine sim_virt (d - 1) e dX10_mayComment_6 (k_X9_isSeenBy (d - 1) (by omega) _ _ _ _) q_X9_isSeenBy rfl rfl wm_RX10_173 rfl rfl (by omega) (Nat.le_of_ble_eq_true rfl) am_nI (am_rI fun h2 v3 => ?_) am_eI
  refine sim_if_eq 24 dX10_mayComment_9 (by decide) (fun c => ?_) (fun c => ?_)
  · exact sim_lv (am_leN (am_leN (am_leN (am_leN am_leT)))) (t_X10_mayComment_24 d (by omega) _)
  · refine sim_aload_n dX10_mayComment_12 rfl ?_
    refine sim_aload_n dX10_mayComment_13 rfl ?_
    refine sim_gI 9 1 dX10_mayComment_14 rfl wf_RX10_116 (Nat.le_of_ble_eq_true rfl) rfl (fun v5 => ?_)
    refine sim_iload_n dX10_mayComment_17 rfl ?_
    refine sim_ao2 (fun a8 e => ?_)
    refine sim_virt (d - 1) e dX10_mayComment_18 (k_X10_isBlockedByAny (d - 1) (by omega) _ _ _ _) q_X10_isBlockedByAny rfl rfl wm_RX10_449 rfl rfl (by omega) (Nat.le_of_ble_eq_true rfl) am_nI (am_rI fun h6 v7 => ?_) am_eI
    refine sim_if_eq 26 dX10_mayComment_21 (by decide) (fun c => ?_) (fun c => ?_)
    · refine sim_aload_n dX10_mayComment_26 rfl ?_
      refine sim_ifnonnull 32 dX10_mayComment_27 (by decide) (fun c => ?_) (fun c => ?_)
      · refine sim_aload_n dX10_mayComment_32 rfl ?_
        refine sim_iload_n dX10_mayComment_33 rfl ?_
        refine sim_aload_n dX10_mayComment_34 rfl ?_
        refine sim_aload_n dX10_mayComment_35 rfl ?_
        refine sim_ao3 (fun a11 e => ?_)
        refine sim_virt (d - 1) e dX10_mayComment_36 (k_X10_isReadBy (d - 1) (by omega) _ _ _ _ _) q_X10_isReadBy rfl rfl wm_RX10_348 rfl rfl (by omega) (Nat.le_of_ble_eq_true rfl) am_nI (am_rI fun h9 v10 => ?_) am_eI
        refine sim_if_eq 65 dX10_mayComment_39 (by decide) (fun c => ?_) (fun c => ?_)
        · exact sim_lv (am_leN (am_leN (am_leN (am_leN am_leT)))) (t_X10_mayComment_65 d (by omega) _)
        · refine sim_aload_n dX10_mayComment_42 rfl ?_
          refine sim_ao0 (fun a14 e => ?_)
          refine sim_virt (d - 1) e dX10_mayComment_43 (k_X1_isFrozenHereOrAbove (d - 1) (by omega) _  _) q_X1_isFrozenHereOrAbove rfl rfl wm_RX10_452 rfl rfl (by omega) (Nat.le_of_ble_eq_true rfl) am_nI (am_rI fun h12 v13 => ?_) am_eI
          refine sim_if_ne 65 dX10_mayComment_46 (by decide) (fun c => ?_) (fun c => ?_)
          · exact sim_lv (am_leN (am_leN (am_leN (am_leN am_leT)))) (t_X10_mayComment_65 d (by omega) _)
          · refine sim_aload_n dX10_mayComment_49 rfl ?_
            refine sim_aload_n dX10_mayComment_50 rfl ?_
            refine sim_gI 1 1 dX10_mayComment_51 rfl wf_RX10_446 (Nat.le_of_ble_eq_true rfl) rfl (fun v15 => ?_)
            refine sim_iload_n dX10_mayComment_54 rfl ?_
            refine sim_ao2 (fun a18 e => ?_)
            refine sim_virt (d - 1) e dX10_mayComment_55 (k_X10_isBlockedBy (d - 1) (by omega) _ _ _ _) q_X10_isBlockedBy rfl rfl wm_RX10_455 rfl rfl (by omega) (Nat.le_of_ble_eq_true rfl) am_nI (am_rI fun h16 v17 => ?_) am_eI
            refine sim_if_ne 65 dX10_mayComment_58 (by decide) (fun c => ?_) (fun c => ?_)
            · exact sim_lv (am_leN (am_leN (am_leN (am_leN am_leT)))) (t_X10_mayComment_65 d (by omega) _)
            · refine sim_iconst (1) dX10_mayComment_61 (by decide +kernel) ?_
              refine sim_goto 66 dX10_mayComment_62 (by decide) ?_
              exact sim_lv (am_leN (am_leN (am_leN (am_leN am_leT)))) (t_X10_mayComment_66 d (by omega) _ _)
      · refine sim_iconst (1) dX10_mayComment_30 (by decide +kernel) ?_
        exact sim_zret dX10_mayComment_31 rfl
    · exact sim_lv (am_leN (am_leN (am_leN (am_leN am_leT)))) (t_X10_mayComment_24 d (by omega) _))
theorem q_X10_mayComment : am_Cal m_X10_mayComment 3 2 := ⟨am_mem 978 (w := Cond.code yX10_mayComment cX10_mayComment 4 (some .boolean)) (by decide +kernel) rfl, am_mem 56 (w := Cond.initialized RX10) (by decide +kernel) rfl, fun z => absurd z (by decide), fun _ => am_mem 977 (w := Cond.instanceMethod yX10_mayComment) (by decide +kernel) rfl, fun z => absurd z (by decide), fun _ => am_mem 23 (w := Cond.selects RX10 yX10_mayComment yX10_mayComment) (by decide +kernel) rfl, by decide +kernel, by decide +kernel, Nat.le_of_ble_eq_true rfl⟩
theorem dX1_init_0 : decode cX1_init 0 = .ok (.aload_n 0, 1) := by decide +kernel
theorem dX1_init_1 : decode cX1_init 1 = .ok (.invokespecial 1, 3) := by decide +kernel
theorem dX1_init_4 : decode cX1_init 4 = .ok (.aload_n 0, 1) := by decide +kernel
theorem dX1_init_5 : decode cX1_init 5 = .ok (.iload_n 1, 1) := by decide +kernel
theorem dX1_init_6 : decode cX1_init 6 = .ok (.putfield 7, 3) := by decide +kernel
theorem dX1_init_9 : decode cX1_init 9 = .ok (.aload_n 0, 1) := by decide +kernel
theorem dX1_init_10 : decode cX1_init 10 = .ok (.iload_n 2, 1) := by decide +kernel
theorem dX1_init_11 : decode cX1_init 11 = .ok (.putfield 13, 3) := by decide +kernel
theorem dX1_init_14 : decode cX1_init 14 = .ok (.aload_n 0, 1) := by decide +kernel
theorem dX1_init_15 : decode cX1_init 15 = .ok (.aload_n 3, 1) := by decide +kernel
theorem dX1_init_16 : decode cX1_init 16 = .ok (.putfield 16, 3) := by decide +kernel
theorem dX1_init_19 : decode cX1_init 19 = .ok (.aload_n 0, 1) := by decide +kernel
theorem dX1_init_20 : decode cX1_init 20 = .ok (.iload 4, 2) := by decide +kernel
theorem dX1_init_22 : decode cX1_init 22 = .ok (.putfield 20, 3) := by decide +kernel
theorem dX1_init_25 : decode cX1_init 25 = .ok (.return_, 1) := by decide +kernel
abbrev m_X1_init : am_M := (yX1_init, cX1_init, 5, none, [])
def f_X1_init (a0 : Nat × Nat) (x1 : Int32) (x2 : Int32) (x3 : Option (Nat × Nat)) (x4 : Int32) (h : am_H) : am_R := m_pI (some a0) 1 0 x1 h fun h1 => m_pI (some a0) 1 1 x2 h1 fun h2 => m_pR (some a0) 1 2 x3 h2 fun h3 => m_pZ (some a0) 1 5 x4 h3 fun h4 => m_rt h4 none
theorem k_X1_init (d : Nat) (hd : 1 ≤ d) (a0 : Nat × Nat) (x1 : Int32) (x2 : Int32) (x3 : Option (Nat × Nat)) (x4 : Int32) (h : am_H) : am_Con m_X1_init d [.inr (.inr (some a0)), .inl x1, .inl x2, .inr (.inr x3), .inl x4] h (f_X1_init a0 x1 x2 x3 x4 h) := am_con (by decide +kernel) (Nat.le_of_ble_eq_true rfl) (by
  unfold f_X1_init
  refine sim_aload_n dX1_init_0 rfl ?_
  refine sim_obj dX1_init_1 wm_RX1_1 wobj_i wobj_c (by omega) (Nat.le_of_ble_eq_true rfl) ?_
  refine sim_aload_n dX1_init_4 rfl ?_
  refine sim_iload_n dX1_init_5 rfl ?_
  refine sim_pI 1 0 dX1_init_6 rfl wf_RX1_7 (Nat.le_of_ble_eq_true rfl) rfl (Or.inr ⟨rfl, rfl, rfl⟩) rfl (fun h1 => ?_)
  refine sim_aload_n dX1_init_9 rfl ?_
  refine sim_iload_n dX1_init_10 rfl ?_
  refine sim_pI 1 1 dX1_init_11 rfl wf_RX1_13 (Nat.le_of_ble_eq_true rfl) rfl (Or.inr ⟨rfl, rfl, rfl⟩) rfl (fun h2 => ?_)
  refine sim_aload_n dX1_init_14 rfl ?_
  refine sim_aload_n dX1_init_15 rfl ?_
  refine sim_pR 1 2 dX1_init_16 rfl wf_RX1_16 (Nat.le_of_ble_eq_true rfl) rfl (Or.inr ⟨rfl, rfl, rfl⟩) (fun h3 => ?_)
  refine sim_aload_n dX1_init_19 rfl ?_
  refine sim_iload dX1_init_20 rfl ?_
  refine sim_pZ 1 5 dX1_init_22 rfl wf_RX1_20 (Nat.le_of_ble_eq_true rfl) rfl (Or.inl rfl) rfl (fun h4 => ?_)
  exact sim_vret dX1_init_25 rfl)
theorem q_X1_init : am_Cal m_X1_init 4 1 := ⟨am_mem 999 (w := Cond.code yX1_init cX1_init 5 none) (by decide +kernel) rfl, am_mem 77 (w := Cond.initialized RX1) (by decide +kernel) rfl, fun z => absurd z (by decide), fun _ => am_mem 998 (w := Cond.instanceMethod yX1_init) (by decide +kernel) rfl, fun _ => rfl, fun z => absurd z (by decide), by decide +kernel, by decide +kernel, Nat.le_of_ble_eq_true rfl⟩
theorem dX10_comment_0 : decode cX10_comment 0 = .ok (.aload_n 0, 1) := by decide +kernel
theorem dX10_comment_1 : decode cX10_comment 1 = .ok (.iload_n 1, 1) := by decide +kernel
theorem dX10_comment_2 : decode cX10_comment 2 = .ok (.invokevirtual 112, 3) := by decide +kernel
theorem dX10_comment_5 : decode cX10_comment 5 = .ok (.astore 4, 2) := by decide +kernel
theorem dX10_comment_7 : decode cX10_comment 7 = .ok (.iload_n 2, 1) := by decide +kernel
theorem dX10_comment_8 : decode cX10_comment 8 = .ok (.invokestatic 99, 3) := by decide +kernel
theorem dX10_comment_11 : decode cX10_comment 11 = .ok (.iload_n 3, 1) := by decide +kernel
theorem dX10_comment_12 : decode cX10_comment 12 = .ok (.iconst (-1), 1) := by decide +kernel
theorem dX10_comment_13 : decode cX10_comment 13 = .ok (.if_icmp .ne 7, 3) := by decide +kernel
theorem dX10_comment_16 : decode cX10_comment 16 = .ok (.aconst_null, 1) := by decide +kernel
theorem dX10_comment_17 : decode cX10_comment 17 = .ok (.goto 8, 3) := by decide +kernel
theorem dX10_comment_20 : decode cX10_comment 20 = .ok (.aload_n 0, 1) := by decide +kernel
theorem dX10_comment_21 : decode cX10_comment 21 = .ok (.iload_n 3, 1) := by decide +kernel
theorem dX10_comment_22 : decode cX10_comment 22 = .ok (.invokevirtual 318, 3) := by decide +kernel
theorem dX10_comment_25 : decode cX10_comment 25 = .ok (.astore 5, 2) := by decide +kernel
theorem dX10_comment_27 : decode cX10_comment 27 = .ok (.aload 5, 2) := by decide +kernel
theorem dX10_comment_29 : decode cX10_comment 29 = .ok (.ifnull 23, 3) := by decide +kernel
theorem dX10_comment_32 : decode cX10_comment 32 = .ok (.aload 5, 2) := by decide +kernel
theorem dX10_comment_34 : decode cX10_comment 34 = .ok (.getfield 322, 3) := by decide +kernel
theorem dX10_comment_37 : decode cX10_comment 37 = .ok (.iload_n 1, 1) := by decide +kernel
theorem dX10_comment_38 : decode cX10_comment 38 = .ok (.if_icmp .eq 14, 3) := by decide +kernel
theorem dX10_comment_41 : decode cX10_comment 41 = .ok (.new 66, 3) := by decide +kernel
theorem dX10_comment_44 : decode cX10_comment 44 = .ok (.dup, 1) := by decide +kernel
theorem dX10_comment_45 : decode cX10_comment 45 = .ok (.ldc_w 325, 3) := by decide +kernel
theorem dX10_comment_48 : decode cX10_comment 48 = .ok (.invokespecial 70, 3) := by decide +kernel
theorem dX10_comment_51 : decode cX10_comment 51 = .ok (.athrow, 1) := by decide +kernel
theorem dX10_comment_52 : decode cX10_comment 52 = .ok (.aload_n 0, 1) := by decide +kernel
theorem dX10_comment_53 : decode cX10_comment 53 = .ok (.getfield 327, 3) := by decide +kernel
theorem dX10_comment_56 : decode cX10_comment 56 = .ok (.bipush 60, 2) := by decide +kernel
theorem dX10_comment_58 : decode cX10_comment 58 = .ok (.if_icmp .ge 15, 3) := by decide +kernel
theorem dX10_comment_61 : decode cX10_comment 61 = .ok (.aload_n 0, 1) := by decide +kernel
theorem dX10_comment_62 : decode cX10_comment 62 = .ok (.aload 4, 2) := by decide +kernel
theorem dX10_comment_64 : decode cX10_comment 64 = .ok (.iload_n 2, 1) := by decide +kernel
theorem dX10_comment_65 : decode cX10_comment 65 = .ok (.aload 5, 2) := by decide +kernel
theorem dX10_comment_67 : decode cX10_comment 67 = .ok (.invokevirtual 330, 3) := by decide +kernel
theorem dX10_comment_70 : decode cX10_comment 70 = .ok (.ifCond .ne 14, 3) := by decide +kernel
theorem dX10_comment_73 : decode cX10_comment 73 = .ok (.new 77, 3) := by decide +kernel
theorem dX10_comment_76 : decode cX10_comment 76 = .ok (.dup, 1) := by decide +kernel
theorem dX10_comment_77 : decode cX10_comment 77 = .ok (.ldc_w 334, 3) := by decide +kernel
theorem dX10_comment_80 : decode cX10_comment 80 = .ok (.invokespecial 81, 3) := by decide +kernel
theorem dX10_comment_83 : decode cX10_comment 83 = .ok (.athrow, 1) := by decide +kernel
theorem dX10_comment_84 : decode cX10_comment 84 = .ok (.aload 4, 2) := by decide +kernel
theorem dX10_comment_86 : decode cX10_comment 86 = .ok (.getfield 315, 3) := by decide +kernel
theorem dX10_comment_89 : decode cX10_comment 89 = .ok (.ifCond .eq 16, 3) := by decide +kernel
theorem dX10_comment_92 : decode cX10_comment 92 = .ok (.aload 4, 2) := by decide +kernel
theorem dX10_comment_94 : decode cX10_comment 94 = .ok (.iload_n 2, 1) := by decide +kernel
theorem dX10_comment_95 : decode cX10_comment 95 = .ok (.invokevirtual 125, 3) := by decide +kernel
theorem dX10_comment_98 : decode cX10_comment 98 = .ok (.ifCond .ne 7, 3) := by decide +kernel
theorem dX10_comment_101 : decode cX10_comment 101 = .ok (.iconst 1, 1) := by decide +kernel
theorem dX10_comment_102 : decode cX10_comment 102 = .ok (.goto 4, 3) := by decide +kernel
theorem dX10_comment_105 : decode cX10_comment 105 = .ok (.iconst 0, 1) := by decide +kernel
theorem dX10_comment_106 : decode cX10_comment 106 = .ok (.istore 6, 2) := by decide +kernel
theorem dX10_comment_108 : decode cX10_comment 108 = .ok (.aload_n 0, 1) := by decide +kernel
theorem dX10_comment_109 : decode cX10_comment 109 = .ok (.getfield 61, 3) := by decide +kernel
theorem dX10_comment_112 : decode cX10_comment 112 = .ok (.aload_n 0, 1) := by decide +kernel
theorem dX10_comment_113 : decode cX10_comment 113 = .ok (.getfield 327, 3) := by decide +kernel
theorem dX10_comment_116 : decode cX10_comment 116 = .ok (.new 59, 3) := by decide +kernel
theorem dX10_comment_119 : decode cX10_comment 119 = .ok (.dup, 1) := by decide +kernel
theorem dX10_comment_120 : decode cX10_comment 120 = .ok (.iload_n 1, 1) := by decide +kernel
theorem dX10_comment_121 : decode cX10_comment 121 = .ok (.iload_n 2, 1) := by decide +kernel
theorem dX10_comment_122 : decode cX10_comment 122 = .ok (.aload 5, 2) := by decide +kernel
theorem dX10_comment_124 : decode cX10_comment 124 = .ok (.iload 6, 2) := by decide +kernel
theorem dX10_comment_126 : decode cX10_comment 126 = .ok (.invokespecial 336, 3) := by decide +kernel
theorem dX10_comment_129 : decode cX10_comment 129 = .ok (.aastore, 1) := by decide +kernel
theorem dX10_comment_130 : decode cX10_comment 130 = .ok (.aload_n 0, 1) := by decide +kernel
theorem dX10_comment_131 : decode cX10_comment 131 = .ok (.dup, 1) := by decide +kernel
theorem dX10_comment_132 : decode cX10_comment 132 = .ok (.getfield 327, 3) := by decide +kernel
theorem dX10_comment_135 : decode cX10_comment 135 = .ok (.iconst 1, 1) := by decide +kernel
theorem dX10_comment_136 : decode cX10_comment 136 = .ok (.iadd, 1) := by decide +kernel
theorem dX10_comment_137 : decode cX10_comment 137 = .ok (.putfield 327, 3) := by decide +kernel
theorem dX10_comment_140 : decode cX10_comment 140 = .ok (.aload_n 0, 1) := by decide +kernel
theorem dX10_comment_141 : decode cX10_comment 141 = .ok (.getfield 327, 3) := by decide +kernel
theorem dX10_comment_144 : decode cX10_comment 144 = .ok (.iconst 1, 1) := by decide +kernel
theorem dX10_comment_145 : decode cX10_comment 145 = .ok (.isub, 1) := by decide +kernel
theorem dX10_comment_146 : decode cX10_comment 146 = .ok (.ireturn, 1) := by decide +kernel
abbrev m_X10_comment : am_M := (yX10_comment, cX10_comment, 7, some .int, [])
def f_X10_comment_106  (a0 : Nat × Nat) (x1 : Int32) (x2 : Int32) (x5 : Option (Nat × Nat)) (s0 : Int32) (h : am_H) : am_R := m_gR (some a0) 10 11 h fun o18 => m_gI (some a0) 10 12 h fun v19 => m_new 30 6 h fun a20 h21 => m_bW (f_X1_init a20 x1 x2 x5 s0 h21) fun h22 => m_sR o18 7 1 v19 (some a20) h22 fun h24 => m_gI (some a0) 10 12 h24 fun v25 => m_pI (some a0) 10 12 (v25 + (1 : Int32)) h24 fun h26 => m_gI (some a0) 10 12 h26 fun v27 => m_ri h26 (v27 - (1 : Int32))
theorem t_X10_comment_106 (d : Nat) (hd : 8 ≤ d)  (a0 : Nat × Nat) (x1 : Int32) (x2 : Int32) (x5 : Option (Nat × Nat)) (s0 : Int32) (h : am_H) : Sim m_X10_comment d 106 [some (.inr (.inr (some a0))), some (.inl x1), some (.inl x2), none, none, some (.inr (.inr x5)), none] [.inl s0] h (f_X10_comment_106  a0 x1 x2 x5 s0 h) := by
  unfold f_X10_comment_106
  refine sim_istore dX10_comment_106 (Nat.le_of_ble_eq_true rfl) ?_
  refine sim_aload_n dX10_comment_108 rfl ?_
  refine sim_gR 10 11 dX10_comment_109 rfl wf_RX10_61 (Nat.le_of_ble_eq_true rfl) rfl (fun o18 => ?_)
  refine sim_aload_n dX10_comment_112 rfl ?_
  refine sim_gI 10 12 dX10_comment_113 rfl wf_RX10_327 (Nat.le_of_ble_eq_true rfl) rfl (fun v19 => ?_)
  refine sim_nw 30 1 6 dX10_comment_116 rfl rfl wc_RX10_59 wi_RX1 wz_RX1 (fun a20 h21 => ?_)
  refine sim_dup_r dX10_comment_119 ?_
  refine sim_iload_n dX10_comment_120 rfl ?_
  refine sim_iload_n dX10_comment_121 rfl ?_
  refine sim_aload dX10_comment_122 rfl ?_
  refine sim_iload dX10_comment_124 rfl ?_
  refine sim_ctor (d - 1) dX10_comment_126 (k_X1_init (d - 1) (by omega) _ _ _ _ _ _) q_X1_init wm_RX10_336 rfl rfl (by omega) (Nat.le_of_ble_eq_true rfl) am_nW am_xW (am_rW fun h22 => ?_)
  refine sim_sR 7 rfl dX10_comment_129 (fun h24 => ?_)
  refine sim_aload_n dX10_comment_130 rfl ?_
  refine sim_dup_r dX10_comment_131 ?_
  refine sim_gI 10 12 dX10_comment_132 rfl wf_RX10_327 (Nat.le_of_ble_eq_true rfl) rfl (fun v25 => ?_)
  refine sim_iconst (1) dX10_comment_135 (by decide +kernel) ?_
  refine sim_iadd dX10_comment_136 ?_
  refine sim_pI 10 12 dX10_comment_137 rfl wf_RX10_327 (Nat.le_of_ble_eq_true rfl) rfl (Or.inl rfl) rfl (fun h26 => ?_)
  refine sim_aload_n dX10_comment_140 rfl ?_
  refine sim_gI 10 12 dX10_comment_141 rfl wf_RX10_327 (Nat.le_of_ble_eq_true rfl) rfl (fun v27 => ?_)
  refine sim_iconst (1) dX10_comment_144 (by decide +kernel) ?_
  refine sim_isub dX10_comment_145 ?_
  exact sim_iret dX10_comment_146 rfl
def f_X10_comment_105  (a0 : Nat × Nat) (x1 : Int32) (x2 : Int32) (x5 : Option (Nat × Nat)) (h : am_H) : am_R := f_X10_comment_106 a0 x1 x2 x5 (0 : Int32) h
theorem t_X10_comment_105 (d : Nat) (hd : 8 ≤ d)  (a0 : Nat × Nat) (x1 : Int32) (x2 : Int32) (x5 : Option (Nat × Nat)) (h : am_H) : Sim m_X10_comment d 105 [some (.inr (.inr (some a0))), some (.inl x1), some (.inl x2), none, none, some (.inr (.inr x5)), none] [] h (f_X10_comment_105  a0 x1 x2 x5 h) := by
  unfold f_X10_comment_105
  refine sim_iconst (0) dX10_comment_105 (by decide +kernel) ?_
  exact sim_lv (am_leS (am_leS (am_leS (am_leN (am_leN (am_leS (am_leN am_leT))))))) (t_X10_comment_106 d (by omega) _ _ _ _ _ _)
def f_X10_comment_73   (h : am_H) : am_R := m_ex h 2
theorem t_X10_comment_73 (d : Nat) (hd : 8 ≤ d)   (h : am_H) : Sim m_X10_comment d 73 [none, none, none, none, none, none, none] [] h (f_X10_comment_73   h) := by
  unfold f_X10_comment_73
  exact sim_throwW 2 (by decide) dX10_comment_73 dX10_comment_76 dX10_comment_77 dX10_comment_80 dX10_comment_83 wx_RX10_77 wy_2 ws_RX10_334 at_RX10_81 gd_RX10_81 (by omega) (Nat.le_of_ble_eq_true rfl)
def f_X10_comment_52  (a0 : Nat × Nat) (x1 : Int32) (x2 : Int32) (x4 : Option (Nat × Nat)) (x5 : Option (Nat × Nat)) (h : am_H) : am_R := m_gI (some a0) 10 12 h fun v10 => if (60 : Int32) ≤ v10 then (f_X10_comment_73 h) else (m_ao (some a0) 10 fun a13 => m_bI (f_X10_mayComment a13 x4 x2 x5 h) fun h11 v12 => if v12 = 0 then (f_X10_comment_73 h11) else (m_gI x4 9 10 h11 fun v14 => if v14 = 0 then (f_X10_comment_105 a0 x1 x2 x5 h11) else (m_ao x4 9 fun a17 => m_bI (f_X9_isOwnedBy a17 x2 h11) fun h15 v16 => if v16 = 0 then (f_X10_comment_106 a0 x1 x2 x5 (1 : Int32) h15) else (f_X10_comment_105 a0 x1 x2 x5 h15))))
theorem t_X10_comment_52 (d : Nat) (hd : 8 ≤ d)  (a0 : Nat × Nat) (x1 : Int32) (x2 : Int32) (x4 : Option (Nat × Nat)) (x5 : Option (Nat × Nat)) (h : am_H) : Sim m_X10_comment d 52 [some (.inr (.inr (some a0))), some (.inl x1), some (.inl x2), none, some (.inr (.inr x4)), some (.inr (.inr x5)), none] [] h (f_X10_comment_52  a0 x1 x2 x4 x5 h) := by
  unfold f_X10_comment_52
  refine sim_aload_n dX10_comment_52 rfl ?_
  refine sim_gI 10 12 dX10_comment_53 rfl wf_RX10_327 (Nat.le_of_ble_eq_true rfl) rfl (fun v10 => ?_)
  refine sim_bipush (60) dX10_comment_56 (by decide +kernel) ?_
  refine sim_ic_ge 73 dX10_comment_58 (by decide) (fun c => ?_) (fun c => ?_)
  · exact sim_lv (am_leN (am_leN (am_leN (am_leN (am_leN (am_leN (am_leN am_leT))))))) (t_X10_comment_73 d (by omega) _)
  · refine sim_aload_n dX10_comment_61 rfl ?_
    refine sim_aload dX10_comment_62 rfl ?_
    refine sim_iload_n dX10_comment_64 rfl ?_
    refine sim_aload dX10_comment_65 rfl ?_
    refine sim_ao3 (fun a13 e => ?_)
    refine sim_virt (d - 1) e dX10_comment_67 (k_X10_mayComment (d - 1) (by omega) _ _ _ _ _) q_X10_mayComment rfl rfl wm_RX10_330 rfl rfl (by omega) (Nat.le_of_ble_eq_true rfl) am_nI (am_rI fun h11 v12 => ?_) am_eI
    refine sim_if_ne 84 dX10_comment_70 (by decide) (fun c => ?_) (fun c => ?_)
    · refine sim_aload dX10_comment_84 rfl ?_
      refine sim_gI 9 10 dX10_comment_86 rfl wf_RX10_315 (Nat.le_of_ble_eq_true rfl) rfl (fun v14 => ?_)
      refine sim_if_eq 105 dX10_comment_89 (by decide) (fun c => ?_) (fun c => ?_)
      · exact sim_lv (am_leS (am_leS (am_leS (am_leN (am_leN (am_leS (am_leN am_leT))))))) (t_X10_comment_105 d (by omega) _ _ _ _ _)
      · refine sim_aload dX10_comment_92 rfl ?_
        refine sim_iload_n dX10_comment_94 rfl ?_
        refine sim_ao1 (fun a17 e => ?_)
        refine sim_virt (d - 1) e dX10_comment_95 (k_X9_isOwnedBy (d - 1) (by omega) _ _ _) q_X9_isOwnedBy rfl rfl wm_RX10_125 rfl rfl (by omega) (Nat.le_of_ble_eq_true rfl) am_nI (am_rI fun h15 v16 => ?_) am_eI
        refine sim_if_ne 105 dX10_comment_98 (by decide) (fun c => ?_) (fun c => ?_)
        · exact sim_lv (am_leS (am_leS (am_leS (am_leN (am_leN (am_leS (am_leN am_leT))))))) (t_X10_comment_105 d (by omega) _ _ _ _ _)
        · refine sim_iconst (1) dX10_comment_101 (by decide +kernel) ?_
          refine sim_goto 106 dX10_comment_102 (by decide) ?_
          exact sim_lv (am_leS (am_leS (am_leS (am_leN (am_leN (am_leS (am_leN am_leT))))))) (t_X10_comment_106 d (by omega) _ _ _ _ _ _)
    · exact sim_lv (am_leN (am_leN (am_leN (am_leN (am_leN (am_leN (am_leN am_leT))))))) (t_X10_comment_73 d (by omega) _)
def f_X10_comment_25  (a0 : Nat × Nat) (x1 : Int32) (x2 : Int32) (x4 : Option (Nat × Nat)) (s0 : Option (Nat × Nat)) (h : am_H) : am_R := if s0 = none then (f_X10_comment_52 a0 x1 x2 x4 s0 h) else (m_gI s0 1 0 h fun v9 => if v9 = x1 then (f_X10_comment_52 a0 x1 x2 x4 s0 h) else (m_ex h 1))
theorem t_X10_comment_25 (d : Nat) (hd : 8 ≤ d)  (a0 : Nat × Nat) (x1 : Int32) (x2 : Int32) (x4 : Option (Nat × Nat)) (s0 : Option (Nat × Nat)) (h : am_H) : Sim m_X10_comment d 25 [some (.inr (.inr (some a0))), some (.inl x1), some (.inl x2), none, some (.inr (.inr x4)), none, none] [.inr (.inr s0)] h (f_X10_comment_25  a0 x1 x2 x4 s0 h) := by
  unfold f_X10_comment_25
  refine sim_astore dX10_comment_25 (Nat.le_of_ble_eq_true rfl) ?_
  refine sim_aload dX10_comment_27 rfl ?_
  refine sim_ifnull 52 dX10_comment_29 (by decide) (fun c => ?_) (fun c => ?_)
  · exact sim_lv (am_leS (am_leS (am_leS (am_leN (am_leS (am_leS (am_leN am_leT))))))) (t_X10_comment_52 d (by omega) _ _ _ _ _ _)
  · refine sim_aload dX10_comment_32 rfl ?_
    refine sim_gI 1 0 dX10_comment_34 rfl wf_RX10_322 (Nat.le_of_ble_eq_true rfl) rfl (fun v9 => ?_)
    refine sim_iload_n dX10_comment_37 rfl ?_
    refine sim_ic_eq 52 dX10_comment_38 (by decide) (fun c => ?_) (fun c => ?_)
    · exact sim_lv (am_leS (am_leS (am_leS (am_leN (am_leS (am_leS (am_leN am_leT))))))) (t_X10_comment_52 d (by omega) _ _ _ _ _ _)
    · exact sim_throwW 1 (by decide) dX10_comment_41 dX10_comment_44 dX10_comment_45 dX10_comment_48 dX10_comment_51 wx_RX10_66 wy_1 ws_RX10_325 at_RX10_70 gd_RX10_70 (by omega) (Nat.le_of_ble_eq_true rfl)
def f_X10_comment (a0 : Nat × Nat) (x1 : Int32) (x2 : Int32) (x3 : Int32) (h : am_H) : am_R := m_ao (some a0) 10 fun a3 => m_bR (f_X10_workAt a3 x1 h) fun h1 o2 => m_bV (f_X10_checkFace x2 h1) fun h4 => if x3 = (-1 : Int32) then (f_X10_comment_25 a0 x1 x2 o2 none h4) else (m_ao (some a0) 10 fun a8 => m_bR (f_X10_commentAt a8 x3 h4) fun h6 o7 => f_X10_comment_25 a0 x1 x2 o2 o7 h6)
theorem k_X10_comment (d : Nat) (hd : 8 ≤ d) (a0 : Nat × Nat) (x1 : Int32) (x2 : Int32) (x3 : Int32) (h : am_H) : am_Con m_X10_comment d [.inr (.inr (some a0)), .inl x1, .inl x2, .inl x3] h (f_X10_comment a0 x1 x2 x3 h) := am_con (by decide +kernel) (Nat.le_of_ble_eq_true rfl) (by
  unfold f_X10_comment
  refine sim_aload_n dX10_comment_0 rfl ?_
  refine sim_iload_n dX10_comment_1 rfl ?_
  refine sim_ao1 (fun a3 e => ?_)
  refine sim_virt (d - 1) e dX10_comment_2 (k_X10_workAt (d - 1) (by omega) _ _ _) q_X10_workAt rfl rfl wm_RX10_112 rfl rfl (by omega) (Nat.le_of_ble_eq_true rfl) am_nR (am_rR fun h1 o2 => ?_) am_eR
  refine sim_astore dX10_comment_5 (Nat.le_of_ble_eq_true rfl) ?_
  refine sim_iload_n dX10_comment_7 rfl ?_
  refine sim_static (d - 1) dX10_comment_8 (k_X10_checkFace (d - 1) (by omega) _ _) q_X10_checkFace wm_RX10_99 rfl rfl (by omega) (Nat.le_of_ble_eq_true rfl) am_nV (am_rV fun h4 => ?_) am_eV
  refine sim_iload_n dX10_comment_11 rfl ?_
  refine sim_iconst (-1) dX10_comment_12 (by decide +kernel) ?_
  refine sim_ic_ne 20 dX10_comment_13 (by decide) (fun c => ?_) (fun c => ?_)
  · refine sim_aload_n dX10_comment_20 rfl ?_
    refine sim_iload_n dX10_comment_21 rfl ?_
    refine sim_ao1 (fun a8 e => ?_)
    refine sim_virt (d - 1) e dX10_comment_22 (k_X10_commentAt (d - 1) (by omega) _ _ _) q_X10_commentAt rfl rfl wm_RX10_318 rfl rfl (by omega) (Nat.le_of_ble_eq_true rfl) am_nR (am_rR fun h6 o7 => ?_) am_eR
    exact sim_lv (am_leS (am_leS (am_leS (am_leN (am_leS (am_leN (am_leN am_leT))))))) (t_X10_comment_25 d (by omega) _ _ _ _ _ _)
  · refine sim_null dX10_comment_16 ?_
    refine sim_goto 25 dX10_comment_17 (by decide) ?_
    exact sim_lv (am_leS (am_leS (am_leS (am_leN (am_leS (am_leN (am_leN am_leT))))))) (t_X10_comment_25 d (by omega) _ _ _ _ _ _))
theorem q_X10_comment : am_Cal m_X10_comment 3 2 := ⟨am_mem 968 (w := Cond.code yX10_comment cX10_comment 7 (some .int)) (by decide +kernel) rfl, am_mem 56 (w := Cond.initialized RX10) (by decide +kernel) rfl, fun z => absurd z (by decide), fun _ => am_mem 966 (w := Cond.instanceMethod yX10_comment) (by decide +kernel) rfl, fun z => absurd z (by decide), fun _ => am_mem 967 (w := Cond.selects RX10 yX10_comment yX10_comment) (by decide +kernel) rfl, by decide +kernel, by decide +kernel, Nat.le_of_ble_eq_true rfl⟩
theorem dL_comment_0 : decode cL_comment 0 = .ok (.aload 4, 2) := by decide +kernel
theorem dL_comment_2 : decode cL_comment 2 = .ok (.iconst 0, 1) := by decide +kernel
theorem dL_comment_3 : decode cL_comment 3 = .ok (.aload_n 0, 1) := by decide +kernel
theorem dL_comment_4 : decode cL_comment 4 = .ok (.iload_n 1, 1) := by decide +kernel
theorem dL_comment_5 : decode cL_comment 5 = .ok (.iload_n 2, 1) := by decide +kernel
theorem dL_comment_6 : decode cL_comment 6 = .ok (.iload_n 3, 1) := by decide +kernel
theorem dL_comment_7 : decode cL_comment 7 = .ok (.invokevirtual 106, 3) := by decide +kernel
theorem dL_comment_10 : decode cL_comment 10 = .ok (.i2l, 1) := by decide +kernel
theorem dL_comment_11 : decode cL_comment 11 = .ok (.lastore, 1) := by decide +kernel
theorem dL_comment_12 : decode cL_comment 12 = .ok (.goto 15, 3) := by decide +kernel
theorem dL_comment_15 : decode cL_comment 15 = .ok (.astore 5, 2) := by decide +kernel
theorem dL_comment_17 : decode cL_comment 17 = .ok (.iconst 1, 1) := by decide +kernel
theorem dL_comment_18 : decode cL_comment 18 = .ok (.ireturn, 1) := by decide +kernel
theorem dL_comment_19 : decode cL_comment 19 = .ok (.astore 5, 2) := by decide +kernel
theorem dL_comment_21 : decode cL_comment 21 = .ok (.iconst 2, 1) := by decide +kernel
theorem dL_comment_22 : decode cL_comment 22 = .ok (.ireturn, 1) := by decide +kernel
theorem dL_comment_23 : decode cL_comment 23 = .ok (.astore 5, 2) := by decide +kernel
theorem dL_comment_25 : decode cL_comment 25 = .ok (.iconst 3, 1) := by decide +kernel
theorem dL_comment_26 : decode cL_comment 26 = .ok (.ireturn, 1) := by decide +kernel
theorem dL_comment_27 : decode cL_comment 27 = .ok (.iconst 0, 1) := by decide +kernel
theorem dL_comment_28 : decode cL_comment 28 = .ok (.ireturn, 1) := by decide +kernel
abbrev m_L_comment : am_M := (yL_comment, cL_comment, 6, some .int, [(0, 12, 15, 21), (0, 12, 19, 13), (0, 12, 23, 15)])
def f_L_comment (x0 : Option (Nat × Nat)) (x1 : Int32) (x2 : Int32) (x3 : Int32) (x4 : Option (Nat × Nat)) (h : am_H) : am_R := m_ao x0 10 fun a3 => m_bIx (f_X10_comment a3 x1 x2 x3 h) (fun h1 v2 => m_sL x4 (0 : Int32) (Int32.toInt64 v2) h1 fun h6 => m_ri h6 (0 : Int32)) (fun h4 e5 => if e5 = 0 then (m_ri h4 (1 : Int32)) else if e5 = 1 then (m_ri h4 (2 : Int32)) else if e5 = 2 then (m_ri h4 (3 : Int32)) else none)
theorem k_L_comment (d : Nat) (hd : 9 ≤ d) (x0 : Option (Nat × Nat)) (x1 : Int32) (x2 : Int32) (x3 : Int32) (x4 : Option (Nat × Nat)) (h : am_H) : am_Con m_L_comment d [.inr (.inr x0), .inl x1, .inl x2, .inl x3, .inr (.inr x4)] h (f_L_comment x0 x1 x2 x3 x4 h) := am_conX (by decide +kernel) (Nat.le_of_ble_eq_true rfl) (by
  unfold f_L_comment
  refine sim_aload dL_comment_0 rfl ?_
  refine sim_iconst (0) dL_comment_2 (by decide +kernel) ?_
  refine sim_aload_n dL_comment_3 rfl ?_
  refine sim_iload_n dL_comment_4 rfl ?_
  refine sim_iload_n dL_comment_5 rfl ?_
  refine sim_iload_n dL_comment_6 rfl ?_
  refine sim_ao3 (fun a3 e => ?_)
  refine sim_virt (d - 1) e dL_comment_7 (k_X10_comment (d - 1) (by omega) _ _ _ _ _) q_X10_comment rfl rfl wm_RL_106 rfl rfl (by omega) (Nat.le_of_ble_eq_true rfl) am_nIx (am_rIx fun h1 v2 => ?_) (am_eIx fun h9 k9 => ?_)
  · refine sim_i2l dL_comment_10 ?_
    refine sim_sL dL_comment_11 (fun h6 => ?_)
    refine sim_goto 27 dL_comment_12 (by decide) ?_
    refine sim_iconst (0) dL_comment_27 (by decide +kernel) ?_
    exact sim_iret dL_comment_28 rfl
  · refine simx_case (fun cx => ?_) (fun cx => ?_)
    · subst cx
      refine simx_catch [] (0, 12, 15, 21) [(0, 12, 19, 13), (0, 12, 23, 15)] rfl ⟨by decide, by decide⟩ (by decide) wx_RL_21 wca_0 (by decide) (fun z hz => by cases hz) ?_
      refine sim_astore dL_comment_15 (Nat.le_of_ble_eq_true rfl) ?_
      refine sim_iconst (1) dL_comment_17 (by decide +kernel) ?_
      exact sim_iret dL_comment_18 rfl
    refine simx_case (fun cx => ?_) (fun cx => ?_)
    · subst cx
      refine simx_catch [(0, 12, 15, 21)] (0, 12, 19, 13) [(0, 12, 23, 15)] rfl ⟨by decide, by decide⟩ (by decide) wx_RL_13 wca_1 (by decide) (fun z hz => by simp only [List.mem_cons, List.not_mem_nil, or_false] at hz; subst hz; exact ⟨by decide, 0, _, by decide, by decide, wx_RL_21⟩) ?_
      refine sim_astore dL_comment_19 (Nat.le_of_ble_eq_true rfl) ?_
      refine sim_iconst (2) dL_comment_21 (by decide +kernel) ?_
      exact sim_iret dL_comment_22 rfl
    refine simx_case (fun cx => ?_) (fun cx => ?_)
    · subst cx
      refine simx_catch [(0, 12, 15, 21), (0, 12, 19, 13)] (0, 12, 23, 15) [] rfl ⟨by decide, by decide⟩ (by decide) wx_RL_15 wca_2 (by decide) (fun z hz => by
        simp only [List.mem_cons, List.not_mem_nil, or_false] at hz
        rcases hz with rfl | rfl
        · exact ⟨by decide, 0, _, by decide, by decide, wx_RL_21⟩
        · exact ⟨by decide, 1, _, by decide, by decide, wx_RL_13⟩) ?_
      refine sim_astore dL_comment_23 (Nat.le_of_ble_eq_true rfl) ?_
      refine sim_iconst (3) dL_comment_25 (by decide +kernel) ?_
      exact sim_iret dL_comment_26 rfl
    exact simx_none)
theorem q_L_comment : am_Cal m_L_comment 5 0 := ⟨am_mem 964 (w := Cond.codeWith yL_comment cL_comment 6 (some .int) [(0, 12, 15, 21), (0, 12, 19, 13), (0, 12, 23, 15)]) (by decide +kernel) rfl, am_mem 55 (w := Cond.initialized RL) (by decide +kernel) rfl, fun _ => am_mem 963 (w := Cond.static yL_comment) (by decide +kernel) rfl, fun z => absurd rfl z, fun z => absurd z (by decide), fun z => absurd z (by decide), by decide +kernel, by decide +kernel, Nat.le_of_ble_eq_true rfl⟩
theorem dJ6_bitCount_0f7a4_0 : decode cJ6_bitCount_0f7a4 0 = .ok (.iload_n 0, 1) := by decide +kernel
theorem dJ6_bitCount_0f7a4_1 : decode cJ6_bitCount_0f7a4 1 = .ok (.iload_n 0, 1) := by decide +kernel
theorem dJ6_bitCount_0f7a4_2 : decode cJ6_bitCount_0f7a4 2 = .ok (.iconst 1, 1) := by decide +kernel
theorem dJ6_bitCount_0f7a4_3 : decode cJ6_bitCount_0f7a4 3 = .ok (.iushr, 1) := by decide +kernel
theorem dJ6_bitCount_0f7a4_4 : decode cJ6_bitCount_0f7a4 4 = .ok (.ldc_w 265, 3) := by decide +kernel
theorem dJ6_bitCount_0f7a4_7 : decode cJ6_bitCount_0f7a4 7 = .ok (.iand, 1) := by decide +kernel
theorem dJ6_bitCount_0f7a4_8 : decode cJ6_bitCount_0f7a4 8 = .ok (.isub, 1) := by decide +kernel
theorem dJ6_bitCount_0f7a4_9 : decode cJ6_bitCount_0f7a4 9 = .ok (.istore_n 0, 1) := by decide +kernel
theorem dJ6_bitCount_0f7a4_10 : decode cJ6_bitCount_0f7a4 10 = .ok (.iload_n 0, 1) := by decide +kernel
theorem dJ6_bitCount_0f7a4_11 : decode cJ6_bitCount_0f7a4 11 = .ok (.ldc_w 266, 3) := by decide +kernel
theorem dJ6_bitCount_0f7a4_14 : decode cJ6_bitCount_0f7a4 14 = .ok (.iand, 1) := by decide +kernel
theorem dJ6_bitCount_0f7a4_15 : decode cJ6_bitCount_0f7a4 15 = .ok (.iload_n 0, 1) := by decide +kernel
theorem dJ6_bitCount_0f7a4_16 : decode cJ6_bitCount_0f7a4 16 = .ok (.iconst 2, 1) := by decide +kernel
theorem dJ6_bitCount_0f7a4_17 : decode cJ6_bitCount_0f7a4 17 = .ok (.iushr, 1) := by decide +kernel
theorem dJ6_bitCount_0f7a4_18 : decode cJ6_bitCount_0f7a4 18 = .ok (.ldc_w 266, 3) := by decide +kernel
theorem dJ6_bitCount_0f7a4_21 : decode cJ6_bitCount_0f7a4 21 = .ok (.iand, 1) := by decide +kernel
theorem dJ6_bitCount_0f7a4_22 : decode cJ6_bitCount_0f7a4 22 = .ok (.iadd, 1) := by decide +kernel
theorem dJ6_bitCount_0f7a4_23 : decode cJ6_bitCount_0f7a4 23 = .ok (.istore_n 0, 1) := by decide +kernel
theorem dJ6_bitCount_0f7a4_24 : decode cJ6_bitCount_0f7a4 24 = .ok (.iload_n 0, 1) := by decide +kernel
theorem dJ6_bitCount_0f7a4_25 : decode cJ6_bitCount_0f7a4 25 = .ok (.iload_n 0, 1) := by decide +kernel
theorem dJ6_bitCount_0f7a4_26 : decode cJ6_bitCount_0f7a4 26 = .ok (.iconst 4, 1) := by decide +kernel
theorem dJ6_bitCount_0f7a4_27 : decode cJ6_bitCount_0f7a4 27 = .ok (.iushr, 1) := by decide +kernel
theorem dJ6_bitCount_0f7a4_28 : decode cJ6_bitCount_0f7a4 28 = .ok (.iadd, 1) := by decide +kernel
theorem dJ6_bitCount_0f7a4_29 : decode cJ6_bitCount_0f7a4 29 = .ok (.ldc_w 267, 3) := by decide +kernel
theorem dJ6_bitCount_0f7a4_32 : decode cJ6_bitCount_0f7a4 32 = .ok (.iand, 1) := by decide +kernel
theorem dJ6_bitCount_0f7a4_33 : decode cJ6_bitCount_0f7a4 33 = .ok (.istore_n 0, 1) := by decide +kernel
theorem dJ6_bitCount_0f7a4_34 : decode cJ6_bitCount_0f7a4 34 = .ok (.iload_n 0, 1) := by decide +kernel
theorem dJ6_bitCount_0f7a4_35 : decode cJ6_bitCount_0f7a4 35 = .ok (.iload_n 0, 1) := by decide +kernel
theorem dJ6_bitCount_0f7a4_36 : decode cJ6_bitCount_0f7a4 36 = .ok (.bipush 8, 2) := by decide +kernel
theorem dJ6_bitCount_0f7a4_38 : decode cJ6_bitCount_0f7a4 38 = .ok (.iushr, 1) := by decide +kernel
theorem dJ6_bitCount_0f7a4_39 : decode cJ6_bitCount_0f7a4 39 = .ok (.iadd, 1) := by decide +kernel
theorem dJ6_bitCount_0f7a4_40 : decode cJ6_bitCount_0f7a4 40 = .ok (.istore_n 0, 1) := by decide +kernel
theorem dJ6_bitCount_0f7a4_41 : decode cJ6_bitCount_0f7a4 41 = .ok (.iload_n 0, 1) := by decide +kernel
theorem dJ6_bitCount_0f7a4_42 : decode cJ6_bitCount_0f7a4 42 = .ok (.iload_n 0, 1) := by decide +kernel
theorem dJ6_bitCount_0f7a4_43 : decode cJ6_bitCount_0f7a4 43 = .ok (.bipush 16, 2) := by decide +kernel
theorem dJ6_bitCount_0f7a4_45 : decode cJ6_bitCount_0f7a4 45 = .ok (.iushr, 1) := by decide +kernel
theorem dJ6_bitCount_0f7a4_46 : decode cJ6_bitCount_0f7a4 46 = .ok (.iadd, 1) := by decide +kernel
theorem dJ6_bitCount_0f7a4_47 : decode cJ6_bitCount_0f7a4 47 = .ok (.istore_n 0, 1) := by decide +kernel
theorem dJ6_bitCount_0f7a4_48 : decode cJ6_bitCount_0f7a4 48 = .ok (.iload_n 0, 1) := by decide +kernel
theorem dJ6_bitCount_0f7a4_49 : decode cJ6_bitCount_0f7a4 49 = .ok (.bipush 63, 2) := by decide +kernel
theorem dJ6_bitCount_0f7a4_51 : decode cJ6_bitCount_0f7a4 51 = .ok (.iand, 1) := by decide +kernel
theorem dJ6_bitCount_0f7a4_52 : decode cJ6_bitCount_0f7a4 52 = .ok (.ireturn, 1) := by decide +kernel
abbrev m_J6_bitCount_0f7a4 : am_M := (yJ6_bitCount_0f7a4, cJ6_bitCount_0f7a4, 1, some .int, [])
def f_J6_bitCount_0f7a4 (x0 : Int32) (h : am_H) : am_R := m_ri h ((((((((x0 - ((m_ushr x0 (1 : Int32)) &&& (1431655765 : Int32))) &&& (858993459 : Int32)) + ((m_ushr (x0 - ((m_ushr x0 (1 : Int32)) &&& (1431655765 : Int32))) (2 : Int32)) &&& (858993459 : Int32))) + (m_ushr (((x0 - ((m_ushr x0 (1 : Int32)) &&& (1431655765 : Int32))) &&& (858993459 : Int32)) + ((m_ushr (x0 - ((m_ushr x0 (1 : Int32)) &&& (1431655765 : Int32))) (2 : Int32)) &&& (858993459 : Int32))) (4 : Int32))) &&& (252645135 : Int32)) + (m_ushr (((((x0 - ((m_ushr x0 (1 : Int32)) &&& (1431655765 : Int32))) &&& (858993459 : Int32)) + ((m_ushr (x0 - ((m_ushr x0 (1 : Int32)) &&& (1431655765 : Int32))) (2 : Int32)) &&& (858993459 : Int32))) + (m_ushr (((x0 - ((m_ushr x0 (1 : Int32)) &&& (1431655765 : Int32))) &&& (858993459 : Int32)) + ((m_ushr (x0 - ((m_ushr x0 (1 : Int32)) &&& (1431655765 : Int32))) (2 : Int32)) &&& (858993459 : Int32))) (4 : Int32))) &&& (252645135 : Int32)) (8 : Int32))) + (m_ushr ((((((x0 - ((m_ushr x0 (1 : Int32)) &&& (1431655765 : Int32))) &&& (858993459 : Int32)) + ((m_ushr (x0 - ((m_ushr x0 (1 : Int32)) &&& (1431655765 : Int32))) (2 : Int32)) &&& (858993459 : Int32))) + (m_ushr (((x0 - ((m_ushr x0 (1 : Int32)) &&& (1431655765 : Int32))) &&& (858993459 : Int32)) + ((m_ushr (x0 - ((m_ushr x0 (1 : Int32)) &&& (1431655765 : Int32))) (2 : Int32)) &&& (858993459 : Int32))) (4 : Int32))) &&& (252645135 : Int32)) + (m_ushr (((((x0 - ((m_ushr x0 (1 : Int32)) &&& (1431655765 : Int32))) &&& (858993459 : Int32)) + ((m_ushr (x0 - ((m_ushr x0 (1 : Int32)) &&& (1431655765 : Int32))) (2 : Int32)) &&& (858993459 : Int32))) + (m_ushr (((x0 - ((m_ushr x0 (1 : Int32)) &&& (1431655765 : Int32))) &&& (858993459 : Int32)) + ((m_ushr (x0 - ((m_ushr x0 (1 : Int32)) &&& (1431655765 : Int32))) (2 : Int32)) &&& (858993459 : Int32))) (4 : Int32))) &&& (252645135 : Int32)) (8 : Int32))) (16 : Int32))) &&& (63 : Int32))
theorem k_J6_bitCount_0f7a4 (d : Nat) (hd : 0 ≤ d) (x0 : Int32) (h : am_H) : am_Con m_J6_bitCount_0f7a4 d [.inl x0] h (f_J6_bitCount_0f7a4 x0 h) := am_con (by decide +kernel) (Nat.le_of_ble_eq_true rfl) (by
  unfold f_J6_bitCount_0f7a4
  refine sim_iload_n dJ6_bitCount_0f7a4_0 rfl ?_
  refine sim_iload_n dJ6_bitCount_0f7a4_1 rfl ?_
  refine sim_iconst (1) dJ6_bitCount_0f7a4_2 (by decide +kernel) ?_
  refine sim_iushr dJ6_bitCount_0f7a4_3 ?_
  refine sim_ldcw (1431655765) dJ6_bitCount_0f7a4_4 wk_RJ6_265 ?_
  refine sim_iand dJ6_bitCount_0f7a4_7 ?_
  refine sim_isub dJ6_bitCount_0f7a4_8 ?_
  refine sim_istore_n dJ6_bitCount_0f7a4_9 (Nat.le_of_ble_eq_true rfl) ?_
  refine sim_iload_n dJ6_bitCount_0f7a4_10 rfl ?_
  refine sim_ldcw (858993459) dJ6_bitCount_0f7a4_11 wk_RJ6_266 ?_
  refine sim_iand dJ6_bitCount_0f7a4_14 ?_
  refine sim_iload_n dJ6_bitCount_0f7a4_15 rfl ?_
  refine sim_iconst (2) dJ6_bitCount_0f7a4_16 (by decide +kernel) ?_
  refine sim_iushr dJ6_bitCount_0f7a4_17 ?_
  refine sim_ldcw (858993459) dJ6_bitCount_0f7a4_18 wk_RJ6_266 ?_
  refine sim_iand dJ6_bitCount_0f7a4_21 ?_
  refine sim_iadd dJ6_bitCount_0f7a4_22 ?_
  refine sim_istore_n dJ6_bitCount_0f7a4_23 (Nat.le_of_ble_eq_true rfl) ?_
  refine sim_iload_n dJ6_bitCount_0f7a4_24 rfl ?_
  refine sim_iload_n dJ6_bitCount_0f7a4_25 rfl ?_
  refine sim_iconst (4) dJ6_bitCount_0f7a4_26 (by decide +kernel) ?_
  refine sim_iushr dJ6_bitCount_0f7a4_27 ?_
  refine sim_iadd dJ6_bitCount_0f7a4_28 ?_
  refine sim_ldcw (252645135) dJ6_bitCount_0f7a4_29 wk_RJ6_267 ?_
  refine sim_iand dJ6_bitCount_0f7a4_32 ?_
  refine sim_istore_n dJ6_bitCount_0f7a4_33 (Nat.le_of_ble_eq_true rfl) ?_
  refine sim_iload_n dJ6_bitCount_0f7a4_34 rfl ?_
  refine sim_iload_n dJ6_bitCount_0f7a4_35 rfl ?_
  refine sim_bipush (8) dJ6_bitCount_0f7a4_36 (by decide +kernel) ?_
  refine sim_iushr dJ6_bitCount_0f7a4_38 ?_
  refine sim_iadd dJ6_bitCount_0f7a4_39 ?_
  refine sim_istore_n dJ6_bitCount_0f7a4_40 (Nat.le_of_ble_eq_true rfl) ?_
  refine sim_iload_n dJ6_bitCount_0f7a4_41 rfl ?_
  refine sim_iload_n dJ6_bitCount_0f7a4_42 rfl ?_
  refine sim_bipush (16) dJ6_bitCount_0f7a4_43 (by decide +kernel) ?_
  refine sim_iushr dJ6_bitCount_0f7a4_45 ?_
  refine sim_iadd dJ6_bitCount_0f7a4_46 ?_
  refine sim_istore_n dJ6_bitCount_0f7a4_47 (Nat.le_of_ble_eq_true rfl) ?_
  refine sim_iload_n dJ6_bitCount_0f7a4_48 rfl ?_
  refine sim_bipush (63) dJ6_bitCount_0f7a4_49 (by decide +kernel) ?_
  refine sim_iand dJ6_bitCount_0f7a4_51 ?_
  exact sim_iret dJ6_bitCount_0f7a4_52 rfl)
theorem q_J6_bitCount_0f7a4 : am_Cal m_J6_bitCount_0f7a4 1 0 := ⟨am_mem 352 (w := Cond.code yJ6_bitCount_0f7a4 cJ6_bitCount_0f7a4 1 (some .int)) (by decide +kernel) rfl, am_mem 72 (w := Cond.initialized RJ6) (by decide +kernel) rfl, fun _ => am_mem 351 (w := Cond.static yJ6_bitCount_0f7a4) (by decide +kernel) rfl, fun z => absurd rfl z, fun z => absurd z (by decide), fun z => absurd z (by decide), by decide +kernel, by decide +kernel, Nat.le_of_ble_eq_true rfl⟩
theorem dX3_firstDayOfAny_0 : decode cX3_firstDayOfAny 0 = .ok (.sipush 2001, 3) := by decide +kernel
theorem dX3_firstDayOfAny_3 : decode cX3_firstDayOfAny 3 = .ok (.istore_n 2, 1) := by decide +kernel
theorem dX3_firstDayOfAny_4 : decode cX3_firstDayOfAny 4 = .ok (.iconst 0, 1) := by decide +kernel
theorem dX3_firstDayOfAny_5 : decode cX3_firstDayOfAny 5 = .ok (.istore_n 3, 1) := by decide +kernel
theorem dX3_firstDayOfAny_6 : decode cX3_firstDayOfAny 6 = .ok (.iload_n 3, 1) := by decide +kernel
theorem dX3_firstDayOfAny_7 : decode cX3_firstDayOfAny 7 = .ok (.bipush 12, 2) := by decide +kernel
theorem dX3_firstDayOfAny_9 : decode cX3_firstDayOfAny 9 = .ok (.if_icmp .ge 28, 3) := by decide +kernel
theorem dX3_firstDayOfAny_12 : decode cX3_firstDayOfAny 12 = .ok (.iload_n 1, 1) := by decide +kernel
theorem dX3_firstDayOfAny_13 : decode cX3_firstDayOfAny 13 = .ok (.iload_n 3, 1) := by decide +kernel
theorem dX3_firstDayOfAny_14 : decode cX3_firstDayOfAny 14 = .ok (.invokestatic 27, 3) := by decide +kernel
theorem dX3_firstDayOfAny_17 : decode cX3_firstDayOfAny 17 = .ok (.ifCond .eq 14, 3) := by decide +kernel
theorem dX3_firstDayOfAny_20 : decode cX3_firstDayOfAny 20 = .ok (.iload_n 2, 1) := by decide +kernel
theorem dX3_firstDayOfAny_21 : decode cX3_firstDayOfAny 21 = .ok (.aload_n 0, 1) := by decide +kernel
theorem dX3_firstDayOfAny_22 : decode cX3_firstDayOfAny 22 = .ok (.getfield 15, 3) := by decide +kernel
theorem dX3_firstDayOfAny_25 : decode cX3_firstDayOfAny 25 = .ok (.iload_n 3, 1) := by decide +kernel
theorem dX3_firstDayOfAny_26 : decode cX3_firstDayOfAny 26 = .ok (.iaload, 1) := by decide +kernel
theorem dX3_firstDayOfAny_27 : decode cX3_firstDayOfAny 27 = .ok (.invokestatic 31, 3) := by decide +kernel
theorem dX3_firstDayOfAny_30 : decode cX3_firstDayOfAny 30 = .ok (.istore_n 2, 1) := by decide +kernel
theorem dX3_firstDayOfAny_31 : decode cX3_firstDayOfAny 31 = .ok (.iinc 3 1, 3) := by decide +kernel
theorem dX3_firstDayOfAny_34 : decode cX3_firstDayOfAny 34 = .ok (.goto (-28), 3) := by decide +kernel
theorem dX3_firstDayOfAny_37 : decode cX3_firstDayOfAny 37 = .ok (.iload_n 2, 1) := by decide +kernel
theorem dX3_firstDayOfAny_38 : decode cX3_firstDayOfAny 38 = .ok (.ireturn, 1) := by decide +kernel
abbrev m_X3_firstDayOfAny : am_M := (yX3_firstDayOfAny, cX3_firstDayOfAny, 4, some .int, [])
def f_X3_firstDayOfAny_31 (rc6 : Nat × Nat → Int32 → Int32 → Int32 → am_H → am_R) (a0 : Nat × Nat) (x1 : Int32) (x2 : Int32) (x3 : Int32) (h : am_H) : am_R := rc6 a0 x1 x2 (x3 + 1) h
theorem t_X3_firstDayOfAny_31 (d : Nat) (hd : 1 ≤ d) (rc6 : Nat × Nat → Int32 → Int32 → Int32 → am_H → am_R) (hrc6 : ∀ a0 x1 x2 x3 h, Sim m_X3_firstDayOfAny d 6 [some (.inr (.inr (some a0))), some (.inl x1), some (.inl x2), some (.inl x3)] [] h (rc6 a0 x1 x2 x3 h)) (a0 : Nat × Nat) (x1 : Int32) (x2 : Int32) (x3 : Int32) (h : am_H) : Sim m_X3_firstDayOfAny d 31 [some (.inr (.inr (some a0))), some (.inl x1), some (.inl x2), some (.inl x3)] [] h (f_X3_firstDayOfAny_31 rc6 a0 x1 x2 x3 h) := by
  unfold f_X3_firstDayOfAny_31
  refine sim_iinc (1) dX3_firstDayOfAny_31 rfl (by decide +kernel) (Nat.le_of_ble_eq_true rfl) ?_
  refine sim_goto 6 dX3_firstDayOfAny_34 (by decide) ?_
  exact sim_lv (am_leS (am_leS (am_leS (am_leS am_leT)))) (hrc6 _ _ _ _ _)
def f_X3_firstDayOfAny_6  : Nat → Nat × Nat → Int32 → Int32 → Int32 → am_H → am_R
  | 0, _, _, _, _, _ => none
  | n + 1, a0, x1, x2, x3, h => if (12 : Int32) ≤ x3 then (m_ri h x2) else (m_bJ (f_X10_has x1 x3 h) fun h1 v2 => if v2 = 0 then (f_X3_firstDayOfAny_31 (f_X3_firstDayOfAny_6  n) a0 x1 x2 x3 h1) else (m_gR (some a0) 3 2 h1 fun o3 => m_aI o3 0 x3 h1 fun v4 => f_X3_firstDayOfAny_31 (f_X3_firstDayOfAny_6  n) a0 x1 (m_min x2 v4) x3 h1))
theorem t_X3_firstDayOfAny_6 (d : Nat) (hd : 1 ≤ d)  : ∀ (n : Nat) (a0 : Nat × Nat) (x1 : Int32) (x2 : Int32) (x3 : Int32) (h : am_H), Sim m_X3_firstDayOfAny d 6 [some (.inr (.inr (some a0))), some (.inl x1), some (.inl x2), some (.inl x3)] [] h (f_X3_firstDayOfAny_6  n a0 x1 x2 x3 h) := by
  intro n
  induction n with
  | zero => intros; exact sim_none
  | succ n hrc6 =>
    intro a0 x1 x2 x3 h
    rw [f_X3_firstDayOfAny_6]
    refine sim_iload_n dX3_firstDayOfAny_6 rfl ?_
    refine sim_bipush (12) dX3_firstDayOfAny_7 (by decide +kernel) ?_
    refine sim_ic_ge 37 dX3_firstDayOfAny_9 (by decide) (fun c => ?_) (fun c => ?_)
    · refine sim_iload_n dX3_firstDayOfAny_37 rfl ?_
      exact sim_iret dX3_firstDayOfAny_38 rfl
    · refine sim_iload_n dX3_firstDayOfAny_12 rfl ?_
      refine sim_iload_n dX3_firstDayOfAny_13 rfl ?_
      refine sim_staticN (d - 1) dX3_firstDayOfAny_14 (k_X10_has (d - 1) (by omega) _ _ _) q_X10_has wn_RX3_27 rfl rfl (by omega) (Nat.le_of_ble_eq_true rfl) am_nJ am_xJ (am_rJ fun h1 v2 => ?_)
      refine sim_if_eq 31 dX3_firstDayOfAny_17 (by decide) (fun c => ?_) (fun c => ?_)
      · exact sim_lv (am_leS (am_leS (am_leS (am_leS am_leT)))) (t_X3_firstDayOfAny_31 d (by omega) _ hrc6 _ _ _ _ _)
      · refine sim_iload_n dX3_firstDayOfAny_20 rfl ?_
        refine sim_aload_n dX3_firstDayOfAny_21 rfl ?_
        refine sim_gR 3 2 dX3_firstDayOfAny_22 rfl wf_RX3_15 (Nat.le_of_ble_eq_true rfl) rfl (fun o3 => ?_)
        refine sim_iload_n dX3_firstDayOfAny_25 rfl ?_
        refine sim_aI dX3_firstDayOfAny_26 (fun v4 => ?_)
        refine sim_mmin dX3_firstDayOfAny_27 wm_RX3_31 wms_min wz_RJ9 wmc_min (by omega) (Nat.le_of_ble_eq_true rfl) ?_
        refine sim_istore_n dX3_firstDayOfAny_30 (Nat.le_of_ble_eq_true rfl) ?_
        exact sim_lv (am_leS (am_leS (am_leS (am_leS am_leT)))) (t_X3_firstDayOfAny_31 d (by omega) _ hrc6 _ _ _ _ _)
def f_X3_firstDayOfAny (a0 : Nat × Nat) (x1 : Int32) (h : am_H) : am_R := f_X3_firstDayOfAny_6 5000 a0 x1 (2001 : Int32) (0 : Int32) h
theorem k_X3_firstDayOfAny (d : Nat) (hd : 1 ≤ d) (a0 : Nat × Nat) (x1 : Int32) (h : am_H) : am_Con m_X3_firstDayOfAny d [.inr (.inr (some a0)), .inl x1] h (f_X3_firstDayOfAny a0 x1 h) := am_con (by decide +kernel) (Nat.le_of_ble_eq_true rfl) (by
  unfold f_X3_firstDayOfAny
  refine sim_sipush (2001) dX3_firstDayOfAny_0 (by decide +kernel) ?_
  refine sim_istore_n dX3_firstDayOfAny_3 (Nat.le_of_ble_eq_true rfl) ?_
  refine sim_iconst (0) dX3_firstDayOfAny_4 (by decide +kernel) ?_
  refine sim_istore_n dX3_firstDayOfAny_5 (Nat.le_of_ble_eq_true rfl) ?_
  exact sim_lv (am_leS (am_leS (am_leS (am_leS am_leT)))) (t_X3_firstDayOfAny_6 d (by omega) _ _ _ _ _ _))
theorem q_X3_firstDayOfAny : am_Cal m_X3_firstDayOfAny 1 2 := ⟨am_mem 1078 (w := Cond.code yX3_firstDayOfAny cX3_firstDayOfAny 4 (some .int)) (by decide +kernel) rfl, am_mem 62 (w := Cond.initialized RX3) (by decide +kernel) rfl, fun z => absurd z (by decide), fun _ => am_mem 1076 (w := Cond.instanceMethod yX3_firstDayOfAny) (by decide +kernel) rfl, fun z => absurd z (by decide), fun _ => am_mem 1077 (w := Cond.selects RX3 yX3_firstDayOfAny yX3_firstDayOfAny) (by decide +kernel) rfl, by decide +kernel, by decide +kernel, Nat.le_of_ble_eq_true rfl⟩
theorem dX9_outDay_0 : decode cX9_outDay 0 = .ok (.aload_n 0, 1) := by decide +kernel
theorem dX9_outDay_1 : decode cX9_outDay 1 = .ok (.getfield 9, 3) := by decide +kernel
theorem dX9_outDay_4 : decode cX9_outDay 4 = .ok (.iload_n 1, 1) := by decide +kernel
theorem dX9_outDay_5 : decode cX9_outDay 5 = .ok (.iaload, 1) := by decide +kernel
theorem dX9_outDay_6 : decode cX9_outDay 6 = .ok (.aload_n 0, 1) := by decide +kernel
theorem dX9_outDay_7 : decode cX9_outDay 7 = .ok (.getfield 15, 3) := by decide +kernel
theorem dX9_outDay_10 : decode cX9_outDay 10 = .ok (.invokestatic 56, 3) := by decide +kernel
theorem dX9_outDay_13 : decode cX9_outDay 13 = .ok (.ireturn, 1) := by decide +kernel
abbrev m_X9_outDay : am_M := (yX9_outDay, cX9_outDay, 2, some .int, [])
def f_X9_outDay (a0 : Nat × Nat) (x1 : Int32) (h : am_H) : am_R := m_gR (some a0) 9 2 h fun o1 => m_aI o1 0 x1 h fun v2 => m_gI (some a0) 9 4 h fun v3 => m_ri h (m_max v2 v3)
theorem k_X9_outDay (d : Nat) (hd : 1 ≤ d) (a0 : Nat × Nat) (x1 : Int32) (h : am_H) : am_Con m_X9_outDay d [.inr (.inr (some a0)), .inl x1] h (f_X9_outDay a0 x1 h) := am_con (by decide +kernel) (Nat.le_of_ble_eq_true rfl) (by
  unfold f_X9_outDay
  refine sim_aload_n dX9_outDay_0 rfl ?_
  refine sim_gR 9 2 dX9_outDay_1 rfl wf_RX9_9 (Nat.le_of_ble_eq_true rfl) rfl (fun o1 => ?_)
  refine sim_iload_n dX9_outDay_4 rfl ?_
  refine sim_aI dX9_outDay_5 (fun v2 => ?_)
  refine sim_aload_n dX9_outDay_6 rfl ?_
  refine sim_gI 9 4 dX9_outDay_7 rfl wf_RX9_15 (Nat.le_of_ble_eq_true rfl) rfl (fun v3 => ?_)
  refine sim_mmax dX9_outDay_10 wm_RX9_56 wms_max wz_RJ9 wmc_max (by omega) (Nat.le_of_ble_eq_true rfl) ?_
  exact sim_iret dX9_outDay_13 rfl)
theorem q_X9_outDay : am_Cal m_X9_outDay 1 2 := ⟨am_mem 895 (w := Cond.code yX9_outDay cX9_outDay 2 (some .int)) (by decide +kernel) rfl, am_mem 71 (w := Cond.initialized RX9) (by decide +kernel) rfl, fun z => absurd z (by decide), fun _ => am_mem 893 (w := Cond.instanceMethod yX9_outDay) (by decide +kernel) rfl, fun z => absurd z (by decide), fun _ => am_mem 894 (w := Cond.selects RX9 yX9_outDay yX9_outDay) (by decide +kernel) rfl, by decide +kernel, by decide +kernel, Nat.le_of_ble_eq_true rfl⟩
theorem dX9_chaptersOutFrom_0 : decode cX9_chaptersOutFrom 0 = .ok (.iconst 0, 1) := by decide +kernel
theorem dX9_chaptersOutFrom_1 : decode cX9_chaptersOutFrom 1 = .ok (.istore_n 2, 1) := by decide +kernel
theorem dX9_chaptersOutFrom_2 : decode cX9_chaptersOutFrom 2 = .ok (.iconst 0, 1) := by decide +kernel
theorem dX9_chaptersOutFrom_3 : decode cX9_chaptersOutFrom 3 = .ok (.istore_n 3, 1) := by decide +kernel
theorem dX9_chaptersOutFrom_4 : decode cX9_chaptersOutFrom 4 = .ok (.iload_n 3, 1) := by decide +kernel
theorem dX9_chaptersOutFrom_5 : decode cX9_chaptersOutFrom 5 = .ok (.aload_n 0, 1) := by decide +kernel
theorem dX9_chaptersOutFrom_6 : decode cX9_chaptersOutFrom 6 = .ok (.getfield 62, 3) := by decide +kernel
theorem dX9_chaptersOutFrom_9 : decode cX9_chaptersOutFrom 9 = .ok (.if_icmp .ge 29, 3) := by decide +kernel
theorem dX9_chaptersOutFrom_12 : decode cX9_chaptersOutFrom 12 = .ok (.iload_n 2, 1) := by decide +kernel
theorem dX9_chaptersOutFrom_13 : decode cX9_chaptersOutFrom 13 = .ok (.iload_n 3, 1) := by decide +kernel
theorem dX9_chaptersOutFrom_14 : decode cX9_chaptersOutFrom 14 = .ok (.aload_n 0, 1) := by decide +kernel
theorem dX9_chaptersOutFrom_15 : decode cX9_chaptersOutFrom 15 = .ok (.iload_n 3, 1) := by decide +kernel
theorem dX9_chaptersOutFrom_16 : decode cX9_chaptersOutFrom 16 = .ok (.invokevirtual 65, 3) := by decide +kernel
theorem dX9_chaptersOutFrom_19 : decode cX9_chaptersOutFrom 19 = .ok (.iload_n 1, 1) := by decide +kernel
theorem dX9_chaptersOutFrom_20 : decode cX9_chaptersOutFrom 20 = .ok (.if_icmp .lt 7, 3) := by decide +kernel
theorem dX9_chaptersOutFrom_23 : decode cX9_chaptersOutFrom 23 = .ok (.iconst 1, 1) := by decide +kernel
theorem dX9_chaptersOutFrom_24 : decode cX9_chaptersOutFrom 24 = .ok (.goto 4, 3) := by decide +kernel
theorem dX9_chaptersOutFrom_27 : decode cX9_chaptersOutFrom 27 = .ok (.iconst 0, 1) := by decide +kernel
theorem dX9_chaptersOutFrom_28 : decode cX9_chaptersOutFrom 28 = .ok (.invokestatic 69, 3) := by decide +kernel
theorem dX9_chaptersOutFrom_31 : decode cX9_chaptersOutFrom 31 = .ok (.istore_n 2, 1) := by decide +kernel
theorem dX9_chaptersOutFrom_32 : decode cX9_chaptersOutFrom 32 = .ok (.iinc 3 1, 3) := by decide +kernel
theorem dX9_chaptersOutFrom_35 : decode cX9_chaptersOutFrom 35 = .ok (.goto (-31), 3) := by decide +kernel
theorem dX9_chaptersOutFrom_38 : decode cX9_chaptersOutFrom 38 = .ok (.iload_n 2, 1) := by decide +kernel
theorem dX9_chaptersOutFrom_39 : decode cX9_chaptersOutFrom 39 = .ok (.ireturn, 1) := by decide +kernel
abbrev m_X9_chaptersOutFrom : am_M := (yX9_chaptersOutFrom, cX9_chaptersOutFrom, 4, some .int, [])
def f_X9_chaptersOutFrom_28 (rc4 : Nat × Nat → Int32 → Int32 → Int32 → am_H → am_R) (a0 : Nat × Nat) (x1 : Int32) (x3 : Int32) (s0 : Int32) (s1 : Int32) (s2 : Int32) (h : am_H) : am_R := m_bJ (f_X10_with s2 s1 s0 h) fun h5 v6 => rc4 a0 x1 v6 (x3 + 1) h5
theorem t_X9_chaptersOutFrom_28 (d : Nat) (hd : 2 ≤ d) (rc4 : Nat × Nat → Int32 → Int32 → Int32 → am_H → am_R) (hrc4 : ∀ a0 x1 x2 x3 h, Sim m_X9_chaptersOutFrom d 4 [some (.inr (.inr (some a0))), some (.inl x1), some (.inl x2), some (.inl x3)] [] h (rc4 a0 x1 x2 x3 h)) (a0 : Nat × Nat) (x1 : Int32) (x3 : Int32) (s0 : Int32) (s1 : Int32) (s2 : Int32) (h : am_H) : Sim m_X9_chaptersOutFrom d 28 [some (.inr (.inr (some a0))), some (.inl x1), none, some (.inl x3)] [.inl s0, .inl s1, .inl s2] h (f_X9_chaptersOutFrom_28 rc4 a0 x1 x3 s0 s1 s2 h) := by
  unfold f_X9_chaptersOutFrom_28
  refine sim_staticN (d - 1) dX9_chaptersOutFrom_28 (k_X10_with (d - 1) (by omega) _ _ _ _) q_X10_with wn_RX9_69 rfl rfl (by omega) (Nat.le_of_ble_eq_true rfl) am_nJ am_xJ (am_rJ fun h5 v6 => ?_)
  refine sim_istore_n dX9_chaptersOutFrom_31 (Nat.le_of_ble_eq_true rfl) ?_
  refine sim_iinc (1) dX9_chaptersOutFrom_32 rfl (by decide +kernel) (Nat.le_of_ble_eq_true rfl) ?_
  refine sim_goto 4 dX9_chaptersOutFrom_35 (by decide) ?_
  exact sim_lv (am_leS (am_leS (am_leS (am_leS am_leT)))) (hrc4 _ _ _ _ _)
def f_X9_chaptersOutFrom_4  : Nat → Nat × Nat → Int32 → Int32 → Int32 → am_H → am_R
  | 0, _, _, _, _, _ => none
  | n + 1, a0, x1, x2, x3, h => m_gI (some a0) 9 3 h fun v1 => if v1 ≤ x3 then (m_ri h x2) else (m_ao (some a0) 9 fun a4 => m_bI (f_X9_outDay a4 x3 h) fun h2 v3 => if v3 < x1 then (f_X9_chaptersOutFrom_28 (f_X9_chaptersOutFrom_4  n) a0 x1 x3 (0 : Int32) x3 x2 h2) else (f_X9_chaptersOutFrom_28 (f_X9_chaptersOutFrom_4  n) a0 x1 x3 (1 : Int32) x3 x2 h2))
theorem t_X9_chaptersOutFrom_4 (d : Nat) (hd : 2 ≤ d)  : ∀ (n : Nat) (a0 : Nat × Nat) (x1 : Int32) (x2 : Int32) (x3 : Int32) (h : am_H), Sim m_X9_chaptersOutFrom d 4 [some (.inr (.inr (some a0))), some (.inl x1), some (.inl x2), some (.inl x3)] [] h (f_X9_chaptersOutFrom_4  n a0 x1 x2 x3 h) := by
  intro n
  induction n with
  | zero => intros; exact sim_none
  | succ n hrc4 =>
    intro a0 x1 x2 x3 h
    rw [f_X9_chaptersOutFrom_4]
    refine sim_iload_n dX9_chaptersOutFrom_4 rfl ?_
    refine sim_aload_n dX9_chaptersOutFrom_5 rfl ?_
    refine sim_gI 9 3 dX9_chaptersOutFrom_6 rfl wf_RX9_62 (Nat.le_of_ble_eq_true rfl) rfl (fun v1 => ?_)
    refine sim_ic_ge 38 dX9_chaptersOutFrom_9 (by decide) (fun c => ?_) (fun c => ?_)
    · refine sim_iload_n dX9_chaptersOutFrom_38 rfl ?_
      exact sim_iret dX9_chaptersOutFrom_39 rfl
    · refine sim_iload_n dX9_chaptersOutFrom_12 rfl ?_
      refine sim_iload_n dX9_chaptersOutFrom_13 rfl ?_
      refine sim_aload_n dX9_chaptersOutFrom_14 rfl ?_
      refine sim_iload_n dX9_chaptersOutFrom_15 rfl ?_
      refine sim_ao1 (fun a4 e => ?_)
      refine sim_virt (d - 1) e dX9_chaptersOutFrom_16 (k_X9_outDay (d - 1) (by omega) _ _ _) q_X9_outDay rfl rfl wm_RX9_65 rfl rfl (by omega) (Nat.le_of_ble_eq_true rfl) am_nI (am_rI fun h2 v3 => ?_) am_eI
      refine sim_iload_n dX9_chaptersOutFrom_19 rfl ?_
      refine sim_ic_lt 27 dX9_chaptersOutFrom_20 (by decide) (fun c => ?_) (fun c => ?_)
      · refine sim_iconst (0) dX9_chaptersOutFrom_27 (by decide +kernel) ?_
        exact sim_lv (am_leS (am_leS (am_leN (am_leS am_leT)))) (t_X9_chaptersOutFrom_28 d (by omega) _ hrc4 _ _ _ _ _ _ _)
      · refine sim_iconst (1) dX9_chaptersOutFrom_23 (by decide +kernel) ?_
        refine sim_goto 28 dX9_chaptersOutFrom_24 (by decide) ?_
        exact sim_lv (am_leS (am_leS (am_leN (am_leS am_leT)))) (t_X9_chaptersOutFrom_28 d (by omega) _ hrc4 _ _ _ _ _ _ _)
def f_X9_chaptersOutFrom (a0 : Nat × Nat) (x1 : Int32) (h : am_H) : am_R := f_X9_chaptersOutFrom_4 5000 a0 x1 (0 : Int32) (0 : Int32) h
theorem k_X9_chaptersOutFrom (d : Nat) (hd : 2 ≤ d) (a0 : Nat × Nat) (x1 : Int32) (h : am_H) : am_Con m_X9_chaptersOutFrom d [.inr (.inr (some a0)), .inl x1] h (f_X9_chaptersOutFrom a0 x1 h) := am_con (by decide +kernel) (Nat.le_of_ble_eq_true rfl) (by
  unfold f_X9_chaptersOutFrom
  refine sim_iconst (0) dX9_chaptersOutFrom_0 (by decide +kernel) ?_
  refine sim_istore_n dX9_chaptersOutFrom_1 (Nat.le_of_ble_eq_true rfl) ?_
  refine sim_iconst (0) dX9_chaptersOutFrom_2 (by decide +kernel) ?_
  refine sim_istore_n dX9_chaptersOutFrom_3 (Nat.le_of_ble_eq_true rfl) ?_
  exact sim_lv (am_leS (am_leS (am_leS (am_leS am_leT)))) (t_X9_chaptersOutFrom_4 d (by omega) _ _ _ _ _ _))
theorem q_X9_chaptersOutFrom : am_Cal m_X9_chaptersOutFrom 1 2 := ⟨am_mem 1087 (w := Cond.code yX9_chaptersOutFrom cX9_chaptersOutFrom 4 (some .int)) (by decide +kernel) rfl, am_mem 71 (w := Cond.initialized RX9) (by decide +kernel) rfl, fun z => absurd z (by decide), fun _ => am_mem 1085 (w := Cond.instanceMethod yX9_chaptersOutFrom) (by decide +kernel) rfl, fun z => absurd z (by decide), fun _ => am_mem 1086 (w := Cond.selects RX9 yX9_chaptersOutFrom yX9_chaptersOutFrom) (by decide +kernel) rfl, by decide +kernel, by decide +kernel, Nat.le_of_ble_eq_true rfl⟩
theorem dX9_ownersToldTo_0 : decode cX9_ownersToldTo 0 = .ok (.aload_n 0, 1) := by decide +kernel
theorem dX9_ownersToldTo_1 : decode cX9_ownersToldTo 1 = .ok (.getfield 33, 3) := by decide +kernel
theorem dX9_ownersToldTo_4 : decode cX9_ownersToldTo 4 = .ok (.ifnull 14, 3) := by decide +kernel
theorem dX9_ownersToldTo_7 : decode cX9_ownersToldTo 7 = .ok (.aload_n 0, 1) := by decide +kernel
theorem dX9_ownersToldTo_8 : decode cX9_ownersToldTo 8 = .ok (.getfield 33, 3) := by decide +kernel
theorem dX9_ownersToldTo_11 : decode cX9_ownersToldTo 11 = .ok (.getfield 50, 3) := by decide +kernel
theorem dX9_ownersToldTo_14 : decode cX9_ownersToldTo 14 = .ok (.iload_n 2, 1) := by decide +kernel
theorem dX9_ownersToldTo_15 : decode cX9_ownersToldTo 15 = .ok (.if_icmp .gt 7, 3) := by decide +kernel
theorem dX9_ownersToldTo_18 : decode cX9_ownersToldTo 18 = .ok (.iconst 1, 1) := by decide +kernel
theorem dX9_ownersToldTo_19 : decode cX9_ownersToldTo 19 = .ok (.goto 4, 3) := by decide +kernel
theorem dX9_ownersToldTo_22 : decode cX9_ownersToldTo 22 = .ok (.iconst 0, 1) := by decide +kernel
theorem dX9_ownersToldTo_23 : decode cX9_ownersToldTo 23 = .ok (.istore_n 3, 1) := by decide +kernel
theorem dX9_ownersToldTo_24 : decode cX9_ownersToldTo 24 = .ok (.aload_n 0, 1) := by decide +kernel
theorem dX9_ownersToldTo_25 : decode cX9_ownersToldTo 25 = .ok (.iload_n 1, 1) := by decide +kernel
theorem dX9_ownersToldTo_26 : decode cX9_ownersToldTo 26 = .ok (.iload_n 2, 1) := by decide +kernel
theorem dX9_ownersToldTo_27 : decode cX9_ownersToldTo 27 = .ok (.invokevirtual 53, 3) := by decide +kernel
theorem dX9_ownersToldTo_30 : decode cX9_ownersToldTo 30 = .ok (.ifCond .eq 22, 3) := by decide +kernel
theorem dX9_ownersToldTo_33 : decode cX9_ownersToldTo 33 = .ok (.aload_n 0, 1) := by decide +kernel
theorem dX9_ownersToldTo_34 : decode cX9_ownersToldTo 34 = .ok (.iload_n 1, 1) := by decide +kernel
theorem dX9_ownersToldTo_35 : decode cX9_ownersToldTo 35 = .ok (.invokevirtual 29, 3) := by decide +kernel
theorem dX9_ownersToldTo_38 : decode cX9_ownersToldTo 38 = .ok (.ifCond .ne 7, 3) := by decide +kernel
theorem dX9_ownersToldTo_41 : decode cX9_ownersToldTo 41 = .ok (.iload_n 3, 1) := by decide +kernel
theorem dX9_ownersToldTo_42 : decode cX9_ownersToldTo 42 = .ok (.ifCond .eq 10, 3) := by decide +kernel
theorem dX9_ownersToldTo_45 : decode cX9_ownersToldTo 45 = .ok (.aload_n 0, 1) := by decide +kernel
theorem dX9_ownersToldTo_46 : decode cX9_ownersToldTo 46 = .ok (.getfield 19, 3) := by decide +kernel
theorem dX9_ownersToldTo_49 : decode cX9_ownersToldTo 49 = .ok (.goto 4, 3) := by decide +kernel
theorem dX9_ownersToldTo_52 : decode cX9_ownersToldTo 52 = .ok (.iconst 0, 1) := by decide +kernel
theorem dX9_ownersToldTo_53 : decode cX9_ownersToldTo 53 = .ok (.ireturn, 1) := by decide +kernel
abbrev m_X9_ownersToldTo : am_M := (yX9_ownersToldTo, cX9_ownersToldTo, 4, some .int, [])
def f_X9_ownersToldTo_53  (s0 : Int32) (h : am_H) : am_R := m_ri h s0
theorem t_X9_ownersToldTo_53 (d : Nat) (hd : 3 ≤ d)  (s0 : Int32) (h : am_H) : Sim m_X9_ownersToldTo d 53 [none, none, none, none] [.inl s0] h (f_X9_ownersToldTo_53  s0 h) := by
  unfold f_X9_ownersToldTo_53
  exact sim_iret dX9_ownersToldTo_53 rfl
def f_X9_ownersToldTo_52   (h : am_H) : am_R := f_X9_ownersToldTo_53 (0 : Int32) h
theorem t_X9_ownersToldTo_52 (d : Nat) (hd : 3 ≤ d)   (h : am_H) : Sim m_X9_ownersToldTo d 52 [none, none, none, none] [] h (f_X9_ownersToldTo_52   h) := by
  unfold f_X9_ownersToldTo_52
  refine sim_iconst (0) dX9_ownersToldTo_52 (by decide +kernel) ?_
  exact sim_lv (am_leN (am_leN (am_leN (am_leN am_leT)))) (t_X9_ownersToldTo_53 d (by omega) _ _)
def f_X9_ownersToldTo_45  (a0 : Nat × Nat) (h : am_H) : am_R := m_gI (some a0) 9 1 h fun v10 => f_X9_ownersToldTo_53 v10 h
theorem t_X9_ownersToldTo_45 (d : Nat) (hd : 3 ≤ d)  (a0 : Nat × Nat) (h : am_H) : Sim m_X9_ownersToldTo d 45 [some (.inr (.inr (some a0))), none, none, none] [] h (f_X9_ownersToldTo_45  a0 h) := by
  unfold f_X9_ownersToldTo_45
  refine sim_aload_n dX9_ownersToldTo_45 rfl ?_
  refine sim_gI 9 1 dX9_ownersToldTo_46 rfl wf_RX9_19 (Nat.le_of_ble_eq_true rfl) rfl (fun v10 => ?_)
  refine sim_goto 53 dX9_ownersToldTo_49 (by decide) ?_
  exact sim_lv (am_leN (am_leN (am_leN (am_leN am_leT)))) (t_X9_ownersToldTo_53 d (by omega) _ _)
def f_X9_ownersToldTo_23  (a0 : Nat × Nat) (x1 : Int32) (x2 : Int32) (s0 : Int32) (h : am_H) : am_R := m_ao (some a0) 9 fun a6 => m_bI (f_X9_isSeenBy a6 x1 x2 h) fun h4 v5 => if v5 = 0 then (f_X9_ownersToldTo_52 h4) else (m_ao (some a0) 9 fun a9 => m_bI (f_X9_isOwnedBy a9 x1 h4) fun h7 v8 => if v8 = 0 then (if s0 = 0 then (f_X9_ownersToldTo_52 h7) else (f_X9_ownersToldTo_45 a0 h7)) else (f_X9_ownersToldTo_45 a0 h7))
theorem t_X9_ownersToldTo_23 (d : Nat) (hd : 3 ≤ d)  (a0 : Nat × Nat) (x1 : Int32) (x2 : Int32) (s0 : Int32) (h : am_H) : Sim m_X9_ownersToldTo d 23 [some (.inr (.inr (some a0))), some (.inl x1), some (.inl x2), none] [.inl s0] h (f_X9_ownersToldTo_23  a0 x1 x2 s0 h) := by
  unfold f_X9_ownersToldTo_23
  refine sim_istore_n dX9_ownersToldTo_23 (Nat.le_of_ble_eq_true rfl) ?_
  refine sim_aload_n dX9_ownersToldTo_24 rfl ?_
  refine sim_iload_n dX9_ownersToldTo_25 rfl ?_
  refine sim_iload_n dX9_ownersToldTo_26 rfl ?_
  refine sim_ao2 (fun a6 e => ?_)
  refine sim_virt (d - 1) e dX9_ownersToldTo_27 (k_X9_isSeenBy (d - 1) (by omega) _ _ _ _) q_X9_isSeenBy rfl rfl wm_RX9_53 rfl rfl (by omega) (Nat.le_of_ble_eq_true rfl) am_nI (am_rI fun h4 v5 => ?_) am_eI
  refine sim_if_eq 52 dX9_ownersToldTo_30 (by decide) (fun c => ?_) (fun c => ?_)
  · exact sim_lv (am_leN (am_leN (am_leN (am_leN am_leT)))) (t_X9_ownersToldTo_52 d (by omega) _)
  · refine sim_aload_n dX9_ownersToldTo_33 rfl ?_
    refine sim_iload_n dX9_ownersToldTo_34 rfl ?_
    refine sim_ao1 (fun a9 e => ?_)
    refine sim_virt (d - 1) e dX9_ownersToldTo_35 (k_X9_isOwnedBy (d - 1) (by omega) _ _ _) q_X9_isOwnedBy rfl rfl wm_RX9_29 rfl rfl (by omega) (Nat.le_of_ble_eq_true rfl) am_nI (am_rI fun h7 v8 => ?_) am_eI
    refine sim_if_ne 45 dX9_ownersToldTo_38 (by decide) (fun c => ?_) (fun c => ?_)
    · exact sim_lv (am_leS (am_leN (am_leN (am_leN am_leT)))) (t_X9_ownersToldTo_45 d (by omega) _ _)
    · refine sim_iload_n dX9_ownersToldTo_41 rfl ?_
      refine sim_if_eq 52 dX9_ownersToldTo_42 (by decide) (fun c => ?_) (fun c => ?_)
      · exact sim_lv (am_leN (am_leN (am_leN (am_leN am_leT)))) (t_X9_ownersToldTo_52 d (by omega) _)
      · exact sim_lv (am_leS (am_leN (am_leN (am_leN am_leT)))) (t_X9_ownersToldTo_45 d (by omega) _ _)
def f_X9_ownersToldTo_18  (a0 : Nat × Nat) (x1 : Int32) (x2 : Int32) (h : am_H) : am_R := f_X9_ownersToldTo_23 a0 x1 x2 (1 : Int32) h
theorem t_X9_ownersToldTo_18 (d : Nat) (hd : 3 ≤ d)  (a0 : Nat × Nat) (x1 : Int32) (x2 : Int32) (h : am_H) : Sim m_X9_ownersToldTo d 18 [some (.inr (.inr (some a0))), some (.inl x1), some (.inl x2), none] [] h (f_X9_ownersToldTo_18  a0 x1 x2 h) := by
  unfold f_X9_ownersToldTo_18
  refine sim_iconst (1) dX9_ownersToldTo_18 (by decide +kernel) ?_
  refine sim_goto 23 dX9_ownersToldTo_19 (by decide) ?_
  exact sim_lv (am_leS (am_leS (am_leS (am_leN am_leT)))) (t_X9_ownersToldTo_23 d (by omega) _ _ _ _ _)
def f_X9_ownersToldTo (a0 : Nat × Nat) (x1 : Int32) (x2 : Int32) (h : am_H) : am_R := m_gR (some a0) 9 6 h fun o1 => if o1 = none then (f_X9_ownersToldTo_18 a0 x1 x2 h) else (m_gR (some a0) 9 6 h fun o2 => m_gI o2 0 1 h fun v3 => if x2 < v3 then (f_X9_ownersToldTo_23 a0 x1 x2 (0 : Int32) h) else (f_X9_ownersToldTo_18 a0 x1 x2 h))
theorem k_X9_ownersToldTo (d : Nat) (hd : 3 ≤ d) (a0 : Nat × Nat) (x1 : Int32) (x2 : Int32) (h : am_H) : am_Con m_X9_ownersToldTo d [.inr (.inr (some a0)), .inl x1, .inl x2] h (f_X9_ownersToldTo a0 x1 x2 h) := am_con (by decide +kernel) (Nat.le_of_ble_eq_true rfl) (by
  unfold f_X9_ownersToldTo
  refine sim_aload_n dX9_ownersToldTo_0 rfl ?_
  refine sim_gR 9 6 dX9_ownersToldTo_1 rfl wf_RX9_33 (Nat.le_of_ble_eq_true rfl) rfl (fun o1 => ?_)
  refine sim_ifnull 18 dX9_ownersToldTo_4 (by decide) (fun c => ?_) (fun c => ?_)
  · exact sim_lv (am_leS (am_leS (am_leS (am_leN am_leT)))) (t_X9_ownersToldTo_18 d (by omega) _ _ _ _)
  · refine sim_aload_n dX9_ownersToldTo_7 rfl ?_
    refine sim_gR 9 6 dX9_ownersToldTo_8 rfl wf_RX9_33 (Nat.le_of_ble_eq_true rfl) rfl (fun o2 => ?_)
    refine sim_gI 0 1 dX9_ownersToldTo_11 rfl wf_RX9_50 (Nat.le_of_ble_eq_true rfl) rfl (fun v3 => ?_)
    refine sim_iload_n dX9_ownersToldTo_14 rfl ?_
    refine sim_ic_gt 22 dX9_ownersToldTo_15 (by decide) (fun c => ?_) (fun c => ?_)
    · refine sim_iconst (0) dX9_ownersToldTo_22 (by decide +kernel) ?_
      exact sim_lv (am_leS (am_leS (am_leS (am_leN am_leT)))) (t_X9_ownersToldTo_23 d (by omega) _ _ _ _ _)
    · exact sim_lv (am_leS (am_leS (am_leS (am_leN am_leT)))) (t_X9_ownersToldTo_18 d (by omega) _ _ _ _))
theorem q_X9_ownersToldTo : am_Cal m_X9_ownersToldTo 2 2 := ⟨am_mem 663 (w := Cond.code yX9_ownersToldTo cX9_ownersToldTo 4 (some .int)) (by decide +kernel) rfl, am_mem 71 (w := Cond.initialized RX9) (by decide +kernel) rfl, fun z => absurd z (by decide), fun _ => am_mem 661 (w := Cond.instanceMethod yX9_ownersToldTo) (by decide +kernel) rfl, fun z => absurd z (by decide), fun _ => am_mem 662 (w := Cond.selects RX9 yX9_ownersToldTo yX9_ownersToldTo) (by decide +kernel) rfl, by decide +kernel, by decide +kernel, Nat.le_of_ble_eq_true rfl⟩
theorem dX10_newChapters_0 : decode cX10_newChapters 0 = .ok (.aload_n 0, 1) := by decide +kernel
theorem dX10_newChapters_1 : decode cX10_newChapters 1 = .ok (.getfield 21, 3) := by decide +kernel
theorem dX10_newChapters_4 : decode cX10_newChapters 4 = .ok (.iload_n 2, 1) := by decide +kernel
theorem dX10_newChapters_5 : decode cX10_newChapters 5 = .ok (.aaload, 1) := by decide +kernel
theorem dX10_newChapters_6 : decode cX10_newChapters 6 = .ok (.astore_n 3, 1) := by decide +kernel
theorem dX10_newChapters_7 : decode cX10_newChapters 7 = .ok (.aload_n 0, 1) := by decide +kernel
theorem dX10_newChapters_8 : decode cX10_newChapters 8 = .ok (.getfield 15, 3) := by decide +kernel
theorem dX10_newChapters_11 : decode cX10_newChapters 11 = .ok (.iload_n 1, 1) := by decide +kernel
theorem dX10_newChapters_12 : decode cX10_newChapters 12 = .ok (.aaload, 1) := by decide +kernel
theorem dX10_newChapters_13 : decode cX10_newChapters 13 = .ok (.astore 4, 2) := by decide +kernel
theorem dX10_newChapters_15 : decode cX10_newChapters 15 = .ok (.aload_n 3, 1) := by decide +kernel
theorem dX10_newChapters_16 : decode cX10_newChapters 16 = .ok (.invokevirtual 141, 3) := by decide +kernel
theorem dX10_newChapters_19 : decode cX10_newChapters 19 = .ok (.ifCond .eq 23, 3) := by decide +kernel
theorem dX10_newChapters_22 : decode cX10_newChapters 22 = .ok (.aload_n 3, 1) := by decide +kernel
theorem dX10_newChapters_23 : decode cX10_newChapters 23 = .ok (.iload_n 1, 1) := by decide +kernel
theorem dX10_newChapters_24 : decode cX10_newChapters 24 = .ok (.aload_n 0, 1) := by decide +kernel
theorem dX10_newChapters_25 : decode cX10_newChapters 25 = .ok (.getfield 73, 3) := by decide +kernel
theorem dX10_newChapters_28 : decode cX10_newChapters 28 = .ok (.invokevirtual 173, 3) := by decide +kernel
theorem dX10_newChapters_31 : decode cX10_newChapters 31 = .ok (.ifCond .eq 11, 3) := by decide +kernel
theorem dX10_newChapters_34 : decode cX10_newChapters 34 = .ok (.aload_n 3, 1) := by decide +kernel
theorem dX10_newChapters_35 : decode cX10_newChapters 35 = .ok (.iload_n 1, 1) := by decide +kernel
theorem dX10_newChapters_36 : decode cX10_newChapters 36 = .ok (.invokevirtual 125, 3) := by decide +kernel
theorem dX10_newChapters_39 : decode cX10_newChapters 39 = .ok (.ifCond .eq 5, 3) := by decide +kernel
theorem dX10_newChapters_42 : decode cX10_newChapters 42 = .ok (.iconst 0, 1) := by decide +kernel
theorem dX10_newChapters_43 : decode cX10_newChapters 43 = .ok (.ireturn, 1) := by decide +kernel
theorem dX10_newChapters_44 : decode cX10_newChapters 44 = .ok (.aload 4, 2) := by decide +kernel
theorem dX10_newChapters_46 : decode cX10_newChapters 46 = .ok (.getfield 367, 3) := by decide +kernel
theorem dX10_newChapters_49 : decode cX10_newChapters 49 = .ok (.iload_n 2, 1) := by decide +kernel
theorem dX10_newChapters_50 : decode cX10_newChapters 50 = .ok (.iaload, 1) := by decide +kernel
theorem dX10_newChapters_51 : decode cX10_newChapters 51 = .ok (.aload 4, 2) := by decide +kernel
theorem dX10_newChapters_53 : decode cX10_newChapters 53 = .ok (.aload_n 3, 1) := by decide +kernel
theorem dX10_newChapters_54 : decode cX10_newChapters 54 = .ok (.iload_n 1, 1) := by decide +kernel
theorem dX10_newChapters_55 : decode cX10_newChapters 55 = .ok (.aload_n 0, 1) := by decide +kernel
theorem dX10_newChapters_56 : decode cX10_newChapters 56 = .ok (.getfield 73, 3) := by decide +kernel
theorem dX10_newChapters_59 : decode cX10_newChapters 59 = .ok (.invokevirtual 176, 3) := by decide +kernel
theorem dX10_newChapters_62 : decode cX10_newChapters 62 = .ok (.invokevirtual 458, 3) := by decide +kernel
theorem dX10_newChapters_65 : decode cX10_newChapters 65 = .ok (.invokestatic 461, 3) := by decide +kernel
theorem dX10_newChapters_68 : decode cX10_newChapters 68 = .ok (.istore 5, 2) := by decide +kernel
theorem dX10_newChapters_70 : decode cX10_newChapters 70 = .ok (.aload_n 3, 1) := by decide +kernel
theorem dX10_newChapters_71 : decode cX10_newChapters 71 = .ok (.iload 5, 2) := by decide +kernel
theorem dX10_newChapters_73 : decode cX10_newChapters 73 = .ok (.invokevirtual 466, 3) := by decide +kernel
theorem dX10_newChapters_76 : decode cX10_newChapters 76 = .ok (.aload 4, 2) := by decide +kernel
theorem dX10_newChapters_78 : decode cX10_newChapters 78 = .ok (.getfield 373, 3) := by decide +kernel
theorem dX10_newChapters_81 : decode cX10_newChapters 81 = .ok (.iload_n 2, 1) := by decide +kernel
theorem dX10_newChapters_82 : decode cX10_newChapters 82 = .ok (.iaload, 1) := by decide +kernel
theorem dX10_newChapters_83 : decode cX10_newChapters 83 = .ok (.iconst (-1), 1) := by decide +kernel
theorem dX10_newChapters_84 : decode cX10_newChapters 84 = .ok (.ixor, 1) := by decide +kernel
theorem dX10_newChapters_85 : decode cX10_newChapters 85 = .ok (.iand, 1) := by decide +kernel
theorem dX10_newChapters_86 : decode cX10_newChapters 86 = .ok (.ireturn, 1) := by decide +kernel
abbrev m_X10_newChapters : am_M := (yX10_newChapters, cX10_newChapters, 6, some .int, [])
def f_X10_newChapters_42   (h : am_H) : am_R := m_ri h (0 : Int32)
theorem t_X10_newChapters_42 (d : Nat) (hd : 4 ≤ d)   (h : am_H) : Sim m_X10_newChapters d 42 [none, none, none, none, none, none] [] h (f_X10_newChapters_42   h) := by
  unfold f_X10_newChapters_42
  refine sim_iconst (0) dX10_newChapters_42 (by decide +kernel) ?_
  exact sim_iret dX10_newChapters_43 rfl
def f_X10_newChapters (a0 : Nat × Nat) (x1 : Int32) (x2 : Int32) (h : am_H) : am_R := m_gR (some a0) 10 3 h fun o1 => m_aR o1 5 x2 h fun o2 => m_gR (some a0) 10 2 h fun o3 => m_aR o3 4 x1 h fun o4 => m_ao o2 9 fun a7 => m_bI (f_X9_isPosted a7 h) fun h5 v6 => if v6 = 0 then (f_X10_newChapters_42 h5) else (m_gI (some a0) 10 0 h5 fun v8 => m_ao o2 9 fun a11 => m_bI (f_X9_isSeenBy a11 x1 v8 h5) fun h9 v10 => if v10 = 0 then (f_X10_newChapters_42 h9) else (m_ao o2 9 fun a14 => m_bI (f_X9_isOwnedBy a14 x1 h9) fun h12 v13 => if v13 = 0 then (m_gR o4 3 1 h12 fun o15 => m_aI o15 0 x2 h12 fun v16 => m_gI (some a0) 10 0 h12 fun v17 => m_ao o2 9 fun a20 => m_bI (f_X9_ownersToldTo a20 x1 v17 h12) fun h18 v19 => m_ao o4 3 fun a23 => m_bI (f_X3_firstDayOfAny a23 v19 h18) fun h21 v22 => m_ao o2 9 fun a26 => m_bI (f_X9_chaptersOutFrom a26 (m_min v16 v22) h21) fun h24 v25 => m_gR o4 3 3 h24 fun o27 => m_aI o27 0 x2 h24 fun v28 => m_ri h24 (v25 &&& (v28 ^^^ (-1 : Int32)))) else (f_X10_newChapters_42 h12)))
theorem k_X10_newChapters (d : Nat) (hd : 4 ≤ d) (a0 : Nat × Nat) (x1 : Int32) (x2 : Int32) (h : am_H) : am_Con m_X10_newChapters d [.inr (.inr (some a0)), .inl x1, .inl x2] h (f_X10_newChapters a0 x1 x2 h) := am_con (by decide +kernel) (Nat.le_of_ble_eq_true rfl) (by
  unfold f_X10_newChapters
  refine sim_aload_n dX10_newChapters_0 rfl ?_
  refine sim_gR 10 3 dX10_newChapters_1 rfl wf_RX10_21 (Nat.le_of_ble_eq_true rfl) rfl (fun o1 => ?_)
  refine sim_iload_n dX10_newChapters_4 rfl ?_
  refine sim_aR 5 rfl dX10_newChapters_5 (fun o2 => ?_)
  refine sim_astore_n dX10_newChapters_6 (Nat.le_of_ble_eq_true rfl) ?_
  refine sim_aload_n dX10_newChapters_7 rfl ?_
  refine sim_gR 10 2 dX10_newChapters_8 rfl wf_RX10_15 (Nat.le_of_ble_eq_true rfl) rfl (fun o3 => ?_)
  refine sim_iload_n dX10_newChapters_11 rfl ?_
  refine sim_aR 4 rfl dX10_newChapters_12 (fun o4 => ?_)
  refine sim_astore dX10_newChapters_13 (Nat.le_of_ble_eq_true rfl) ?_
  refine sim_aload_n dX10_newChapters_15 rfl ?_
  refine sim_ao0 (fun a7 e => ?_)
  refine sim_virt (d - 1) e dX10_newChapters_16 (k_X9_isPosted (d - 1) (by omega) _  _) q_X9_isPosted rfl rfl wm_RX10_141 rfl rfl (by omega) (Nat.le_of_ble_eq_true rfl) am_nI (am_rI fun h5 v6 => ?_) am_eI
  refine sim_if_eq 42 dX10_newChapters_19 (by decide) (fun c => ?_) (fun c => ?_)
  · exact sim_lv (am_leN (am_leN (am_leN (am_leN (am_leN (am_leN am_leT)))))) (t_X10_newChapters_42 d (by omega) _)
  · refine sim_aload_n dX10_newChapters_22 rfl ?_
    refine sim_iload_n dX10_newChapters_23 rfl ?_
    refine sim_aload_n dX10_newChapters_24 rfl ?_
    refine sim_gI 10 0 dX10_newChapters_25 rfl wf_RX10_73 (Nat.le_of_ble_eq_true rfl) rfl (fun v8 => ?_)
    refine sim_ao2 (fun a11 e => ?_)
    refine sim_virt (d - 1) e dX10_newChapters_28 (k_X9_isSeenBy (d - 1) (by omega) _ _ _ _) q_X9_isSeenBy rfl rfl wm_RX10_173 rfl rfl (by omega) (Nat.le_of_ble_eq_true rfl) am_nI (am_rI fun h9 v10 => ?_) am_eI
    refine sim_if_eq 42 dX10_newChapters_31 (by decide) (fun c => ?_) (fun c => ?_)
    · exact sim_lv (am_leN (am_leN (am_leN (am_leN (am_leN (am_leN am_leT)))))) (t_X10_newChapters_42 d (by omega) _)
    · refine sim_aload_n dX10_newChapters_34 rfl ?_
      refine sim_iload_n dX10_newChapters_35 rfl ?_
      refine sim_ao1 (fun a14 e => ?_)
      refine sim_virt (d - 1) e dX10_newChapters_36 (k_X9_isOwnedBy (d - 1) (by omega) _ _ _) q_X9_isOwnedBy rfl rfl wm_RX10_125 rfl rfl (by omega) (Nat.le_of_ble_eq_true rfl) am_nI (am_rI fun h12 v13 => ?_) am_eI
      refine sim_if_eq 44 dX10_newChapters_39 (by decide) (fun c => ?_) (fun c => ?_)
      · refine sim_aload dX10_newChapters_44 rfl ?_
        refine sim_gR 3 1 dX10_newChapters_46 rfl wf_RX10_367 (Nat.le_of_ble_eq_true rfl) rfl (fun o15 => ?_)
        refine sim_iload_n dX10_newChapters_49 rfl ?_
        refine sim_aI dX10_newChapters_50 (fun v16 => ?_)
        refine sim_aload dX10_newChapters_51 rfl ?_
        refine sim_aload_n dX10_newChapters_53 rfl ?_
        refine sim_iload_n dX10_newChapters_54 rfl ?_
        refine sim_aload_n dX10_newChapters_55 rfl ?_
        refine sim_gI 10 0 dX10_newChapters_56 rfl wf_RX10_73 (Nat.le_of_ble_eq_true rfl) rfl (fun v17 => ?_)
        refine sim_ao2 (fun a20 e => ?_)
        refine sim_virt (d - 1) e dX10_newChapters_59 (k_X9_ownersToldTo (d - 1) (by omega) _ _ _ _) q_X9_ownersToldTo rfl rfl wm_RX10_176 rfl rfl (by omega) (Nat.le_of_ble_eq_true rfl) am_nI (am_rI fun h18 v19 => ?_) am_eI
        refine sim_ao1 (fun a23 e => ?_)
        refine sim_virt (d - 1) e dX10_newChapters_62 (k_X3_firstDayOfAny (d - 1) (by omega) _ _ _) q_X3_firstDayOfAny rfl rfl wm_RX10_458 rfl rfl (by omega) (Nat.le_of_ble_eq_true rfl) am_nI (am_rI fun h21 v22 => ?_) am_eI
        refine sim_mmin dX10_newChapters_65 wm_RX10_461 wms_min wz_RJ9 wmc_min (by omega) (Nat.le_of_ble_eq_true rfl) ?_
        refine sim_istore dX10_newChapters_68 (Nat.le_of_ble_eq_true rfl) ?_
        refine sim_aload_n dX10_newChapters_70 rfl ?_
        refine sim_iload dX10_newChapters_71 rfl ?_
        refine sim_ao1 (fun a26 e => ?_)
        refine sim_virt (d - 1) e dX10_newChapters_73 (k_X9_chaptersOutFrom (d - 1) (by omega) _ _ _) q_X9_chaptersOutFrom rfl rfl wm_RX10_466 rfl rfl (by omega) (Nat.le_of_ble_eq_true rfl) am_nI (am_rI fun h24 v25 => ?_) am_eI
        refine sim_aload dX10_newChapters_76 rfl ?_
        refine sim_gR 3 3 dX10_newChapters_78 rfl wf_RX10_373 (Nat.le_of_ble_eq_true rfl) rfl (fun o27 => ?_)
        refine sim_iload_n dX10_newChapters_81 rfl ?_
        refine sim_aI dX10_newChapters_82 (fun v28 => ?_)
        refine sim_iconst (-1) dX10_newChapters_83 (by decide +kernel) ?_
        refine sim_ixor dX10_newChapters_84 ?_
        refine sim_iand dX10_newChapters_85 ?_
        exact sim_iret dX10_newChapters_86 rfl
      · exact sim_lv (am_leN (am_leN (am_leN (am_leN (am_leN (am_leN am_leT)))))) (t_X10_newChapters_42 d (by omega) _))
theorem q_X10_newChapters : am_Cal m_X10_newChapters 2 2 := ⟨am_mem 1074 (w := Cond.code yX10_newChapters cX10_newChapters 6 (some .int)) (by decide +kernel) rfl, am_mem 56 (w := Cond.initialized RX10) (by decide +kernel) rfl, fun z => absurd z (by decide), fun _ => am_mem 1073 (w := Cond.instanceMethod yX10_newChapters) (by decide +kernel) rfl, fun z => absurd z (by decide), fun _ => am_mem 28 (w := Cond.selects RX10 yX10_newChapters yX10_newChapters) (by decide +kernel) rfl, by decide +kernel, by decide +kernel, Nat.le_of_ble_eq_true rfl⟩
end
section
theorem dX10_digest_0 : decode cX10_digest 0 = .ok (.iload_n 1, 1) := by decide +kernel
theorem dX10_digest_1 : decode cX10_digest 1 = .ok (.invokestatic 82, 3) := by decide +kernel
theorem dX10_digest_4 : decode cX10_digest 4 = .ok (.aload_n 0, 1) := by decide +kernel
theorem dX10_digest_5 : decode cX10_digest 5 = .ok (.getfield 15, 3) := by decide +kernel
theorem dX10_digest_8 : decode cX10_digest 8 = .ok (.iload_n 1, 1) := by decide +kernel
theorem dX10_digest_9 : decode cX10_digest 9 = .ok (.aaload, 1) := by decide +kernel
theorem dX10_digest_10 : decode cX10_digest 10 = .ok (.astore_n 2, 1) := by decide +kernel
theorem dX10_digest_11 : decode cX10_digest 11 = .ok (.iconst 0, 1) := by decide +kernel
theorem dX10_digest_12 : decode cX10_digest 12 = .ok (.istore_n 3, 1) := by decide +kernel
theorem dX10_digest_13 : decode cX10_digest 13 = .ok (.iconst 0, 1) := by decide +kernel
theorem dX10_digest_14 : decode cX10_digest 14 = .ok (.istore 4, 2) := by decide +kernel
theorem dX10_digest_16 : decode cX10_digest 16 = .ok (.iload 4, 2) := by decide +kernel
theorem dX10_digest_18 : decode cX10_digest 18 = .ok (.aload_n 0, 1) := by decide +kernel
theorem dX10_digest_19 : decode cX10_digest 19 = .ok (.getfield 104, 3) := by decide +kernel
theorem dX10_digest_22 : decode cX10_digest 22 = .ok (.if_icmp .ge 38, 3) := by decide +kernel
theorem dX10_digest_25 : decode cX10_digest 25 = .ok (.aload_n 0, 1) := by decide +kernel
theorem dX10_digest_26 : decode cX10_digest 26 = .ok (.iload_n 1, 1) := by decide +kernel
theorem dX10_digest_27 : decode cX10_digest 27 = .ok (.iload 4, 2) := by decide +kernel
theorem dX10_digest_29 : decode cX10_digest 29 = .ok (.invokevirtual 370, 3) := by decide +kernel
theorem dX10_digest_32 : decode cX10_digest 32 = .ok (.istore 5, 2) := by decide +kernel
theorem dX10_digest_34 : decode cX10_digest 34 = .ok (.aload_n 2, 1) := by decide +kernel
theorem dX10_digest_35 : decode cX10_digest 35 = .ok (.getfield 373, 3) := by decide +kernel
theorem dX10_digest_38 : decode cX10_digest 38 = .ok (.iload 4, 2) := by decide +kernel
theorem dX10_digest_40 : decode cX10_digest 40 = .ok (.dup2, 1) := by decide +kernel
theorem dX10_digest_41 : decode cX10_digest 41 = .ok (.iaload, 1) := by decide +kernel
theorem dX10_digest_42 : decode cX10_digest 42 = .ok (.iload 5, 2) := by decide +kernel
theorem dX10_digest_44 : decode cX10_digest 44 = .ok (.ior, 1) := by decide +kernel
theorem dX10_digest_45 : decode cX10_digest 45 = .ok (.iastore, 1) := by decide +kernel
theorem dX10_digest_46 : decode cX10_digest 46 = .ok (.iload_n 3, 1) := by decide +kernel
theorem dX10_digest_47 : decode cX10_digest 47 = .ok (.iload 5, 2) := by decide +kernel
theorem dX10_digest_49 : decode cX10_digest 49 = .ok (.invokestatic 119, 3) := by decide +kernel
theorem dX10_digest_52 : decode cX10_digest 52 = .ok (.iadd, 1) := by decide +kernel
theorem dX10_digest_53 : decode cX10_digest 53 = .ok (.istore_n 3, 1) := by decide +kernel
theorem dX10_digest_54 : decode cX10_digest 54 = .ok (.iinc 4 1, 3) := by decide +kernel
theorem dX10_digest_57 : decode cX10_digest 57 = .ok (.goto (-41), 3) := by decide +kernel
theorem dX10_digest_60 : decode cX10_digest 60 = .ok (.iload_n 3, 1) := by decide +kernel
theorem dX10_digest_61 : decode cX10_digest 61 = .ok (.ireturn, 1) := by decide +kernel
abbrev m_X10_digest : am_M := (yX10_digest, cX10_digest, 6, some .int, [])
def f_X10_digest_16  : Nat → Nat × Nat → Int32 → Option (Nat × Nat) → Int32 → Int32 → am_H → am_R
  | 0, _, _, _, _, _, _ => none
  | n + 1, a0, x1, x2, x3, x4, h => m_gI (some a0) 10 4 h fun v5 => if v5 ≤ x4 then (m_ri h x3) else (m_ao (some a0) 10 fun a8 => m_bI (f_X10_newChapters a8 x1 x4 h) fun h6 v7 => m_gR x2 3 3 h6 fun o9 => m_aI o9 0 x4 h6 fun v10 => m_sI o9 x4 (v10 ||| v7) h6 fun h11 => m_bI (f_J6_bitCount_0f7a4 v7 h11) fun h12 v13 => (f_X10_digest_16  n) a0 x1 x2 (x3 + v13) (x4 + 1) h12)
theorem t_X10_digest_16 (d : Nat) (hd : 7 ≤ d)  : ∀ (n : Nat) (a0 : Nat × Nat) (x1 : Int32) (x2 : Option (Nat × Nat)) (x3 : Int32) (x4 : Int32) (h : am_H), Sim m_X10_digest d 16 [some (.inr (.inr (some a0))), some (.inl x1), some (.inr (.inr x2)), some (.inl x3), some (.inl x4), none] [] h (f_X10_digest_16  n a0 x1 x2 x3 x4 h) := by
  intro n
  induction n with
  | zero => intros; exact sim_none
  | succ n hrc16 =>
    intro a0 x1 x2 x3 x4 h
    rw [f_X10_digest_16]
    refine sim_iload dX10_digest_16 rfl ?_
    refine sim_aload_n dX10_digest_18 rfl ?_
    refine sim_gI 10 4 dX10_digest_19 rfl wf_RX10_104 (Nat.le_of_ble_eq_true rfl) rfl (fun v5 => ?_)
    refine sim_ic_ge 60 dX10_digest_22 (by decide) (fun c => ?_) (fun c => ?_)
    · refine sim_iload_n dX10_digest_60 rfl ?_
      exact sim_iret dX10_digest_61 rfl
    · refine sim_aload_n dX10_digest_25 rfl ?_
      refine sim_iload_n dX10_digest_26 rfl ?_
      refine sim_iload dX10_digest_27 rfl ?_
      refine sim_ao2 (fun a8 e => ?_)
      refine sim_virt (d - 1) e dX10_digest_29 (k_X10_newChapters (d - 1) (by omega) _ _ _ _) q_X10_newChapters rfl rfl wm_RX10_370 rfl rfl (by omega) (Nat.le_of_ble_eq_true rfl) am_nI (am_rI fun h6 v7 => ?_) am_eI
      refine sim_istore dX10_digest_32 (Nat.le_of_ble_eq_true rfl) ?_
      refine sim_aload_n dX10_digest_34 rfl ?_
      refine sim_gR 3 3 dX10_digest_35 rfl wf_RX10_373 (Nat.le_of_ble_eq_true rfl) rfl (fun o9 => ?_)
      refine sim_iload dX10_digest_38 rfl ?_
      refine sim_dup2 dX10_digest_40 ?_
      refine sim_aI dX10_digest_41 (fun v10 => ?_)
      refine sim_iload dX10_digest_42 rfl ?_
      refine sim_ior dX10_digest_44 ?_
      refine sim_sI dX10_digest_45 (fun h11 => ?_)
      refine sim_iload_n dX10_digest_46 rfl ?_
      refine sim_iload dX10_digest_47 rfl ?_
      refine sim_static (d - 1) dX10_digest_49 (k_J6_bitCount_0f7a4 (d - 1) (by omega) _ _) q_J6_bitCount_0f7a4 wm_RX10_119 rfl rfl (by omega) (Nat.le_of_ble_eq_true rfl) am_nI (am_rI fun h12 v13 => ?_) am_eI
      refine sim_iadd dX10_digest_52 ?_
      refine sim_istore_n dX10_digest_53 (Nat.le_of_ble_eq_true rfl) ?_
      refine sim_iinc (1) dX10_digest_54 rfl (by decide +kernel) (Nat.le_of_ble_eq_true rfl) ?_
      refine sim_goto 16 dX10_digest_57 (by decide) ?_
      exact sim_lv (am_leS (am_leS (am_leS (am_leS (am_leS (am_leN am_leT)))))) (hrc16 _ _ _ _ _ _)
def f_X10_digest (a0 : Nat × Nat) (x1 : Int32) (h : am_H) : am_R := m_bV (f_X10_checkPerson x1 h) fun h1 => m_gR (some a0) 10 2 h1 fun o3 => m_aR o3 4 x1 h1 fun o4 => f_X10_digest_16 5000 a0 x1 o4 (0 : Int32) (0 : Int32) h1
theorem k_X10_digest (d : Nat) (hd : 7 ≤ d) (a0 : Nat × Nat) (x1 : Int32) (h : am_H) : am_Con m_X10_digest d [.inr (.inr (some a0)), .inl x1] h (f_X10_digest a0 x1 h) := am_con (by decide +kernel) (Nat.le_of_ble_eq_true rfl) (by
  unfold f_X10_digest
  refine sim_iload_n dX10_digest_0 rfl ?_
  refine sim_static (d - 1) dX10_digest_1 (k_X10_checkPerson (d - 1) (by omega) _ _) q_X10_checkPerson wm_RX10_82 rfl rfl (by omega) (Nat.le_of_ble_eq_true rfl) am_nV (am_rV fun h1 => ?_) am_eV
  refine sim_aload_n dX10_digest_4 rfl ?_
  refine sim_gR 10 2 dX10_digest_5 rfl wf_RX10_15 (Nat.le_of_ble_eq_true rfl) rfl (fun o3 => ?_)
  refine sim_iload_n dX10_digest_8 rfl ?_
  refine sim_aR 4 rfl dX10_digest_9 (fun o4 => ?_)
  refine sim_astore_n dX10_digest_10 (Nat.le_of_ble_eq_true rfl) ?_
  refine sim_iconst (0) dX10_digest_11 (by decide +kernel) ?_
  refine sim_istore_n dX10_digest_12 (Nat.le_of_ble_eq_true rfl) ?_
  refine sim_iconst (0) dX10_digest_13 (by decide +kernel) ?_
  refine sim_istore dX10_digest_14 (Nat.le_of_ble_eq_true rfl) ?_
  exact sim_lv (am_leS (am_leS (am_leS (am_leS (am_leS (am_leN am_leT)))))) (t_X10_digest_16 d (by omega) _ _ _ _ _ _ _))
theorem q_X10_digest : am_Cal m_X10_digest 1 2 := ⟨am_mem 1095 (w := Cond.code yX10_digest cX10_digest 6 (some .int)) (by decide +kernel) rfl, am_mem 56 (w := Cond.initialized RX10) (by decide +kernel) rfl, fun z => absurd z (by decide), fun _ => am_mem 1093 (w := Cond.instanceMethod yX10_digest) (by decide +kernel) rfl, fun z => absurd z (by decide), fun _ => am_mem 1094 (w := Cond.selects RX10 yX10_digest yX10_digest) (by decide +kernel) rfl, by decide +kernel, by decide +kernel, Nat.le_of_ble_eq_true rfl⟩
theorem dL_digest_0 : decode cL_digest 0 = .ok (.aload_n 2, 1) := by decide +kernel
theorem dL_digest_1 : decode cL_digest 1 = .ok (.iconst 0, 1) := by decide +kernel
theorem dL_digest_2 : decode cL_digest 2 = .ok (.aload_n 0, 1) := by decide +kernel
theorem dL_digest_3 : decode cL_digest 3 = .ok (.iload_n 1, 1) := by decide +kernel
theorem dL_digest_4 : decode cL_digest 4 = .ok (.invokevirtual 129, 3) := by decide +kernel
theorem dL_digest_7 : decode cL_digest 7 = .ok (.i2l, 1) := by decide +kernel
theorem dL_digest_8 : decode cL_digest 8 = .ok (.lastore, 1) := by decide +kernel
theorem dL_digest_9 : decode cL_digest 9 = .ok (.goto 6, 3) := by decide +kernel
theorem dL_digest_12 : decode cL_digest 12 = .ok (.astore_n 3, 1) := by decide +kernel
theorem dL_digest_13 : decode cL_digest 13 = .ok (.iconst 1, 1) := by decide +kernel
theorem dL_digest_14 : decode cL_digest 14 = .ok (.ireturn, 1) := by decide +kernel
theorem dL_digest_15 : decode cL_digest 15 = .ok (.iconst 0, 1) := by decide +kernel
theorem dL_digest_16 : decode cL_digest 16 = .ok (.ireturn, 1) := by decide +kernel
abbrev m_L_digest : am_M := (yL_digest, cL_digest, 4, some .int, [(0, 9, 12, 21)])
def f_L_digest (x0 : Option (Nat × Nat)) (x1 : Int32) (x2 : Option (Nat × Nat)) (h : am_H) : am_R := m_ao x0 10 fun a3 => m_bIx (f_X10_digest a3 x1 h) (fun h1 v2 => m_sL x2 (0 : Int32) (Int32.toInt64 v2) h1 fun h6 => m_ri h6 (0 : Int32)) (fun h4 e5 => if e5 = 0 then (m_ri h4 (1 : Int32)) else none)
theorem k_L_digest (d : Nat) (hd : 8 ≤ d) (x0 : Option (Nat × Nat)) (x1 : Int32) (x2 : Option (Nat × Nat)) (h : am_H) : am_Con m_L_digest d [.inr (.inr x0), .inl x1, .inr (.inr x2)] h (f_L_digest x0 x1 x2 h) := am_conX (by decide +kernel) (Nat.le_of_ble_eq_true rfl) (by
  unfold f_L_digest
  refine sim_aload_n dL_digest_0 rfl ?_
  refine sim_iconst (0) dL_digest_1 (by decide +kernel) ?_
  refine sim_aload_n dL_digest_2 rfl ?_
  refine sim_iload_n dL_digest_3 rfl ?_
  refine sim_ao1 (fun a3 e => ?_)
  refine sim_virt (d - 1) e dL_digest_4 (k_X10_digest (d - 1) (by omega) _ _ _) q_X10_digest rfl rfl wm_RL_129 rfl rfl (by omega) (Nat.le_of_ble_eq_true rfl) am_nIx (am_rIx fun h1 v2 => ?_) (am_eIx fun h9 k9 => ?_)
  · refine sim_i2l dL_digest_7 ?_
    refine sim_sL dL_digest_8 (fun h6 => ?_)
    refine sim_goto 15 dL_digest_9 (by decide) ?_
    refine sim_iconst (0) dL_digest_15 (by decide +kernel) ?_
    exact sim_iret dL_digest_16 rfl
  · refine simx_case (fun cx => ?_) (fun cx => ?_)
    · subst cx
      refine simx_catch [] (0, 9, 12, 21) [] rfl ⟨by decide, by decide⟩ (by decide) wx_RL_21 wca_0 (by decide) (fun z hz => by cases hz) ?_
      refine sim_astore_n dL_digest_12 (Nat.le_of_ble_eq_true rfl) ?_
      refine sim_iconst (1) dL_digest_13 (by decide +kernel) ?_
      exact sim_iret dL_digest_14 rfl
    exact simx_none)
theorem q_L_digest : am_Cal m_L_digest 3 0 := ⟨am_mem 1091 (w := Cond.codeWith yL_digest cL_digest 4 (some .int) [(0, 9, 12, 21)]) (by decide +kernel) rfl, am_mem 55 (w := Cond.initialized RL) (by decide +kernel) rfl, fun _ => am_mem 1090 (w := Cond.static yL_digest) (by decide +kernel) rfl, fun z => absurd rfl z, fun z => absurd z (by decide), fun z => absurd z (by decide), by decide +kernel, by decide +kernel, Nat.le_of_ble_eq_true rfl⟩
theorem dX10_join_0 : decode cX10_join 0 = .ok (.aload_n 0, 1) := by decide +kernel
theorem dX10_join_1 : decode cX10_join 1 = .ok (.iload_n 1, 1) := by decide +kernel
theorem dX10_join_2 : decode cX10_join 2 = .ok (.invokevirtual 112, 3) := by decide +kernel
theorem dX10_join_5 : decode cX10_join 5 = .ok (.astore_n 3, 1) := by decide +kernel
theorem dX10_join_6 : decode cX10_join 6 = .ok (.iload_n 2, 1) := by decide +kernel
theorem dX10_join_7 : decode cX10_join 7 = .ok (.invokestatic 82, 3) := by decide +kernel
theorem dX10_join_10 : decode cX10_join 10 = .ok (.aload_n 3, 1) := by decide +kernel
theorem dX10_join_11 : decode cX10_join 11 = .ok (.getfield 116, 3) := by decide +kernel
theorem dX10_join_14 : decode cX10_join 14 = .ok (.invokestatic 119, 3) := by decide +kernel
theorem dX10_join_17 : decode cX10_join 17 = .ok (.istore 4, 2) := by decide +kernel
theorem dX10_join_19 : decode cX10_join 19 = .ok (.aload_n 3, 1) := by decide +kernel
theorem dX10_join_20 : decode cX10_join 20 = .ok (.iload_n 2, 1) := by decide +kernel
theorem dX10_join_21 : decode cX10_join 21 = .ok (.invokevirtual 125, 3) := by decide +kernel
theorem dX10_join_24 : decode cX10_join 24 = .ok (.ifCond .ne 14, 3) := by decide +kernel
theorem dX10_join_27 : decode cX10_join 27 = .ok (.iload 4, 2) := by decide +kernel
theorem dX10_join_29 : decode cX10_join 29 = .ok (.iconst 3, 1) := by decide +kernel
theorem dX10_join_30 : decode cX10_join 30 = .ok (.if_icmp .ge 8, 3) := by decide +kernel
theorem dX10_join_33 : decode cX10_join 33 = .ok (.iload 4, 2) := by decide +kernel
theorem dX10_join_35 : decode cX10_join 35 = .ok (.ifCond .ne 13, 3) := by decide +kernel
theorem dX10_join_38 : decode cX10_join 38 = .ok (.new 77, 3) := by decide +kernel
theorem dX10_join_41 : decode cX10_join 41 = .ok (.dup, 1) := by decide +kernel
theorem dX10_join_42 : decode cX10_join 42 = .ok (.ldc 129, 2) := by decide +kernel
theorem dX10_join_44 : decode cX10_join 44 = .ok (.invokespecial 81, 3) := by decide +kernel
theorem dX10_join_47 : decode cX10_join 47 = .ok (.athrow, 1) := by decide +kernel
theorem dX10_join_48 : decode cX10_join 48 = .ok (.aload_n 3, 1) := by decide +kernel
theorem dX10_join_49 : decode cX10_join 49 = .ok (.aload_n 3, 1) := by decide +kernel
theorem dX10_join_50 : decode cX10_join 50 = .ok (.getfield 116, 3) := by decide +kernel
theorem dX10_join_53 : decode cX10_join 53 = .ok (.iload_n 2, 1) := by decide +kernel
theorem dX10_join_54 : decode cX10_join 54 = .ok (.iconst 1, 1) := by decide +kernel
theorem dX10_join_55 : decode cX10_join 55 = .ok (.invokestatic 95, 3) := by decide +kernel
theorem dX10_join_58 : decode cX10_join 58 = .ok (.putfield 116, 3) := by decide +kernel
theorem dX10_join_61 : decode cX10_join 61 = .ok (.iload 4, 2) := by decide +kernel
theorem dX10_join_63 : decode cX10_join 63 = .ok (.iconst 1, 1) := by decide +kernel
theorem dX10_join_64 : decode cX10_join 64 = .ok (.iadd, 1) := by decide +kernel
theorem dX10_join_65 : decode cX10_join 65 = .ok (.ireturn, 1) := by decide +kernel
abbrev m_X10_join : am_M := (yX10_join, cX10_join, 5, some .int, [])
def f_X10_join_38   (h : am_H) : am_R := m_ex h 2
theorem t_X10_join_38 (d : Nat) (hd : 8 ≤ d)   (h : am_H) : Sim m_X10_join d 38 [none, none, none, none, none] [] h (f_X10_join_38   h) := by
  unfold f_X10_join_38
  exact sim_throw 2 (by decide) dX10_join_38 dX10_join_41 dX10_join_42 dX10_join_44 dX10_join_47 wx_RX10_77 wy_2 ws_RX10_129 at_RX10_81 gd_RX10_81 (by omega) (Nat.le_of_ble_eq_true rfl)
def f_X10_join (a0 : Nat × Nat) (x1 : Int32) (x2 : Int32) (h : am_H) : am_R := m_ao (some a0) 10 fun a3 => m_bR (f_X10_workAt a3 x1 h) fun h1 o2 => m_bV (f_X10_checkPerson x2 h1) fun h4 => m_gI o2 9 1 h4 fun v6 => m_bI (f_J6_bitCount_0f7a4 v6 h4) fun h7 v8 => m_ao o2 9 fun a11 => m_bI (f_X9_isOwnedBy a11 x2 h7) fun h9 v10 => if v10 = 0 then (if (3 : Int32) ≤ v8 then (f_X10_join_38 h9) else (if v8 = 0 then (f_X10_join_38 h9) else (m_gI o2 9 1 h9 fun v12 => m_bI (f_X10_with v12 x2 (1 : Int32) h9) fun h13 v14 => m_pI o2 9 1 v14 h13 fun h15 => m_ri h15 (v8 + (1 : Int32))))) else (f_X10_join_38 h9)
theorem k_X10_join (d : Nat) (hd : 8 ≤ d) (a0 : Nat × Nat) (x1 : Int32) (x2 : Int32) (h : am_H) : am_Con m_X10_join d [.inr (.inr (some a0)), .inl x1, .inl x2] h (f_X10_join a0 x1 x2 h) := am_con (by decide +kernel) (Nat.le_of_ble_eq_true rfl) (by
  unfold f_X10_join
  refine sim_aload_n dX10_join_0 rfl ?_
  refine sim_iload_n dX10_join_1 rfl ?_
  refine sim_ao1 (fun a3 e => ?_)
  refine sim_virt (d - 1) e dX10_join_2 (k_X10_workAt (d - 1) (by omega) _ _ _) q_X10_workAt rfl rfl wm_RX10_112 rfl rfl (by omega) (Nat.le_of_ble_eq_true rfl) am_nR (am_rR fun h1 o2 => ?_) am_eR
  refine sim_astore_n dX10_join_5 (Nat.le_of_ble_eq_true rfl) ?_
  refine sim_iload_n dX10_join_6 rfl ?_
  refine sim_static (d - 1) dX10_join_7 (k_X10_checkPerson (d - 1) (by omega) _ _) q_X10_checkPerson wm_RX10_82 rfl rfl (by omega) (Nat.le_of_ble_eq_true rfl) am_nV (am_rV fun h4 => ?_) am_eV
  refine sim_aload_n dX10_join_10 rfl ?_
  refine sim_gI 9 1 dX10_join_11 rfl wf_RX10_116 (Nat.le_of_ble_eq_true rfl) rfl (fun v6 => ?_)
  refine sim_static (d - 1) dX10_join_14 (k_J6_bitCount_0f7a4 (d - 1) (by omega) _ _) q_J6_bitCount_0f7a4 wm_RX10_119 rfl rfl (by omega) (Nat.le_of_ble_eq_true rfl) am_nI (am_rI fun h7 v8 => ?_) am_eI
  refine sim_istore dX10_join_17 (Nat.le_of_ble_eq_true rfl) ?_
  refine sim_aload_n dX10_join_19 rfl ?_
  refine sim_iload_n dX10_join_20 rfl ?_
  refine sim_ao1 (fun a11 e => ?_)
  refine sim_virt (d - 1) e dX10_join_21 (k_X9_isOwnedBy (d - 1) (by omega) _ _ _) q_X9_isOwnedBy rfl rfl wm_RX10_125 rfl rfl (by omega) (Nat.le_of_ble_eq_true rfl) am_nI (am_rI fun h9 v10 => ?_) am_eI
  refine sim_if_ne 38 dX10_join_24 (by decide) (fun c => ?_) (fun c => ?_)
  · exact sim_lv (am_leN (am_leN (am_leN (am_leN (am_leN am_leT))))) (t_X10_join_38 d (by omega) _)
  · refine sim_iload dX10_join_27 rfl ?_
    refine sim_iconst (3) dX10_join_29 (by decide +kernel) ?_
    refine sim_ic_ge 38 dX10_join_30 (by decide) (fun c => ?_) (fun c => ?_)
    · exact sim_lv (am_leN (am_leN (am_leN (am_leN (am_leN am_leT))))) (t_X10_join_38 d (by omega) _)
    · refine sim_iload dX10_join_33 rfl ?_
      refine sim_if_ne 48 dX10_join_35 (by decide) (fun c => ?_) (fun c => ?_)
      · refine sim_aload_n dX10_join_48 rfl ?_
        refine sim_aload_n dX10_join_49 rfl ?_
        refine sim_gI 9 1 dX10_join_50 rfl wf_RX10_116 (Nat.le_of_ble_eq_true rfl) rfl (fun v12 => ?_)
        refine sim_iload_n dX10_join_53 rfl ?_
        refine sim_iconst (1) dX10_join_54 (by decide +kernel) ?_
        refine sim_static (d - 1) dX10_join_55 (k_X10_with (d - 1) (by omega) _ _ _ _) q_X10_with wm_RX10_95 rfl rfl (by omega) (Nat.le_of_ble_eq_true rfl) am_nI (am_rI fun h13 v14 => ?_) am_eI
        refine sim_pI 9 1 dX10_join_58 rfl wf_RX10_116 (Nat.le_of_ble_eq_true rfl) rfl (Or.inl rfl) rfl (fun h15 => ?_)
        refine sim_iload dX10_join_61 rfl ?_
        refine sim_iconst (1) dX10_join_63 (by decide +kernel) ?_
        refine sim_iadd dX10_join_64 ?_
        exact sim_iret dX10_join_65 rfl
      · exact sim_lv (am_leN (am_leN (am_leN (am_leN (am_leN am_leT))))) (t_X10_join_38 d (by omega) _))
theorem q_X10_join : am_Cal m_X10_join 2 2 := ⟨am_mem 556 (w := Cond.code yX10_join cX10_join 5 (some .int)) (by decide +kernel) rfl, am_mem 56 (w := Cond.initialized RX10) (by decide +kernel) rfl, fun z => absurd z (by decide), fun _ => am_mem 554 (w := Cond.instanceMethod yX10_join) (by decide +kernel) rfl, fun z => absurd z (by decide), fun _ => am_mem 555 (w := Cond.selects RX10 yX10_join yX10_join) (by decide +kernel) rfl, by decide +kernel, by decide +kernel, Nat.le_of_ble_eq_true rfl⟩
theorem dL_join_0 : decode cL_join 0 = .ok (.aload_n 3, 1) := by decide +kernel
theorem dL_join_1 : decode cL_join 1 = .ok (.iconst 0, 1) := by decide +kernel
theorem dL_join_2 : decode cL_join 2 = .ok (.aload_n 0, 1) := by decide +kernel
theorem dL_join_3 : decode cL_join 3 = .ok (.iload_n 1, 1) := by decide +kernel
theorem dL_join_4 : decode cL_join 4 = .ok (.iload_n 2, 1) := by decide +kernel
theorem dL_join_5 : decode cL_join 5 = .ok (.invokevirtual 31, 3) := by decide +kernel
theorem dL_join_8 : decode cL_join 8 = .ok (.i2l, 1) := by decide +kernel
theorem dL_join_9 : decode cL_join 9 = .ok (.lastore, 1) := by decide +kernel
theorem dL_join_10 : decode cL_join 10 = .ok (.goto 11, 3) := by decide +kernel
theorem dL_join_13 : decode cL_join 13 = .ok (.astore 4, 2) := by decide +kernel
theorem dL_join_15 : decode cL_join 15 = .ok (.iconst 1, 1) := by decide +kernel
theorem dL_join_16 : decode cL_join 16 = .ok (.ireturn, 1) := by decide +kernel
theorem dL_join_17 : decode cL_join 17 = .ok (.astore 4, 2) := by decide +kernel
theorem dL_join_19 : decode cL_join 19 = .ok (.iconst 2, 1) := by decide +kernel
theorem dL_join_20 : decode cL_join 20 = .ok (.ireturn, 1) := by decide +kernel
theorem dL_join_21 : decode cL_join 21 = .ok (.iconst 0, 1) := by decide +kernel
theorem dL_join_22 : decode cL_join 22 = .ok (.ireturn, 1) := by decide +kernel
abbrev m_L_join : am_M := (yL_join, cL_join, 5, some .int, [(0, 10, 13, 21), (0, 10, 17, 15)])
def f_L_join (x0 : Option (Nat × Nat)) (x1 : Int32) (x2 : Int32) (x3 : Option (Nat × Nat)) (h : am_H) : am_R := m_ao x0 10 fun a3 => m_bIx (f_X10_join a3 x1 x2 h) (fun h1 v2 => m_sL x3 (0 : Int32) (Int32.toInt64 v2) h1 fun h6 => m_ri h6 (0 : Int32)) (fun h4 e5 => if e5 = 0 then (m_ri h4 (1 : Int32)) else if e5 = 2 then (m_ri h4 (2 : Int32)) else none)
theorem k_L_join (d : Nat) (hd : 9 ≤ d) (x0 : Option (Nat × Nat)) (x1 : Int32) (x2 : Int32) (x3 : Option (Nat × Nat)) (h : am_H) : am_Con m_L_join d [.inr (.inr x0), .inl x1, .inl x2, .inr (.inr x3)] h (f_L_join x0 x1 x2 x3 h) := am_conX (by decide +kernel) (Nat.le_of_ble_eq_true rfl) (by
  unfold f_L_join
  refine sim_aload_n dL_join_0 rfl ?_
  refine sim_iconst (0) dL_join_1 (by decide +kernel) ?_
  refine sim_aload_n dL_join_2 rfl ?_
  refine sim_iload_n dL_join_3 rfl ?_
  refine sim_iload_n dL_join_4 rfl ?_
  refine sim_ao2 (fun a3 e => ?_)
  refine sim_virt (d - 1) e dL_join_5 (k_X10_join (d - 1) (by omega) _ _ _ _) q_X10_join rfl rfl wm_RL_31 rfl rfl (by omega) (Nat.le_of_ble_eq_true rfl) am_nIx (am_rIx fun h1 v2 => ?_) (am_eIx fun h9 k9 => ?_)
  · refine sim_i2l dL_join_8 ?_
    refine sim_sL dL_join_9 (fun h6 => ?_)
    refine sim_goto 21 dL_join_10 (by decide) ?_
    refine sim_iconst (0) dL_join_21 (by decide +kernel) ?_
    exact sim_iret dL_join_22 rfl
  · refine simx_case (fun cx => ?_) (fun cx => ?_)
    · subst cx
      refine simx_catch [] (0, 10, 13, 21) [(0, 10, 17, 15)] rfl ⟨by decide, by decide⟩ (by decide) wx_RL_21 wca_0 (by decide) (fun z hz => by cases hz) ?_
      refine sim_astore dL_join_13 (Nat.le_of_ble_eq_true rfl) ?_
      refine sim_iconst (1) dL_join_15 (by decide +kernel) ?_
      exact sim_iret dL_join_16 rfl
    refine simx_case (fun cx => ?_) (fun cx => ?_)
    · subst cx
      refine simx_catch [(0, 10, 13, 21)] (0, 10, 17, 15) [] rfl ⟨by decide, by decide⟩ (by decide) wx_RL_15 wca_2 (by decide) (fun z hz => by simp only [List.mem_cons, List.not_mem_nil, or_false] at hz; subst hz; exact ⟨by decide, 0, _, by decide, by decide, wx_RL_21⟩) ?_
      refine sim_astore dL_join_17 (Nat.le_of_ble_eq_true rfl) ?_
      refine sim_iconst (2) dL_join_19 (by decide +kernel) ?_
      exact sim_iret dL_join_20 rfl
    exact simx_none)
theorem q_L_join : am_Cal m_L_join 4 0 := ⟨am_mem 552 (w := Cond.codeWith yL_join cL_join 5 (some .int) [(0, 10, 13, 21), (0, 10, 17, 15)]) (by decide +kernel) rfl, am_mem 55 (w := Cond.initialized RL) (by decide +kernel) rfl, fun _ => am_mem 551 (w := Cond.static yL_join) (by decide +kernel) rfl, fun z => absurd rfl z, fun z => absurd z (by decide), fun z => absurd z (by decide), by decide +kernel, by decide +kernel, Nat.le_of_ble_eq_true rfl⟩
theorem dX10_countKudos_0 : decode cX10_countKudos 0 = .ok (.iconst 0, 1) := by decide +kernel
theorem dX10_countKudos_1 : decode cX10_countKudos 1 = .ok (.istore_n 2, 1) := by decide +kernel
theorem dX10_countKudos_2 : decode cX10_countKudos 2 = .ok (.iconst 0, 1) := by decide +kernel
theorem dX10_countKudos_3 : decode cX10_countKudos 3 = .ok (.istore_n 3, 1) := by decide +kernel
theorem dX10_countKudos_4 : decode cX10_countKudos 4 = .ok (.iload_n 3, 1) := by decide +kernel
theorem dX10_countKudos_5 : decode cX10_countKudos 5 = .ok (.bipush 32, 2) := by decide +kernel
theorem dX10_countKudos_7 : decode cX10_countKudos 7 = .ok (.if_icmp .ge 47, 3) := by decide +kernel
theorem dX10_countKudos_10 : decode cX10_countKudos 10 = .ok (.iconst 1, 1) := by decide +kernel
theorem dX10_countKudos_11 : decode cX10_countKudos 11 = .ok (.iload_n 3, 1) := by decide +kernel
theorem dX10_countKudos_12 : decode cX10_countKudos 12 = .ok (.ishl, 1) := by decide +kernel
theorem dX10_countKudos_13 : decode cX10_countKudos 13 = .ok (.iconst 1, 1) := by decide +kernel
theorem dX10_countKudos_14 : decode cX10_countKudos 14 = .ok (.isub, 1) := by decide +kernel
theorem dX10_countKudos_15 : decode cX10_countKudos 15 = .ok (.istore 4, 2) := by decide +kernel
theorem dX10_countKudos_17 : decode cX10_countKudos 17 = .ok (.aload_n 1, 1) := by decide +kernel
theorem dX10_countKudos_18 : decode cX10_countKudos 18 = .ok (.getfield 352, 3) := by decide +kernel
theorem dX10_countKudos_21 : decode cX10_countKudos 21 = .ok (.iload_n 3, 1) := by decide +kernel
theorem dX10_countKudos_22 : decode cX10_countKudos 22 = .ok (.invokestatic 91, 3) := by decide +kernel
theorem dX10_countKudos_25 : decode cX10_countKudos 25 = .ok (.ifCond .eq 23, 3) := by decide +kernel
theorem dX10_countKudos_28 : decode cX10_countKudos 28 = .ok (.aload_n 1, 1) := by decide +kernel
theorem dX10_countKudos_29 : decode cX10_countKudos 29 = .ok (.getfield 352, 3) := by decide +kernel
theorem dX10_countKudos_32 : decode cX10_countKudos 32 = .ok (.aload_n 0, 1) := by decide +kernel
theorem dX10_countKudos_33 : decode cX10_countKudos 33 = .ok (.getfield 9, 3) := by decide +kernel
theorem dX10_countKudos_36 : decode cX10_countKudos 36 = .ok (.iload_n 3, 1) := by decide +kernel
theorem dX10_countKudos_37 : decode cX10_countKudos 37 = .ok (.iaload, 1) := by decide +kernel
theorem dX10_countKudos_38 : decode cX10_countKudos 38 = .ok (.iand, 1) := by decide +kernel
theorem dX10_countKudos_39 : decode cX10_countKudos 39 = .ok (.iload 4, 2) := by decide +kernel
theorem dX10_countKudos_41 : decode cX10_countKudos 41 = .ok (.iand, 1) := by decide +kernel
theorem dX10_countKudos_42 : decode cX10_countKudos 42 = .ok (.ifCond .ne 6, 3) := by decide +kernel
theorem dX10_countKudos_45 : decode cX10_countKudos 45 = .ok (.iinc 2 1, 3) := by decide +kernel
theorem dX10_countKudos_48 : decode cX10_countKudos 48 = .ok (.iinc 3 1, 3) := by decide +kernel
theorem dX10_countKudos_51 : decode cX10_countKudos 51 = .ok (.goto (-47), 3) := by decide +kernel
theorem dX10_countKudos_54 : decode cX10_countKudos 54 = .ok (.iload_n 2, 1) := by decide +kernel
theorem dX10_countKudos_55 : decode cX10_countKudos 55 = .ok (.ireturn, 1) := by decide +kernel
abbrev m_X10_countKudos : am_M := (yX10_countKudos, cX10_countKudos, 5, some .int, [])
def f_X10_countKudos_48 (rc4 : Nat × Nat → Option (Nat × Nat) → Int32 → Int32 → am_H → am_R) (a0 : Nat × Nat) (x1 : Option (Nat × Nat)) (x2 : Int32) (x3 : Int32) (h : am_H) : am_R := rc4 a0 x1 x2 (x3 + 1) h
theorem t_X10_countKudos_48 (d : Nat) (hd : 1 ≤ d) (rc4 : Nat × Nat → Option (Nat × Nat) → Int32 → Int32 → am_H → am_R) (hrc4 : ∀ a0 x1 x2 x3 h, Sim m_X10_countKudos d 4 [some (.inr (.inr (some a0))), some (.inr (.inr x1)), some (.inl x2), some (.inl x3), none] [] h (rc4 a0 x1 x2 x3 h)) (a0 : Nat × Nat) (x1 : Option (Nat × Nat)) (x2 : Int32) (x3 : Int32) (h : am_H) : Sim m_X10_countKudos d 48 [some (.inr (.inr (some a0))), some (.inr (.inr x1)), some (.inl x2), some (.inl x3), none] [] h (f_X10_countKudos_48 rc4 a0 x1 x2 x3 h) := by
  unfold f_X10_countKudos_48
  refine sim_iinc (1) dX10_countKudos_48 rfl (by decide +kernel) (Nat.le_of_ble_eq_true rfl) ?_
  refine sim_goto 4 dX10_countKudos_51 (by decide) ?_
  exact sim_lv (am_leS (am_leS (am_leS (am_leS (am_leN am_leT))))) (hrc4 _ _ _ _ _)
def f_X10_countKudos_4  : Nat → Nat × Nat → Option (Nat × Nat) → Int32 → Int32 → am_H → am_R
  | 0, _, _, _, _, _ => none
  | n + 1, a0, x1, x2, x3, h => if (32 : Int32) ≤ x3 then (m_ri h x2) else (m_gI x1 9 11 h fun v1 => m_bI (f_X10_has v1 x3 h) fun h2 v3 => if v3 = 0 then (f_X10_countKudos_48 (f_X10_countKudos_4  n) a0 x1 x2 x3 h2) else (m_gI x1 9 11 h2 fun v4 => m_gR (some a0) 10 1 h2 fun o5 => m_aI o5 0 x3 h2 fun v6 => if ((v4 &&& v6) &&& (((1 : Int32) <<< (x3 &&& 31)) - (1 : Int32))) = 0 then (f_X10_countKudos_48 (f_X10_countKudos_4  n) a0 x1 (x2 + 1) x3 h2) else (f_X10_countKudos_48 (f_X10_countKudos_4  n) a0 x1 x2 x3 h2)))
theorem t_X10_countKudos_4 (d : Nat) (hd : 1 ≤ d)  : ∀ (n : Nat) (a0 : Nat × Nat) (x1 : Option (Nat × Nat)) (x2 : Int32) (x3 : Int32) (h : am_H), Sim m_X10_countKudos d 4 [some (.inr (.inr (some a0))), some (.inr (.inr x1)), some (.inl x2), some (.inl x3), none] [] h (f_X10_countKudos_4  n a0 x1 x2 x3 h) := by
  intro n
  induction n with
  | zero => intros; exact sim_none
  | succ n hrc4 =>
    intro a0 x1 x2 x3 h
    rw [f_X10_countKudos_4]
    refine sim_iload_n dX10_countKudos_4 rfl ?_
    refine sim_bipush (32) dX10_countKudos_5 (by decide +kernel) ?_
    refine sim_ic_ge 54 dX10_countKudos_7 (by decide) (fun c => ?_) (fun c => ?_)
    · refine sim_iload_n dX10_countKudos_54 rfl ?_
      exact sim_iret dX10_countKudos_55 rfl
    · refine sim_iconst (1) dX10_countKudos_10 (by decide +kernel) ?_
      refine sim_iload_n dX10_countKudos_11 rfl ?_
      refine sim_ishl dX10_countKudos_12 ?_
      refine sim_iconst (1) dX10_countKudos_13 (by decide +kernel) ?_
      refine sim_isub dX10_countKudos_14 ?_
      refine sim_istore dX10_countKudos_15 (Nat.le_of_ble_eq_true rfl) ?_
      refine sim_aload_n dX10_countKudos_17 rfl ?_
      refine sim_gI 9 11 dX10_countKudos_18 rfl wf_RX10_352 (Nat.le_of_ble_eq_true rfl) rfl (fun v1 => ?_)
      refine sim_iload_n dX10_countKudos_21 rfl ?_
      refine sim_static (d - 1) dX10_countKudos_22 (k_X10_has (d - 1) (by omega) _ _ _) q_X10_has wm_RX10_91 rfl rfl (by omega) (Nat.le_of_ble_eq_true rfl) am_nI (am_rI fun h2 v3 => ?_) am_eI
      refine sim_if_eq 48 dX10_countKudos_25 (by decide) (fun c => ?_) (fun c => ?_)
      · exact sim_lv (am_leS (am_leS (am_leS (am_leS (am_leN am_leT))))) (t_X10_countKudos_48 d (by omega) _ hrc4 _ _ _ _ _)
      · refine sim_aload_n dX10_countKudos_28 rfl ?_
        refine sim_gI 9 11 dX10_countKudos_29 rfl wf_RX10_352 (Nat.le_of_ble_eq_true rfl) rfl (fun v4 => ?_)
        refine sim_aload_n dX10_countKudos_32 rfl ?_
        refine sim_gR 10 1 dX10_countKudos_33 rfl wf_RX10_9 (Nat.le_of_ble_eq_true rfl) rfl (fun o5 => ?_)
        refine sim_iload_n dX10_countKudos_36 rfl ?_
        refine sim_aI dX10_countKudos_37 (fun v6 => ?_)
        refine sim_iand dX10_countKudos_38 ?_
        refine sim_iload dX10_countKudos_39 rfl ?_
        refine sim_iand dX10_countKudos_41 ?_
        refine sim_if_ne 48 dX10_countKudos_42 (by decide) (fun c => ?_) (fun c => ?_)
        · exact sim_lv (am_leS (am_leS (am_leS (am_leS (am_leN am_leT))))) (t_X10_countKudos_48 d (by omega) _ hrc4 _ _ _ _ _)
        · refine sim_iinc (1) dX10_countKudos_45 rfl (by decide +kernel) (Nat.le_of_ble_eq_true rfl) ?_
          exact sim_lv (am_leS (am_leS (am_leS (am_leS (am_leN am_leT))))) (t_X10_countKudos_48 d (by omega) _ hrc4 _ _ _ _ _)
def f_X10_countKudos (a0 : Nat × Nat) (x1 : Option (Nat × Nat)) (h : am_H) : am_R := f_X10_countKudos_4 5000 a0 x1 (0 : Int32) (0 : Int32) h
theorem k_X10_countKudos (d : Nat) (hd : 1 ≤ d) (a0 : Nat × Nat) (x1 : Option (Nat × Nat)) (h : am_H) : am_Con m_X10_countKudos d [.inr (.inr (some a0)), .inr (.inr x1)] h (f_X10_countKudos a0 x1 h) := am_con (by decide +kernel) (Nat.le_of_ble_eq_true rfl) (by
  unfold f_X10_countKudos
  refine sim_iconst (0) dX10_countKudos_0 (by decide +kernel) ?_
  refine sim_istore_n dX10_countKudos_1 (Nat.le_of_ble_eq_true rfl) ?_
  refine sim_iconst (0) dX10_countKudos_2 (by decide +kernel) ?_
  refine sim_istore_n dX10_countKudos_3 (Nat.le_of_ble_eq_true rfl) ?_
  exact sim_lv (am_leS (am_leS (am_leS (am_leS (am_leN am_leT))))) (t_X10_countKudos_4 d (by omega) _ _ _ _ _ _))
theorem q_X10_countKudos : am_Cal m_X10_countKudos 1 2 := ⟨am_mem 1049 (w := Cond.code yX10_countKudos cX10_countKudos 5 (some .int)) (by decide +kernel) rfl, am_mem 56 (w := Cond.initialized RX10) (by decide +kernel) rfl, fun z => absurd z (by decide), fun _ => am_mem 1048 (w := Cond.instanceMethod yX10_countKudos) (by decide +kernel) rfl, fun z => absurd z (by decide), fun _ => am_mem 27 (w := Cond.selects RX10 yX10_countKudos yX10_countKudos) (by decide +kernel) rfl, by decide +kernel, by decide +kernel, Nat.le_of_ble_eq_true rfl⟩
theorem dX10_kudos_0 : decode cX10_kudos 0 = .ok (.aload_n 0, 1) := by decide +kernel
theorem dX10_kudos_1 : decode cX10_kudos 1 = .ok (.iload_n 1, 1) := by decide +kernel
theorem dX10_kudos_2 : decode cX10_kudos 2 = .ok (.invokevirtual 112, 3) := by decide +kernel
theorem dX10_kudos_5 : decode cX10_kudos 5 = .ok (.astore_n 3, 1) := by decide +kernel
theorem dX10_kudos_6 : decode cX10_kudos 6 = .ok (.iload_n 2, 1) := by decide +kernel
theorem dX10_kudos_7 : decode cX10_kudos 7 = .ok (.invokestatic 99, 3) := by decide +kernel
theorem dX10_kudos_10 : decode cX10_kudos 10 = .ok (.aload_n 3, 1) := by decide +kernel
theorem dX10_kudos_11 : decode cX10_kudos 11 = .ok (.iload_n 2, 1) := by decide +kernel
theorem dX10_kudos_12 : decode cX10_kudos 12 = .ok (.aload_n 0, 1) := by decide +kernel
theorem dX10_kudos_13 : decode cX10_kudos 13 = .ok (.getfield 73, 3) := by decide +kernel
theorem dX10_kudos_16 : decode cX10_kudos 16 = .ok (.invokevirtual 173, 3) := by decide +kernel
theorem dX10_kudos_19 : decode cX10_kudos 19 = .ok (.ifCond .eq 25, 3) := by decide +kernel
theorem dX10_kudos_22 : decode cX10_kudos 22 = .ok (.aload_n 3, 1) := by decide +kernel
theorem dX10_kudos_23 : decode cX10_kudos 23 = .ok (.iload_n 2, 1) := by decide +kernel
theorem dX10_kudos_24 : decode cX10_kudos 24 = .ok (.invokevirtual 125, 3) := by decide +kernel
theorem dX10_kudos_27 : decode cX10_kudos 27 = .ok (.ifCond .ne 17, 3) := by decide +kernel
theorem dX10_kudos_30 : decode cX10_kudos 30 = .ok (.aload_n 3, 1) := by decide +kernel
theorem dX10_kudos_31 : decode cX10_kudos 31 = .ok (.getfield 352, 3) := by decide +kernel
theorem dX10_kudos_34 : decode cX10_kudos 34 = .ok (.aload_n 0, 1) := by decide +kernel
theorem dX10_kudos_35 : decode cX10_kudos 35 = .ok (.getfield 9, 3) := by decide +kernel
theorem dX10_kudos_38 : decode cX10_kudos 38 = .ok (.iload_n 2, 1) := by decide +kernel
theorem dX10_kudos_39 : decode cX10_kudos 39 = .ok (.iaload, 1) := by decide +kernel
theorem dX10_kudos_40 : decode cX10_kudos 40 = .ok (.iand, 1) := by decide +kernel
theorem dX10_kudos_41 : decode cX10_kudos 41 = .ok (.ifCond .eq 14, 3) := by decide +kernel
theorem dX10_kudos_44 : decode cX10_kudos 44 = .ok (.new 77, 3) := by decide +kernel
theorem dX10_kudos_47 : decode cX10_kudos 47 = .ok (.dup, 1) := by decide +kernel
theorem dX10_kudos_48 : decode cX10_kudos 48 = .ok (.ldc_w 355, 3) := by decide +kernel
theorem dX10_kudos_51 : decode cX10_kudos 51 = .ok (.invokespecial 81, 3) := by decide +kernel
theorem dX10_kudos_54 : decode cX10_kudos 54 = .ok (.athrow, 1) := by decide +kernel
theorem dX10_kudos_55 : decode cX10_kudos 55 = .ok (.aload_n 3, 1) := by decide +kernel
theorem dX10_kudos_56 : decode cX10_kudos 56 = .ok (.aload_n 3, 1) := by decide +kernel
theorem dX10_kudos_57 : decode cX10_kudos 57 = .ok (.getfield 352, 3) := by decide +kernel
theorem dX10_kudos_60 : decode cX10_kudos 60 = .ok (.iload_n 2, 1) := by decide +kernel
theorem dX10_kudos_61 : decode cX10_kudos 61 = .ok (.iconst 1, 1) := by decide +kernel
theorem dX10_kudos_62 : decode cX10_kudos 62 = .ok (.invokestatic 95, 3) := by decide +kernel
theorem dX10_kudos_65 : decode cX10_kudos 65 = .ok (.putfield 352, 3) := by decide +kernel
theorem dX10_kudos_68 : decode cX10_kudos 68 = .ok (.aload_n 0, 1) := by decide +kernel
theorem dX10_kudos_69 : decode cX10_kudos 69 = .ok (.aload_n 3, 1) := by decide +kernel
theorem dX10_kudos_70 : decode cX10_kudos 70 = .ok (.invokevirtual 357, 3) := by decide +kernel
theorem dX10_kudos_73 : decode cX10_kudos 73 = .ok (.ireturn, 1) := by decide +kernel
abbrev m_X10_kudos : am_M := (yX10_kudos, cX10_kudos, 4, some .int, [])
def f_X10_kudos_44   (h : am_H) : am_R := m_ex h 2
theorem t_X10_kudos_44 (d : Nat) (hd : 8 ≤ d)   (h : am_H) : Sim m_X10_kudos d 44 [none, none, none, none] [] h (f_X10_kudos_44   h) := by
  unfold f_X10_kudos_44
  exact sim_throwW 2 (by decide) dX10_kudos_44 dX10_kudos_47 dX10_kudos_48 dX10_kudos_51 dX10_kudos_54 wx_RX10_77 wy_2 ws_RX10_355 at_RX10_81 gd_RX10_81 (by omega) (Nat.le_of_ble_eq_true rfl)
def f_X10_kudos (a0 : Nat × Nat) (x1 : Int32) (x2 : Int32) (h : am_H) : am_R := m_ao (some a0) 10 fun a3 => m_bR (f_X10_workAt a3 x1 h) fun h1 o2 => m_bV (f_X10_checkFace x2 h1) fun h4 => m_gI (some a0) 10 0 h4 fun v6 => m_ao o2 9 fun a9 => m_bI (f_X9_isSeenBy a9 x2 v6 h4) fun h7 v8 => if v8 = 0 then (f_X10_kudos_44 h7) else (m_ao o2 9 fun a12 => m_bI (f_X9_isOwnedBy a12 x2 h7) fun h10 v11 => if v11 = 0 then (m_gI o2 9 11 h10 fun v13 => m_gR (some a0) 10 1 h10 fun o14 => m_aI o14 0 x2 h10 fun v15 => if (v13 &&& v15) = 0 then (m_gI o2 9 11 h10 fun v16 => m_bI (f_X10_with v16 x2 (1 : Int32) h10) fun h17 v18 => m_pI o2 9 11 v18 h17 fun h19 => m_ao (some a0) 10 fun a22 => m_bI (f_X10_countKudos a22 o2 h19) fun h20 v21 => m_ri h20 v21) else (f_X10_kudos_44 h10)) else (f_X10_kudos_44 h10))
theorem k_X10_kudos (d : Nat) (hd : 8 ≤ d) (a0 : Nat × Nat) (x1 : Int32) (x2 : Int32) (h : am_H) : am_Con m_X10_kudos d [.inr (.inr (some a0)), .inl x1, .inl x2] h (f_X10_kudos a0 x1 x2 h) := am_con (by decide +kernel) (Nat.le_of_ble_eq_true rfl) (by
  unfold f_X10_kudos
  refine sim_aload_n dX10_kudos_0 rfl ?_
  refine sim_iload_n dX10_kudos_1 rfl ?_
  refine sim_ao1 (fun a3 e => ?_)
  refine sim_virt (d - 1) e dX10_kudos_2 (k_X10_workAt (d - 1) (by omega) _ _ _) q_X10_workAt rfl rfl wm_RX10_112 rfl rfl (by omega) (Nat.le_of_ble_eq_true rfl) am_nR (am_rR fun h1 o2 => ?_) am_eR
  refine sim_astore_n dX10_kudos_5 (Nat.le_of_ble_eq_true rfl) ?_
  refine sim_iload_n dX10_kudos_6 rfl ?_
  refine sim_static (d - 1) dX10_kudos_7 (k_X10_checkFace (d - 1) (by omega) _ _) q_X10_checkFace wm_RX10_99 rfl rfl (by omega) (Nat.le_of_ble_eq_true rfl) am_nV (am_rV fun h4 => ?_) am_eV
  refine sim_aload_n dX10_kudos_10 rfl ?_
  refine sim_iload_n dX10_kudos_11 rfl ?_
  refine sim_aload_n dX10_kudos_12 rfl ?_
  refine sim_gI 10 0 dX10_kudos_13 rfl wf_RX10_73 (Nat.le_of_ble_eq_true rfl) rfl (fun v6 => ?_)
  refine sim_ao2 (fun a9 e => ?_)
  refine sim_virt (d - 1) e dX10_kudos_16 (k_X9_isSeenBy (d - 1) (by omega) _ _ _ _) q_X9_isSeenBy rfl rfl wm_RX10_173 rfl rfl (by omega) (Nat.le_of_ble_eq_true rfl) am_nI (am_rI fun h7 v8 => ?_) am_eI
  refine sim_if_eq 44 dX10_kudos_19 (by decide) (fun c => ?_) (fun c => ?_)
  · exact sim_lv (am_leN (am_leN (am_leN (am_leN am_leT)))) (t_X10_kudos_44 d (by omega) _)
  · refine sim_aload_n dX10_kudos_22 rfl ?_
    refine sim_iload_n dX10_kudos_23 rfl ?_
    refine sim_ao1 (fun a12 e => ?_)
    refine sim_virt (d - 1) e dX10_kudos_24 (k_X9_isOwnedBy (d - 1) (by omega) _ _ _) q_X9_isOwnedBy rfl rfl wm_RX10_125 rfl rfl (by omega) (Nat.le_of_ble_eq_true rfl) am_nI (am_rI fun h10 v11 => ?_) am_eI
    refine sim_if_ne 44 dX10_kudos_27 (by decide) (fun c => ?_) (fun c => ?_)
    · exact sim_lv (am_leN (am_leN (am_leN (am_leN am_leT)))) (t_X10_kudos_44 d (by omega) _)
    · refine sim_aload_n dX10_kudos_30 rfl ?_
      refine sim_gI 9 11 dX10_kudos_31 rfl wf_RX10_352 (Nat.le_of_ble_eq_true rfl) rfl (fun v13 => ?_)
      refine sim_aload_n dX10_kudos_34 rfl ?_
      refine sim_gR 10 1 dX10_kudos_35 rfl wf_RX10_9 (Nat.le_of_ble_eq_true rfl) rfl (fun o14 => ?_)
      refine sim_iload_n dX10_kudos_38 rfl ?_
      refine sim_aI dX10_kudos_39 (fun v15 => ?_)
      refine sim_iand dX10_kudos_40 ?_
      refine sim_if_eq 55 dX10_kudos_41 (by decide) (fun c => ?_) (fun c => ?_)
      · refine sim_aload_n dX10_kudos_55 rfl ?_
        refine sim_aload_n dX10_kudos_56 rfl ?_
        refine sim_gI 9 11 dX10_kudos_57 rfl wf_RX10_352 (Nat.le_of_ble_eq_true rfl) rfl (fun v16 => ?_)
        refine sim_iload_n dX10_kudos_60 rfl ?_
        refine sim_iconst (1) dX10_kudos_61 (by decide +kernel) ?_
        refine sim_static (d - 1) dX10_kudos_62 (k_X10_with (d - 1) (by omega) _ _ _ _) q_X10_with wm_RX10_95 rfl rfl (by omega) (Nat.le_of_ble_eq_true rfl) am_nI (am_rI fun h17 v18 => ?_) am_eI
        refine sim_pI 9 11 dX10_kudos_65 rfl wf_RX10_352 (Nat.le_of_ble_eq_true rfl) rfl (Or.inl rfl) rfl (fun h19 => ?_)
        refine sim_aload_n dX10_kudos_68 rfl ?_
        refine sim_aload_n dX10_kudos_69 rfl ?_
        refine sim_ao1 (fun a22 e => ?_)
        refine sim_virt (d - 1) e dX10_kudos_70 (k_X10_countKudos (d - 1) (by omega) _ _ _) q_X10_countKudos rfl rfl wm_RX10_357 rfl rfl (by omega) (Nat.le_of_ble_eq_true rfl) am_nI (am_rI fun h20 v21 => ?_) am_eI
        exact sim_iret dX10_kudos_73 rfl
      · exact sim_lv (am_leN (am_leN (am_leN (am_leN am_leT)))) (t_X10_kudos_44 d (by omega) _))
theorem q_X10_kudos : am_Cal m_X10_kudos 2 2 := ⟨am_mem 1044 (w := Cond.code yX10_kudos cX10_kudos 4 (some .int)) (by decide +kernel) rfl, am_mem 56 (w := Cond.initialized RX10) (by decide +kernel) rfl, fun z => absurd z (by decide), fun _ => am_mem 1042 (w := Cond.instanceMethod yX10_kudos) (by decide +kernel) rfl, fun z => absurd z (by decide), fun _ => am_mem 1043 (w := Cond.selects RX10 yX10_kudos yX10_kudos) (by decide +kernel) rfl, by decide +kernel, by decide +kernel, Nat.le_of_ble_eq_true rfl⟩
theorem dL_kudos_0 : decode cL_kudos 0 = .ok (.aload_n 3, 1) := by decide +kernel
theorem dL_kudos_1 : decode cL_kudos 1 = .ok (.iconst 0, 1) := by decide +kernel
theorem dL_kudos_2 : decode cL_kudos 2 = .ok (.aload_n 0, 1) := by decide +kernel
theorem dL_kudos_3 : decode cL_kudos 3 = .ok (.iload_n 1, 1) := by decide +kernel
theorem dL_kudos_4 : decode cL_kudos 4 = .ok (.iload_n 2, 1) := by decide +kernel
theorem dL_kudos_5 : decode cL_kudos 5 = .ok (.invokevirtual 116, 3) := by decide +kernel
theorem dL_kudos_8 : decode cL_kudos 8 = .ok (.i2l, 1) := by decide +kernel
theorem dL_kudos_9 : decode cL_kudos 9 = .ok (.lastore, 1) := by decide +kernel
theorem dL_kudos_10 : decode cL_kudos 10 = .ok (.goto 11, 3) := by decide +kernel
theorem dL_kudos_13 : decode cL_kudos 13 = .ok (.astore 4, 2) := by decide +kernel
theorem dL_kudos_15 : decode cL_kudos 15 = .ok (.iconst 1, 1) := by decide +kernel
theorem dL_kudos_16 : decode cL_kudos 16 = .ok (.ireturn, 1) := by decide +kernel
theorem dL_kudos_17 : decode cL_kudos 17 = .ok (.astore 4, 2) := by decide +kernel
theorem dL_kudos_19 : decode cL_kudos 19 = .ok (.iconst 2, 1) := by decide +kernel
theorem dL_kudos_20 : decode cL_kudos 20 = .ok (.ireturn, 1) := by decide +kernel
theorem dL_kudos_21 : decode cL_kudos 21 = .ok (.iconst 0, 1) := by decide +kernel
theorem dL_kudos_22 : decode cL_kudos 22 = .ok (.ireturn, 1) := by decide +kernel
abbrev m_L_kudos : am_M := (yL_kudos, cL_kudos, 5, some .int, [(0, 10, 13, 21), (0, 10, 17, 15)])
def f_L_kudos (x0 : Option (Nat × Nat)) (x1 : Int32) (x2 : Int32) (x3 : Option (Nat × Nat)) (h : am_H) : am_R := m_ao x0 10 fun a3 => m_bIx (f_X10_kudos a3 x1 x2 h) (fun h1 v2 => m_sL x3 (0 : Int32) (Int32.toInt64 v2) h1 fun h6 => m_ri h6 (0 : Int32)) (fun h4 e5 => if e5 = 0 then (m_ri h4 (1 : Int32)) else if e5 = 2 then (m_ri h4 (2 : Int32)) else none)
theorem k_L_kudos (d : Nat) (hd : 9 ≤ d) (x0 : Option (Nat × Nat)) (x1 : Int32) (x2 : Int32) (x3 : Option (Nat × Nat)) (h : am_H) : am_Con m_L_kudos d [.inr (.inr x0), .inl x1, .inl x2, .inr (.inr x3)] h (f_L_kudos x0 x1 x2 x3 h) := am_conX (by decide +kernel) (Nat.le_of_ble_eq_true rfl) (by
  unfold f_L_kudos
  refine sim_aload_n dL_kudos_0 rfl ?_
  refine sim_iconst (0) dL_kudos_1 (by decide +kernel) ?_
  refine sim_aload_n dL_kudos_2 rfl ?_
  refine sim_iload_n dL_kudos_3 rfl ?_
  refine sim_iload_n dL_kudos_4 rfl ?_
  refine sim_ao2 (fun a3 e => ?_)
  refine sim_virt (d - 1) e dL_kudos_5 (k_X10_kudos (d - 1) (by omega) _ _ _ _) q_X10_kudos rfl rfl wm_RL_116 rfl rfl (by omega) (Nat.le_of_ble_eq_true rfl) am_nIx (am_rIx fun h1 v2 => ?_) (am_eIx fun h9 k9 => ?_)
  · refine sim_i2l dL_kudos_8 ?_
    refine sim_sL dL_kudos_9 (fun h6 => ?_)
    refine sim_goto 21 dL_kudos_10 (by decide) ?_
    refine sim_iconst (0) dL_kudos_21 (by decide +kernel) ?_
    exact sim_iret dL_kudos_22 rfl
  · refine simx_case (fun cx => ?_) (fun cx => ?_)
    · subst cx
      refine simx_catch [] (0, 10, 13, 21) [(0, 10, 17, 15)] rfl ⟨by decide, by decide⟩ (by decide) wx_RL_21 wca_0 (by decide) (fun z hz => by cases hz) ?_
      refine sim_astore dL_kudos_13 (Nat.le_of_ble_eq_true rfl) ?_
      refine sim_iconst (1) dL_kudos_15 (by decide +kernel) ?_
      exact sim_iret dL_kudos_16 rfl
    refine simx_case (fun cx => ?_) (fun cx => ?_)
    · subst cx
      refine simx_catch [(0, 10, 13, 21)] (0, 10, 17, 15) [] rfl ⟨by decide, by decide⟩ (by decide) wx_RL_15 wca_2 (by decide) (fun z hz => by simp only [List.mem_cons, List.not_mem_nil, or_false] at hz; subst hz; exact ⟨by decide, 0, _, by decide, by decide, wx_RL_21⟩) ?_
      refine sim_astore dL_kudos_17 (Nat.le_of_ble_eq_true rfl) ?_
      refine sim_iconst (2) dL_kudos_19 (by decide +kernel) ?_
      exact sim_iret dL_kudos_20 rfl
    exact simx_none)
theorem q_L_kudos : am_Cal m_L_kudos 4 0 := ⟨am_mem 1040 (w := Cond.codeWith yL_kudos cL_kudos 5 (some .int) [(0, 10, 13, 21), (0, 10, 17, 15)]) (by decide +kernel) rfl, am_mem 55 (w := Cond.initialized RL) (by decide +kernel) rfl, fun _ => am_mem 1039 (w := Cond.static yL_kudos) (by decide +kernel) rfl, fun z => absurd rfl z, fun z => absurd z (by decide), fun z => absurd z (by decide), by decide +kernel, by decide +kernel, Nat.le_of_ble_eq_true rfl⟩
theorem dX10_leave_0 : decode cX10_leave 0 = .ok (.aload_n 0, 1) := by decide +kernel
theorem dX10_leave_1 : decode cX10_leave 1 = .ok (.iload_n 1, 1) := by decide +kernel
theorem dX10_leave_2 : decode cX10_leave 2 = .ok (.invokevirtual 112, 3) := by decide +kernel
theorem dX10_leave_5 : decode cX10_leave 5 = .ok (.astore_n 3, 1) := by decide +kernel
theorem dX10_leave_6 : decode cX10_leave 6 = .ok (.iload_n 2, 1) := by decide +kernel
theorem dX10_leave_7 : decode cX10_leave 7 = .ok (.invokestatic 82, 3) := by decide +kernel
theorem dX10_leave_10 : decode cX10_leave 10 = .ok (.aload_n 3, 1) := by decide +kernel
theorem dX10_leave_11 : decode cX10_leave 11 = .ok (.iload_n 2, 1) := by decide +kernel
theorem dX10_leave_12 : decode cX10_leave 12 = .ok (.invokevirtual 125, 3) := by decide +kernel
theorem dX10_leave_15 : decode cX10_leave 15 = .ok (.ifCond .ne 13, 3) := by decide +kernel
theorem dX10_leave_18 : decode cX10_leave 18 = .ok (.new 77, 3) := by decide +kernel
theorem dX10_leave_21 : decode cX10_leave 21 = .ok (.dup, 1) := by decide +kernel
theorem dX10_leave_22 : decode cX10_leave 22 = .ok (.ldc 131, 2) := by decide +kernel
theorem dX10_leave_24 : decode cX10_leave 24 = .ok (.invokespecial 81, 3) := by decide +kernel
theorem dX10_leave_27 : decode cX10_leave 27 = .ok (.athrow, 1) := by decide +kernel
theorem dX10_leave_28 : decode cX10_leave 28 = .ok (.aload_n 3, 1) := by decide +kernel
theorem dX10_leave_29 : decode cX10_leave 29 = .ok (.aload_n 3, 1) := by decide +kernel
theorem dX10_leave_30 : decode cX10_leave 30 = .ok (.getfield 116, 3) := by decide +kernel
theorem dX10_leave_33 : decode cX10_leave 33 = .ok (.iload_n 2, 1) := by decide +kernel
theorem dX10_leave_34 : decode cX10_leave 34 = .ok (.iconst 0, 1) := by decide +kernel
theorem dX10_leave_35 : decode cX10_leave 35 = .ok (.invokestatic 95, 3) := by decide +kernel
theorem dX10_leave_38 : decode cX10_leave 38 = .ok (.putfield 116, 3) := by decide +kernel
theorem dX10_leave_41 : decode cX10_leave 41 = .ok (.aload_n 3, 1) := by decide +kernel
theorem dX10_leave_42 : decode cX10_leave 42 = .ok (.getfield 116, 3) := by decide +kernel
theorem dX10_leave_45 : decode cX10_leave 45 = .ok (.invokestatic 119, 3) := by decide +kernel
theorem dX10_leave_48 : decode cX10_leave 48 = .ok (.ireturn, 1) := by decide +kernel
abbrev m_X10_leave : am_M := (yX10_leave, cX10_leave, 4, some .int, [])
def f_X10_leave (a0 : Nat × Nat) (x1 : Int32) (x2 : Int32) (h : am_H) : am_R := m_ao (some a0) 10 fun a3 => m_bR (f_X10_workAt a3 x1 h) fun h1 o2 => m_bV (f_X10_checkPerson x2 h1) fun h4 => m_ao o2 9 fun a8 => m_bI (f_X9_isOwnedBy a8 x2 h4) fun h6 v7 => if v7 = 0 then (m_ex h6 2) else (m_gI o2 9 1 h6 fun v9 => m_bI (f_X10_with v9 x2 (0 : Int32) h6) fun h10 v11 => m_pI o2 9 1 v11 h10 fun h12 => m_gI o2 9 1 h12 fun v13 => m_bI (f_J6_bitCount_0f7a4 v13 h12) fun h14 v15 => m_ri h14 v15)
theorem k_X10_leave (d : Nat) (hd : 8 ≤ d) (a0 : Nat × Nat) (x1 : Int32) (x2 : Int32) (h : am_H) : am_Con m_X10_leave d [.inr (.inr (some a0)), .inl x1, .inl x2] h (f_X10_leave a0 x1 x2 h) := am_con (by decide +kernel) (Nat.le_of_ble_eq_true rfl) (by
  unfold f_X10_leave
  refine sim_aload_n dX10_leave_0 rfl ?_
  refine sim_iload_n dX10_leave_1 rfl ?_
  refine sim_ao1 (fun a3 e => ?_)
  refine sim_virt (d - 1) e dX10_leave_2 (k_X10_workAt (d - 1) (by omega) _ _ _) q_X10_workAt rfl rfl wm_RX10_112 rfl rfl (by omega) (Nat.le_of_ble_eq_true rfl) am_nR (am_rR fun h1 o2 => ?_) am_eR
  refine sim_astore_n dX10_leave_5 (Nat.le_of_ble_eq_true rfl) ?_
  refine sim_iload_n dX10_leave_6 rfl ?_
  refine sim_static (d - 1) dX10_leave_7 (k_X10_checkPerson (d - 1) (by omega) _ _) q_X10_checkPerson wm_RX10_82 rfl rfl (by omega) (Nat.le_of_ble_eq_true rfl) am_nV (am_rV fun h4 => ?_) am_eV
  refine sim_aload_n dX10_leave_10 rfl ?_
  refine sim_iload_n dX10_leave_11 rfl ?_
  refine sim_ao1 (fun a8 e => ?_)
  refine sim_virt (d - 1) e dX10_leave_12 (k_X9_isOwnedBy (d - 1) (by omega) _ _ _) q_X9_isOwnedBy rfl rfl wm_RX10_125 rfl rfl (by omega) (Nat.le_of_ble_eq_true rfl) am_nI (am_rI fun h6 v7 => ?_) am_eI
  refine sim_if_ne 28 dX10_leave_15 (by decide) (fun c => ?_) (fun c => ?_)
  · refine sim_aload_n dX10_leave_28 rfl ?_
    refine sim_aload_n dX10_leave_29 rfl ?_
    refine sim_gI 9 1 dX10_leave_30 rfl wf_RX10_116 (Nat.le_of_ble_eq_true rfl) rfl (fun v9 => ?_)
    refine sim_iload_n dX10_leave_33 rfl ?_
    refine sim_iconst (0) dX10_leave_34 (by decide +kernel) ?_
    refine sim_static (d - 1) dX10_leave_35 (k_X10_with (d - 1) (by omega) _ _ _ _) q_X10_with wm_RX10_95 rfl rfl (by omega) (Nat.le_of_ble_eq_true rfl) am_nI (am_rI fun h10 v11 => ?_) am_eI
    refine sim_pI 9 1 dX10_leave_38 rfl wf_RX10_116 (Nat.le_of_ble_eq_true rfl) rfl (Or.inl rfl) rfl (fun h12 => ?_)
    refine sim_aload_n dX10_leave_41 rfl ?_
    refine sim_gI 9 1 dX10_leave_42 rfl wf_RX10_116 (Nat.le_of_ble_eq_true rfl) rfl (fun v13 => ?_)
    refine sim_static (d - 1) dX10_leave_45 (k_J6_bitCount_0f7a4 (d - 1) (by omega) _ _) q_J6_bitCount_0f7a4 wm_RX10_119 rfl rfl (by omega) (Nat.le_of_ble_eq_true rfl) am_nI (am_rI fun h14 v15 => ?_) am_eI
    exact sim_iret dX10_leave_48 rfl
  · exact sim_throw 2 (by decide) dX10_leave_18 dX10_leave_21 dX10_leave_22 dX10_leave_24 dX10_leave_27 wx_RX10_77 wy_2 ws_RX10_131 at_RX10_81 gd_RX10_81 (by omega) (Nat.le_of_ble_eq_true rfl))
theorem q_X10_leave : am_Cal m_X10_leave 2 2 := ⟨am_mem 579 (w := Cond.code yX10_leave cX10_leave 4 (some .int)) (by decide +kernel) rfl, am_mem 56 (w := Cond.initialized RX10) (by decide +kernel) rfl, fun z => absurd z (by decide), fun _ => am_mem 577 (w := Cond.instanceMethod yX10_leave) (by decide +kernel) rfl, fun z => absurd z (by decide), fun _ => am_mem 578 (w := Cond.selects RX10 yX10_leave yX10_leave) (by decide +kernel) rfl, by decide +kernel, by decide +kernel, Nat.le_of_ble_eq_true rfl⟩
theorem dL_leave_0 : decode cL_leave 0 = .ok (.aload_n 3, 1) := by decide +kernel
theorem dL_leave_1 : decode cL_leave 1 = .ok (.iconst 0, 1) := by decide +kernel
theorem dL_leave_2 : decode cL_leave 2 = .ok (.aload_n 0, 1) := by decide +kernel
theorem dL_leave_3 : decode cL_leave 3 = .ok (.iload_n 1, 1) := by decide +kernel
theorem dL_leave_4 : decode cL_leave 4 = .ok (.iload_n 2, 1) := by decide +kernel
theorem dL_leave_5 : decode cL_leave 5 = .ok (.invokevirtual 34, 3) := by decide +kernel
theorem dL_leave_8 : decode cL_leave 8 = .ok (.i2l, 1) := by decide +kernel
theorem dL_leave_9 : decode cL_leave 9 = .ok (.lastore, 1) := by decide +kernel
theorem dL_leave_10 : decode cL_leave 10 = .ok (.goto 11, 3) := by decide +kernel
theorem dL_leave_13 : decode cL_leave 13 = .ok (.astore 4, 2) := by decide +kernel
theorem dL_leave_15 : decode cL_leave 15 = .ok (.iconst 1, 1) := by decide +kernel
theorem dL_leave_16 : decode cL_leave 16 = .ok (.ireturn, 1) := by decide +kernel
theorem dL_leave_17 : decode cL_leave 17 = .ok (.astore 4, 2) := by decide +kernel
theorem dL_leave_19 : decode cL_leave 19 = .ok (.iconst 2, 1) := by decide +kernel
theorem dL_leave_20 : decode cL_leave 20 = .ok (.ireturn, 1) := by decide +kernel
theorem dL_leave_21 : decode cL_leave 21 = .ok (.iconst 0, 1) := by decide +kernel
theorem dL_leave_22 : decode cL_leave 22 = .ok (.ireturn, 1) := by decide +kernel
abbrev m_L_leave : am_M := (yL_leave, cL_leave, 5, some .int, [(0, 10, 13, 21), (0, 10, 17, 15)])
def f_L_leave (x0 : Option (Nat × Nat)) (x1 : Int32) (x2 : Int32) (x3 : Option (Nat × Nat)) (h : am_H) : am_R := m_ao x0 10 fun a3 => m_bIx (f_X10_leave a3 x1 x2 h) (fun h1 v2 => m_sL x3 (0 : Int32) (Int32.toInt64 v2) h1 fun h6 => m_ri h6 (0 : Int32)) (fun h4 e5 => if e5 = 0 then (m_ri h4 (1 : Int32)) else if e5 = 2 then (m_ri h4 (2 : Int32)) else none)
theorem k_L_leave (d : Nat) (hd : 9 ≤ d) (x0 : Option (Nat × Nat)) (x1 : Int32) (x2 : Int32) (x3 : Option (Nat × Nat)) (h : am_H) : am_Con m_L_leave d [.inr (.inr x0), .inl x1, .inl x2, .inr (.inr x3)] h (f_L_leave x0 x1 x2 x3 h) := am_conX (by decide +kernel) (Nat.le_of_ble_eq_true rfl) (by
  unfold f_L_leave
  refine sim_aload_n dL_leave_0 rfl ?_
  refine sim_iconst (0) dL_leave_1 (by decide +kernel) ?_
  refine sim_aload_n dL_leave_2 rfl ?_
  refine sim_iload_n dL_leave_3 rfl ?_
  refine sim_iload_n dL_leave_4 rfl ?_
  refine sim_ao2 (fun a3 e => ?_)
  refine sim_virt (d - 1) e dL_leave_5 (k_X10_leave (d - 1) (by omega) _ _ _ _) q_X10_leave rfl rfl wm_RL_34 rfl rfl (by omega) (Nat.le_of_ble_eq_true rfl) am_nIx (am_rIx fun h1 v2 => ?_) (am_eIx fun h9 k9 => ?_)
  · refine sim_i2l dL_leave_8 ?_
    refine sim_sL dL_leave_9 (fun h6 => ?_)
    refine sim_goto 21 dL_leave_10 (by decide) ?_
    refine sim_iconst (0) dL_leave_21 (by decide +kernel) ?_
    exact sim_iret dL_leave_22 rfl
  · refine simx_case (fun cx => ?_) (fun cx => ?_)
    · subst cx
      refine simx_catch [] (0, 10, 13, 21) [(0, 10, 17, 15)] rfl ⟨by decide, by decide⟩ (by decide) wx_RL_21 wca_0 (by decide) (fun z hz => by cases hz) ?_
      refine sim_astore dL_leave_13 (Nat.le_of_ble_eq_true rfl) ?_
      refine sim_iconst (1) dL_leave_15 (by decide +kernel) ?_
      exact sim_iret dL_leave_16 rfl
    refine simx_case (fun cx => ?_) (fun cx => ?_)
    · subst cx
      refine simx_catch [(0, 10, 13, 21)] (0, 10, 17, 15) [] rfl ⟨by decide, by decide⟩ (by decide) wx_RL_15 wca_2 (by decide) (fun z hz => by simp only [List.mem_cons, List.not_mem_nil, or_false] at hz; subst hz; exact ⟨by decide, 0, _, by decide, by decide, wx_RL_21⟩) ?_
      refine sim_astore dL_leave_17 (Nat.le_of_ble_eq_true rfl) ?_
      refine sim_iconst (2) dL_leave_19 (by decide +kernel) ?_
      exact sim_iret dL_leave_20 rfl
    exact simx_none)
theorem q_L_leave : am_Cal m_L_leave 4 0 := ⟨am_mem 575 (w := Cond.codeWith yL_leave cL_leave 5 (some .int) [(0, 10, 13, 21), (0, 10, 17, 15)]) (by decide +kernel) rfl, am_mem 55 (w := Cond.initialized RL) (by decide +kernel) rfl, fun _ => am_mem 574 (w := Cond.static yL_leave) (by decide +kernel) rfl, fun z => absurd rfl z, fun z => absurd z (by decide), fun z => absurd z (by decide), by decide +kernel, by decide +kernel, Nat.le_of_ble_eq_true rfl⟩
theorem dX10_liked_0 : decode cX10_liked 0 = .ok (.aload_n 0, 1) := by decide +kernel
theorem dX10_liked_1 : decode cX10_liked 1 = .ok (.aload_n 0, 1) := by decide +kernel
theorem dX10_liked_2 : decode cX10_liked 2 = .ok (.iload_n 1, 1) := by decide +kernel
theorem dX10_liked_3 : decode cX10_liked 3 = .ok (.invokevirtual 112, 3) := by decide +kernel
theorem dX10_liked_6 : decode cX10_liked 6 = .ok (.invokevirtual 357, 3) := by decide +kernel
theorem dX10_liked_9 : decode cX10_liked 9 = .ok (.ireturn, 1) := by decide +kernel
abbrev m_X10_liked : am_M := (yX10_liked, cX10_liked, 2, some .int, [])
def f_X10_liked (a0 : Nat × Nat) (x1 : Int32) (h : am_H) : am_R := m_ao (some a0) 10 fun a3 => m_bR (f_X10_workAt a3 x1 h) fun h1 o2 => m_ao (some a0) 10 fun a6 => m_bI (f_X10_countKudos a6 o2 h1) fun h4 v5 => m_ri h4 v5
theorem k_X10_liked (d : Nat) (hd : 8 ≤ d) (a0 : Nat × Nat) (x1 : Int32) (h : am_H) : am_Con m_X10_liked d [.inr (.inr (some a0)), .inl x1] h (f_X10_liked a0 x1 h) := am_con (by decide +kernel) (Nat.le_of_ble_eq_true rfl) (by
  unfold f_X10_liked
  refine sim_aload_n dX10_liked_0 rfl ?_
  refine sim_aload_n dX10_liked_1 rfl ?_
  refine sim_iload_n dX10_liked_2 rfl ?_
  refine sim_ao1 (fun a3 e => ?_)
  refine sim_virt (d - 1) e dX10_liked_3 (k_X10_workAt (d - 1) (by omega) _ _ _) q_X10_workAt rfl rfl wm_RX10_112 rfl rfl (by omega) (Nat.le_of_ble_eq_true rfl) am_nR (am_rR fun h1 o2 => ?_) am_eR
  refine sim_ao1 (fun a6 e => ?_)
  refine sim_virt (d - 1) e dX10_liked_6 (k_X10_countKudos (d - 1) (by omega) _ _ _) q_X10_countKudos rfl rfl wm_RX10_357 rfl rfl (by omega) (Nat.le_of_ble_eq_true rfl) am_nI (am_rI fun h4 v5 => ?_) am_eI
  exact sim_iret dX10_liked_9 rfl)
theorem q_X10_liked : am_Cal m_X10_liked 1 2 := ⟨am_mem 1056 (w := Cond.code yX10_liked cX10_liked 2 (some .int)) (by decide +kernel) rfl, am_mem 56 (w := Cond.initialized RX10) (by decide +kernel) rfl, fun z => absurd z (by decide), fun _ => am_mem 1054 (w := Cond.instanceMethod yX10_liked) (by decide +kernel) rfl, fun z => absurd z (by decide), fun _ => am_mem 1055 (w := Cond.selects RX10 yX10_liked yX10_liked) (by decide +kernel) rfl, by decide +kernel, by decide +kernel, Nat.le_of_ble_eq_true rfl⟩
theorem dL_liked_0 : decode cL_liked 0 = .ok (.aload_n 2, 1) := by decide +kernel
theorem dL_liked_1 : decode cL_liked 1 = .ok (.iconst 0, 1) := by decide +kernel
theorem dL_liked_2 : decode cL_liked 2 = .ok (.aload_n 0, 1) := by decide +kernel
theorem dL_liked_3 : decode cL_liked 3 = .ok (.iload_n 1, 1) := by decide +kernel
theorem dL_liked_4 : decode cL_liked 4 = .ok (.invokevirtual 119, 3) := by decide +kernel
theorem dL_liked_7 : decode cL_liked 7 = .ok (.i2l, 1) := by decide +kernel
theorem dL_liked_8 : decode cL_liked 8 = .ok (.lastore, 1) := by decide +kernel
theorem dL_liked_9 : decode cL_liked 9 = .ok (.goto 6, 3) := by decide +kernel
theorem dL_liked_12 : decode cL_liked 12 = .ok (.astore_n 3, 1) := by decide +kernel
theorem dL_liked_13 : decode cL_liked 13 = .ok (.iconst 1, 1) := by decide +kernel
theorem dL_liked_14 : decode cL_liked 14 = .ok (.ireturn, 1) := by decide +kernel
theorem dL_liked_15 : decode cL_liked 15 = .ok (.iconst 0, 1) := by decide +kernel
theorem dL_liked_16 : decode cL_liked 16 = .ok (.ireturn, 1) := by decide +kernel
abbrev m_L_liked : am_M := (yL_liked, cL_liked, 4, some .int, [(0, 9, 12, 21)])
def f_L_liked (x0 : Option (Nat × Nat)) (x1 : Int32) (x2 : Option (Nat × Nat)) (h : am_H) : am_R := m_ao x0 10 fun a3 => m_bIx (f_X10_liked a3 x1 h) (fun h1 v2 => m_sL x2 (0 : Int32) (Int32.toInt64 v2) h1 fun h6 => m_ri h6 (0 : Int32)) (fun h4 e5 => if e5 = 0 then (m_ri h4 (1 : Int32)) else none)
theorem k_L_liked (d : Nat) (hd : 9 ≤ d) (x0 : Option (Nat × Nat)) (x1 : Int32) (x2 : Option (Nat × Nat)) (h : am_H) : am_Con m_L_liked d [.inr (.inr x0), .inl x1, .inr (.inr x2)] h (f_L_liked x0 x1 x2 h) := am_conX (by decide +kernel) (Nat.le_of_ble_eq_true rfl) (by
  unfold f_L_liked
  refine sim_aload_n dL_liked_0 rfl ?_
  refine sim_iconst (0) dL_liked_1 (by decide +kernel) ?_
  refine sim_aload_n dL_liked_2 rfl ?_
  refine sim_iload_n dL_liked_3 rfl ?_
  refine sim_ao1 (fun a3 e => ?_)
  refine sim_virt (d - 1) e dL_liked_4 (k_X10_liked (d - 1) (by omega) _ _ _) q_X10_liked rfl rfl wm_RL_119 rfl rfl (by omega) (Nat.le_of_ble_eq_true rfl) am_nIx (am_rIx fun h1 v2 => ?_) (am_eIx fun h9 k9 => ?_)
  · refine sim_i2l dL_liked_7 ?_
    refine sim_sL dL_liked_8 (fun h6 => ?_)
    refine sim_goto 15 dL_liked_9 (by decide) ?_
    refine sim_iconst (0) dL_liked_15 (by decide +kernel) ?_
    exact sim_iret dL_liked_16 rfl
  · refine simx_case (fun cx => ?_) (fun cx => ?_)
    · subst cx
      refine simx_catch [] (0, 9, 12, 21) [] rfl ⟨by decide, by decide⟩ (by decide) wx_RL_21 wca_0 (by decide) (fun z hz => by cases hz) ?_
      refine sim_astore_n dL_liked_12 (Nat.le_of_ble_eq_true rfl) ?_
      refine sim_iconst (1) dL_liked_13 (by decide +kernel) ?_
      exact sim_iret dL_liked_14 rfl
    exact simx_none)
theorem q_L_liked : am_Cal m_L_liked 3 0 := ⟨am_mem 1052 (w := Cond.codeWith yL_liked cL_liked 4 (some .int) [(0, 9, 12, 21)]) (by decide +kernel) rfl, am_mem 55 (w := Cond.initialized RL) (by decide +kernel) rfl, fun _ => am_mem 1051 (w := Cond.static yL_liked) (by decide +kernel) rfl, fun z => absurd rfl z, fun z => absurd z (by decide), fun z => absurd z (by decide), by decide +kernel, by decide +kernel, Nat.le_of_ble_eq_true rfl⟩
theorem dX10_lock_0 : decode cX10_lock 0 = .ok (.aload_n 0, 1) := by decide +kernel
theorem dX10_lock_1 : decode cX10_lock 1 = .ok (.iload_n 1, 1) := by decide +kernel
theorem dX10_lock_2 : decode cX10_lock 2 = .ok (.invokevirtual 112, 3) := by decide +kernel
theorem dX10_lock_5 : decode cX10_lock 5 = .ok (.astore_n 3, 1) := by decide +kernel
theorem dX10_lock_6 : decode cX10_lock 6 = .ok (.aload_n 3, 1) := by decide +kernel
theorem dX10_lock_7 : decode cX10_lock 7 = .ok (.getfield 150, 3) := by decide +kernel
theorem dX10_lock_10 : decode cX10_lock 10 = .ok (.istore 4, 2) := by decide +kernel
theorem dX10_lock_12 : decode cX10_lock 12 = .ok (.aload_n 3, 1) := by decide +kernel
theorem dX10_lock_13 : decode cX10_lock 13 = .ok (.iload_n 2, 1) := by decide +kernel
theorem dX10_lock_14 : decode cX10_lock 14 = .ok (.putfield 150, 3) := by decide +kernel
theorem dX10_lock_17 : decode cX10_lock 17 = .ok (.iload 4, 2) := by decide +kernel
theorem dX10_lock_19 : decode cX10_lock 19 = .ok (.ireturn, 1) := by decide +kernel
abbrev m_X10_lock : am_M := (yX10_lock, cX10_lock, 5, some .boolean, [])
def f_X10_lock (a0 : Nat × Nat) (x1 : Int32) (x2 : Int32) (h : am_H) : am_R := m_ao (some a0) 10 fun a3 => m_bR (f_X10_workAt a3 x1 h) fun h1 o2 => m_gI o2 9 5 h1 fun v4 => m_pZ o2 9 5 x2 h1 fun h5 => m_rz h5 v4
theorem k_X10_lock (d : Nat) (hd : 8 ≤ d) (a0 : Nat × Nat) (x1 : Int32) (x2 : Int32) (h : am_H) : am_Con m_X10_lock d [.inr (.inr (some a0)), .inl x1, .inl x2] h (f_X10_lock a0 x1 x2 h) := am_con (by decide +kernel) (Nat.le_of_ble_eq_true rfl) (by
  unfold f_X10_lock
  refine sim_aload_n dX10_lock_0 rfl ?_
  refine sim_iload_n dX10_lock_1 rfl ?_
  refine sim_ao1 (fun a3 e => ?_)
  refine sim_virt (d - 1) e dX10_lock_2 (k_X10_workAt (d - 1) (by omega) _ _ _) q_X10_workAt rfl rfl wm_RX10_112 rfl rfl (by omega) (Nat.le_of_ble_eq_true rfl) am_nR (am_rR fun h1 o2 => ?_) am_eR
  refine sim_astore_n dX10_lock_5 (Nat.le_of_ble_eq_true rfl) ?_
  refine sim_aload_n dX10_lock_6 rfl ?_
  refine sim_gI 9 5 dX10_lock_7 rfl wf_RX10_150 (Nat.le_of_ble_eq_true rfl) rfl (fun v4 => ?_)
  refine sim_istore dX10_lock_10 (Nat.le_of_ble_eq_true rfl) ?_
  refine sim_aload_n dX10_lock_12 rfl ?_
  refine sim_iload_n dX10_lock_13 rfl ?_
  refine sim_pZ 9 5 dX10_lock_14 rfl wf_RX10_150 (Nat.le_of_ble_eq_true rfl) rfl (Or.inl rfl) rfl (fun h5 => ?_)
  refine sim_iload dX10_lock_17 rfl ?_
  exact sim_zret dX10_lock_19 rfl)
theorem q_X10_lock : am_Cal m_X10_lock 2 2 := ⟨am_mem 607 (w := Cond.code yX10_lock cX10_lock 5 (some .boolean)) (by decide +kernel) rfl, am_mem 56 (w := Cond.initialized RX10) (by decide +kernel) rfl, fun z => absurd z (by decide), fun _ => am_mem 605 (w := Cond.instanceMethod yX10_lock) (by decide +kernel) rfl, fun z => absurd z (by decide), fun _ => am_mem 606 (w := Cond.selects RX10 yX10_lock yX10_lock) (by decide +kernel) rfl, by decide +kernel, by decide +kernel, Nat.le_of_ble_eq_true rfl⟩
theorem dL_lock_0 : decode cL_lock 0 = .ok (.aload_n 3, 1) := by decide +kernel
theorem dL_lock_1 : decode cL_lock 1 = .ok (.iconst 0, 1) := by decide +kernel
theorem dL_lock_2 : decode cL_lock 2 = .ok (.aload_n 0, 1) := by decide +kernel
theorem dL_lock_3 : decode cL_lock 3 = .ok (.iload_n 1, 1) := by decide +kernel
theorem dL_lock_4 : decode cL_lock 4 = .ok (.iload_n 2, 1) := by decide +kernel
theorem dL_lock_5 : decode cL_lock 5 = .ok (.invokevirtual 43, 3) := by decide +kernel
theorem dL_lock_8 : decode cL_lock 8 = .ok (.ifCond .eq 7, 3) := by decide +kernel
theorem dL_lock_11 : decode cL_lock 11 = .ok (.lconst 1, 1) := by decide +kernel
theorem dL_lock_12 : decode cL_lock 12 = .ok (.goto 4, 3) := by decide +kernel
theorem dL_lock_15 : decode cL_lock 15 = .ok (.lconst 0, 1) := by decide +kernel
theorem dL_lock_16 : decode cL_lock 16 = .ok (.lastore, 1) := by decide +kernel
theorem dL_lock_17 : decode cL_lock 17 = .ok (.goto 7, 3) := by decide +kernel
theorem dL_lock_20 : decode cL_lock 20 = .ok (.astore 4, 2) := by decide +kernel
theorem dL_lock_22 : decode cL_lock 22 = .ok (.iconst 1, 1) := by decide +kernel
theorem dL_lock_23 : decode cL_lock 23 = .ok (.ireturn, 1) := by decide +kernel
theorem dL_lock_24 : decode cL_lock 24 = .ok (.iconst 0, 1) := by decide +kernel
theorem dL_lock_25 : decode cL_lock 25 = .ok (.ireturn, 1) := by decide +kernel
abbrev m_L_lock : am_M := (yL_lock, cL_lock, 5, some .int, [(0, 17, 20, 21)])
def f_L_lock_16  (s0 : Int64) (s1 : Int32) (s2 : Option (Nat × Nat)) (h : am_H) : am_R := m_sL s2 s1 s0 h fun h6 => m_ri h6 (0 : Int32)
theorem t_L_lock_16 (d : Nat) (hd : 9 ≤ d)  (s0 : Int64) (s1 : Int32) (s2 : Option (Nat × Nat)) (h : am_H) : Sim m_L_lock d 16 [none, none, none, none, none] [.inr (.inl s0), .inl s1, .inr (.inr s2)] h (f_L_lock_16  s0 s1 s2 h) := by
  unfold f_L_lock_16
  refine sim_sL dL_lock_16 (fun h6 => ?_)
  refine sim_goto 24 dL_lock_17 (by decide) ?_
  refine sim_iconst (0) dL_lock_24 (by decide +kernel) ?_
  exact sim_iret dL_lock_25 rfl
def f_L_lock (x0 : Option (Nat × Nat)) (x1 : Int32) (x2 : Int32) (x3 : Option (Nat × Nat)) (h : am_H) : am_R := m_ao x0 10 fun a3 => m_bIx (f_X10_lock a3 x1 x2 h) (fun h1 v2 => if v2 = 0 then (f_L_lock_16 (0 : Int64) (0 : Int32) x3 h1) else (f_L_lock_16 (1 : Int64) (0 : Int32) x3 h1)) (fun h4 e5 => if e5 = 0 then (m_ri h4 (1 : Int32)) else none)
theorem k_L_lock (d : Nat) (hd : 9 ≤ d) (x0 : Option (Nat × Nat)) (x1 : Int32) (x2 : Int32) (x3 : Option (Nat × Nat)) (h : am_H) : am_Con m_L_lock d [.inr (.inr x0), .inl x1, .inl x2, .inr (.inr x3)] h (f_L_lock x0 x1 x2 x3 h) := am_conX (by decide +kernel) (Nat.le_of_ble_eq_true rfl) (by
  unfold f_L_lock
  refine sim_aload_n dL_lock_0 rfl ?_
  refine sim_iconst (0) dL_lock_1 (by decide +kernel) ?_
  refine sim_aload_n dL_lock_2 rfl ?_
  refine sim_iload_n dL_lock_3 rfl ?_
  refine sim_iload_n dL_lock_4 rfl ?_
  refine sim_ao2 (fun a3 e => ?_)
  refine sim_virt (d - 1) e dL_lock_5 (k_X10_lock (d - 1) (by omega) _ _ _ _) q_X10_lock rfl rfl wm_RL_43 rfl rfl (by omega) (Nat.le_of_ble_eq_true rfl) am_nIx (am_rIx fun h1 v2 => ?_) (am_eIx fun h9 k9 => ?_)
  · refine sim_if_eq 15 dL_lock_8 (by decide) (fun c => ?_) (fun c => ?_)
    · refine sim_lconst (0) dL_lock_15 (by decide +kernel) ?_
      exact sim_lv (am_leN (am_leN (am_leN (am_leN (am_leN am_leT))))) (t_L_lock_16 d (by omega) _ _ _ _)
    · refine sim_lconst (1) dL_lock_11 (by decide +kernel) ?_
      refine sim_goto 16 dL_lock_12 (by decide) ?_
      exact sim_lv (am_leN (am_leN (am_leN (am_leN (am_leN am_leT))))) (t_L_lock_16 d (by omega) _ _ _ _)
  · refine simx_case (fun cx => ?_) (fun cx => ?_)
    · subst cx
      refine simx_catch [] (0, 17, 20, 21) [] rfl ⟨by decide, by decide⟩ (by decide) wx_RL_21 wca_0 (by decide) (fun z hz => by cases hz) ?_
      refine sim_astore dL_lock_20 (Nat.le_of_ble_eq_true rfl) ?_
      refine sim_iconst (1) dL_lock_22 (by decide +kernel) ?_
      exact sim_iret dL_lock_23 rfl
    exact simx_none)
theorem q_L_lock : am_Cal m_L_lock 4 0 := ⟨am_mem 603 (w := Cond.codeWith yL_lock cL_lock 5 (some .int) [(0, 17, 20, 21)]) (by decide +kernel) rfl, am_mem 55 (w := Cond.initialized RL) (by decide +kernel) rfl, fun _ => am_mem 602 (w := Cond.static yL_lock) (by decide +kernel) rfl, fun z => absurd rfl z, fun z => absurd z (by decide), fun z => absurd z (by decide), by decide +kernel, by decide +kernel, Nat.le_of_ble_eq_true rfl⟩
theorem dX10_checkTag_0 : decode cX10_checkTag 0 = .ok (.iload_n 1, 1) := by decide +kernel
theorem dX10_checkTag_1 : decode cX10_checkTag 1 = .ok (.ifCond .lt 14, 3) := by decide +kernel
theorem dX10_checkTag_4 : decode cX10_checkTag 4 = .ok (.iload_n 1, 1) := by decide +kernel
theorem dX10_checkTag_5 : decode cX10_checkTag 5 = .ok (.aload_n 0, 1) := by decide +kernel
theorem dX10_checkTag_6 : decode cX10_checkTag 6 = .ok (.getfield 34, 3) := by decide +kernel
theorem dX10_checkTag_9 : decode cX10_checkTag 9 = .ok (.getfield 180, 3) := by decide +kernel
theorem dX10_checkTag_12 : decode cX10_checkTag 12 = .ok (.if_icmp .lt 14, 3) := by decide +kernel
theorem dX10_checkTag_15 : decode cX10_checkTag 15 = .ok (.new 162, 3) := by decide +kernel
theorem dX10_checkTag_18 : decode cX10_checkTag 18 = .ok (.dup, 1) := by decide +kernel
theorem dX10_checkTag_19 : decode cX10_checkTag 19 = .ok (.ldc_w 380, 3) := by decide +kernel
theorem dX10_checkTag_22 : decode cX10_checkTag 22 = .ok (.invokespecial 166, 3) := by decide +kernel
theorem dX10_checkTag_25 : decode cX10_checkTag 25 = .ok (.athrow, 1) := by decide +kernel
theorem dX10_checkTag_26 : decode cX10_checkTag 26 = .ok (.return_, 1) := by decide +kernel
abbrev m_X10_checkTag : am_M := (yX10_checkTag, cX10_checkTag, 2, none, [])
def f_X10_checkTag_15   (h : am_H) : am_R := m_ex h 0
theorem t_X10_checkTag_15 (d : Nat) (hd : 6 ≤ d)   (h : am_H) : Sim m_X10_checkTag d 15 [none, none] [] h (f_X10_checkTag_15   h) := by
  unfold f_X10_checkTag_15
  exact sim_throwW 0 (by decide) dX10_checkTag_15 dX10_checkTag_18 dX10_checkTag_19 dX10_checkTag_22 dX10_checkTag_25 wx_RX10_162 wy_0 ws_RX10_380 at_RX10_166 gd_RX10_166 (by omega) (Nat.le_of_ble_eq_true rfl)
def f_X10_checkTag (a0 : Nat × Nat) (x1 : Int32) (h : am_H) : am_R := if x1 < 0 then (f_X10_checkTag_15 h) else (m_gR (some a0) 10 7 h fun o1 => m_gI o1 7 0 h fun v2 => if x1 < v2 then (m_rt h none) else (f_X10_checkTag_15 h))
theorem k_X10_checkTag (d : Nat) (hd : 6 ≤ d) (a0 : Nat × Nat) (x1 : Int32) (h : am_H) : am_Con m_X10_checkTag d [.inr (.inr (some a0)), .inl x1] h (f_X10_checkTag a0 x1 h) := am_con (by decide +kernel) (Nat.le_of_ble_eq_true rfl) (by
  unfold f_X10_checkTag
  refine sim_iload_n dX10_checkTag_0 rfl ?_
  refine sim_if_lt 15 dX10_checkTag_1 (by decide) (fun c => ?_) (fun c => ?_)
  · exact sim_lv (am_leN (am_leN am_leT)) (t_X10_checkTag_15 d (by omega) _)
  · refine sim_iload_n dX10_checkTag_4 rfl ?_
    refine sim_aload_n dX10_checkTag_5 rfl ?_
    refine sim_gR 10 7 dX10_checkTag_6 rfl wf_RX10_34 (Nat.le_of_ble_eq_true rfl) rfl (fun o1 => ?_)
    refine sim_gI 7 0 dX10_checkTag_9 rfl wf_RX10_180 (Nat.le_of_ble_eq_true rfl) rfl (fun v2 => ?_)
    refine sim_ic_lt 26 dX10_checkTag_12 (by decide) (fun c => ?_) (fun c => ?_)
    · exact sim_vret dX10_checkTag_26 rfl
    · exact sim_lv (am_leN (am_leN am_leT)) (t_X10_checkTag_15 d (by omega) _))
theorem q_X10_checkTag : am_Cal m_X10_checkTag 1 2 := ⟨am_mem 687 (w := Cond.code yX10_checkTag cX10_checkTag 2 none) (by decide +kernel) rfl, am_mem 56 (w := Cond.initialized RX10) (by decide +kernel) rfl, fun z => absurd z (by decide), fun _ => am_mem 686 (w := Cond.instanceMethod yX10_checkTag) (by decide +kernel) rfl, fun z => absurd z (by decide), fun _ => am_mem 8 (w := Cond.selects RX10 yX10_checkTag yX10_checkTag) (by decide +kernel) rfl, by decide +kernel, by decide +kernel, Nat.le_of_ble_eq_true rfl⟩
theorem dX10_letTaggedWorksWait_0 : decode cX10_letTaggedWorksWait 0 = .ok (.iconst 0, 1) := by decide +kernel
theorem dX10_letTaggedWorksWait_1 : decode cX10_letTaggedWorksWait 1 = .ok (.istore_n 1, 1) := by decide +kernel
theorem dX10_letTaggedWorksWait_2 : decode cX10_letTaggedWorksWait 2 = .ok (.iload_n 1, 1) := by decide +kernel
theorem dX10_letTaggedWorksWait_3 : decode cX10_letTaggedWorksWait 3 = .ok (.aload_n 0, 1) := by decide +kernel
theorem dX10_letTaggedWorksWait_4 : decode cX10_letTaggedWorksWait 4 = .ok (.getfield 104, 3) := by decide +kernel
theorem dX10_letTaggedWorksWait_7 : decode cX10_letTaggedWorksWait 7 = .ok (.if_icmp .ge 39, 3) := by decide +kernel
theorem dX10_letTaggedWorksWait_10 : decode cX10_letTaggedWorksWait 10 = .ok (.aload_n 0, 1) := by decide +kernel
theorem dX10_letTaggedWorksWait_11 : decode cX10_letTaggedWorksWait 11 = .ok (.getfield 21, 3) := by decide +kernel
theorem dX10_letTaggedWorksWait_14 : decode cX10_letTaggedWorksWait 14 = .ok (.iload_n 1, 1) := by decide +kernel
theorem dX10_letTaggedWorksWait_15 : decode cX10_letTaggedWorksWait 15 = .ok (.aaload, 1) := by decide +kernel
theorem dX10_letTaggedWorksWait_16 : decode cX10_letTaggedWorksWait 16 = .ok (.astore_n 2, 1) := by decide +kernel
theorem dX10_letTaggedWorksWait_17 : decode cX10_letTaggedWorksWait 17 = .ok (.aload_n 2, 1) := by decide +kernel
theorem dX10_letTaggedWorksWait_18 : decode cX10_letTaggedWorksWait 18 = .ok (.aload_n 2, 1) := by decide +kernel
theorem dX10_letTaggedWorksWait_19 : decode cX10_letTaggedWorksWait 19 = .ok (.getfield 244, 3) := by decide +kernel
theorem dX10_letTaggedWorksWait_22 : decode cX10_letTaggedWorksWait 22 = .ok (.ifCond .ne 10, 3) := by decide +kernel
theorem dX10_letTaggedWorksWait_25 : decode cX10_letTaggedWorksWait 25 = .ok (.aload_n 2, 1) := by decide +kernel
theorem dX10_letTaggedWorksWait_26 : decode cX10_letTaggedWorksWait 26 = .ok (.getfield 234, 3) := by decide +kernel
theorem dX10_letTaggedWorksWait_29 : decode cX10_letTaggedWorksWait 29 = .ok (.ifCond .eq 7, 3) := by decide +kernel
theorem dX10_letTaggedWorksWait_32 : decode cX10_letTaggedWorksWait 32 = .ok (.iconst 1, 1) := by decide +kernel
theorem dX10_letTaggedWorksWait_33 : decode cX10_letTaggedWorksWait 33 = .ok (.goto 4, 3) := by decide +kernel
theorem dX10_letTaggedWorksWait_36 : decode cX10_letTaggedWorksWait 36 = .ok (.iconst 0, 1) := by decide +kernel
theorem dX10_letTaggedWorksWait_37 : decode cX10_letTaggedWorksWait 37 = .ok (.putfield 244, 3) := by decide +kernel
theorem dX10_letTaggedWorksWait_40 : decode cX10_letTaggedWorksWait 40 = .ok (.iinc 1 1, 3) := by decide +kernel
theorem dX10_letTaggedWorksWait_43 : decode cX10_letTaggedWorksWait 43 = .ok (.goto (-41), 3) := by decide +kernel
theorem dX10_letTaggedWorksWait_46 : decode cX10_letTaggedWorksWait 46 = .ok (.return_, 1) := by decide +kernel
abbrev m_X10_letTaggedWorksWait : am_M := (yX10_letTaggedWorksWait, cX10_letTaggedWorksWait, 3, none, [])
def f_X10_letTaggedWorksWait_37 (rc2 : Nat × Nat → Int32 → am_H → am_R) (a0 : Nat × Nat) (x1 : Int32) (s0 : Int32) (s1 : Option (Nat × Nat)) (h : am_H) : am_R := m_pZ s1 9 9 s0 h fun h6 => rc2 a0 (x1 + 1) h6
theorem t_X10_letTaggedWorksWait_37 (d : Nat) (hd : 0 ≤ d) (rc2 : Nat × Nat → Int32 → am_H → am_R) (hrc2 : ∀ a0 x1 h, Sim m_X10_letTaggedWorksWait d 2 [some (.inr (.inr (some a0))), some (.inl x1), none] [] h (rc2 a0 x1 h)) (a0 : Nat × Nat) (x1 : Int32) (s0 : Int32) (s1 : Option (Nat × Nat)) (h : am_H) : Sim m_X10_letTaggedWorksWait d 37 [some (.inr (.inr (some a0))), some (.inl x1), none] [.inl s0, .inr (.inr s1)] h (f_X10_letTaggedWorksWait_37 rc2 a0 x1 s0 s1 h) := by
  unfold f_X10_letTaggedWorksWait_37
  refine sim_pZ 9 9 dX10_letTaggedWorksWait_37 rfl wf_RX10_244 (Nat.le_of_ble_eq_true rfl) rfl (Or.inl rfl) rfl (fun h6 => ?_)
  refine sim_iinc (1) dX10_letTaggedWorksWait_40 rfl (by decide +kernel) (Nat.le_of_ble_eq_true rfl) ?_
  refine sim_goto 2 dX10_letTaggedWorksWait_43 (by decide) ?_
  exact sim_lv (am_leS (am_leS (am_leN am_leT))) (hrc2 _ _ _)
def f_X10_letTaggedWorksWait_32 (rc2 : Nat × Nat → Int32 → am_H → am_R) (a0 : Nat × Nat) (x1 : Int32) (s0 : Option (Nat × Nat)) (h : am_H) : am_R := f_X10_letTaggedWorksWait_37 rc2 a0 x1 (1 : Int32) s0 h
theorem t_X10_letTaggedWorksWait_32 (d : Nat) (hd : 0 ≤ d) (rc2 : Nat × Nat → Int32 → am_H → am_R) (hrc2 : ∀ a0 x1 h, Sim m_X10_letTaggedWorksWait d 2 [some (.inr (.inr (some a0))), some (.inl x1), none] [] h (rc2 a0 x1 h)) (a0 : Nat × Nat) (x1 : Int32) (s0 : Option (Nat × Nat)) (h : am_H) : Sim m_X10_letTaggedWorksWait d 32 [some (.inr (.inr (some a0))), some (.inl x1), none] [.inr (.inr s0)] h (f_X10_letTaggedWorksWait_32 rc2 a0 x1 s0 h) := by
  unfold f_X10_letTaggedWorksWait_32
  refine sim_iconst (1) dX10_letTaggedWorksWait_32 (by decide +kernel) ?_
  refine sim_goto 37 dX10_letTaggedWorksWait_33 (by decide) ?_
  exact sim_lv (am_leS (am_leS (am_leN am_leT))) (t_X10_letTaggedWorksWait_37 d (by omega) _ hrc2 _ _ _ _ _)
def f_X10_letTaggedWorksWait_2  : Nat → Nat × Nat → Int32 → am_H → am_R
  | 0, _, _, _ => none
  | n + 1, a0, x1, h => m_gI (some a0) 10 4 h fun v1 => if v1 ≤ x1 then (m_rt h none) else (m_gR (some a0) 10 3 h fun o2 => m_aR o2 5 x1 h fun o3 => m_gI o3 9 9 h fun v4 => if v4 = 0 then (m_gI o3 9 7 h fun v5 => if v5 = 0 then (f_X10_letTaggedWorksWait_37 (f_X10_letTaggedWorksWait_2  n) a0 x1 (0 : Int32) o3 h) else (f_X10_letTaggedWorksWait_32 (f_X10_letTaggedWorksWait_2  n) a0 x1 o3 h)) else (f_X10_letTaggedWorksWait_32 (f_X10_letTaggedWorksWait_2  n) a0 x1 o3 h))
theorem t_X10_letTaggedWorksWait_2 (d : Nat) (hd : 0 ≤ d)  : ∀ (n : Nat) (a0 : Nat × Nat) (x1 : Int32) (h : am_H), Sim m_X10_letTaggedWorksWait d 2 [some (.inr (.inr (some a0))), some (.inl x1), none] [] h (f_X10_letTaggedWorksWait_2  n a0 x1 h) := by
  intro n
  induction n with
  | zero => intros; exact sim_none
  | succ n hrc2 =>
    intro a0 x1 h
    rw [f_X10_letTaggedWorksWait_2]
    refine sim_iload_n dX10_letTaggedWorksWait_2 rfl ?_
    refine sim_aload_n dX10_letTaggedWorksWait_3 rfl ?_
    refine sim_gI 10 4 dX10_letTaggedWorksWait_4 rfl wf_RX10_104 (Nat.le_of_ble_eq_true rfl) rfl (fun v1 => ?_)
    refine sim_ic_ge 46 dX10_letTaggedWorksWait_7 (by decide) (fun c => ?_) (fun c => ?_)
    · exact sim_vret dX10_letTaggedWorksWait_46 rfl
    · refine sim_aload_n dX10_letTaggedWorksWait_10 rfl ?_
      refine sim_gR 10 3 dX10_letTaggedWorksWait_11 rfl wf_RX10_21 (Nat.le_of_ble_eq_true rfl) rfl (fun o2 => ?_)
      refine sim_iload_n dX10_letTaggedWorksWait_14 rfl ?_
      refine sim_aR 5 rfl dX10_letTaggedWorksWait_15 (fun o3 => ?_)
      refine sim_astore_n dX10_letTaggedWorksWait_16 (Nat.le_of_ble_eq_true rfl) ?_
      refine sim_aload_n dX10_letTaggedWorksWait_17 rfl ?_
      refine sim_aload_n dX10_letTaggedWorksWait_18 rfl ?_
      refine sim_gI 9 9 dX10_letTaggedWorksWait_19 rfl wf_RX10_244 (Nat.le_of_ble_eq_true rfl) rfl (fun v4 => ?_)
      refine sim_if_ne 32 dX10_letTaggedWorksWait_22 (by decide) (fun c => ?_) (fun c => ?_)
      · exact sim_lv (am_leS (am_leS (am_leN am_leT))) (t_X10_letTaggedWorksWait_32 d (by omega) _ hrc2 _ _ _ _)
      · refine sim_aload_n dX10_letTaggedWorksWait_25 rfl ?_
        refine sim_gI 9 7 dX10_letTaggedWorksWait_26 rfl wf_RX10_234 (Nat.le_of_ble_eq_true rfl) rfl (fun v5 => ?_)
        refine sim_if_eq 36 dX10_letTaggedWorksWait_29 (by decide) (fun c => ?_) (fun c => ?_)
        · refine sim_iconst (0) dX10_letTaggedWorksWait_36 (by decide +kernel) ?_
          exact sim_lv (am_leS (am_leS (am_leN am_leT))) (t_X10_letTaggedWorksWait_37 d (by omega) _ hrc2 _ _ _ _ _)
        · exact sim_lv (am_leS (am_leS (am_leN am_leT))) (t_X10_letTaggedWorksWait_32 d (by omega) _ hrc2 _ _ _ _)
def f_X10_letTaggedWorksWait (a0 : Nat × Nat) (h : am_H) : am_R := f_X10_letTaggedWorksWait_2 5000 a0 (0 : Int32) h
theorem k_X10_letTaggedWorksWait (d : Nat) (hd : 0 ≤ d) (a0 : Nat × Nat) (h : am_H) : am_Con m_X10_letTaggedWorksWait d [.inr (.inr (some a0))] h (f_X10_letTaggedWorksWait a0 h) := am_con (by decide +kernel) (Nat.le_of_ble_eq_true rfl) (by
  unfold f_X10_letTaggedWorksWait
  refine sim_iconst (0) dX10_letTaggedWorksWait_0 (by decide +kernel) ?_
  refine sim_istore_n dX10_letTaggedWorksWait_1 (Nat.le_of_ble_eq_true rfl) ?_
  exact sim_lv (am_leS (am_leS (am_leN am_leT))) (t_X10_letTaggedWorksWait_2 d (by omega) _ _ _ _))
theorem q_X10_letTaggedWorksWait : am_Cal m_X10_letTaggedWorksWait 0 2 := ⟨am_mem 701 (w := Cond.code yX10_letTaggedWorksWait cX10_letTaggedWorksWait 3 none) (by decide +kernel) rfl, am_mem 56 (w := Cond.initialized RX10) (by decide +kernel) rfl, fun z => absurd z (by decide), fun _ => am_mem 700 (w := Cond.instanceMethod yX10_letTaggedWorksWait) (by decide +kernel) rfl, fun z => absurd z (by decide), fun _ => am_mem 9 (w := Cond.selects RX10 yX10_letTaggedWorksWait yX10_letTaggedWorksWait) (by decide +kernel) rfl, by decide +kernel, by decide +kernel, Nat.le_of_ble_eq_true rfl⟩
theorem dX7_kindOf_0 : decode cX7_kindOf 0 = .ok (.aload_n 0, 1) := by decide +kernel
theorem dX7_kindOf_1 : decode cX7_kindOf 1 = .ok (.getfield 9, 3) := by decide +kernel
theorem dX7_kindOf_4 : decode cX7_kindOf 4 = .ok (.iload_n 1, 1) := by decide +kernel
theorem dX7_kindOf_5 : decode cX7_kindOf 5 = .ok (.iaload, 1) := by decide +kernel
theorem dX7_kindOf_6 : decode cX7_kindOf 6 = .ok (.iconst (-1), 1) := by decide +kernel
theorem dX7_kindOf_7 : decode cX7_kindOf 7 = .ok (.if_icmp .ne 5, 3) := by decide +kernel
theorem dX7_kindOf_10 : decode cX7_kindOf 10 = .ok (.iconst 0, 1) := by decide +kernel
theorem dX7_kindOf_11 : decode cX7_kindOf 11 = .ok (.ireturn, 1) := by decide +kernel
theorem dX7_kindOf_12 : decode cX7_kindOf 12 = .ok (.aload_n 0, 1) := by decide +kernel
theorem dX7_kindOf_13 : decode cX7_kindOf 13 = .ok (.getfield 9, 3) := by decide +kernel
theorem dX7_kindOf_16 : decode cX7_kindOf 16 = .ok (.iload_n 1, 1) := by decide +kernel
theorem dX7_kindOf_17 : decode cX7_kindOf 17 = .ok (.iaload, 1) := by decide +kernel
theorem dX7_kindOf_18 : decode cX7_kindOf 18 = .ok (.iload_n 1, 1) := by decide +kernel
theorem dX7_kindOf_19 : decode cX7_kindOf 19 = .ok (.if_icmp .ne 7, 3) := by decide +kernel
theorem dX7_kindOf_22 : decode cX7_kindOf 22 = .ok (.iconst 1, 1) := by decide +kernel
theorem dX7_kindOf_23 : decode cX7_kindOf 23 = .ok (.goto 4, 3) := by decide +kernel
theorem dX7_kindOf_26 : decode cX7_kindOf 26 = .ok (.iconst 2, 1) := by decide +kernel
theorem dX7_kindOf_27 : decode cX7_kindOf 27 = .ok (.ireturn, 1) := by decide +kernel
abbrev m_X7_kindOf : am_M := (yX7_kindOf, cX7_kindOf, 2, some .int, [])
def f_X7_kindOf_27  (s0 : Int32) (h : am_H) : am_R := m_ri h s0
theorem t_X7_kindOf_27 (d : Nat) (hd : 0 ≤ d)  (s0 : Int32) (h : am_H) : Sim m_X7_kindOf d 27 [none, none] [.inl s0] h (f_X7_kindOf_27  s0 h) := by
  unfold f_X7_kindOf_27
  exact sim_iret dX7_kindOf_27 rfl
def f_X7_kindOf (a0 : Nat × Nat) (x1 : Int32) (h : am_H) : am_R := m_gR (some a0) 7 1 h fun o1 => m_aI o1 0 x1 h fun v2 => if v2 = (-1 : Int32) then (m_ri h (0 : Int32)) else (m_gR (some a0) 7 1 h fun o3 => m_aI o3 0 x1 h fun v4 => if v4 = x1 then (f_X7_kindOf_27 (1 : Int32) h) else (f_X7_kindOf_27 (2 : Int32) h))
theorem k_X7_kindOf (d : Nat) (hd : 0 ≤ d) (a0 : Nat × Nat) (x1 : Int32) (h : am_H) : am_Con m_X7_kindOf d [.inr (.inr (some a0)), .inl x1] h (f_X7_kindOf a0 x1 h) := am_con (by decide +kernel) (Nat.le_of_ble_eq_true rfl) (by
  unfold f_X7_kindOf
  refine sim_aload_n dX7_kindOf_0 rfl ?_
  refine sim_gR 7 1 dX7_kindOf_1 rfl wf_RX7_9 (Nat.le_of_ble_eq_true rfl) rfl (fun o1 => ?_)
  refine sim_iload_n dX7_kindOf_4 rfl ?_
  refine sim_aI dX7_kindOf_5 (fun v2 => ?_)
  refine sim_iconst (-1) dX7_kindOf_6 (by decide +kernel) ?_
  refine sim_ic_ne 12 dX7_kindOf_7 (by decide) (fun c => ?_) (fun c => ?_)
  · refine sim_aload_n dX7_kindOf_12 rfl ?_
    refine sim_gR 7 1 dX7_kindOf_13 rfl wf_RX7_9 (Nat.le_of_ble_eq_true rfl) rfl (fun o3 => ?_)
    refine sim_iload_n dX7_kindOf_16 rfl ?_
    refine sim_aI dX7_kindOf_17 (fun v4 => ?_)
    refine sim_iload_n dX7_kindOf_18 rfl ?_
    refine sim_ic_ne 26 dX7_kindOf_19 (by decide) (fun c => ?_) (fun c => ?_)
    · refine sim_iconst (2) dX7_kindOf_26 (by decide +kernel) ?_
      exact sim_lv (am_leN (am_leN am_leT)) (t_X7_kindOf_27 d (by omega) _ _)
    · refine sim_iconst (1) dX7_kindOf_22 (by decide +kernel) ?_
      refine sim_goto 27 dX7_kindOf_23 (by decide) ?_
      exact sim_lv (am_leN (am_leN am_leT)) (t_X7_kindOf_27 d (by omega) _ _)
  · refine sim_iconst (0) dX7_kindOf_10 (by decide +kernel) ?_
    exact sim_iret dX7_kindOf_11 rfl)
theorem q_X7_kindOf : am_Cal m_X7_kindOf 1 2 := ⟨am_mem 692 (w := Cond.code yX7_kindOf cX7_kindOf 2 (some .int)) (by decide +kernel) rfl, am_mem 57 (w := Cond.initialized RX7) (by decide +kernel) rfl, fun z => absurd z (by decide), fun _ => am_mem 690 (w := Cond.instanceMethod yX7_kindOf) (by decide +kernel) rfl, fun z => absurd z (by decide), fun _ => am_mem 691 (w := Cond.selects RX7 yX7_kindOf yX7_kindOf) (by decide +kernel) rfl, by decide +kernel, by decide +kernel, Nat.le_of_ble_eq_true rfl⟩
theorem dX7_makeMain_0 : decode cX7_makeMain 0 = .ok (.aload_n 0, 1) := by decide +kernel
theorem dX7_makeMain_1 : decode cX7_makeMain 1 = .ok (.getfield 9, 3) := by decide +kernel
theorem dX7_makeMain_4 : decode cX7_makeMain 4 = .ok (.iload_n 1, 1) := by decide +kernel
theorem dX7_makeMain_5 : decode cX7_makeMain 5 = .ok (.iload_n 1, 1) := by decide +kernel
theorem dX7_makeMain_6 : decode cX7_makeMain 6 = .ok (.iastore, 1) := by decide +kernel
theorem dX7_makeMain_7 : decode cX7_makeMain 7 = .ok (.return_, 1) := by decide +kernel
abbrev m_X7_makeMain : am_M := (yX7_makeMain, cX7_makeMain, 2, none, [])
def f_X7_makeMain (a0 : Nat × Nat) (x1 : Int32) (h : am_H) : am_R := m_gR (some a0) 7 1 h fun o1 => m_sI o1 x1 x1 h fun h2 => m_rt h2 none
theorem k_X7_makeMain (d : Nat) (hd : 0 ≤ d) (a0 : Nat × Nat) (x1 : Int32) (h : am_H) : am_Con m_X7_makeMain d [.inr (.inr (some a0)), .inl x1] h (f_X7_makeMain a0 x1 h) := am_con (by decide +kernel) (Nat.le_of_ble_eq_true rfl) (by
  unfold f_X7_makeMain
  refine sim_aload_n dX7_makeMain_0 rfl ?_
  refine sim_gR 7 1 dX7_makeMain_1 rfl wf_RX7_9 (Nat.le_of_ble_eq_true rfl) rfl (fun o1 => ?_)
  refine sim_iload_n dX7_makeMain_4 rfl ?_
  refine sim_iload_n dX7_makeMain_5 rfl ?_
  refine sim_sI dX7_makeMain_6 (fun h2 => ?_)
  exact sim_vret dX7_makeMain_7 rfl)
theorem q_X7_makeMain : am_Cal m_X7_makeMain 1 2 := ⟨am_mem 697 (w := Cond.code yX7_makeMain cX7_makeMain 2 none) (by decide +kernel) rfl, am_mem 57 (w := Cond.initialized RX7) (by decide +kernel) rfl, fun z => absurd z (by decide), fun _ => am_mem 695 (w := Cond.instanceMethod yX7_makeMain) (by decide +kernel) rfl, fun z => absurd z (by decide), fun _ => am_mem 696 (w := Cond.selects RX7 yX7_makeMain yX7_makeMain) (by decide +kernel) rfl, by decide +kernel, by decide +kernel, Nat.le_of_ble_eq_true rfl⟩
theorem dX10_make_0 : decode cX10_make 0 = .ok (.aload_n 0, 1) := by decide +kernel
theorem dX10_make_1 : decode cX10_make 1 = .ok (.iload_n 1, 1) := by decide +kernel
theorem dX10_make_2 : decode cX10_make 2 = .ok (.invokevirtual 189, 3) := by decide +kernel
theorem dX10_make_5 : decode cX10_make 5 = .ok (.aload_n 0, 1) := by decide +kernel
theorem dX10_make_6 : decode cX10_make 6 = .ok (.getfield 34, 3) := by decide +kernel
theorem dX10_make_9 : decode cX10_make 9 = .ok (.iload_n 1, 1) := by decide +kernel
theorem dX10_make_10 : decode cX10_make 10 = .ok (.invokevirtual 192, 3) := by decide +kernel
theorem dX10_make_13 : decode cX10_make 13 = .ok (.istore_n 2, 1) := by decide +kernel
theorem dX10_make_14 : decode cX10_make 14 = .ok (.iload_n 2, 1) := by decide +kernel
theorem dX10_make_15 : decode cX10_make 15 = .ok (.iconst 1, 1) := by decide +kernel
theorem dX10_make_16 : decode cX10_make 16 = .ok (.if_icmp .ne 13, 3) := by decide +kernel
theorem dX10_make_19 : decode cX10_make 19 = .ok (.new 77, 3) := by decide +kernel
theorem dX10_make_22 : decode cX10_make 22 = .ok (.dup, 1) := by decide +kernel
theorem dX10_make_23 : decode cX10_make 23 = .ok (.ldc 195, 2) := by decide +kernel
theorem dX10_make_25 : decode cX10_make 25 = .ok (.invokespecial 81, 3) := by decide +kernel
theorem dX10_make_28 : decode cX10_make 28 = .ok (.athrow, 1) := by decide +kernel
theorem dX10_make_29 : decode cX10_make 29 = .ok (.aload_n 0, 1) := by decide +kernel
theorem dX10_make_30 : decode cX10_make 30 = .ok (.getfield 34, 3) := by decide +kernel
theorem dX10_make_33 : decode cX10_make 33 = .ok (.iload_n 1, 1) := by decide +kernel
theorem dX10_make_34 : decode cX10_make 34 = .ok (.invokevirtual 197, 3) := by decide +kernel
theorem dX10_make_37 : decode cX10_make 37 = .ok (.aload_n 0, 1) := by decide +kernel
theorem dX10_make_38 : decode cX10_make 38 = .ok (.invokevirtual 200, 3) := by decide +kernel
theorem dX10_make_41 : decode cX10_make 41 = .ok (.iload_n 2, 1) := by decide +kernel
theorem dX10_make_42 : decode cX10_make 42 = .ok (.ireturn, 1) := by decide +kernel
abbrev m_X10_make : am_M := (yX10_make, cX10_make, 3, some .int, [])
def f_X10_make (a0 : Nat × Nat) (x1 : Int32) (h : am_H) : am_R := m_ao (some a0) 10 fun a3 => m_bV (f_X10_checkTag a3 x1 h) fun h1 => m_gR (some a0) 10 7 h1 fun o4 => m_ao o4 7 fun a7 => m_bI (f_X7_kindOf a7 x1 h1) fun h5 v6 => if v6 = (1 : Int32) then (m_ex h5 2) else (m_gR (some a0) 10 7 h5 fun o8 => m_ao o8 7 fun a11 => m_bV (f_X7_makeMain a11 x1 h5) fun h9 => m_ao (some a0) 10 fun a14 => m_bV (f_X10_letTaggedWorksWait a14 h9) fun h12 => m_ri h12 v6)
theorem k_X10_make (d : Nat) (hd : 7 ≤ d) (a0 : Nat × Nat) (x1 : Int32) (h : am_H) : am_Con m_X10_make d [.inr (.inr (some a0)), .inl x1] h (f_X10_make a0 x1 h) := am_con (by decide +kernel) (Nat.le_of_ble_eq_true rfl) (by
  unfold f_X10_make
  refine sim_aload_n dX10_make_0 rfl ?_
  refine sim_iload_n dX10_make_1 rfl ?_
  refine sim_ao1 (fun a3 e => ?_)
  refine sim_virt (d - 1) e dX10_make_2 (k_X10_checkTag (d - 1) (by omega) _ _ _) q_X10_checkTag rfl rfl wm_RX10_189 rfl rfl (by omega) (Nat.le_of_ble_eq_true rfl) am_nV (am_rV fun h1 => ?_) am_eV
  refine sim_aload_n dX10_make_5 rfl ?_
  refine sim_gR 10 7 dX10_make_6 rfl wf_RX10_34 (Nat.le_of_ble_eq_true rfl) rfl (fun o4 => ?_)
  refine sim_iload_n dX10_make_9 rfl ?_
  refine sim_ao1 (fun a7 e => ?_)
  refine sim_virt (d - 1) e dX10_make_10 (k_X7_kindOf (d - 1) (by omega) _ _ _) q_X7_kindOf rfl rfl wm_RX10_192 rfl rfl (by omega) (Nat.le_of_ble_eq_true rfl) am_nI (am_rI fun h5 v6 => ?_) am_eI
  refine sim_istore_n dX10_make_13 (Nat.le_of_ble_eq_true rfl) ?_
  refine sim_iload_n dX10_make_14 rfl ?_
  refine sim_iconst (1) dX10_make_15 (by decide +kernel) ?_
  refine sim_ic_ne 29 dX10_make_16 (by decide) (fun c => ?_) (fun c => ?_)
  · refine sim_aload_n dX10_make_29 rfl ?_
    refine sim_gR 10 7 dX10_make_30 rfl wf_RX10_34 (Nat.le_of_ble_eq_true rfl) rfl (fun o8 => ?_)
    refine sim_iload_n dX10_make_33 rfl ?_
    refine sim_ao1 (fun a11 e => ?_)
    refine sim_virt (d - 1) e dX10_make_34 (k_X7_makeMain (d - 1) (by omega) _ _ _) q_X7_makeMain rfl rfl wm_RX10_197 rfl rfl (by omega) (Nat.le_of_ble_eq_true rfl) am_nV (am_rV fun h9 => ?_) am_eV
    refine sim_aload_n dX10_make_37 rfl ?_
    refine sim_ao0 (fun a14 e => ?_)
    refine sim_virt (d - 1) e dX10_make_38 (k_X10_letTaggedWorksWait (d - 1) (by omega) _  _) q_X10_letTaggedWorksWait rfl rfl wm_RX10_200 rfl rfl (by omega) (Nat.le_of_ble_eq_true rfl) am_nV (am_rV fun h12 => ?_) am_eV
    refine sim_iload_n dX10_make_41 rfl ?_
    exact sim_iret dX10_make_42 rfl
  · exact sim_throw 2 (by decide) dX10_make_19 dX10_make_22 dX10_make_23 dX10_make_25 dX10_make_28 wx_RX10_77 wy_2 ws_RX10_195 at_RX10_81 gd_RX10_81 (by omega) (Nat.le_of_ble_eq_true rfl))
theorem q_X10_make : am_Cal m_X10_make 1 2 := ⟨am_mem 683 (w := Cond.code yX10_make cX10_make 3 (some .int)) (by decide +kernel) rfl, am_mem 56 (w := Cond.initialized RX10) (by decide +kernel) rfl, fun z => absurd z (by decide), fun _ => am_mem 681 (w := Cond.instanceMethod yX10_make) (by decide +kernel) rfl, fun z => absurd z (by decide), fun _ => am_mem 682 (w := Cond.selects RX10 yX10_make yX10_make) (by decide +kernel) rfl, by decide +kernel, by decide +kernel, Nat.le_of_ble_eq_true rfl⟩
theorem dL_make_0 : decode cL_make 0 = .ok (.aload_n 2, 1) := by decide +kernel
theorem dL_make_1 : decode cL_make 1 = .ok (.iconst 0, 1) := by decide +kernel
theorem dL_make_2 : decode cL_make 2 = .ok (.aload_n 0, 1) := by decide +kernel
theorem dL_make_3 : decode cL_make 3 = .ok (.iload_n 1, 1) := by decide +kernel
theorem dL_make_4 : decode cL_make 4 = .ok (.invokevirtual 64, 3) := by decide +kernel
theorem dL_make_7 : decode cL_make 7 = .ok (.i2l, 1) := by decide +kernel
theorem dL_make_8 : decode cL_make 8 = .ok (.lastore, 1) := by decide +kernel
theorem dL_make_9 : decode cL_make 9 = .ok (.goto 9, 3) := by decide +kernel
theorem dL_make_12 : decode cL_make 12 = .ok (.astore_n 3, 1) := by decide +kernel
theorem dL_make_13 : decode cL_make 13 = .ok (.iconst 1, 1) := by decide +kernel
theorem dL_make_14 : decode cL_make 14 = .ok (.ireturn, 1) := by decide +kernel
theorem dL_make_15 : decode cL_make 15 = .ok (.astore_n 3, 1) := by decide +kernel
theorem dL_make_16 : decode cL_make 16 = .ok (.iconst 2, 1) := by decide +kernel
theorem dL_make_17 : decode cL_make 17 = .ok (.ireturn, 1) := by decide +kernel
theorem dL_make_18 : decode cL_make 18 = .ok (.iconst 0, 1) := by decide +kernel
theorem dL_make_19 : decode cL_make 19 = .ok (.ireturn, 1) := by decide +kernel
abbrev m_L_make : am_M := (yL_make, cL_make, 4, some .int, [(0, 9, 12, 21), (0, 9, 15, 15)])
def f_L_make (x0 : Option (Nat × Nat)) (x1 : Int32) (x2 : Option (Nat × Nat)) (h : am_H) : am_R := m_ao x0 10 fun a3 => m_bIx (f_X10_make a3 x1 h) (fun h1 v2 => m_sL x2 (0 : Int32) (Int32.toInt64 v2) h1 fun h6 => m_ri h6 (0 : Int32)) (fun h4 e5 => if e5 = 0 then (m_ri h4 (1 : Int32)) else if e5 = 2 then (m_ri h4 (2 : Int32)) else none)
theorem k_L_make (d : Nat) (hd : 8 ≤ d) (x0 : Option (Nat × Nat)) (x1 : Int32) (x2 : Option (Nat × Nat)) (h : am_H) : am_Con m_L_make d [.inr (.inr x0), .inl x1, .inr (.inr x2)] h (f_L_make x0 x1 x2 h) := am_conX (by decide +kernel) (Nat.le_of_ble_eq_true rfl) (by
  unfold f_L_make
  refine sim_aload_n dL_make_0 rfl ?_
  refine sim_iconst (0) dL_make_1 (by decide +kernel) ?_
  refine sim_aload_n dL_make_2 rfl ?_
  refine sim_iload_n dL_make_3 rfl ?_
  refine sim_ao1 (fun a3 e => ?_)
  refine sim_virt (d - 1) e dL_make_4 (k_X10_make (d - 1) (by omega) _ _ _) q_X10_make rfl rfl wm_RL_64 rfl rfl (by omega) (Nat.le_of_ble_eq_true rfl) am_nIx (am_rIx fun h1 v2 => ?_) (am_eIx fun h9 k9 => ?_)
  · refine sim_i2l dL_make_7 ?_
    refine sim_sL dL_make_8 (fun h6 => ?_)
    refine sim_goto 18 dL_make_9 (by decide) ?_
    refine sim_iconst (0) dL_make_18 (by decide +kernel) ?_
    exact sim_iret dL_make_19 rfl
  · refine simx_case (fun cx => ?_) (fun cx => ?_)
    · subst cx
      refine simx_catch [] (0, 9, 12, 21) [(0, 9, 15, 15)] rfl ⟨by decide, by decide⟩ (by decide) wx_RL_21 wca_0 (by decide) (fun z hz => by cases hz) ?_
      refine sim_astore_n dL_make_12 (Nat.le_of_ble_eq_true rfl) ?_
      refine sim_iconst (1) dL_make_13 (by decide +kernel) ?_
      exact sim_iret dL_make_14 rfl
    refine simx_case (fun cx => ?_) (fun cx => ?_)
    · subst cx
      refine simx_catch [(0, 9, 12, 21)] (0, 9, 15, 15) [] rfl ⟨by decide, by decide⟩ (by decide) wx_RL_15 wca_2 (by decide) (fun z hz => by simp only [List.mem_cons, List.not_mem_nil, or_false] at hz; subst hz; exact ⟨by decide, 0, _, by decide, by decide, wx_RL_21⟩) ?_
      refine sim_astore_n dL_make_15 (Nat.le_of_ble_eq_true rfl) ?_
      refine sim_iconst (2) dL_make_16 (by decide +kernel) ?_
      exact sim_iret dL_make_17 rfl
    exact simx_none)
theorem q_L_make : am_Cal m_L_make 3 0 := ⟨am_mem 679 (w := Cond.codeWith yL_make cL_make 4 (some .int) [(0, 9, 12, 21), (0, 9, 15, 15)]) (by decide +kernel) rfl, am_mem 55 (w := Cond.initialized RL) (by decide +kernel) rfl, fun _ => am_mem 678 (w := Cond.static yL_make) (by decide +kernel) rfl, fun z => absurd rfl z, fun z => absurd z (by decide), fun z => absurd z (by decide), by decide +kernel, by decide +kernel, Nat.le_of_ble_eq_true rfl⟩
end
section
theorem dX7_belongUnder_0 : decode cX7_belongUnder 0 = .ok (.iconst 0, 1) := by decide +kernel
theorem dX7_belongUnder_1 : decode cX7_belongUnder 1 = .ok (.istore_n 2, 1) := by decide +kernel
theorem dX7_belongUnder_2 : decode cX7_belongUnder 2 = .ok (.iconst 0, 1) := by decide +kernel
theorem dX7_belongUnder_3 : decode cX7_belongUnder 3 = .ok (.istore_n 3, 1) := by decide +kernel
theorem dX7_belongUnder_4 : decode cX7_belongUnder 4 = .ok (.iload_n 3, 1) := by decide +kernel
theorem dX7_belongUnder_5 : decode cX7_belongUnder 5 = .ok (.aload_n 0, 1) := by decide +kernel
theorem dX7_belongUnder_6 : decode cX7_belongUnder 6 = .ok (.getfield 21, 3) := by decide +kernel
theorem dX7_belongUnder_9 : decode cX7_belongUnder 9 = .ok (.if_icmp .ge 50, 3) := by decide +kernel
theorem dX7_belongUnder_12 : decode cX7_belongUnder 12 = .ok (.iload_n 1, 1) := by decide +kernel
theorem dX7_belongUnder_13 : decode cX7_belongUnder 13 = .ok (.iload_n 3, 1) := by decide +kernel
theorem dX7_belongUnder_14 : decode cX7_belongUnder 14 = .ok (.invokestatic 25, 3) := by decide +kernel
theorem dX7_belongUnder_17 : decode cX7_belongUnder 17 = .ok (.ifCond .eq 36, 3) := by decide +kernel
theorem dX7_belongUnder_20 : decode cX7_belongUnder 20 = .ok (.aload_n 0, 1) := by decide +kernel
theorem dX7_belongUnder_21 : decode cX7_belongUnder 21 = .ok (.getfield 9, 3) := by decide +kernel
theorem dX7_belongUnder_24 : decode cX7_belongUnder 24 = .ok (.iload_n 3, 1) := by decide +kernel
theorem dX7_belongUnder_25 : decode cX7_belongUnder 25 = .ok (.iaload, 1) := by decide +kernel
theorem dX7_belongUnder_26 : decode cX7_belongUnder 26 = .ok (.iconst (-1), 1) := by decide +kernel
theorem dX7_belongUnder_27 : decode cX7_belongUnder 27 = .ok (.if_icmp .eq 26, 3) := by decide +kernel
theorem dX7_belongUnder_30 : decode cX7_belongUnder 30 = .ok (.iload_n 2, 1) := by decide +kernel
theorem dX7_belongUnder_31 : decode cX7_belongUnder 31 = .ok (.iconst 1, 1) := by decide +kernel
theorem dX7_belongUnder_32 : decode cX7_belongUnder 32 = .ok (.aload_n 0, 1) := by decide +kernel
theorem dX7_belongUnder_33 : decode cX7_belongUnder 33 = .ok (.getfield 9, 3) := by decide +kernel
theorem dX7_belongUnder_36 : decode cX7_belongUnder 36 = .ok (.iload_n 3, 1) := by decide +kernel
theorem dX7_belongUnder_37 : decode cX7_belongUnder 37 = .ok (.iaload, 1) := by decide +kernel
theorem dX7_belongUnder_38 : decode cX7_belongUnder 38 = .ok (.ishl, 1) := by decide +kernel
theorem dX7_belongUnder_39 : decode cX7_belongUnder 39 = .ok (.aload_n 0, 1) := by decide +kernel
theorem dX7_belongUnder_40 : decode cX7_belongUnder 40 = .ok (.getfield 18, 3) := by decide +kernel
theorem dX7_belongUnder_43 : decode cX7_belongUnder 43 = .ok (.aload_n 0, 1) := by decide +kernel
theorem dX7_belongUnder_44 : decode cX7_belongUnder 44 = .ok (.getfield 9, 3) := by decide +kernel
theorem dX7_belongUnder_47 : decode cX7_belongUnder 47 = .ok (.iload_n 3, 1) := by decide +kernel
theorem dX7_belongUnder_48 : decode cX7_belongUnder 48 = .ok (.iaload, 1) := by decide +kernel
theorem dX7_belongUnder_49 : decode cX7_belongUnder 49 = .ok (.iaload, 1) := by decide +kernel
theorem dX7_belongUnder_50 : decode cX7_belongUnder 50 = .ok (.ior, 1) := by decide +kernel
theorem dX7_belongUnder_51 : decode cX7_belongUnder 51 = .ok (.ior, 1) := by decide +kernel
theorem dX7_belongUnder_52 : decode cX7_belongUnder 52 = .ok (.istore_n 2, 1) := by decide +kernel
theorem dX7_belongUnder_53 : decode cX7_belongUnder 53 = .ok (.iinc 3 1, 3) := by decide +kernel
theorem dX7_belongUnder_56 : decode cX7_belongUnder 56 = .ok (.goto (-52), 3) := by decide +kernel
theorem dX7_belongUnder_59 : decode cX7_belongUnder 59 = .ok (.iload_n 2, 1) := by decide +kernel
theorem dX7_belongUnder_60 : decode cX7_belongUnder 60 = .ok (.ireturn, 1) := by decide +kernel
abbrev m_X7_belongUnder : am_M := (yX7_belongUnder, cX7_belongUnder, 4, some .int, [])
def f_X7_belongUnder_53 (rc4 : Nat × Nat → Int32 → Int32 → Int32 → am_H → am_R) (a0 : Nat × Nat) (x1 : Int32) (x2 : Int32) (x3 : Int32) (h : am_H) : am_R := rc4 a0 x1 x2 (x3 + 1) h
theorem t_X7_belongUnder_53 (d : Nat) (hd : 1 ≤ d) (rc4 : Nat × Nat → Int32 → Int32 → Int32 → am_H → am_R) (hrc4 : ∀ a0 x1 x2 x3 h, Sim m_X7_belongUnder d 4 [some (.inr (.inr (some a0))), some (.inl x1), some (.inl x2), some (.inl x3)] [] h (rc4 a0 x1 x2 x3 h)) (a0 : Nat × Nat) (x1 : Int32) (x2 : Int32) (x3 : Int32) (h : am_H) : Sim m_X7_belongUnder d 53 [some (.inr (.inr (some a0))), some (.inl x1), some (.inl x2), some (.inl x3)] [] h (f_X7_belongUnder_53 rc4 a0 x1 x2 x3 h) := by
  unfold f_X7_belongUnder_53
  refine sim_iinc (1) dX7_belongUnder_53 rfl (by decide +kernel) (Nat.le_of_ble_eq_true rfl) ?_
  refine sim_goto 4 dX7_belongUnder_56 (by decide) ?_
  exact sim_lv (am_leS (am_leS (am_leS (am_leS am_leT)))) (hrc4 _ _ _ _ _)
def f_X7_belongUnder_4  : Nat → Nat × Nat → Int32 → Int32 → Int32 → am_H → am_R
  | 0, _, _, _, _, _ => none
  | n + 1, a0, x1, x2, x3, h => m_gI (some a0) 7 0 h fun v1 => if v1 ≤ x3 then (m_ri h x2) else (m_bJ (f_X10_has x1 x3 h) fun h2 v3 => if v3 = 0 then (f_X7_belongUnder_53 (f_X7_belongUnder_4  n) a0 x1 x2 x3 h2) else (m_gR (some a0) 7 1 h2 fun o4 => m_aI o4 0 x3 h2 fun v5 => if v5 = (-1 : Int32) then (f_X7_belongUnder_53 (f_X7_belongUnder_4  n) a0 x1 x2 x3 h2) else (m_gR (some a0) 7 1 h2 fun o6 => m_aI o6 0 x3 h2 fun v7 => m_gR (some a0) 7 3 h2 fun o8 => m_gR (some a0) 7 1 h2 fun o9 => m_aI o9 0 x3 h2 fun v10 => m_aI o8 0 v10 h2 fun v11 => f_X7_belongUnder_53 (f_X7_belongUnder_4  n) a0 x1 (x2 ||| (((1 : Int32) <<< (v7 &&& 31)) ||| v11)) x3 h2)))
theorem t_X7_belongUnder_4 (d : Nat) (hd : 1 ≤ d)  : ∀ (n : Nat) (a0 : Nat × Nat) (x1 : Int32) (x2 : Int32) (x3 : Int32) (h : am_H), Sim m_X7_belongUnder d 4 [some (.inr (.inr (some a0))), some (.inl x1), some (.inl x2), some (.inl x3)] [] h (f_X7_belongUnder_4  n a0 x1 x2 x3 h) := by
  intro n
  induction n with
  | zero => intros; exact sim_none
  | succ n hrc4 =>
    intro a0 x1 x2 x3 h
    rw [f_X7_belongUnder_4]
    refine sim_iload_n dX7_belongUnder_4 rfl ?_
    refine sim_aload_n dX7_belongUnder_5 rfl ?_
    refine sim_gI 7 0 dX7_belongUnder_6 rfl wf_RX7_21 (Nat.le_of_ble_eq_true rfl) rfl (fun v1 => ?_)
    refine sim_ic_ge 59 dX7_belongUnder_9 (by decide) (fun c => ?_) (fun c => ?_)
    · refine sim_iload_n dX7_belongUnder_59 rfl ?_
      exact sim_iret dX7_belongUnder_60 rfl
    · refine sim_iload_n dX7_belongUnder_12 rfl ?_
      refine sim_iload_n dX7_belongUnder_13 rfl ?_
      refine sim_staticN (d - 1) dX7_belongUnder_14 (k_X10_has (d - 1) (by omega) _ _ _) q_X10_has wn_RX7_25 rfl rfl (by omega) (Nat.le_of_ble_eq_true rfl) am_nJ am_xJ (am_rJ fun h2 v3 => ?_)
      refine sim_if_eq 53 dX7_belongUnder_17 (by decide) (fun c => ?_) (fun c => ?_)
      · exact sim_lv (am_leS (am_leS (am_leS (am_leS am_leT)))) (t_X7_belongUnder_53 d (by omega) _ hrc4 _ _ _ _ _)
      · refine sim_aload_n dX7_belongUnder_20 rfl ?_
        refine sim_gR 7 1 dX7_belongUnder_21 rfl wf_RX7_9 (Nat.le_of_ble_eq_true rfl) rfl (fun o4 => ?_)
        refine sim_iload_n dX7_belongUnder_24 rfl ?_
        refine sim_aI dX7_belongUnder_25 (fun v5 => ?_)
        refine sim_iconst (-1) dX7_belongUnder_26 (by decide +kernel) ?_
        refine sim_ic_eq 53 dX7_belongUnder_27 (by decide) (fun c => ?_) (fun c => ?_)
        · exact sim_lv (am_leS (am_leS (am_leS (am_leS am_leT)))) (t_X7_belongUnder_53 d (by omega) _ hrc4 _ _ _ _ _)
        · refine sim_iload_n dX7_belongUnder_30 rfl ?_
          refine sim_iconst (1) dX7_belongUnder_31 (by decide +kernel) ?_
          refine sim_aload_n dX7_belongUnder_32 rfl ?_
          refine sim_gR 7 1 dX7_belongUnder_33 rfl wf_RX7_9 (Nat.le_of_ble_eq_true rfl) rfl (fun o6 => ?_)
          refine sim_iload_n dX7_belongUnder_36 rfl ?_
          refine sim_aI dX7_belongUnder_37 (fun v7 => ?_)
          refine sim_ishl dX7_belongUnder_38 ?_
          refine sim_aload_n dX7_belongUnder_39 rfl ?_
          refine sim_gR 7 3 dX7_belongUnder_40 rfl wf_RX7_18 (Nat.le_of_ble_eq_true rfl) rfl (fun o8 => ?_)
          refine sim_aload_n dX7_belongUnder_43 rfl ?_
          refine sim_gR 7 1 dX7_belongUnder_44 rfl wf_RX7_9 (Nat.le_of_ble_eq_true rfl) rfl (fun o9 => ?_)
          refine sim_iload_n dX7_belongUnder_47 rfl ?_
          refine sim_aI dX7_belongUnder_48 (fun v10 => ?_)
          refine sim_aI dX7_belongUnder_49 (fun v11 => ?_)
          refine sim_ior dX7_belongUnder_50 ?_
          refine sim_ior dX7_belongUnder_51 ?_
          refine sim_istore_n dX7_belongUnder_52 (Nat.le_of_ble_eq_true rfl) ?_
          exact sim_lv (am_leS (am_leS (am_leS (am_leS am_leT)))) (t_X7_belongUnder_53 d (by omega) _ hrc4 _ _ _ _ _)
def f_X7_belongUnder (a0 : Nat × Nat) (x1 : Int32) (h : am_H) : am_R := f_X7_belongUnder_4 5000 a0 x1 (0 : Int32) (0 : Int32) h
theorem k_X7_belongUnder (d : Nat) (hd : 1 ≤ d) (a0 : Nat × Nat) (x1 : Int32) (h : am_H) : am_Con m_X7_belongUnder d [.inr (.inr (some a0)), .inl x1] h (f_X7_belongUnder a0 x1 h) := am_con (by decide +kernel) (Nat.le_of_ble_eq_true rfl) (by
  unfold f_X7_belongUnder
  refine sim_iconst (0) dX7_belongUnder_0 (by decide +kernel) ?_
  refine sim_istore_n dX7_belongUnder_1 (Nat.le_of_ble_eq_true rfl) ?_
  refine sim_iconst (0) dX7_belongUnder_2 (by decide +kernel) ?_
  refine sim_istore_n dX7_belongUnder_3 (Nat.le_of_ble_eq_true rfl) ?_
  exact sim_lv (am_leS (am_leS (am_leS (am_leS am_leT)))) (t_X7_belongUnder_4 d (by omega) _ _ _ _ _ _))
theorem q_X7_belongUnder : am_Cal m_X7_belongUnder 1 2 := ⟨am_mem 348 (w := Cond.code yX7_belongUnder cX7_belongUnder 4 (some .int)) (by decide +kernel) rfl, am_mem 57 (w := Cond.initialized RX7) (by decide +kernel) rfl, fun z => absurd z (by decide), fun _ => am_mem 346 (w := Cond.instanceMethod yX7_belongUnder) (by decide +kernel) rfl, fun z => absurd z (by decide), fun _ => am_mem 347 (w := Cond.selects RX7 yX7_belongUnder yX7_belongUnder) (by decide +kernel) rfl, by decide +kernel, by decide +kernel, Nat.le_of_ble_eq_true rfl⟩
theorem dX7_meaningsOf_0 : decode cX7_meaningsOf 0 = .ok (.iconst 0, 1) := by decide +kernel
theorem dX7_meaningsOf_1 : decode cX7_meaningsOf 1 = .ok (.istore_n 2, 1) := by decide +kernel
theorem dX7_meaningsOf_2 : decode cX7_meaningsOf 2 = .ok (.iconst 0, 1) := by decide +kernel
theorem dX7_meaningsOf_3 : decode cX7_meaningsOf 3 = .ok (.istore_n 3, 1) := by decide +kernel
theorem dX7_meaningsOf_4 : decode cX7_meaningsOf 4 = .ok (.iload_n 3, 1) := by decide +kernel
theorem dX7_meaningsOf_5 : decode cX7_meaningsOf 5 = .ok (.aload_n 0, 1) := by decide +kernel
theorem dX7_meaningsOf_6 : decode cX7_meaningsOf 6 = .ok (.getfield 21, 3) := by decide +kernel
theorem dX7_meaningsOf_9 : decode cX7_meaningsOf 9 = .ok (.if_icmp .ge 38, 3) := by decide +kernel
theorem dX7_meaningsOf_12 : decode cX7_meaningsOf 12 = .ok (.iload_n 1, 1) := by decide +kernel
theorem dX7_meaningsOf_13 : decode cX7_meaningsOf 13 = .ok (.iload_n 3, 1) := by decide +kernel
theorem dX7_meaningsOf_14 : decode cX7_meaningsOf 14 = .ok (.invokestatic 25, 3) := by decide +kernel
theorem dX7_meaningsOf_17 : decode cX7_meaningsOf 17 = .ok (.ifCond .eq 24, 3) := by decide +kernel
theorem dX7_meaningsOf_20 : decode cX7_meaningsOf 20 = .ok (.aload_n 0, 1) := by decide +kernel
theorem dX7_meaningsOf_21 : decode cX7_meaningsOf 21 = .ok (.getfield 9, 3) := by decide +kernel
theorem dX7_meaningsOf_24 : decode cX7_meaningsOf 24 = .ok (.iload_n 3, 1) := by decide +kernel
theorem dX7_meaningsOf_25 : decode cX7_meaningsOf 25 = .ok (.iaload, 1) := by decide +kernel
theorem dX7_meaningsOf_26 : decode cX7_meaningsOf 26 = .ok (.iconst (-1), 1) := by decide +kernel
theorem dX7_meaningsOf_27 : decode cX7_meaningsOf 27 = .ok (.if_icmp .eq 14, 3) := by decide +kernel
theorem dX7_meaningsOf_30 : decode cX7_meaningsOf 30 = .ok (.iload_n 2, 1) := by decide +kernel
theorem dX7_meaningsOf_31 : decode cX7_meaningsOf 31 = .ok (.iconst 1, 1) := by decide +kernel
theorem dX7_meaningsOf_32 : decode cX7_meaningsOf 32 = .ok (.aload_n 0, 1) := by decide +kernel
theorem dX7_meaningsOf_33 : decode cX7_meaningsOf 33 = .ok (.getfield 9, 3) := by decide +kernel
theorem dX7_meaningsOf_36 : decode cX7_meaningsOf 36 = .ok (.iload_n 3, 1) := by decide +kernel
theorem dX7_meaningsOf_37 : decode cX7_meaningsOf 37 = .ok (.iaload, 1) := by decide +kernel
theorem dX7_meaningsOf_38 : decode cX7_meaningsOf 38 = .ok (.ishl, 1) := by decide +kernel
theorem dX7_meaningsOf_39 : decode cX7_meaningsOf 39 = .ok (.ior, 1) := by decide +kernel
theorem dX7_meaningsOf_40 : decode cX7_meaningsOf 40 = .ok (.istore_n 2, 1) := by decide +kernel
theorem dX7_meaningsOf_41 : decode cX7_meaningsOf 41 = .ok (.iinc 3 1, 3) := by decide +kernel
theorem dX7_meaningsOf_44 : decode cX7_meaningsOf 44 = .ok (.goto (-40), 3) := by decide +kernel
theorem dX7_meaningsOf_47 : decode cX7_meaningsOf 47 = .ok (.iload_n 2, 1) := by decide +kernel
theorem dX7_meaningsOf_48 : decode cX7_meaningsOf 48 = .ok (.ireturn, 1) := by decide +kernel
abbrev m_X7_meaningsOf : am_M := (yX7_meaningsOf, cX7_meaningsOf, 4, some .int, [])
def f_X7_meaningsOf_41 (rc4 : Nat × Nat → Int32 → Int32 → Int32 → am_H → am_R) (a0 : Nat × Nat) (x1 : Int32) (x2 : Int32) (x3 : Int32) (h : am_H) : am_R := rc4 a0 x1 x2 (x3 + 1) h
theorem t_X7_meaningsOf_41 (d : Nat) (hd : 1 ≤ d) (rc4 : Nat × Nat → Int32 → Int32 → Int32 → am_H → am_R) (hrc4 : ∀ a0 x1 x2 x3 h, Sim m_X7_meaningsOf d 4 [some (.inr (.inr (some a0))), some (.inl x1), some (.inl x2), some (.inl x3)] [] h (rc4 a0 x1 x2 x3 h)) (a0 : Nat × Nat) (x1 : Int32) (x2 : Int32) (x3 : Int32) (h : am_H) : Sim m_X7_meaningsOf d 41 [some (.inr (.inr (some a0))), some (.inl x1), some (.inl x2), some (.inl x3)] [] h (f_X7_meaningsOf_41 rc4 a0 x1 x2 x3 h) := by
  unfold f_X7_meaningsOf_41
  refine sim_iinc (1) dX7_meaningsOf_41 rfl (by decide +kernel) (Nat.le_of_ble_eq_true rfl) ?_
  refine sim_goto 4 dX7_meaningsOf_44 (by decide) ?_
  exact sim_lv (am_leS (am_leS (am_leS (am_leS am_leT)))) (hrc4 _ _ _ _ _)
def f_X7_meaningsOf_4  : Nat → Nat × Nat → Int32 → Int32 → Int32 → am_H → am_R
  | 0, _, _, _, _, _ => none
  | n + 1, a0, x1, x2, x3, h => m_gI (some a0) 7 0 h fun v1 => if v1 ≤ x3 then (m_ri h x2) else (m_bJ (f_X10_has x1 x3 h) fun h2 v3 => if v3 = 0 then (f_X7_meaningsOf_41 (f_X7_meaningsOf_4  n) a0 x1 x2 x3 h2) else (m_gR (some a0) 7 1 h2 fun o4 => m_aI o4 0 x3 h2 fun v5 => if v5 = (-1 : Int32) then (f_X7_meaningsOf_41 (f_X7_meaningsOf_4  n) a0 x1 x2 x3 h2) else (m_gR (some a0) 7 1 h2 fun o6 => m_aI o6 0 x3 h2 fun v7 => f_X7_meaningsOf_41 (f_X7_meaningsOf_4  n) a0 x1 (x2 ||| ((1 : Int32) <<< (v7 &&& 31))) x3 h2)))
theorem t_X7_meaningsOf_4 (d : Nat) (hd : 1 ≤ d)  : ∀ (n : Nat) (a0 : Nat × Nat) (x1 : Int32) (x2 : Int32) (x3 : Int32) (h : am_H), Sim m_X7_meaningsOf d 4 [some (.inr (.inr (some a0))), some (.inl x1), some (.inl x2), some (.inl x3)] [] h (f_X7_meaningsOf_4  n a0 x1 x2 x3 h) := by
  intro n
  induction n with
  | zero => intros; exact sim_none
  | succ n hrc4 =>
    intro a0 x1 x2 x3 h
    rw [f_X7_meaningsOf_4]
    refine sim_iload_n dX7_meaningsOf_4 rfl ?_
    refine sim_aload_n dX7_meaningsOf_5 rfl ?_
    refine sim_gI 7 0 dX7_meaningsOf_6 rfl wf_RX7_21 (Nat.le_of_ble_eq_true rfl) rfl (fun v1 => ?_)
    refine sim_ic_ge 47 dX7_meaningsOf_9 (by decide) (fun c => ?_) (fun c => ?_)
    · refine sim_iload_n dX7_meaningsOf_47 rfl ?_
      exact sim_iret dX7_meaningsOf_48 rfl
    · refine sim_iload_n dX7_meaningsOf_12 rfl ?_
      refine sim_iload_n dX7_meaningsOf_13 rfl ?_
      refine sim_staticN (d - 1) dX7_meaningsOf_14 (k_X10_has (d - 1) (by omega) _ _ _) q_X10_has wn_RX7_25 rfl rfl (by omega) (Nat.le_of_ble_eq_true rfl) am_nJ am_xJ (am_rJ fun h2 v3 => ?_)
      refine sim_if_eq 41 dX7_meaningsOf_17 (by decide) (fun c => ?_) (fun c => ?_)
      · exact sim_lv (am_leS (am_leS (am_leS (am_leS am_leT)))) (t_X7_meaningsOf_41 d (by omega) _ hrc4 _ _ _ _ _)
      · refine sim_aload_n dX7_meaningsOf_20 rfl ?_
        refine sim_gR 7 1 dX7_meaningsOf_21 rfl wf_RX7_9 (Nat.le_of_ble_eq_true rfl) rfl (fun o4 => ?_)
        refine sim_iload_n dX7_meaningsOf_24 rfl ?_
        refine sim_aI dX7_meaningsOf_25 (fun v5 => ?_)
        refine sim_iconst (-1) dX7_meaningsOf_26 (by decide +kernel) ?_
        refine sim_ic_eq 41 dX7_meaningsOf_27 (by decide) (fun c => ?_) (fun c => ?_)
        · exact sim_lv (am_leS (am_leS (am_leS (am_leS am_leT)))) (t_X7_meaningsOf_41 d (by omega) _ hrc4 _ _ _ _ _)
        · refine sim_iload_n dX7_meaningsOf_30 rfl ?_
          refine sim_iconst (1) dX7_meaningsOf_31 (by decide +kernel) ?_
          refine sim_aload_n dX7_meaningsOf_32 rfl ?_
          refine sim_gR 7 1 dX7_meaningsOf_33 rfl wf_RX7_9 (Nat.le_of_ble_eq_true rfl) rfl (fun o6 => ?_)
          refine sim_iload_n dX7_meaningsOf_36 rfl ?_
          refine sim_aI dX7_meaningsOf_37 (fun v7 => ?_)
          refine sim_ishl dX7_meaningsOf_38 ?_
          refine sim_ior dX7_meaningsOf_39 ?_
          refine sim_istore_n dX7_meaningsOf_40 (Nat.le_of_ble_eq_true rfl) ?_
          exact sim_lv (am_leS (am_leS (am_leS (am_leS am_leT)))) (t_X7_meaningsOf_41 d (by omega) _ hrc4 _ _ _ _ _)
def f_X7_meaningsOf (a0 : Nat × Nat) (x1 : Int32) (h : am_H) : am_R := f_X7_meaningsOf_4 5000 a0 x1 (0 : Int32) (0 : Int32) h
theorem k_X7_meaningsOf (d : Nat) (hd : 1 ≤ d) (a0 : Nat × Nat) (x1 : Int32) (h : am_H) : am_Con m_X7_meaningsOf d [.inr (.inr (some a0)), .inl x1] h (f_X7_meaningsOf a0 x1 h) := am_con (by decide +kernel) (Nat.le_of_ble_eq_true rfl) (by
  unfold f_X7_meaningsOf
  refine sim_iconst (0) dX7_meaningsOf_0 (by decide +kernel) ?_
  refine sim_istore_n dX7_meaningsOf_1 (Nat.le_of_ble_eq_true rfl) ?_
  refine sim_iconst (0) dX7_meaningsOf_2 (by decide +kernel) ?_
  refine sim_istore_n dX7_meaningsOf_3 (Nat.le_of_ble_eq_true rfl) ?_
  exact sim_lv (am_leS (am_leS (am_leS (am_leS am_leT)))) (t_X7_meaningsOf_4 d (by omega) _ _ _ _ _ _))
theorem q_X7_meaningsOf : am_Cal m_X7_meaningsOf 1 2 := ⟨am_mem 343 (w := Cond.code yX7_meaningsOf cX7_meaningsOf 4 (some .int)) (by decide +kernel) rfl, am_mem 57 (w := Cond.initialized RX7) (by decide +kernel) rfl, fun z => absurd z (by decide), fun _ => am_mem 341 (w := Cond.instanceMethod yX7_meaningsOf) (by decide +kernel) rfl, fun z => absurd z (by decide), fun _ => am_mem 342 (w := Cond.selects RX7 yX7_meaningsOf yX7_meaningsOf) (by decide +kernel) rfl, by decide +kernel, by decide +kernel, Nat.le_of_ble_eq_true rfl⟩
theorem dX6_suits_0 : decode cX6_suits 0 = .ok (.aload_n 0, 1) := by decide +kernel
theorem dX6_suits_1 : decode cX6_suits 1 = .ok (.getfield 19, 3) := by decide +kernel
theorem dX6_suits_4 : decode cX6_suits 4 = .ok (.aload_n 1, 1) := by decide +kernel
theorem dX6_suits_5 : decode cX6_suits 5 = .ok (.getfield 7, 3) := by decide +kernel
theorem dX6_suits_8 : decode cX6_suits 8 = .ok (.invokestatic 22, 3) := by decide +kernel
theorem dX6_suits_11 : decode cX6_suits 11 = .ok (.ifCond .ne 17, 3) := by decide +kernel
theorem dX6_suits_14 : decode cX6_suits 14 = .ok (.aload_n 1, 1) := by decide +kernel
theorem dX6_suits_15 : decode cX6_suits 15 = .ok (.getfield 19, 3) := by decide +kernel
theorem dX6_suits_18 : decode cX6_suits 18 = .ok (.aload_n 0, 1) := by decide +kernel
theorem dX6_suits_19 : decode cX6_suits 19 = .ok (.getfield 7, 3) := by decide +kernel
theorem dX6_suits_22 : decode cX6_suits 22 = .ok (.invokestatic 22, 3) := by decide +kernel
theorem dX6_suits_25 : decode cX6_suits 25 = .ok (.ifCond .eq 5, 3) := by decide +kernel
theorem dX6_suits_28 : decode cX6_suits 28 = .ok (.iconst 0, 1) := by decide +kernel
theorem dX6_suits_29 : decode cX6_suits 29 = .ok (.ireturn, 1) := by decide +kernel
theorem dX6_suits_30 : decode cX6_suits 30 = .ok (.aload_n 2, 1) := by decide +kernel
theorem dX6_suits_31 : decode cX6_suits 31 = .ok (.aload_n 1, 1) := by decide +kernel
theorem dX6_suits_32 : decode cX6_suits 32 = .ok (.getfield 13, 3) := by decide +kernel
theorem dX6_suits_35 : decode cX6_suits 35 = .ok (.invokevirtual 28, 3) := by decide +kernel
theorem dX6_suits_38 : decode cX6_suits 38 = .ok (.aload_n 2, 1) := by decide +kernel
theorem dX6_suits_39 : decode cX6_suits 39 = .ok (.aload_n 0, 1) := by decide +kernel
theorem dX6_suits_40 : decode cX6_suits 40 = .ok (.getfield 16, 3) := by decide +kernel
theorem dX6_suits_43 : decode cX6_suits 43 = .ok (.invokevirtual 34, 3) := by decide +kernel
theorem dX6_suits_46 : decode cX6_suits 46 = .ok (.iand, 1) := by decide +kernel
theorem dX6_suits_47 : decode cX6_suits 47 = .ok (.ifCond .eq 7, 3) := by decide +kernel
theorem dX6_suits_50 : decode cX6_suits 50 = .ok (.iconst 1, 1) := by decide +kernel
theorem dX6_suits_51 : decode cX6_suits 51 = .ok (.goto 4, 3) := by decide +kernel
theorem dX6_suits_54 : decode cX6_suits 54 = .ok (.iconst 0, 1) := by decide +kernel
theorem dX6_suits_55 : decode cX6_suits 55 = .ok (.ireturn, 1) := by decide +kernel
abbrev m_X6_suits : am_M := (yX6_suits, cX6_suits, 3, some .boolean, [])
def f_X6_suits_55  (s0 : Int32) (h : am_H) : am_R := m_rz h s0
theorem t_X6_suits_55 (d : Nat) (hd : 2 ≤ d)  (s0 : Int32) (h : am_H) : Sim m_X6_suits d 55 [none, none, none] [.inl s0] h (f_X6_suits_55  s0 h) := by
  unfold f_X6_suits_55
  exact sim_zret dX6_suits_55 rfl
def f_X6_suits_28   (h : am_H) : am_R := m_rz h (0 : Int32)
theorem t_X6_suits_28 (d : Nat) (hd : 2 ≤ d)   (h : am_H) : Sim m_X6_suits d 28 [none, none, none] [] h (f_X6_suits_28   h) := by
  unfold f_X6_suits_28
  refine sim_iconst (0) dX6_suits_28 (by decide +kernel) ?_
  exact sim_zret dX6_suits_29 rfl
def f_X6_suits (a0 : Nat × Nat) (x1 : Option (Nat × Nat)) (x2 : Option (Nat × Nat)) (h : am_H) : am_R := m_gI (some a0) 6 3 h fun v1 => m_gI x1 6 0 h fun v2 => m_bJ (f_X10_has v1 v2 h) fun h3 v4 => if v4 = 0 then (m_gI x1 6 3 h3 fun v5 => m_gI (some a0) 6 0 h3 fun v6 => m_bJ (f_X10_has v5 v6 h3) fun h7 v8 => if v8 = 0 then (m_gI x1 6 1 h7 fun v9 => m_ao x2 7 fun a12 => m_bI (f_X7_meaningsOf a12 v9 h7) fun h10 v11 => m_gI (some a0) 6 2 h10 fun v13 => m_ao x2 7 fun a16 => m_bI (f_X7_belongUnder a16 v13 h10) fun h14 v15 => if (v11 &&& v15) = 0 then (f_X6_suits_55 (0 : Int32) h14) else (f_X6_suits_55 (1 : Int32) h14)) else (f_X6_suits_28 h7)) else (f_X6_suits_28 h3)
theorem k_X6_suits (d : Nat) (hd : 2 ≤ d) (a0 : Nat × Nat) (x1 : Option (Nat × Nat)) (x2 : Option (Nat × Nat)) (h : am_H) : am_Con m_X6_suits d [.inr (.inr (some a0)), .inr (.inr x1), .inr (.inr x2)] h (f_X6_suits a0 x1 x2 h) := am_con (by decide +kernel) (Nat.le_of_ble_eq_true rfl) (by
  unfold f_X6_suits
  refine sim_aload_n dX6_suits_0 rfl ?_
  refine sim_gI 6 3 dX6_suits_1 rfl wf_RX6_19 (Nat.le_of_ble_eq_true rfl) rfl (fun v1 => ?_)
  refine sim_aload_n dX6_suits_4 rfl ?_
  refine sim_gI 6 0 dX6_suits_5 rfl wf_RX6_7 (Nat.le_of_ble_eq_true rfl) rfl (fun v2 => ?_)
  refine sim_staticN (d - 1) dX6_suits_8 (k_X10_has (d - 1) (by omega) _ _ _) q_X10_has wn_RX6_22 rfl rfl (by omega) (Nat.le_of_ble_eq_true rfl) am_nJ am_xJ (am_rJ fun h3 v4 => ?_)
  refine sim_if_ne 28 dX6_suits_11 (by decide) (fun c => ?_) (fun c => ?_)
  · exact sim_lv (am_leN (am_leN (am_leN am_leT))) (t_X6_suits_28 d (by omega) _)
  · refine sim_aload_n dX6_suits_14 rfl ?_
    refine sim_gI 6 3 dX6_suits_15 rfl wf_RX6_19 (Nat.le_of_ble_eq_true rfl) rfl (fun v5 => ?_)
    refine sim_aload_n dX6_suits_18 rfl ?_
    refine sim_gI 6 0 dX6_suits_19 rfl wf_RX6_7 (Nat.le_of_ble_eq_true rfl) rfl (fun v6 => ?_)
    refine sim_staticN (d - 1) dX6_suits_22 (k_X10_has (d - 1) (by omega) _ _ _) q_X10_has wn_RX6_22 rfl rfl (by omega) (Nat.le_of_ble_eq_true rfl) am_nJ am_xJ (am_rJ fun h7 v8 => ?_)
    refine sim_if_eq 30 dX6_suits_25 (by decide) (fun c => ?_) (fun c => ?_)
    · refine sim_aload_n dX6_suits_30 rfl ?_
      refine sim_aload_n dX6_suits_31 rfl ?_
      refine sim_gI 6 1 dX6_suits_32 rfl wf_RX6_13 (Nat.le_of_ble_eq_true rfl) rfl (fun v9 => ?_)
      refine sim_ao1 (fun a12 e => ?_)
      refine sim_virt (d - 1) e dX6_suits_35 (k_X7_meaningsOf (d - 1) (by omega) _ _ _) q_X7_meaningsOf rfl rfl wm_RX6_28 rfl rfl (by omega) (Nat.le_of_ble_eq_true rfl) am_nI (am_rI fun h10 v11 => ?_) am_eI
      refine sim_aload_n dX6_suits_38 rfl ?_
      refine sim_aload_n dX6_suits_39 rfl ?_
      refine sim_gI 6 2 dX6_suits_40 rfl wf_RX6_16 (Nat.le_of_ble_eq_true rfl) rfl (fun v13 => ?_)
      refine sim_ao1 (fun a16 e => ?_)
      refine sim_virt (d - 1) e dX6_suits_43 (k_X7_belongUnder (d - 1) (by omega) _ _ _) q_X7_belongUnder rfl rfl wm_RX6_34 rfl rfl (by omega) (Nat.le_of_ble_eq_true rfl) am_nI (am_rI fun h14 v15 => ?_) am_eI
      refine sim_iand dX6_suits_46 ?_
      refine sim_if_eq 54 dX6_suits_47 (by decide) (fun c => ?_) (fun c => ?_)
      · refine sim_iconst (0) dX6_suits_54 (by decide +kernel) ?_
        exact sim_lv (am_leN (am_leN (am_leN am_leT))) (t_X6_suits_55 d (by omega) _ _)
      · refine sim_iconst (1) dX6_suits_50 (by decide +kernel) ?_
        refine sim_goto 55 dX6_suits_51 (by decide) ?_
        exact sim_lv (am_leN (am_leN (am_leN am_leT))) (t_X6_suits_55 d (by omega) _ _)
    · exact sim_lv (am_leN (am_leN (am_leN am_leT))) (t_X6_suits_28 d (by omega) _))
theorem q_X6_suits : am_Cal m_X6_suits 2 2 := ⟨am_mem 336 (w := Cond.code yX6_suits cX6_suits 3 (some .boolean)) (by decide +kernel) rfl, am_mem 76 (w := Cond.initialized RX6) (by decide +kernel) rfl, fun z => absurd z (by decide), fun _ => am_mem 334 (w := Cond.instanceMethod yX6_suits) (by decide +kernel) rfl, fun z => absurd z (by decide), fun _ => am_mem 335 (w := Cond.selects RX6 yX6_suits yX6_suits) (by decide +kernel) rfl, by decide +kernel, by decide +kernel, Nat.le_of_ble_eq_true rfl⟩
theorem dX2_findReceivers_0 : decode cX2_findReceivers 0 = .ok (.iconst 0, 1) := by decide +kernel
theorem dX2_findReceivers_1 : decode cX2_findReceivers 1 = .ok (.istore_n 2, 1) := by decide +kernel
theorem dX2_findReceivers_2 : decode cX2_findReceivers 2 = .ok (.iload_n 2, 1) := by decide +kernel
theorem dX2_findReceivers_3 : decode cX2_findReceivers 3 = .ok (.aload_n 0, 1) := by decide +kernel
theorem dX2_findReceivers_4 : decode cX2_findReceivers 4 = .ok (.getfield 24, 3) := by decide +kernel
theorem dX2_findReceivers_7 : decode cX2_findReceivers 7 = .ok (.if_icmp .ge 78, 3) := by decide +kernel
theorem dX2_findReceivers_10 : decode cX2_findReceivers 10 = .ok (.iconst 0, 1) := by decide +kernel
theorem dX2_findReceivers_11 : decode cX2_findReceivers 11 = .ok (.istore_n 3, 1) := by decide +kernel
theorem dX2_findReceivers_12 : decode cX2_findReceivers 12 = .ok (.iconst 0, 1) := by decide +kernel
theorem dX2_findReceivers_13 : decode cX2_findReceivers 13 = .ok (.istore 4, 2) := by decide +kernel
theorem dX2_findReceivers_15 : decode cX2_findReceivers 15 = .ok (.iload 4, 2) := by decide +kernel
theorem dX2_findReceivers_17 : decode cX2_findReceivers 17 = .ok (.aload_n 0, 1) := by decide +kernel
theorem dX2_findReceivers_18 : decode cX2_findReceivers 18 = .ok (.getfield 24, 3) := by decide +kernel
theorem dX2_findReceivers_21 : decode cX2_findReceivers 21 = .ok (.if_icmp .ge 51, 3) := by decide +kernel
theorem dX2_findReceivers_24 : decode cX2_findReceivers 24 = .ok (.iload_n 2, 1) := by decide +kernel
theorem dX2_findReceivers_25 : decode cX2_findReceivers 25 = .ok (.iload 4, 2) := by decide +kernel
theorem dX2_findReceivers_27 : decode cX2_findReceivers 27 = .ok (.if_icmp .eq 27, 3) := by decide +kernel
theorem dX2_findReceivers_30 : decode cX2_findReceivers 30 = .ok (.aload_n 0, 1) := by decide +kernel
theorem dX2_findReceivers_31 : decode cX2_findReceivers 31 = .ok (.getfield 11, 3) := by decide +kernel
theorem dX2_findReceivers_34 : decode cX2_findReceivers 34 = .ok (.iload_n 2, 1) := by decide +kernel
theorem dX2_findReceivers_35 : decode cX2_findReceivers 35 = .ok (.aaload, 1) := by decide +kernel
theorem dX2_findReceivers_36 : decode cX2_findReceivers 36 = .ok (.aload_n 0, 1) := by decide +kernel
theorem dX2_findReceivers_37 : decode cX2_findReceivers 37 = .ok (.getfield 11, 3) := by decide +kernel
theorem dX2_findReceivers_40 : decode cX2_findReceivers 40 = .ok (.iload 4, 2) := by decide +kernel
theorem dX2_findReceivers_42 : decode cX2_findReceivers 42 = .ok (.aaload, 1) := by decide +kernel
theorem dX2_findReceivers_43 : decode cX2_findReceivers 43 = .ok (.aload_n 1, 1) := by decide +kernel
theorem dX2_findReceivers_44 : decode cX2_findReceivers 44 = .ok (.invokevirtual 56, 3) := by decide +kernel
theorem dX2_findReceivers_47 : decode cX2_findReceivers 47 = .ok (.ifCond .eq 7, 3) := by decide +kernel
theorem dX2_findReceivers_50 : decode cX2_findReceivers 50 = .ok (.iconst 1, 1) := by decide +kernel
theorem dX2_findReceivers_51 : decode cX2_findReceivers 51 = .ok (.goto 4, 3) := by decide +kernel
theorem dX2_findReceivers_54 : decode cX2_findReceivers 54 = .ok (.iconst 0, 1) := by decide +kernel
theorem dX2_findReceivers_55 : decode cX2_findReceivers 55 = .ok (.istore 5, 2) := by decide +kernel
theorem dX2_findReceivers_57 : decode cX2_findReceivers 57 = .ok (.iload_n 3, 1) := by decide +kernel
theorem dX2_findReceivers_58 : decode cX2_findReceivers 58 = .ok (.iload 4, 2) := by decide +kernel
theorem dX2_findReceivers_60 : decode cX2_findReceivers 60 = .ok (.iload 5, 2) := by decide +kernel
theorem dX2_findReceivers_62 : decode cX2_findReceivers 62 = .ok (.invokestatic 39, 3) := by decide +kernel
theorem dX2_findReceivers_65 : decode cX2_findReceivers 65 = .ok (.istore_n 3, 1) := by decide +kernel
theorem dX2_findReceivers_66 : decode cX2_findReceivers 66 = .ok (.iinc 4 1, 3) := by decide +kernel
theorem dX2_findReceivers_69 : decode cX2_findReceivers 69 = .ok (.goto (-54), 3) := by decide +kernel
theorem dX2_findReceivers_72 : decode cX2_findReceivers 72 = .ok (.aload_n 0, 1) := by decide +kernel
theorem dX2_findReceivers_73 : decode cX2_findReceivers 73 = .ok (.getfield 17, 3) := by decide +kernel
theorem dX2_findReceivers_76 : decode cX2_findReceivers 76 = .ok (.iload_n 2, 1) := by decide +kernel
theorem dX2_findReceivers_77 : decode cX2_findReceivers 77 = .ok (.iload_n 3, 1) := by decide +kernel
theorem dX2_findReceivers_78 : decode cX2_findReceivers 78 = .ok (.iastore, 1) := by decide +kernel
theorem dX2_findReceivers_79 : decode cX2_findReceivers 79 = .ok (.iinc 2 1, 3) := by decide +kernel
theorem dX2_findReceivers_82 : decode cX2_findReceivers 82 = .ok (.goto (-80), 3) := by decide +kernel
theorem dX2_findReceivers_85 : decode cX2_findReceivers 85 = .ok (.return_, 1) := by decide +kernel
abbrev m_X2_findReceivers : am_M := (yX2_findReceivers, cX2_findReceivers, 6, none, [])
def f_X2_findReceivers_55 (rc2 : Nat × Nat → Option (Nat × Nat) → Int32 → am_H → am_R) (rc15 : Nat × Nat → Option (Nat × Nat) → Int32 → Int32 → Int32 → am_H → am_R) (a0 : Nat × Nat) (x1 : Option (Nat × Nat)) (x2 : Int32) (x3 : Int32) (x4 : Int32) (s0 : Int32) (h : am_H) : am_R := m_bJ (f_X10_with x3 x4 s0 h) fun h12 v13 => rc15 a0 x1 x2 v13 (x4 + 1) h12
theorem t_X2_findReceivers_55 (d : Nat) (hd : 3 ≤ d) (rc2 : Nat × Nat → Option (Nat × Nat) → Int32 → am_H → am_R) (hrc2 : ∀ a0 x1 x2 h, Sim m_X2_findReceivers d 2 [some (.inr (.inr (some a0))), some (.inr (.inr x1)), some (.inl x2), none, none, none] [] h (rc2 a0 x1 x2 h)) (rc15 : Nat × Nat → Option (Nat × Nat) → Int32 → Int32 → Int32 → am_H → am_R) (hrc15 : ∀ a0 x1 x2 x3 x4 h, Sim m_X2_findReceivers d 15 [some (.inr (.inr (some a0))), some (.inr (.inr x1)), some (.inl x2), some (.inl x3), some (.inl x4), none] [] h (rc15 a0 x1 x2 x3 x4 h)) (a0 : Nat × Nat) (x1 : Option (Nat × Nat)) (x2 : Int32) (x3 : Int32) (x4 : Int32) (s0 : Int32) (h : am_H) : Sim m_X2_findReceivers d 55 [some (.inr (.inr (some a0))), some (.inr (.inr x1)), some (.inl x2), some (.inl x3), some (.inl x4), none] [.inl s0] h (f_X2_findReceivers_55 rc2 rc15 a0 x1 x2 x3 x4 s0 h) := by
  unfold f_X2_findReceivers_55
  refine sim_istore dX2_findReceivers_55 (Nat.le_of_ble_eq_true rfl) ?_
  refine sim_iload_n dX2_findReceivers_57 rfl ?_
  refine sim_iload dX2_findReceivers_58 rfl ?_
  refine sim_iload dX2_findReceivers_60 rfl ?_
  refine sim_staticN (d - 1) dX2_findReceivers_62 (k_X10_with (d - 1) (by omega) _ _ _ _) q_X10_with wn_RX2_39 rfl rfl (by omega) (Nat.le_of_ble_eq_true rfl) am_nJ am_xJ (am_rJ fun h12 v13 => ?_)
  refine sim_istore_n dX2_findReceivers_65 (Nat.le_of_ble_eq_true rfl) ?_
  refine sim_iinc (1) dX2_findReceivers_66 rfl (by decide +kernel) (Nat.le_of_ble_eq_true rfl) ?_
  refine sim_goto 15 dX2_findReceivers_69 (by decide) ?_
  exact sim_lv (am_leS (am_leS (am_leS (am_leS (am_leS (am_leN am_leT)))))) (hrc15 _ _ _ _ _ _)
def f_X2_findReceivers_54 (rc2 : Nat × Nat → Option (Nat × Nat) → Int32 → am_H → am_R) (rc15 : Nat × Nat → Option (Nat × Nat) → Int32 → Int32 → Int32 → am_H → am_R) (a0 : Nat × Nat) (x1 : Option (Nat × Nat)) (x2 : Int32) (x3 : Int32) (x4 : Int32) (h : am_H) : am_R := f_X2_findReceivers_55 rc2 rc15 a0 x1 x2 x3 x4 (0 : Int32) h
theorem t_X2_findReceivers_54 (d : Nat) (hd : 3 ≤ d) (rc2 : Nat × Nat → Option (Nat × Nat) → Int32 → am_H → am_R) (hrc2 : ∀ a0 x1 x2 h, Sim m_X2_findReceivers d 2 [some (.inr (.inr (some a0))), some (.inr (.inr x1)), some (.inl x2), none, none, none] [] h (rc2 a0 x1 x2 h)) (rc15 : Nat × Nat → Option (Nat × Nat) → Int32 → Int32 → Int32 → am_H → am_R) (hrc15 : ∀ a0 x1 x2 x3 x4 h, Sim m_X2_findReceivers d 15 [some (.inr (.inr (some a0))), some (.inr (.inr x1)), some (.inl x2), some (.inl x3), some (.inl x4), none] [] h (rc15 a0 x1 x2 x3 x4 h)) (a0 : Nat × Nat) (x1 : Option (Nat × Nat)) (x2 : Int32) (x3 : Int32) (x4 : Int32) (h : am_H) : Sim m_X2_findReceivers d 54 [some (.inr (.inr (some a0))), some (.inr (.inr x1)), some (.inl x2), some (.inl x3), some (.inl x4), none] [] h (f_X2_findReceivers_54 rc2 rc15 a0 x1 x2 x3 x4 h) := by
  unfold f_X2_findReceivers_54
  refine sim_iconst (0) dX2_findReceivers_54 (by decide +kernel) ?_
  exact sim_lv (am_leS (am_leS (am_leS (am_leS (am_leS (am_leN am_leT)))))) (t_X2_findReceivers_55 d (by omega) _ hrc2 _ hrc15 _ _ _ _ _ _ _)
def f_X2_findReceivers_15 (rc2 : Nat × Nat → Option (Nat × Nat) → Int32 → am_H → am_R) : Nat → Nat × Nat → Option (Nat × Nat) → Int32 → Int32 → Int32 → am_H → am_R
  | 0, _, _, _, _, _, _ => none
  | n + 1, a0, x1, x2, x3, x4, h => m_gI (some a0) 2 1 h fun v2 => if v2 ≤ x4 then (m_gR (some a0) 2 2 h fun o3 => m_sI o3 x2 x3 h fun h4 => rc2 a0 x1 (x2 + 1) h4) else (if x2 = x4 then (f_X2_findReceivers_54 rc2 (f_X2_findReceivers_15 rc2 n) a0 x1 x2 x3 x4 h) else (m_gR (some a0) 2 0 h fun o5 => m_aR o5 8 x2 h fun o6 => m_gR (some a0) 2 0 h fun o7 => m_aR o7 8 x4 h fun o8 => m_ao o6 6 fun a11 => m_bI (f_X6_suits a11 o8 x1 h) fun h9 v10 => if v10 = 0 then (f_X2_findReceivers_54 rc2 (f_X2_findReceivers_15 rc2 n) a0 x1 x2 x3 x4 h9) else (f_X2_findReceivers_55 rc2 (f_X2_findReceivers_15 rc2 n) a0 x1 x2 x3 x4 (1 : Int32) h9)))
theorem t_X2_findReceivers_15 (d : Nat) (hd : 3 ≤ d) (rc2 : Nat × Nat → Option (Nat × Nat) → Int32 → am_H → am_R) (hrc2 : ∀ a0 x1 x2 h, Sim m_X2_findReceivers d 2 [some (.inr (.inr (some a0))), some (.inr (.inr x1)), some (.inl x2), none, none, none] [] h (rc2 a0 x1 x2 h)) : ∀ (n : Nat) (a0 : Nat × Nat) (x1 : Option (Nat × Nat)) (x2 : Int32) (x3 : Int32) (x4 : Int32) (h : am_H), Sim m_X2_findReceivers d 15 [some (.inr (.inr (some a0))), some (.inr (.inr x1)), some (.inl x2), some (.inl x3), some (.inl x4), none] [] h (f_X2_findReceivers_15 rc2 n a0 x1 x2 x3 x4 h) := by
  intro n
  induction n with
  | zero => intros; exact sim_none
  | succ n hrc15 =>
    intro a0 x1 x2 x3 x4 h
    rw [f_X2_findReceivers_15]
    refine sim_iload dX2_findReceivers_15 rfl ?_
    refine sim_aload_n dX2_findReceivers_17 rfl ?_
    refine sim_gI 2 1 dX2_findReceivers_18 rfl wf_RX2_24 (Nat.le_of_ble_eq_true rfl) rfl (fun v2 => ?_)
    refine sim_ic_ge 72 dX2_findReceivers_21 (by decide) (fun c => ?_) (fun c => ?_)
    · refine sim_aload_n dX2_findReceivers_72 rfl ?_
      refine sim_gR 2 2 dX2_findReceivers_73 rfl wf_RX2_17 (Nat.le_of_ble_eq_true rfl) rfl (fun o3 => ?_)
      refine sim_iload_n dX2_findReceivers_76 rfl ?_
      refine sim_iload_n dX2_findReceivers_77 rfl ?_
      refine sim_sI dX2_findReceivers_78 (fun h4 => ?_)
      refine sim_iinc (1) dX2_findReceivers_79 rfl (by decide +kernel) (Nat.le_of_ble_eq_true rfl) ?_
      refine sim_goto 2 dX2_findReceivers_82 (by decide) ?_
      exact sim_lv (am_leS (am_leS (am_leS (am_leN (am_leN (am_leN am_leT)))))) (hrc2 _ _ _ _)
    · refine sim_iload_n dX2_findReceivers_24 rfl ?_
      refine sim_iload dX2_findReceivers_25 rfl ?_
      refine sim_ic_eq 54 dX2_findReceivers_27 (by decide) (fun c => ?_) (fun c => ?_)
      · exact sim_lv (am_leS (am_leS (am_leS (am_leS (am_leS (am_leN am_leT)))))) (t_X2_findReceivers_54 d (by omega) _ hrc2 _ hrc15 _ _ _ _ _ _)
      · refine sim_aload_n dX2_findReceivers_30 rfl ?_
        refine sim_gR 2 0 dX2_findReceivers_31 rfl wf_RX2_11 (Nat.le_of_ble_eq_true rfl) rfl (fun o5 => ?_)
        refine sim_iload_n dX2_findReceivers_34 rfl ?_
        refine sim_aR 8 rfl dX2_findReceivers_35 (fun o6 => ?_)
        refine sim_aload_n dX2_findReceivers_36 rfl ?_
        refine sim_gR 2 0 dX2_findReceivers_37 rfl wf_RX2_11 (Nat.le_of_ble_eq_true rfl) rfl (fun o7 => ?_)
        refine sim_iload dX2_findReceivers_40 rfl ?_
        refine sim_aR 8 rfl dX2_findReceivers_42 (fun o8 => ?_)
        refine sim_aload_n dX2_findReceivers_43 rfl ?_
        refine sim_ao2 (fun a11 e => ?_)
        refine sim_virt (d - 1) e dX2_findReceivers_44 (k_X6_suits (d - 1) (by omega) _ _ _ _) q_X6_suits rfl rfl wm_RX2_56 rfl rfl (by omega) (Nat.le_of_ble_eq_true rfl) am_nI (am_rI fun h9 v10 => ?_) am_eI
        refine sim_if_eq 54 dX2_findReceivers_47 (by decide) (fun c => ?_) (fun c => ?_)
        · exact sim_lv (am_leS (am_leS (am_leS (am_leS (am_leS (am_leN am_leT)))))) (t_X2_findReceivers_54 d (by omega) _ hrc2 _ hrc15 _ _ _ _ _ _)
        · refine sim_iconst (1) dX2_findReceivers_50 (by decide +kernel) ?_
          refine sim_goto 55 dX2_findReceivers_51 (by decide) ?_
          exact sim_lv (am_leS (am_leS (am_leS (am_leS (am_leS (am_leN am_leT)))))) (t_X2_findReceivers_55 d (by omega) _ hrc2 _ hrc15 _ _ _ _ _ _ _)
def f_X2_findReceivers_2  : Nat → Nat × Nat → Option (Nat × Nat) → Int32 → am_H → am_R
  | 0, _, _, _, _ => none
  | n + 1, a0, x1, x2, h => m_gI (some a0) 2 1 h fun v1 => if v1 ≤ x2 then (m_rt h none) else (f_X2_findReceivers_15 (f_X2_findReceivers_2  n) 5000 a0 x1 x2 (0 : Int32) (0 : Int32) h)
theorem t_X2_findReceivers_2 (d : Nat) (hd : 3 ≤ d)  : ∀ (n : Nat) (a0 : Nat × Nat) (x1 : Option (Nat × Nat)) (x2 : Int32) (h : am_H), Sim m_X2_findReceivers d 2 [some (.inr (.inr (some a0))), some (.inr (.inr x1)), some (.inl x2), none, none, none] [] h (f_X2_findReceivers_2  n a0 x1 x2 h) := by
  intro n
  induction n with
  | zero => intros; exact sim_none
  | succ n hrc2 =>
    intro a0 x1 x2 h
    rw [f_X2_findReceivers_2]
    refine sim_iload_n dX2_findReceivers_2 rfl ?_
    refine sim_aload_n dX2_findReceivers_3 rfl ?_
    refine sim_gI 2 1 dX2_findReceivers_4 rfl wf_RX2_24 (Nat.le_of_ble_eq_true rfl) rfl (fun v1 => ?_)
    refine sim_ic_ge 85 dX2_findReceivers_7 (by decide) (fun c => ?_) (fun c => ?_)
    · exact sim_vret dX2_findReceivers_85 rfl
    · refine sim_iconst (0) dX2_findReceivers_10 (by decide +kernel) ?_
      refine sim_istore_n dX2_findReceivers_11 (Nat.le_of_ble_eq_true rfl) ?_
      refine sim_iconst (0) dX2_findReceivers_12 (by decide +kernel) ?_
      refine sim_istore dX2_findReceivers_13 (Nat.le_of_ble_eq_true rfl) ?_
      exact sim_lv (am_leS (am_leS (am_leS (am_leS (am_leS (am_leN am_leT)))))) (t_X2_findReceivers_15 d (by omega) _ hrc2 _ _ _ _ _ _ _)
def f_X2_findReceivers (a0 : Nat × Nat) (x1 : Option (Nat × Nat)) (h : am_H) : am_R := f_X2_findReceivers_2 5000 a0 x1 (0 : Int32) h
theorem k_X2_findReceivers (d : Nat) (hd : 3 ≤ d) (a0 : Nat × Nat) (x1 : Option (Nat × Nat)) (h : am_H) : am_Con m_X2_findReceivers d [.inr (.inr (some a0)), .inr (.inr x1)] h (f_X2_findReceivers a0 x1 h) := am_con (by decide +kernel) (Nat.le_of_ble_eq_true rfl) (by
  unfold f_X2_findReceivers
  refine sim_iconst (0) dX2_findReceivers_0 (by decide +kernel) ?_
  refine sim_istore_n dX2_findReceivers_1 (Nat.le_of_ble_eq_true rfl) ?_
  exact sim_lv (am_leS (am_leS (am_leS (am_leN (am_leN (am_leN am_leT)))))) (t_X2_findReceivers_2 d (by omega) _ _ _ _ _))
theorem q_X2_findReceivers : am_Cal m_X2_findReceivers 1 2 := ⟨am_mem 332 (w := Cond.code yX2_findReceivers cX2_findReceivers 6 none) (by decide +kernel) rfl, am_mem 61 (w := Cond.initialized RX2) (by decide +kernel) rfl, fun z => absurd z (by decide), fun _ => am_mem 331 (w := Cond.instanceMethod yX2_findReceivers) (by decide +kernel) rfl, fun z => absurd z (by decide), fun _ => am_mem 4 (w := Cond.selects RX2 yX2_findReceivers yX2_findReceivers) (by decide +kernel) rfl, by decide +kernel, by decide +kernel, Nat.le_of_ble_eq_true rfl⟩
theorem dX2_findWays_0 : decode cX2_findWays 0 = .ok (.aload_n 0, 1) := by decide +kernel
theorem dX2_findWays_1 : decode cX2_findWays 1 = .ok (.aload_n 1, 1) := by decide +kernel
theorem dX2_findWays_2 : decode cX2_findWays 2 = .ok (.invokevirtual 47, 3) := by decide +kernel
theorem dX2_findWays_5 : decode cX2_findWays 5 = .ok (.iconst 1, 1) := by decide +kernel
theorem dX2_findWays_6 : decode cX2_findWays 6 = .ok (.aload_n 0, 1) := by decide +kernel
theorem dX2_findWays_7 : decode cX2_findWays 7 = .ok (.getfield 24, 3) := by decide +kernel
theorem dX2_findWays_10 : decode cX2_findWays 10 = .ok (.ishl, 1) := by decide +kernel
theorem dX2_findWays_11 : decode cX2_findWays 11 = .ok (.iconst 1, 1) := by decide +kernel
theorem dX2_findWays_12 : decode cX2_findWays 12 = .ok (.isub, 1) := by decide +kernel
theorem dX2_findWays_13 : decode cX2_findWays 13 = .ok (.istore_n 2, 1) := by decide +kernel
theorem dX2_findWays_14 : decode cX2_findWays 14 = .ok (.aload_n 0, 1) := by decide +kernel
theorem dX2_findWays_15 : decode cX2_findWays 15 = .ok (.getfield 21, 3) := by decide +kernel
theorem dX2_findWays_18 : decode cX2_findWays 18 = .ok (.iload_n 2, 1) := by decide +kernel
theorem dX2_findWays_19 : decode cX2_findWays 19 = .ok (.iconst 1, 1) := by decide +kernel
theorem dX2_findWays_20 : decode cX2_findWays 20 = .ok (.iastore, 1) := by decide +kernel
theorem dX2_findWays_21 : decode cX2_findWays 21 = .ok (.iload_n 2, 1) := by decide +kernel
theorem dX2_findWays_22 : decode cX2_findWays 22 = .ok (.iconst 1, 1) := by decide +kernel
theorem dX2_findWays_23 : decode cX2_findWays 23 = .ok (.isub, 1) := by decide +kernel
theorem dX2_findWays_24 : decode cX2_findWays 24 = .ok (.istore_n 3, 1) := by decide +kernel
theorem dX2_findWays_25 : decode cX2_findWays 25 = .ok (.iload_n 3, 1) := by decide +kernel
theorem dX2_findWays_26 : decode cX2_findWays 26 = .ok (.ifCond .lt 84, 3) := by decide +kernel
theorem dX2_findWays_29 : decode cX2_findWays 29 = .ok (.aload_n 0, 1) := by decide +kernel
theorem dX2_findWays_30 : decode cX2_findWays 30 = .ok (.getfield 17, 3) := by decide +kernel
theorem dX2_findWays_33 : decode cX2_findWays 33 = .ok (.iload_n 3, 1) := by decide +kernel
theorem dX2_findWays_34 : decode cX2_findWays 34 = .ok (.invokestatic 50, 3) := by decide +kernel
theorem dX2_findWays_37 : decode cX2_findWays 37 = .ok (.iaload, 1) := by decide +kernel
theorem dX2_findWays_38 : decode cX2_findWays 38 = .ok (.iload_n 3, 1) := by decide +kernel
theorem dX2_findWays_39 : decode cX2_findWays 39 = .ok (.iconst (-1), 1) := by decide +kernel
theorem dX2_findWays_40 : decode cX2_findWays 40 = .ok (.ixor, 1) := by decide +kernel
theorem dX2_findWays_41 : decode cX2_findWays 41 = .ok (.iand, 1) := by decide +kernel
theorem dX2_findWays_42 : decode cX2_findWays 42 = .ok (.istore 4, 2) := by decide +kernel
theorem dX2_findWays_44 : decode cX2_findWays 44 = .ok (.iconst 0, 1) := by decide +kernel
theorem dX2_findWays_45 : decode cX2_findWays 45 = .ok (.istore 5, 2) := by decide +kernel
theorem dX2_findWays_47 : decode cX2_findWays 47 = .ok (.iconst 0, 1) := by decide +kernel
theorem dX2_findWays_48 : decode cX2_findWays 48 = .ok (.istore 6, 2) := by decide +kernel
theorem dX2_findWays_50 : decode cX2_findWays 50 = .ok (.iload 6, 2) := by decide +kernel
theorem dX2_findWays_52 : decode cX2_findWays 52 = .ok (.aload_n 0, 1) := by decide +kernel
theorem dX2_findWays_53 : decode cX2_findWays 53 = .ok (.getfield 24, 3) := by decide +kernel
theorem dX2_findWays_56 : decode cX2_findWays 56 = .ok (.if_icmp .ge 40, 3) := by decide +kernel
theorem dX2_findWays_59 : decode cX2_findWays 59 = .ok (.iload 5, 2) := by decide +kernel
theorem dX2_findWays_61 : decode cX2_findWays 61 = .ok (.iload 4, 2) := by decide +kernel
theorem dX2_findWays_63 : decode cX2_findWays 63 = .ok (.iload 6, 2) := by decide +kernel
theorem dX2_findWays_65 : decode cX2_findWays 65 = .ok (.invokestatic 43, 3) := by decide +kernel
theorem dX2_findWays_68 : decode cX2_findWays 68 = .ok (.ifCond .eq 18, 3) := by decide +kernel
theorem dX2_findWays_71 : decode cX2_findWays 71 = .ok (.aload_n 0, 1) := by decide +kernel
theorem dX2_findWays_72 : decode cX2_findWays 72 = .ok (.getfield 21, 3) := by decide +kernel
theorem dX2_findWays_75 : decode cX2_findWays 75 = .ok (.iload_n 3, 1) := by decide +kernel
theorem dX2_findWays_76 : decode cX2_findWays 76 = .ok (.iload 6, 2) := by decide +kernel
theorem dX2_findWays_78 : decode cX2_findWays 78 = .ok (.iconst 1, 1) := by decide +kernel
theorem dX2_findWays_79 : decode cX2_findWays 79 = .ok (.invokestatic 39, 3) := by decide +kernel
theorem dX2_findWays_82 : decode cX2_findWays 82 = .ok (.iaload, 1) := by decide +kernel
theorem dX2_findWays_83 : decode cX2_findWays 83 = .ok (.goto 4, 3) := by decide +kernel
theorem dX2_findWays_86 : decode cX2_findWays 86 = .ok (.iconst 0, 1) := by decide +kernel
theorem dX2_findWays_87 : decode cX2_findWays 87 = .ok (.iadd, 1) := by decide +kernel
theorem dX2_findWays_88 : decode cX2_findWays 88 = .ok (.istore 5, 2) := by decide +kernel
theorem dX2_findWays_90 : decode cX2_findWays 90 = .ok (.iinc 6 1, 3) := by decide +kernel
theorem dX2_findWays_93 : decode cX2_findWays 93 = .ok (.goto (-43), 3) := by decide +kernel
theorem dX2_findWays_96 : decode cX2_findWays 96 = .ok (.aload_n 0, 1) := by decide +kernel
theorem dX2_findWays_97 : decode cX2_findWays 97 = .ok (.getfield 21, 3) := by decide +kernel
theorem dX2_findWays_100 : decode cX2_findWays 100 = .ok (.iload_n 3, 1) := by decide +kernel
theorem dX2_findWays_101 : decode cX2_findWays 101 = .ok (.iload 5, 2) := by decide +kernel
theorem dX2_findWays_103 : decode cX2_findWays 103 = .ok (.iastore, 1) := by decide +kernel
theorem dX2_findWays_104 : decode cX2_findWays 104 = .ok (.iinc 3 (-1), 3) := by decide +kernel
theorem dX2_findWays_107 : decode cX2_findWays 107 = .ok (.goto (-82), 3) := by decide +kernel
theorem dX2_findWays_110 : decode cX2_findWays 110 = .ok (.return_, 1) := by decide +kernel
abbrev m_X2_findWays : am_M := (yX2_findWays, cX2_findWays, 7, none, [])
def f_X2_findWays_87 (rc25 : Nat × Nat → Int32 → am_H → am_R) (rc50 : Nat × Nat → Int32 → Int32 → Int32 → Int32 → am_H → am_R) (a0 : Nat × Nat) (x3 : Int32) (x4 : Int32) (x6 : Int32) (s0 : Int32) (s1 : Int32) (h : am_H) : am_R := rc50 a0 x3 x4 (s1 + s0) (x6 + 1) h
theorem t_X2_findWays_87 (d : Nat) (hd : 4 ≤ d) (rc25 : Nat × Nat → Int32 → am_H → am_R) (hrc25 : ∀ a0 x3 h, Sim m_X2_findWays d 25 [some (.inr (.inr (some a0))), none, none, some (.inl x3), none, none, none] [] h (rc25 a0 x3 h)) (rc50 : Nat × Nat → Int32 → Int32 → Int32 → Int32 → am_H → am_R) (hrc50 : ∀ a0 x3 x4 x5 x6 h, Sim m_X2_findWays d 50 [some (.inr (.inr (some a0))), none, none, some (.inl x3), some (.inl x4), some (.inl x5), some (.inl x6)] [] h (rc50 a0 x3 x4 x5 x6 h)) (a0 : Nat × Nat) (x3 : Int32) (x4 : Int32) (x6 : Int32) (s0 : Int32) (s1 : Int32) (h : am_H) : Sim m_X2_findWays d 87 [some (.inr (.inr (some a0))), none, none, some (.inl x3), some (.inl x4), none, some (.inl x6)] [.inl s0, .inl s1] h (f_X2_findWays_87 rc25 rc50 a0 x3 x4 x6 s0 s1 h) := by
  unfold f_X2_findWays_87
  refine sim_iadd dX2_findWays_87 ?_
  refine sim_istore dX2_findWays_88 (Nat.le_of_ble_eq_true rfl) ?_
  refine sim_iinc (1) dX2_findWays_90 rfl (by decide +kernel) (Nat.le_of_ble_eq_true rfl) ?_
  refine sim_goto 50 dX2_findWays_93 (by decide) ?_
  exact sim_lv (am_leS (am_leN (am_leN (am_leS (am_leS (am_leS (am_leS am_leT))))))) (hrc50 _ _ _ _ _ _)
def f_X2_findWays_50 (rc25 : Nat × Nat → Int32 → am_H → am_R) : Nat → Nat × Nat → Int32 → Int32 → Int32 → Int32 → am_H → am_R
  | 0, _, _, _, _, _, _ => none
  | n + 1, a0, x3, x4, x5, x6, h => m_gI (some a0) 2 1 h fun v11 => if v11 ≤ x6 then (m_gR (some a0) 2 3 h fun o12 => m_sI o12 x3 x5 h fun h13 => rc25 a0 (x3 + (-1)) h13) else (m_bJ (f_X10_has x4 x6 h) fun h14 v15 => if v15 = 0 then (f_X2_findWays_87 rc25 (f_X2_findWays_50 rc25 n) a0 x3 x4 x6 (0 : Int32) x5 h14) else (m_gR (some a0) 2 3 h14 fun o16 => m_bJ (f_X10_with x3 x6 (1 : Int32) h14) fun h17 v18 => m_aI o16 0 v18 h17 fun v19 => f_X2_findWays_87 rc25 (f_X2_findWays_50 rc25 n) a0 x3 x4 x6 v19 x5 h17))
theorem t_X2_findWays_50 (d : Nat) (hd : 4 ≤ d) (rc25 : Nat × Nat → Int32 → am_H → am_R) (hrc25 : ∀ a0 x3 h, Sim m_X2_findWays d 25 [some (.inr (.inr (some a0))), none, none, some (.inl x3), none, none, none] [] h (rc25 a0 x3 h)) : ∀ (n : Nat) (a0 : Nat × Nat) (x3 : Int32) (x4 : Int32) (x5 : Int32) (x6 : Int32) (h : am_H), Sim m_X2_findWays d 50 [some (.inr (.inr (some a0))), none, none, some (.inl x3), some (.inl x4), some (.inl x5), some (.inl x6)] [] h (f_X2_findWays_50 rc25 n a0 x3 x4 x5 x6 h) := by
  intro n
  induction n with
  | zero => intros; exact sim_none
  | succ n hrc50 =>
    intro a0 x3 x4 x5 x6 h
    rw [f_X2_findWays_50]
    refine sim_iload dX2_findWays_50 rfl ?_
    refine sim_aload_n dX2_findWays_52 rfl ?_
    refine sim_gI 2 1 dX2_findWays_53 rfl wf_RX2_24 (Nat.le_of_ble_eq_true rfl) rfl (fun v11 => ?_)
    refine sim_ic_ge 96 dX2_findWays_56 (by decide) (fun c => ?_) (fun c => ?_)
    · refine sim_aload_n dX2_findWays_96 rfl ?_
      refine sim_gR 2 3 dX2_findWays_97 rfl wf_RX2_21 (Nat.le_of_ble_eq_true rfl) rfl (fun o12 => ?_)
      refine sim_iload_n dX2_findWays_100 rfl ?_
      refine sim_iload dX2_findWays_101 rfl ?_
      refine sim_sI dX2_findWays_103 (fun h13 => ?_)
      refine sim_iinc (-1) dX2_findWays_104 rfl (by decide +kernel) (Nat.le_of_ble_eq_true rfl) ?_
      refine sim_goto 25 dX2_findWays_107 (by decide) ?_
      exact sim_lv (am_leS (am_leN (am_leN (am_leS (am_leN (am_leN (am_leN am_leT))))))) (hrc25 _ _ _)
    · refine sim_iload dX2_findWays_59 rfl ?_
      refine sim_iload dX2_findWays_61 rfl ?_
      refine sim_iload dX2_findWays_63 rfl ?_
      refine sim_staticN (d - 1) dX2_findWays_65 (k_X10_has (d - 1) (by omega) _ _ _) q_X10_has wn_RX2_43 rfl rfl (by omega) (Nat.le_of_ble_eq_true rfl) am_nJ am_xJ (am_rJ fun h14 v15 => ?_)
      refine sim_if_eq 86 dX2_findWays_68 (by decide) (fun c => ?_) (fun c => ?_)
      · refine sim_iconst (0) dX2_findWays_86 (by decide +kernel) ?_
        exact sim_lv (am_leS (am_leN (am_leN (am_leS (am_leS (am_leN (am_leS am_leT))))))) (t_X2_findWays_87 d (by omega) _ hrc25 _ hrc50 _ _ _ _ _ _ _)
      · refine sim_aload_n dX2_findWays_71 rfl ?_
        refine sim_gR 2 3 dX2_findWays_72 rfl wf_RX2_21 (Nat.le_of_ble_eq_true rfl) rfl (fun o16 => ?_)
        refine sim_iload_n dX2_findWays_75 rfl ?_
        refine sim_iload dX2_findWays_76 rfl ?_
        refine sim_iconst (1) dX2_findWays_78 (by decide +kernel) ?_
        refine sim_staticN (d - 1) dX2_findWays_79 (k_X10_with (d - 1) (by omega) _ _ _ _) q_X10_with wn_RX2_39 rfl rfl (by omega) (Nat.le_of_ble_eq_true rfl) am_nJ am_xJ (am_rJ fun h17 v18 => ?_)
        refine sim_aI dX2_findWays_82 (fun v19 => ?_)
        refine sim_goto 87 dX2_findWays_83 (by decide) ?_
        exact sim_lv (am_leS (am_leN (am_leN (am_leS (am_leS (am_leN (am_leS am_leT))))))) (t_X2_findWays_87 d (by omega) _ hrc25 _ hrc50 _ _ _ _ _ _ _)
def f_X2_findWays_25  : Nat → Nat × Nat → Int32 → am_H → am_R
  | 0, _, _, _ => none
  | n + 1, a0, x3, h => if x3 < 0 then (m_rt h none) else (m_gR (some a0) 2 2 h fun o7 => m_bI (f_J6_bitCount_0f7a4 x3 h) fun h8 v9 => m_aI o7 0 v9 h8 fun v10 => f_X2_findWays_50 (f_X2_findWays_25  n) 5000 a0 x3 (v10 &&& (x3 ^^^ (-1 : Int32))) (0 : Int32) (0 : Int32) h8)
theorem t_X2_findWays_25 (d : Nat) (hd : 4 ≤ d)  : ∀ (n : Nat) (a0 : Nat × Nat) (x3 : Int32) (h : am_H), Sim m_X2_findWays d 25 [some (.inr (.inr (some a0))), none, none, some (.inl x3), none, none, none] [] h (f_X2_findWays_25  n a0 x3 h) := by
  intro n
  induction n with
  | zero => intros; exact sim_none
  | succ n hrc25 =>
    intro a0 x3 h
    rw [f_X2_findWays_25]
    refine sim_iload_n dX2_findWays_25 rfl ?_
    refine sim_if_lt 110 dX2_findWays_26 (by decide) (fun c => ?_) (fun c => ?_)
    · exact sim_vret dX2_findWays_110 rfl
    · refine sim_aload_n dX2_findWays_29 rfl ?_
      refine sim_gR 2 2 dX2_findWays_30 rfl wf_RX2_17 (Nat.le_of_ble_eq_true rfl) rfl (fun o7 => ?_)
      refine sim_iload_n dX2_findWays_33 rfl ?_
      refine sim_static (d - 1) dX2_findWays_34 (k_J6_bitCount_0f7a4 (d - 1) (by omega) _ _) q_J6_bitCount_0f7a4 wm_RX2_50 rfl rfl (by omega) (Nat.le_of_ble_eq_true rfl) am_nI (am_rI fun h8 v9 => ?_) am_eI
      refine sim_aI dX2_findWays_37 (fun v10 => ?_)
      refine sim_iload_n dX2_findWays_38 rfl ?_
      refine sim_iconst (-1) dX2_findWays_39 (by decide +kernel) ?_
      refine sim_ixor dX2_findWays_40 ?_
      refine sim_iand dX2_findWays_41 ?_
      refine sim_istore dX2_findWays_42 (Nat.le_of_ble_eq_true rfl) ?_
      refine sim_iconst (0) dX2_findWays_44 (by decide +kernel) ?_
      refine sim_istore dX2_findWays_45 (Nat.le_of_ble_eq_true rfl) ?_
      refine sim_iconst (0) dX2_findWays_47 (by decide +kernel) ?_
      refine sim_istore dX2_findWays_48 (Nat.le_of_ble_eq_true rfl) ?_
      exact sim_lv (am_leS (am_leN (am_leN (am_leS (am_leS (am_leS (am_leS am_leT))))))) (t_X2_findWays_50 d (by omega) _ hrc25 _ _ _ _ _ _ _)
def f_X2_findWays (a0 : Nat × Nat) (x1 : Option (Nat × Nat)) (h : am_H) : am_R := m_ao (some a0) 2 fun a3 => m_bV (f_X2_findReceivers a3 x1 h) fun h1 => m_gI (some a0) 2 1 h1 fun v4 => m_gR (some a0) 2 3 h1 fun o5 => m_sI o5 (((1 : Int32) <<< (v4 &&& 31)) - (1 : Int32)) (1 : Int32) h1 fun h6 => f_X2_findWays_25 5000 a0 ((((1 : Int32) <<< (v4 &&& 31)) - (1 : Int32)) - (1 : Int32)) h6
theorem k_X2_findWays (d : Nat) (hd : 4 ≤ d) (a0 : Nat × Nat) (x1 : Option (Nat × Nat)) (h : am_H) : am_Con m_X2_findWays d [.inr (.inr (some a0)), .inr (.inr x1)] h (f_X2_findWays a0 x1 h) := am_con (by decide +kernel) (Nat.le_of_ble_eq_true rfl) (by
  unfold f_X2_findWays
  refine sim_aload_n dX2_findWays_0 rfl ?_
  refine sim_aload_n dX2_findWays_1 rfl ?_
  refine sim_ao1 (fun a3 e => ?_)
  refine sim_virt (d - 1) e dX2_findWays_2 (k_X2_findReceivers (d - 1) (by omega) _ _ _) q_X2_findReceivers rfl rfl wm_RX2_47 rfl rfl (by omega) (Nat.le_of_ble_eq_true rfl) am_nV (am_rV fun h1 => ?_) am_eV
  refine sim_iconst (1) dX2_findWays_5 (by decide +kernel) ?_
  refine sim_aload_n dX2_findWays_6 rfl ?_
  refine sim_gI 2 1 dX2_findWays_7 rfl wf_RX2_24 (Nat.le_of_ble_eq_true rfl) rfl (fun v4 => ?_)
  refine sim_ishl dX2_findWays_10 ?_
  refine sim_iconst (1) dX2_findWays_11 (by decide +kernel) ?_
  refine sim_isub dX2_findWays_12 ?_
  refine sim_istore_n dX2_findWays_13 (Nat.le_of_ble_eq_true rfl) ?_
  refine sim_aload_n dX2_findWays_14 rfl ?_
  refine sim_gR 2 3 dX2_findWays_15 rfl wf_RX2_21 (Nat.le_of_ble_eq_true rfl) rfl (fun o5 => ?_)
  refine sim_iload_n dX2_findWays_18 rfl ?_
  refine sim_iconst (1) dX2_findWays_19 (by decide +kernel) ?_
  refine sim_sI dX2_findWays_20 (fun h6 => ?_)
  refine sim_iload_n dX2_findWays_21 rfl ?_
  refine sim_iconst (1) dX2_findWays_22 (by decide +kernel) ?_
  refine sim_isub dX2_findWays_23 ?_
  refine sim_istore_n dX2_findWays_24 (Nat.le_of_ble_eq_true rfl) ?_
  exact sim_lv (am_leS (am_leN (am_leN (am_leS (am_leN (am_leN (am_leN am_leT))))))) (t_X2_findWays_25 d (by omega) _ _ _ _))
theorem q_X2_findWays : am_Cal m_X2_findWays 1 2 := ⟨am_mem 328 (w := Cond.code yX2_findWays cX2_findWays 7 none) (by decide +kernel) rfl, am_mem 61 (w := Cond.initialized RX2) (by decide +kernel) rfl, fun z => absurd z (by decide), fun _ => am_mem 327 (w := Cond.instanceMethod yX2_findWays) (by decide +kernel) rfl, fun z => absurd z (by decide), fun _ => am_mem 3 (w := Cond.selects RX2 yX2_findWays yX2_findWays) (by decide +kernel) rfl, by decide +kernel, by decide +kernel, Nat.le_of_ble_eq_true rfl⟩
theorem dX2_lowestReceiver_0 : decode cX2_lowestReceiver 0 = .ok (.aload_n 0, 1) := by decide +kernel
theorem dX2_lowestReceiver_1 : decode cX2_lowestReceiver 1 = .ok (.getfield 17, 3) := by decide +kernel
theorem dX2_lowestReceiver_4 : decode cX2_lowestReceiver 4 = .ok (.iload_n 1, 1) := by decide +kernel
theorem dX2_lowestReceiver_5 : decode cX2_lowestReceiver 5 = .ok (.iaload, 1) := by decide +kernel
theorem dX2_lowestReceiver_6 : decode cX2_lowestReceiver 6 = .ok (.iload_n 2, 1) := by decide +kernel
theorem dX2_lowestReceiver_7 : decode cX2_lowestReceiver 7 = .ok (.iconst (-1), 1) := by decide +kernel
theorem dX2_lowestReceiver_8 : decode cX2_lowestReceiver 8 = .ok (.ixor, 1) := by decide +kernel
theorem dX2_lowestReceiver_9 : decode cX2_lowestReceiver 9 = .ok (.iand, 1) := by decide +kernel
theorem dX2_lowestReceiver_10 : decode cX2_lowestReceiver 10 = .ok (.istore_n 3, 1) := by decide +kernel
theorem dX2_lowestReceiver_11 : decode cX2_lowestReceiver 11 = .ok (.iconst 0, 1) := by decide +kernel
theorem dX2_lowestReceiver_12 : decode cX2_lowestReceiver 12 = .ok (.istore 4, 2) := by decide +kernel
theorem dX2_lowestReceiver_14 : decode cX2_lowestReceiver 14 = .ok (.iload 4, 2) := by decide +kernel
theorem dX2_lowestReceiver_16 : decode cX2_lowestReceiver 16 = .ok (.aload_n 0, 1) := by decide +kernel
theorem dX2_lowestReceiver_17 : decode cX2_lowestReceiver 17 = .ok (.getfield 24, 3) := by decide +kernel
theorem dX2_lowestReceiver_20 : decode cX2_lowestReceiver 20 = .ok (.if_icmp .ge 36, 3) := by decide +kernel
theorem dX2_lowestReceiver_23 : decode cX2_lowestReceiver 23 = .ok (.iload_n 3, 1) := by decide +kernel
theorem dX2_lowestReceiver_24 : decode cX2_lowestReceiver 24 = .ok (.iload 4, 2) := by decide +kernel
theorem dX2_lowestReceiver_26 : decode cX2_lowestReceiver 26 = .ok (.invokestatic 43, 3) := by decide +kernel
theorem dX2_lowestReceiver_29 : decode cX2_lowestReceiver 29 = .ok (.ifCond .eq 21, 3) := by decide +kernel
theorem dX2_lowestReceiver_32 : decode cX2_lowestReceiver 32 = .ok (.aload_n 0, 1) := by decide +kernel
theorem dX2_lowestReceiver_33 : decode cX2_lowestReceiver 33 = .ok (.getfield 21, 3) := by decide +kernel
theorem dX2_lowestReceiver_36 : decode cX2_lowestReceiver 36 = .ok (.iload_n 2, 1) := by decide +kernel
theorem dX2_lowestReceiver_37 : decode cX2_lowestReceiver 37 = .ok (.iload 4, 2) := by decide +kernel
theorem dX2_lowestReceiver_39 : decode cX2_lowestReceiver 39 = .ok (.iconst 1, 1) := by decide +kernel
theorem dX2_lowestReceiver_40 : decode cX2_lowestReceiver 40 = .ok (.invokestatic 39, 3) := by decide +kernel
theorem dX2_lowestReceiver_43 : decode cX2_lowestReceiver 43 = .ok (.iaload, 1) := by decide +kernel
theorem dX2_lowestReceiver_44 : decode cX2_lowestReceiver 44 = .ok (.ifCond .le 6, 3) := by decide +kernel
theorem dX2_lowestReceiver_47 : decode cX2_lowestReceiver 47 = .ok (.iload 4, 2) := by decide +kernel
theorem dX2_lowestReceiver_49 : decode cX2_lowestReceiver 49 = .ok (.ireturn, 1) := by decide +kernel
theorem dX2_lowestReceiver_50 : decode cX2_lowestReceiver 50 = .ok (.iinc 4 1, 3) := by decide +kernel
theorem dX2_lowestReceiver_53 : decode cX2_lowestReceiver 53 = .ok (.goto (-39), 3) := by decide +kernel
theorem dX2_lowestReceiver_56 : decode cX2_lowestReceiver 56 = .ok (.iconst (-1), 1) := by decide +kernel
theorem dX2_lowestReceiver_57 : decode cX2_lowestReceiver 57 = .ok (.ireturn, 1) := by decide +kernel
abbrev m_X2_lowestReceiver : am_M := (yX2_lowestReceiver, cX2_lowestReceiver, 5, some .int, [])
def f_X2_lowestReceiver_50 (rc14 : Nat × Nat → Int32 → Int32 → Int32 → am_H → am_R) (a0 : Nat × Nat) (x2 : Int32) (x3 : Int32) (x4 : Int32) (h : am_H) : am_R := rc14 a0 x2 x3 (x4 + 1) h
theorem t_X2_lowestReceiver_50 (d : Nat) (hd : 1 ≤ d) (rc14 : Nat × Nat → Int32 → Int32 → Int32 → am_H → am_R) (hrc14 : ∀ a0 x2 x3 x4 h, Sim m_X2_lowestReceiver d 14 [some (.inr (.inr (some a0))), none, some (.inl x2), some (.inl x3), some (.inl x4)] [] h (rc14 a0 x2 x3 x4 h)) (a0 : Nat × Nat) (x2 : Int32) (x3 : Int32) (x4 : Int32) (h : am_H) : Sim m_X2_lowestReceiver d 50 [some (.inr (.inr (some a0))), none, some (.inl x2), some (.inl x3), some (.inl x4)] [] h (f_X2_lowestReceiver_50 rc14 a0 x2 x3 x4 h) := by
  unfold f_X2_lowestReceiver_50
  refine sim_iinc (1) dX2_lowestReceiver_50 rfl (by decide +kernel) (Nat.le_of_ble_eq_true rfl) ?_
  refine sim_goto 14 dX2_lowestReceiver_53 (by decide) ?_
  exact sim_lv (am_leS (am_leN (am_leS (am_leS (am_leS am_leT))))) (hrc14 _ _ _ _ _)
def f_X2_lowestReceiver_14  : Nat → Nat × Nat → Int32 → Int32 → Int32 → am_H → am_R
  | 0, _, _, _, _, _ => none
  | n + 1, a0, x2, x3, x4, h => m_gI (some a0) 2 1 h fun v3 => if v3 ≤ x4 then (m_ri h (-1 : Int32)) else (m_bJ (f_X10_has x3 x4 h) fun h4 v5 => if v5 = 0 then (f_X2_lowestReceiver_50 (f_X2_lowestReceiver_14  n) a0 x2 x3 x4 h4) else (m_gR (some a0) 2 3 h4 fun o6 => m_bJ (f_X10_with x2 x4 (1 : Int32) h4) fun h7 v8 => m_aI o6 0 v8 h7 fun v9 => if v9 ≤ 0 then (f_X2_lowestReceiver_50 (f_X2_lowestReceiver_14  n) a0 x2 x3 x4 h7) else (m_ri h7 x4)))
theorem t_X2_lowestReceiver_14 (d : Nat) (hd : 1 ≤ d)  : ∀ (n : Nat) (a0 : Nat × Nat) (x2 : Int32) (x3 : Int32) (x4 : Int32) (h : am_H), Sim m_X2_lowestReceiver d 14 [some (.inr (.inr (some a0))), none, some (.inl x2), some (.inl x3), some (.inl x4)] [] h (f_X2_lowestReceiver_14  n a0 x2 x3 x4 h) := by
  intro n
  induction n with
  | zero => intros; exact sim_none
  | succ n hrc14 =>
    intro a0 x2 x3 x4 h
    rw [f_X2_lowestReceiver_14]
    refine sim_iload dX2_lowestReceiver_14 rfl ?_
    refine sim_aload_n dX2_lowestReceiver_16 rfl ?_
    refine sim_gI 2 1 dX2_lowestReceiver_17 rfl wf_RX2_24 (Nat.le_of_ble_eq_true rfl) rfl (fun v3 => ?_)
    refine sim_ic_ge 56 dX2_lowestReceiver_20 (by decide) (fun c => ?_) (fun c => ?_)
    · refine sim_iconst (-1) dX2_lowestReceiver_56 (by decide +kernel) ?_
      exact sim_iret dX2_lowestReceiver_57 rfl
    · refine sim_iload_n dX2_lowestReceiver_23 rfl ?_
      refine sim_iload dX2_lowestReceiver_24 rfl ?_
      refine sim_staticN (d - 1) dX2_lowestReceiver_26 (k_X10_has (d - 1) (by omega) _ _ _) q_X10_has wn_RX2_43 rfl rfl (by omega) (Nat.le_of_ble_eq_true rfl) am_nJ am_xJ (am_rJ fun h4 v5 => ?_)
      refine sim_if_eq 50 dX2_lowestReceiver_29 (by decide) (fun c => ?_) (fun c => ?_)
      · exact sim_lv (am_leS (am_leN (am_leS (am_leS (am_leS am_leT))))) (t_X2_lowestReceiver_50 d (by omega) _ hrc14 _ _ _ _ _)
      · refine sim_aload_n dX2_lowestReceiver_32 rfl ?_
        refine sim_gR 2 3 dX2_lowestReceiver_33 rfl wf_RX2_21 (Nat.le_of_ble_eq_true rfl) rfl (fun o6 => ?_)
        refine sim_iload_n dX2_lowestReceiver_36 rfl ?_
        refine sim_iload dX2_lowestReceiver_37 rfl ?_
        refine sim_iconst (1) dX2_lowestReceiver_39 (by decide +kernel) ?_
        refine sim_staticN (d - 1) dX2_lowestReceiver_40 (k_X10_with (d - 1) (by omega) _ _ _ _) q_X10_with wn_RX2_39 rfl rfl (by omega) (Nat.le_of_ble_eq_true rfl) am_nJ am_xJ (am_rJ fun h7 v8 => ?_)
        refine sim_aI dX2_lowestReceiver_43 (fun v9 => ?_)
        refine sim_if_le 50 dX2_lowestReceiver_44 (by decide) (fun c => ?_) (fun c => ?_)
        · exact sim_lv (am_leS (am_leN (am_leS (am_leS (am_leS am_leT))))) (t_X2_lowestReceiver_50 d (by omega) _ hrc14 _ _ _ _ _)
        · refine sim_iload dX2_lowestReceiver_47 rfl ?_
          exact sim_iret dX2_lowestReceiver_49 rfl
def f_X2_lowestReceiver (a0 : Nat × Nat) (x1 : Int32) (x2 : Int32) (h : am_H) : am_R := m_gR (some a0) 2 2 h fun o1 => m_aI o1 0 x1 h fun v2 => f_X2_lowestReceiver_14 5000 a0 x2 (v2 &&& (x2 ^^^ (-1 : Int32))) (0 : Int32) h
theorem k_X2_lowestReceiver (d : Nat) (hd : 1 ≤ d) (a0 : Nat × Nat) (x1 : Int32) (x2 : Int32) (h : am_H) : am_Con m_X2_lowestReceiver d [.inr (.inr (some a0)), .inl x1, .inl x2] h (f_X2_lowestReceiver a0 x1 x2 h) := am_con (by decide +kernel) (Nat.le_of_ble_eq_true rfl) (by
  unfold f_X2_lowestReceiver
  refine sim_aload_n dX2_lowestReceiver_0 rfl ?_
  refine sim_gR 2 2 dX2_lowestReceiver_1 rfl wf_RX2_17 (Nat.le_of_ble_eq_true rfl) rfl (fun o1 => ?_)
  refine sim_iload_n dX2_lowestReceiver_4 rfl ?_
  refine sim_aI dX2_lowestReceiver_5 (fun v2 => ?_)
  refine sim_iload_n dX2_lowestReceiver_6 rfl ?_
  refine sim_iconst (-1) dX2_lowestReceiver_7 (by decide +kernel) ?_
  refine sim_ixor dX2_lowestReceiver_8 ?_
  refine sim_iand dX2_lowestReceiver_9 ?_
  refine sim_istore_n dX2_lowestReceiver_10 (Nat.le_of_ble_eq_true rfl) ?_
  refine sim_iconst (0) dX2_lowestReceiver_11 (by decide +kernel) ?_
  refine sim_istore dX2_lowestReceiver_12 (Nat.le_of_ble_eq_true rfl) ?_
  exact sim_lv (am_leS (am_leN (am_leS (am_leS (am_leS am_leT))))) (t_X2_lowestReceiver_14 d (by omega) _ _ _ _ _ _))
theorem q_X2_lowestReceiver : am_Cal m_X2_lowestReceiver 2 2 := ⟨am_mem 954 (w := Cond.code yX2_lowestReceiver cX2_lowestReceiver 5 (some .int)) (by decide +kernel) rfl, am_mem 61 (w := Cond.initialized RX2) (by decide +kernel) rfl, fun z => absurd z (by decide), fun _ => am_mem 953 (w := Cond.instanceMethod yX2_lowestReceiver) (by decide +kernel) rfl, fun z => absurd z (by decide), fun _ => am_mem 21 (w := Cond.selects RX2 yX2_lowestReceiver yX2_lowestReceiver) (by decide +kernel) rfl, by decide +kernel, by decide +kernel, Nat.le_of_ble_eq_true rfl⟩
theorem dX2_receiverOf_0 : decode cX2_receiverOf 0 = .ok (.aload_n 0, 1) := by decide +kernel
theorem dX2_receiverOf_1 : decode cX2_receiverOf 1 = .ok (.aload_n 2, 1) := by decide +kernel
theorem dX2_receiverOf_2 : decode cX2_receiverOf 2 = .ok (.invokevirtual 31, 3) := by decide +kernel
theorem dX2_receiverOf_5 : decode cX2_receiverOf 5 = .ok (.iconst (-1), 1) := by decide +kernel
theorem dX2_receiverOf_6 : decode cX2_receiverOf 6 = .ok (.istore_n 3, 1) := by decide +kernel
theorem dX2_receiverOf_7 : decode cX2_receiverOf 7 = .ok (.iconst 0, 1) := by decide +kernel
theorem dX2_receiverOf_8 : decode cX2_receiverOf 8 = .ok (.istore 4, 2) := by decide +kernel
theorem dX2_receiverOf_10 : decode cX2_receiverOf 10 = .ok (.iconst 0, 1) := by decide +kernel
theorem dX2_receiverOf_11 : decode cX2_receiverOf 11 = .ok (.istore 5, 2) := by decide +kernel
theorem dX2_receiverOf_13 : decode cX2_receiverOf 13 = .ok (.iload 5, 2) := by decide +kernel
theorem dX2_receiverOf_15 : decode cX2_receiverOf 15 = .ok (.iload_n 1, 1) := by decide +kernel
theorem dX2_receiverOf_16 : decode cX2_receiverOf 16 = .ok (.if_icmp .gt 47, 3) := by decide +kernel
theorem dX2_receiverOf_19 : decode cX2_receiverOf 19 = .ok (.aload_n 0, 1) := by decide +kernel
theorem dX2_receiverOf_20 : decode cX2_receiverOf 20 = .ok (.getfield 21, 3) := by decide +kernel
theorem dX2_receiverOf_23 : decode cX2_receiverOf 23 = .ok (.iload 4, 2) := by decide +kernel
theorem dX2_receiverOf_25 : decode cX2_receiverOf 25 = .ok (.iaload, 1) := by decide +kernel
theorem dX2_receiverOf_26 : decode cX2_receiverOf 26 = .ok (.ifCond .le 37, 3) := by decide +kernel
theorem dX2_receiverOf_29 : decode cX2_receiverOf 29 = .ok (.aload_n 0, 1) := by decide +kernel
theorem dX2_receiverOf_30 : decode cX2_receiverOf 30 = .ok (.iload 5, 2) := by decide +kernel
theorem dX2_receiverOf_32 : decode cX2_receiverOf 32 = .ok (.iload 4, 2) := by decide +kernel
theorem dX2_receiverOf_34 : decode cX2_receiverOf 34 = .ok (.invokevirtual 35, 3) := by decide +kernel
theorem dX2_receiverOf_37 : decode cX2_receiverOf 37 = .ok (.istore_n 3, 1) := by decide +kernel
theorem dX2_receiverOf_38 : decode cX2_receiverOf 38 = .ok (.iload_n 3, 1) := by decide +kernel
theorem dX2_receiverOf_39 : decode cX2_receiverOf 39 = .ok (.iconst (-1), 1) := by decide +kernel
theorem dX2_receiverOf_40 : decode cX2_receiverOf 40 = .ok (.if_icmp .ne 8, 3) := by decide +kernel
theorem dX2_receiverOf_43 : decode cX2_receiverOf 43 = .ok (.iload 4, 2) := by decide +kernel
theorem dX2_receiverOf_45 : decode cX2_receiverOf 45 = .ok (.goto 10, 3) := by decide +kernel
theorem dX2_receiverOf_48 : decode cX2_receiverOf 48 = .ok (.iload 4, 2) := by decide +kernel
theorem dX2_receiverOf_50 : decode cX2_receiverOf 50 = .ok (.iload_n 3, 1) := by decide +kernel
theorem dX2_receiverOf_51 : decode cX2_receiverOf 51 = .ok (.iconst 1, 1) := by decide +kernel
theorem dX2_receiverOf_52 : decode cX2_receiverOf 52 = .ok (.invokestatic 39, 3) := by decide +kernel
theorem dX2_receiverOf_55 : decode cX2_receiverOf 55 = .ok (.istore 4, 2) := by decide +kernel
theorem dX2_receiverOf_57 : decode cX2_receiverOf 57 = .ok (.iinc 5 1, 3) := by decide +kernel
theorem dX2_receiverOf_60 : decode cX2_receiverOf 60 = .ok (.goto (-47), 3) := by decide +kernel
theorem dX2_receiverOf_63 : decode cX2_receiverOf 63 = .ok (.iload_n 3, 1) := by decide +kernel
theorem dX2_receiverOf_64 : decode cX2_receiverOf 64 = .ok (.ireturn, 1) := by decide +kernel
abbrev m_X2_receiverOf : am_M := (yX2_receiverOf, cX2_receiverOf, 6, some .int, [])
def f_X2_receiverOf_63  (x3 : Int32) (h : am_H) : am_R := m_ri h x3
theorem t_X2_receiverOf_63 (d : Nat) (hd : 5 ≤ d)  (x3 : Int32) (h : am_H) : Sim m_X2_receiverOf d 63 [none, none, none, some (.inl x3), none, none] [] h (f_X2_receiverOf_63  x3 h) := by
  unfold f_X2_receiverOf_63
  refine sim_iload_n dX2_receiverOf_63 rfl ?_
  exact sim_iret dX2_receiverOf_64 rfl
def f_X2_receiverOf_55 (rc13 : Nat × Nat → Int32 → Int32 → Int32 → Int32 → am_H → am_R) (a0 : Nat × Nat) (x1 : Int32) (x3 : Int32) (x5 : Int32) (s0 : Int32) (h : am_H) : am_R := rc13 a0 x1 x3 s0 (x5 + 1) h
theorem t_X2_receiverOf_55 (d : Nat) (hd : 5 ≤ d) (rc13 : Nat × Nat → Int32 → Int32 → Int32 → Int32 → am_H → am_R) (hrc13 : ∀ a0 x1 x3 x4 x5 h, Sim m_X2_receiverOf d 13 [some (.inr (.inr (some a0))), some (.inl x1), none, some (.inl x3), some (.inl x4), some (.inl x5)] [] h (rc13 a0 x1 x3 x4 x5 h)) (a0 : Nat × Nat) (x1 : Int32) (x3 : Int32) (x5 : Int32) (s0 : Int32) (h : am_H) : Sim m_X2_receiverOf d 55 [some (.inr (.inr (some a0))), some (.inl x1), none, some (.inl x3), none, some (.inl x5)] [.inl s0] h (f_X2_receiverOf_55 rc13 a0 x1 x3 x5 s0 h) := by
  unfold f_X2_receiverOf_55
  refine sim_istore dX2_receiverOf_55 (Nat.le_of_ble_eq_true rfl) ?_
  refine sim_iinc (1) dX2_receiverOf_57 rfl (by decide +kernel) (Nat.le_of_ble_eq_true rfl) ?_
  refine sim_goto 13 dX2_receiverOf_60 (by decide) ?_
  exact sim_lv (am_leS (am_leS (am_leN (am_leS (am_leS (am_leS am_leT)))))) (hrc13 _ _ _ _ _ _)
def f_X2_receiverOf_13  : Nat → Nat × Nat → Int32 → Int32 → Int32 → Int32 → am_H → am_R
  | 0, _, _, _, _, _, _ => none
  | n + 1, a0, x1, x3, x4, x5, h => if x1 < x5 then (f_X2_receiverOf_63 x3 h) else (m_gR (some a0) 2 3 h fun o4 => m_aI o4 0 x4 h fun v5 => if v5 ≤ 0 then (f_X2_receiverOf_63 x3 h) else (m_ao (some a0) 2 fun a8 => m_bI (f_X2_lowestReceiver a8 x5 x4 h) fun h6 v7 => if v7 = (-1 : Int32) then (f_X2_receiverOf_55 (f_X2_receiverOf_13  n) a0 x1 v7 x5 x4 h6) else (m_bJ (f_X10_with x4 v7 (1 : Int32) h6) fun h9 v10 => f_X2_receiverOf_55 (f_X2_receiverOf_13  n) a0 x1 v7 x5 v10 h9)))
theorem t_X2_receiverOf_13 (d : Nat) (hd : 5 ≤ d)  : ∀ (n : Nat) (a0 : Nat × Nat) (x1 : Int32) (x3 : Int32) (x4 : Int32) (x5 : Int32) (h : am_H), Sim m_X2_receiverOf d 13 [some (.inr (.inr (some a0))), some (.inl x1), none, some (.inl x3), some (.inl x4), some (.inl x5)] [] h (f_X2_receiverOf_13  n a0 x1 x3 x4 x5 h) := by
  intro n
  induction n with
  | zero => intros; exact sim_none
  | succ n hrc13 =>
    intro a0 x1 x3 x4 x5 h
    rw [f_X2_receiverOf_13]
    refine sim_iload dX2_receiverOf_13 rfl ?_
    refine sim_iload_n dX2_receiverOf_15 rfl ?_
    refine sim_ic_gt 63 dX2_receiverOf_16 (by decide) (fun c => ?_) (fun c => ?_)
    · exact sim_lv (am_leN (am_leN (am_leN (am_leS (am_leN (am_leN am_leT)))))) (t_X2_receiverOf_63 d (by omega) _ _)
    · refine sim_aload_n dX2_receiverOf_19 rfl ?_
      refine sim_gR 2 3 dX2_receiverOf_20 rfl wf_RX2_21 (Nat.le_of_ble_eq_true rfl) rfl (fun o4 => ?_)
      refine sim_iload dX2_receiverOf_23 rfl ?_
      refine sim_aI dX2_receiverOf_25 (fun v5 => ?_)
      refine sim_if_le 63 dX2_receiverOf_26 (by decide) (fun c => ?_) (fun c => ?_)
      · exact sim_lv (am_leN (am_leN (am_leN (am_leS (am_leN (am_leN am_leT)))))) (t_X2_receiverOf_63 d (by omega) _ _)
      · refine sim_aload_n dX2_receiverOf_29 rfl ?_
        refine sim_iload dX2_receiverOf_30 rfl ?_
        refine sim_iload dX2_receiverOf_32 rfl ?_
        refine sim_ao2 (fun a8 e => ?_)
        refine sim_virt (d - 1) e dX2_receiverOf_34 (k_X2_lowestReceiver (d - 1) (by omega) _ _ _ _) q_X2_lowestReceiver rfl rfl wm_RX2_35 rfl rfl (by omega) (Nat.le_of_ble_eq_true rfl) am_nI (am_rI fun h6 v7 => ?_) am_eI
        refine sim_istore_n dX2_receiverOf_37 (Nat.le_of_ble_eq_true rfl) ?_
        refine sim_iload_n dX2_receiverOf_38 rfl ?_
        refine sim_iconst (-1) dX2_receiverOf_39 (by decide +kernel) ?_
        refine sim_ic_ne 48 dX2_receiverOf_40 (by decide) (fun c => ?_) (fun c => ?_)
        · refine sim_iload dX2_receiverOf_48 rfl ?_
          refine sim_iload_n dX2_receiverOf_50 rfl ?_
          refine sim_iconst (1) dX2_receiverOf_51 (by decide +kernel) ?_
          refine sim_staticN (d - 1) dX2_receiverOf_52 (k_X10_with (d - 1) (by omega) _ _ _ _) q_X10_with wn_RX2_39 rfl rfl (by omega) (Nat.le_of_ble_eq_true rfl) am_nJ am_xJ (am_rJ fun h9 v10 => ?_)
          exact sim_lv (am_leS (am_leS (am_leN (am_leS (am_leN (am_leS am_leT)))))) (t_X2_receiverOf_55 d (by omega) _ hrc13 _ _ _ _ _ _)
        · refine sim_iload dX2_receiverOf_43 rfl ?_
          refine sim_goto 55 dX2_receiverOf_45 (by decide) ?_
          exact sim_lv (am_leS (am_leS (am_leN (am_leS (am_leN (am_leS am_leT)))))) (t_X2_receiverOf_55 d (by omega) _ hrc13 _ _ _ _ _ _)
def f_X2_receiverOf (a0 : Nat × Nat) (x1 : Int32) (x2 : Option (Nat × Nat)) (h : am_H) : am_R := m_ao (some a0) 2 fun a3 => m_bV (f_X2_findWays a3 x2 h) fun h1 => f_X2_receiverOf_13 5000 a0 x1 (-1 : Int32) (0 : Int32) (0 : Int32) h1
theorem k_X2_receiverOf (d : Nat) (hd : 5 ≤ d) (a0 : Nat × Nat) (x1 : Int32) (x2 : Option (Nat × Nat)) (h : am_H) : am_Con m_X2_receiverOf d [.inr (.inr (some a0)), .inl x1, .inr (.inr x2)] h (f_X2_receiverOf a0 x1 x2 h) := am_con (by decide +kernel) (Nat.le_of_ble_eq_true rfl) (by
  unfold f_X2_receiverOf
  refine sim_aload_n dX2_receiverOf_0 rfl ?_
  refine sim_aload_n dX2_receiverOf_1 rfl ?_
  refine sim_ao1 (fun a3 e => ?_)
  refine sim_virt (d - 1) e dX2_receiverOf_2 (k_X2_findWays (d - 1) (by omega) _ _ _) q_X2_findWays rfl rfl wm_RX2_31 rfl rfl (by omega) (Nat.le_of_ble_eq_true rfl) am_nV (am_rV fun h1 => ?_) am_eV
  refine sim_iconst (-1) dX2_receiverOf_5 (by decide +kernel) ?_
  refine sim_istore_n dX2_receiverOf_6 (Nat.le_of_ble_eq_true rfl) ?_
  refine sim_iconst (0) dX2_receiverOf_7 (by decide +kernel) ?_
  refine sim_istore dX2_receiverOf_8 (Nat.le_of_ble_eq_true rfl) ?_
  refine sim_iconst (0) dX2_receiverOf_10 (by decide +kernel) ?_
  refine sim_istore dX2_receiverOf_11 (Nat.le_of_ble_eq_true rfl) ?_
  exact sim_lv (am_leS (am_leS (am_leN (am_leS (am_leS (am_leS am_leT)))))) (t_X2_receiverOf_13 d (by omega) _ _ _ _ _ _ _))
theorem q_X2_receiverOf : am_Cal m_X2_receiverOf 2 2 := ⟨am_mem 950 (w := Cond.code yX2_receiverOf cX2_receiverOf 6 (some .int)) (by decide +kernel) rfl, am_mem 61 (w := Cond.initialized RX2) (by decide +kernel) rfl, fun z => absurd z (by decide), fun _ => am_mem 948 (w := Cond.instanceMethod yX2_receiverOf) (by decide +kernel) rfl, fun z => absurd z (by decide), fun _ => am_mem 949 (w := Cond.selects RX2 yX2_receiverOf yX2_receiverOf) (by decide +kernel) rfl, by decide +kernel, by decide +kernel, Nat.le_of_ble_eq_true rfl⟩
theorem dX10_match_0 : decode cX10_match 0 = .ok (.iload_n 1, 1) := by decide +kernel
theorem dX10_match_1 : decode cX10_match 1 = .ok (.ifCond .lt 14, 3) := by decide +kernel
theorem dX10_match_4 : decode cX10_match 4 = .ok (.iload_n 1, 1) := by decide +kernel
theorem dX10_match_5 : decode cX10_match 5 = .ok (.aload_n 0, 1) := by decide +kernel
theorem dX10_match_6 : decode cX10_match 6 = .ok (.getfield 55, 3) := by decide +kernel
theorem dX10_match_9 : decode cX10_match 9 = .ok (.getfield 294, 3) := by decide +kernel
theorem dX10_match_12 : decode cX10_match 12 = .ok (.if_icmp .lt 14, 3) := by decide +kernel
theorem dX10_match_15 : decode cX10_match 15 = .ok (.new 162, 3) := by decide +kernel
theorem dX10_match_18 : decode cX10_match 18 = .ok (.dup, 1) := by decide +kernel
theorem dX10_match_19 : decode cX10_match 19 = .ok (.ldc_w 305, 3) := by decide +kernel
theorem dX10_match_22 : decode cX10_match 22 = .ok (.invokespecial 166, 3) := by decide +kernel
theorem dX10_match_25 : decode cX10_match 25 = .ok (.athrow, 1) := by decide +kernel
theorem dX10_match_26 : decode cX10_match 26 = .ok (.aload_n 0, 1) := by decide +kernel
theorem dX10_match_27 : decode cX10_match 27 = .ok (.getfield 55, 3) := by decide +kernel
theorem dX10_match_30 : decode cX10_match 30 = .ok (.iload_n 1, 1) := by decide +kernel
theorem dX10_match_31 : decode cX10_match 31 = .ok (.aload_n 0, 1) := by decide +kernel
theorem dX10_match_32 : decode cX10_match 32 = .ok (.getfield 34, 3) := by decide +kernel
theorem dX10_match_35 : decode cX10_match 35 = .ok (.invokevirtual 307, 3) := by decide +kernel
theorem dX10_match_38 : decode cX10_match 38 = .ok (.ireturn, 1) := by decide +kernel
abbrev m_X10_match : am_M := (yX10_match, cX10_match, 2, some .int, [])
def f_X10_match_15   (h : am_H) : am_R := m_ex h 0
theorem t_X10_match_15 (d : Nat) (hd : 6 ≤ d)   (h : am_H) : Sim m_X10_match d 15 [none, none] [] h (f_X10_match_15   h) := by
  unfold f_X10_match_15
  exact sim_throwW 0 (by decide) dX10_match_15 dX10_match_18 dX10_match_19 dX10_match_22 dX10_match_25 wx_RX10_162 wy_0 ws_RX10_305 at_RX10_166 gd_RX10_166 (by omega) (Nat.le_of_ble_eq_true rfl)
def f_X10_match (a0 : Nat × Nat) (x1 : Int32) (h : am_H) : am_R := if x1 < 0 then (f_X10_match_15 h) else (m_gR (some a0) 10 10 h fun o1 => m_gI o1 2 1 h fun v2 => if x1 < v2 then (m_gR (some a0) 10 10 h fun o3 => m_gR (some a0) 10 7 h fun o4 => m_ao o3 2 fun a7 => m_bI (f_X2_receiverOf a7 x1 o4 h) fun h5 v6 => m_ri h5 v6) else (f_X10_match_15 h))
theorem k_X10_match (d : Nat) (hd : 6 ≤ d) (a0 : Nat × Nat) (x1 : Int32) (h : am_H) : am_Con m_X10_match d [.inr (.inr (some a0)), .inl x1] h (f_X10_match a0 x1 h) := am_con (by decide +kernel) (Nat.le_of_ble_eq_true rfl) (by
  unfold f_X10_match
  refine sim_iload_n dX10_match_0 rfl ?_
  refine sim_if_lt 15 dX10_match_1 (by decide) (fun c => ?_) (fun c => ?_)
  · exact sim_lv (am_leN (am_leN am_leT)) (t_X10_match_15 d (by omega) _)
  · refine sim_iload_n dX10_match_4 rfl ?_
    refine sim_aload_n dX10_match_5 rfl ?_
    refine sim_gR 10 10 dX10_match_6 rfl wf_RX10_55 (Nat.le_of_ble_eq_true rfl) rfl (fun o1 => ?_)
    refine sim_gI 2 1 dX10_match_9 rfl wf_RX10_294 (Nat.le_of_ble_eq_true rfl) rfl (fun v2 => ?_)
    refine sim_ic_lt 26 dX10_match_12 (by decide) (fun c => ?_) (fun c => ?_)
    · refine sim_aload_n dX10_match_26 rfl ?_
      refine sim_gR 10 10 dX10_match_27 rfl wf_RX10_55 (Nat.le_of_ble_eq_true rfl) rfl (fun o3 => ?_)
      refine sim_iload_n dX10_match_30 rfl ?_
      refine sim_aload_n dX10_match_31 rfl ?_
      refine sim_gR 10 7 dX10_match_32 rfl wf_RX10_34 (Nat.le_of_ble_eq_true rfl) rfl (fun o4 => ?_)
      refine sim_ao2 (fun a7 e => ?_)
      refine sim_virt (d - 1) e dX10_match_35 (k_X2_receiverOf (d - 1) (by omega) _ _ _ _) q_X2_receiverOf rfl rfl wm_RX10_307 rfl rfl (by omega) (Nat.le_of_ble_eq_true rfl) am_nI (am_rI fun h5 v6 => ?_) am_eI
      exact sim_iret dX10_match_38 rfl
    · exact sim_lv (am_leN (am_leN am_leT)) (t_X10_match_15 d (by omega) _))
theorem q_X10_match : am_Cal m_X10_match 1 2 := ⟨am_mem 945 (w := Cond.code yX10_match cX10_match 2 (some .int)) (by decide +kernel) rfl, am_mem 56 (w := Cond.initialized RX10) (by decide +kernel) rfl, fun z => absurd z (by decide), fun _ => am_mem 943 (w := Cond.instanceMethod yX10_match) (by decide +kernel) rfl, fun z => absurd z (by decide), fun _ => am_mem 944 (w := Cond.selects RX10 yX10_match yX10_match) (by decide +kernel) rfl, by decide +kernel, by decide +kernel, Nat.le_of_ble_eq_true rfl⟩
theorem dL_match_0 : decode cL_match 0 = .ok (.aload_n 2, 1) := by decide +kernel
theorem dL_match_1 : decode cL_match 1 = .ok (.iconst 0, 1) := by decide +kernel
theorem dL_match_2 : decode cL_match 2 = .ok (.aload_n 0, 1) := by decide +kernel
theorem dL_match_3 : decode cL_match 3 = .ok (.iload_n 1, 1) := by decide +kernel
theorem dL_match_4 : decode cL_match 4 = .ok (.invokevirtual 100, 3) := by decide +kernel
theorem dL_match_7 : decode cL_match 7 = .ok (.i2l, 1) := by decide +kernel
theorem dL_match_8 : decode cL_match 8 = .ok (.lastore, 1) := by decide +kernel
theorem dL_match_9 : decode cL_match 9 = .ok (.goto 6, 3) := by decide +kernel
theorem dL_match_12 : decode cL_match 12 = .ok (.astore_n 3, 1) := by decide +kernel
theorem dL_match_13 : decode cL_match 13 = .ok (.iconst 1, 1) := by decide +kernel
theorem dL_match_14 : decode cL_match 14 = .ok (.ireturn, 1) := by decide +kernel
theorem dL_match_15 : decode cL_match 15 = .ok (.iconst 0, 1) := by decide +kernel
theorem dL_match_16 : decode cL_match 16 = .ok (.ireturn, 1) := by decide +kernel
abbrev m_L_match : am_M := (yL_match, cL_match, 4, some .int, [(0, 9, 12, 21)])
def f_L_match (x0 : Option (Nat × Nat)) (x1 : Int32) (x2 : Option (Nat × Nat)) (h : am_H) : am_R := m_ao x0 10 fun a3 => m_bIx (f_X10_match a3 x1 h) (fun h1 v2 => m_sL x2 (0 : Int32) (Int32.toInt64 v2) h1 fun h6 => m_ri h6 (0 : Int32)) (fun h4 e5 => if e5 = 0 then (m_ri h4 (1 : Int32)) else none)
theorem k_L_match (d : Nat) (hd : 7 ≤ d) (x0 : Option (Nat × Nat)) (x1 : Int32) (x2 : Option (Nat × Nat)) (h : am_H) : am_Con m_L_match d [.inr (.inr x0), .inl x1, .inr (.inr x2)] h (f_L_match x0 x1 x2 h) := am_conX (by decide +kernel) (Nat.le_of_ble_eq_true rfl) (by
  unfold f_L_match
  refine sim_aload_n dL_match_0 rfl ?_
  refine sim_iconst (0) dL_match_1 (by decide +kernel) ?_
  refine sim_aload_n dL_match_2 rfl ?_
  refine sim_iload_n dL_match_3 rfl ?_
  refine sim_ao1 (fun a3 e => ?_)
  refine sim_virt (d - 1) e dL_match_4 (k_X10_match (d - 1) (by omega) _ _ _) q_X10_match rfl rfl wm_RL_100 rfl rfl (by omega) (Nat.le_of_ble_eq_true rfl) am_nIx (am_rIx fun h1 v2 => ?_) (am_eIx fun h9 k9 => ?_)
  · refine sim_i2l dL_match_7 ?_
    refine sim_sL dL_match_8 (fun h6 => ?_)
    refine sim_goto 15 dL_match_9 (by decide) ?_
    refine sim_iconst (0) dL_match_15 (by decide +kernel) ?_
    exact sim_iret dL_match_16 rfl
  · refine simx_case (fun cx => ?_) (fun cx => ?_)
    · subst cx
      refine simx_catch [] (0, 9, 12, 21) [] rfl ⟨by decide, by decide⟩ (by decide) wx_RL_21 wca_0 (by decide) (fun z hz => by cases hz) ?_
      refine sim_astore_n dL_match_12 (Nat.le_of_ble_eq_true rfl) ?_
      refine sim_iconst (1) dL_match_13 (by decide +kernel) ?_
      exact sim_iret dL_match_14 rfl
    exact simx_none)
theorem q_L_match : am_Cal m_L_match 3 0 := ⟨am_mem 941 (w := Cond.codeWith yL_match cL_match 4 (some .int) [(0, 9, 12, 21)]) (by decide +kernel) rfl, am_mem 55 (w := Cond.initialized RL) (by decide +kernel) rfl, fun _ => am_mem 940 (w := Cond.static yL_match) (by decide +kernel) rfl, fun z => absurd rfl z, fun z => absurd z (by decide), fun z => absurd z (by decide), by decide +kernel, by decide +kernel, Nat.le_of_ble_eq_true rfl⟩
theorem dX7_isAbove_0 : decode cX7_isAbove 0 = .ok (.aload_n 0, 1) := by decide +kernel
theorem dX7_isAbove_1 : decode cX7_isAbove 1 = .ok (.getfield 18, 3) := by decide +kernel
theorem dX7_isAbove_4 : decode cX7_isAbove 4 = .ok (.iload_n 2, 1) := by decide +kernel
theorem dX7_isAbove_5 : decode cX7_isAbove 5 = .ok (.iaload, 1) := by decide +kernel
theorem dX7_isAbove_6 : decode cX7_isAbove 6 = .ok (.iload_n 1, 1) := by decide +kernel
theorem dX7_isAbove_7 : decode cX7_isAbove 7 = .ok (.invokestatic 25, 3) := by decide +kernel
theorem dX7_isAbove_10 : decode cX7_isAbove 10 = .ok (.ireturn, 1) := by decide +kernel
abbrev m_X7_isAbove : am_M := (yX7_isAbove, cX7_isAbove, 3, some .boolean, [])
def f_X7_isAbove (a0 : Nat × Nat) (x1 : Int32) (x2 : Int32) (h : am_H) : am_R := m_gR (some a0) 7 3 h fun o1 => m_aI o1 0 x2 h fun v2 => m_bJ (f_X10_has v2 x1 h) fun h3 v4 => m_rz h3 v4
theorem k_X7_isAbove (d : Nat) (hd : 1 ≤ d) (a0 : Nat × Nat) (x1 : Int32) (x2 : Int32) (h : am_H) : am_Con m_X7_isAbove d [.inr (.inr (some a0)), .inl x1, .inl x2] h (f_X7_isAbove a0 x1 x2 h) := am_con (by decide +kernel) (Nat.le_of_ble_eq_true rfl) (by
  unfold f_X7_isAbove
  refine sim_aload_n dX7_isAbove_0 rfl ?_
  refine sim_gR 7 3 dX7_isAbove_1 rfl wf_RX7_18 (Nat.le_of_ble_eq_true rfl) rfl (fun o1 => ?_)
  refine sim_iload_n dX7_isAbove_4 rfl ?_
  refine sim_aI dX7_isAbove_5 (fun v2 => ?_)
  refine sim_iload_n dX7_isAbove_6 rfl ?_
  refine sim_staticN (d - 1) dX7_isAbove_7 (k_X10_has (d - 1) (by omega) _ _ _) q_X10_has wn_RX7_25 rfl rfl (by omega) (Nat.le_of_ble_eq_true rfl) am_nJ am_xJ (am_rJ fun h3 v4 => ?_)
  exact sim_zret dX7_isAbove_10 rfl)
theorem q_X7_isAbove : am_Cal m_X7_isAbove 2 2 := ⟨am_mem 712 (w := Cond.code yX7_isAbove cX7_isAbove 3 (some .boolean)) (by decide +kernel) rfl, am_mem 57 (w := Cond.initialized RX7) (by decide +kernel) rfl, fun z => absurd z (by decide), fun _ => am_mem 710 (w := Cond.instanceMethod yX7_isAbove) (by decide +kernel) rfl, fun z => absurd z (by decide), fun _ => am_mem 711 (w := Cond.selects RX7 yX7_isAbove yX7_isAbove) (by decide +kernel) rfl, by decide +kernel, by decide +kernel, Nat.le_of_ble_eq_true rfl⟩
theorem dX7_findAbove_0 : decode cX7_findAbove 0 = .ok (.aload_n 0, 1) := by decide +kernel
theorem dX7_findAbove_1 : decode cX7_findAbove 1 = .ok (.getfield 15, 3) := by decide +kernel
theorem dX7_findAbove_4 : decode cX7_findAbove 4 = .ok (.iconst 0, 1) := by decide +kernel
theorem dX7_findAbove_5 : decode cX7_findAbove 5 = .ok (.aload_n 0, 1) := by decide +kernel
theorem dX7_findAbove_6 : decode cX7_findAbove 6 = .ok (.getfield 18, 3) := by decide +kernel
theorem dX7_findAbove_9 : decode cX7_findAbove 9 = .ok (.iconst 0, 1) := by decide +kernel
theorem dX7_findAbove_10 : decode cX7_findAbove 10 = .ok (.bipush 30, 2) := by decide +kernel
theorem dX7_findAbove_12 : decode cX7_findAbove 12 = .ok (.invokestatic 36, 3) := by decide +kernel
theorem dX7_findAbove_15 : decode cX7_findAbove 15 = .ok (.iconst 0, 1) := by decide +kernel
theorem dX7_findAbove_16 : decode cX7_findAbove 16 = .ok (.istore_n 1, 1) := by decide +kernel
theorem dX7_findAbove_17 : decode cX7_findAbove 17 = .ok (.iload_n 1, 1) := by decide +kernel
theorem dX7_findAbove_18 : decode cX7_findAbove 18 = .ok (.aload_n 0, 1) := by decide +kernel
theorem dX7_findAbove_19 : decode cX7_findAbove 19 = .ok (.getfield 21, 3) := by decide +kernel
theorem dX7_findAbove_22 : decode cX7_findAbove 22 = .ok (.if_icmp .ge 53, 3) := by decide +kernel
theorem dX7_findAbove_25 : decode cX7_findAbove 25 = .ok (.iconst 0, 1) := by decide +kernel
theorem dX7_findAbove_26 : decode cX7_findAbove 26 = .ok (.istore_n 2, 1) := by decide +kernel
theorem dX7_findAbove_27 : decode cX7_findAbove 27 = .ok (.iload_n 2, 1) := by decide +kernel
theorem dX7_findAbove_28 : decode cX7_findAbove 28 = .ok (.aload_n 0, 1) := by decide +kernel
theorem dX7_findAbove_29 : decode cX7_findAbove 29 = .ok (.getfield 21, 3) := by decide +kernel
theorem dX7_findAbove_32 : decode cX7_findAbove 32 = .ok (.if_icmp .ge 37, 3) := by decide +kernel
theorem dX7_findAbove_35 : decode cX7_findAbove 35 = .ok (.aload_n 0, 1) := by decide +kernel
theorem dX7_findAbove_36 : decode cX7_findAbove 36 = .ok (.getfield 18, 3) := by decide +kernel
theorem dX7_findAbove_39 : decode cX7_findAbove 39 = .ok (.iload_n 2, 1) := by decide +kernel
theorem dX7_findAbove_40 : decode cX7_findAbove 40 = .ok (.iaload, 1) := by decide +kernel
theorem dX7_findAbove_41 : decode cX7_findAbove 41 = .ok (.iload_n 1, 1) := by decide +kernel
theorem dX7_findAbove_42 : decode cX7_findAbove 42 = .ok (.invokestatic 25, 3) := by decide +kernel
theorem dX7_findAbove_45 : decode cX7_findAbove 45 = .ok (.ifCond .eq 18, 3) := by decide +kernel
theorem dX7_findAbove_48 : decode cX7_findAbove 48 = .ok (.aload_n 0, 1) := by decide +kernel
theorem dX7_findAbove_49 : decode cX7_findAbove 49 = .ok (.getfield 18, 3) := by decide +kernel
theorem dX7_findAbove_52 : decode cX7_findAbove 52 = .ok (.iload_n 2, 1) := by decide +kernel
theorem dX7_findAbove_53 : decode cX7_findAbove 53 = .ok (.dup2, 1) := by decide +kernel
theorem dX7_findAbove_54 : decode cX7_findAbove 54 = .ok (.iaload, 1) := by decide +kernel
theorem dX7_findAbove_55 : decode cX7_findAbove 55 = .ok (.aload_n 0, 1) := by decide +kernel
theorem dX7_findAbove_56 : decode cX7_findAbove 56 = .ok (.getfield 18, 3) := by decide +kernel
theorem dX7_findAbove_59 : decode cX7_findAbove 59 = .ok (.iload_n 1, 1) := by decide +kernel
theorem dX7_findAbove_60 : decode cX7_findAbove 60 = .ok (.iaload, 1) := by decide +kernel
theorem dX7_findAbove_61 : decode cX7_findAbove 61 = .ok (.ior, 1) := by decide +kernel
theorem dX7_findAbove_62 : decode cX7_findAbove 62 = .ok (.iastore, 1) := by decide +kernel
theorem dX7_findAbove_63 : decode cX7_findAbove 63 = .ok (.iinc 2 1, 3) := by decide +kernel
theorem dX7_findAbove_66 : decode cX7_findAbove 66 = .ok (.goto (-39), 3) := by decide +kernel
theorem dX7_findAbove_69 : decode cX7_findAbove 69 = .ok (.iinc 1 1, 3) := by decide +kernel
theorem dX7_findAbove_72 : decode cX7_findAbove 72 = .ok (.goto (-55), 3) := by decide +kernel
theorem dX7_findAbove_75 : decode cX7_findAbove 75 = .ok (.return_, 1) := by decide +kernel
abbrev m_X7_findAbove : am_M := (yX7_findAbove, cX7_findAbove, 3, none, [])
def f_X7_findAbove_63 (rc17 : Nat × Nat → Int32 → am_H → am_R) (rc27 : Nat × Nat → Int32 → Int32 → am_H → am_R) (a0 : Nat × Nat) (x1 : Int32) (x2 : Int32) (h : am_H) : am_R := rc27 a0 x1 (x2 + 1) h
theorem t_X7_findAbove_63 (d : Nat) (hd : 2 ≤ d) (rc17 : Nat × Nat → Int32 → am_H → am_R) (hrc17 : ∀ a0 x1 h, Sim m_X7_findAbove d 17 [some (.inr (.inr (some a0))), some (.inl x1), none] [] h (rc17 a0 x1 h)) (rc27 : Nat × Nat → Int32 → Int32 → am_H → am_R) (hrc27 : ∀ a0 x1 x2 h, Sim m_X7_findAbove d 27 [some (.inr (.inr (some a0))), some (.inl x1), some (.inl x2)] [] h (rc27 a0 x1 x2 h)) (a0 : Nat × Nat) (x1 : Int32) (x2 : Int32) (h : am_H) : Sim m_X7_findAbove d 63 [some (.inr (.inr (some a0))), some (.inl x1), some (.inl x2)] [] h (f_X7_findAbove_63 rc17 rc27 a0 x1 x2 h) := by
  unfold f_X7_findAbove_63
  refine sim_iinc (1) dX7_findAbove_63 rfl (by decide +kernel) (Nat.le_of_ble_eq_true rfl) ?_
  refine sim_goto 27 dX7_findAbove_66 (by decide) ?_
  exact sim_lv (am_leS (am_leS (am_leS am_leT))) (hrc27 _ _ _ _)
def f_X7_findAbove_27 (rc17 : Nat × Nat → Int32 → am_H → am_R) : Nat → Nat × Nat → Int32 → Int32 → am_H → am_R
  | 0, _, _, _, _ => none
  | n + 1, a0, x1, x2, h => m_gI (some a0) 7 0 h fun v5 => if v5 ≤ x2 then (rc17 a0 (x1 + 1) h) else (m_gR (some a0) 7 3 h fun o6 => m_aI o6 0 x2 h fun v7 => m_bJ (f_X10_has v7 x1 h) fun h8 v9 => if v9 = 0 then (f_X7_findAbove_63 rc17 (f_X7_findAbove_27 rc17 n) a0 x1 x2 h8) else (m_gR (some a0) 7 3 h8 fun o10 => m_aI o10 0 x2 h8 fun v11 => m_gR (some a0) 7 3 h8 fun o12 => m_aI o12 0 x1 h8 fun v13 => m_sI o10 x2 (v11 ||| v13) h8 fun h14 => f_X7_findAbove_63 rc17 (f_X7_findAbove_27 rc17 n) a0 x1 x2 h14))
theorem t_X7_findAbove_27 (d : Nat) (hd : 2 ≤ d) (rc17 : Nat × Nat → Int32 → am_H → am_R) (hrc17 : ∀ a0 x1 h, Sim m_X7_findAbove d 17 [some (.inr (.inr (some a0))), some (.inl x1), none] [] h (rc17 a0 x1 h)) : ∀ (n : Nat) (a0 : Nat × Nat) (x1 : Int32) (x2 : Int32) (h : am_H), Sim m_X7_findAbove d 27 [some (.inr (.inr (some a0))), some (.inl x1), some (.inl x2)] [] h (f_X7_findAbove_27 rc17 n a0 x1 x2 h) := by
  intro n
  induction n with
  | zero => intros; exact sim_none
  | succ n hrc27 =>
    intro a0 x1 x2 h
    rw [f_X7_findAbove_27]
    refine sim_iload_n dX7_findAbove_27 rfl ?_
    refine sim_aload_n dX7_findAbove_28 rfl ?_
    refine sim_gI 7 0 dX7_findAbove_29 rfl wf_RX7_21 (Nat.le_of_ble_eq_true rfl) rfl (fun v5 => ?_)
    refine sim_ic_ge 69 dX7_findAbove_32 (by decide) (fun c => ?_) (fun c => ?_)
    · refine sim_iinc (1) dX7_findAbove_69 rfl (by decide +kernel) (Nat.le_of_ble_eq_true rfl) ?_
      refine sim_goto 17 dX7_findAbove_72 (by decide) ?_
      exact sim_lv (am_leS (am_leS (am_leN am_leT))) (hrc17 _ _ _)
    · refine sim_aload_n dX7_findAbove_35 rfl ?_
      refine sim_gR 7 3 dX7_findAbove_36 rfl wf_RX7_18 (Nat.le_of_ble_eq_true rfl) rfl (fun o6 => ?_)
      refine sim_iload_n dX7_findAbove_39 rfl ?_
      refine sim_aI dX7_findAbove_40 (fun v7 => ?_)
      refine sim_iload_n dX7_findAbove_41 rfl ?_
      refine sim_staticN (d - 1) dX7_findAbove_42 (k_X10_has (d - 1) (by omega) _ _ _) q_X10_has wn_RX7_25 rfl rfl (by omega) (Nat.le_of_ble_eq_true rfl) am_nJ am_xJ (am_rJ fun h8 v9 => ?_)
      refine sim_if_eq 63 dX7_findAbove_45 (by decide) (fun c => ?_) (fun c => ?_)
      · exact sim_lv (am_leS (am_leS (am_leS am_leT))) (t_X7_findAbove_63 d (by omega) _ hrc17 _ hrc27 _ _ _ _)
      · refine sim_aload_n dX7_findAbove_48 rfl ?_
        refine sim_gR 7 3 dX7_findAbove_49 rfl wf_RX7_18 (Nat.le_of_ble_eq_true rfl) rfl (fun o10 => ?_)
        refine sim_iload_n dX7_findAbove_52 rfl ?_
        refine sim_dup2 dX7_findAbove_53 ?_
        refine sim_aI dX7_findAbove_54 (fun v11 => ?_)
        refine sim_aload_n dX7_findAbove_55 rfl ?_
        refine sim_gR 7 3 dX7_findAbove_56 rfl wf_RX7_18 (Nat.le_of_ble_eq_true rfl) rfl (fun o12 => ?_)
        refine sim_iload_n dX7_findAbove_59 rfl ?_
        refine sim_aI dX7_findAbove_60 (fun v13 => ?_)
        refine sim_ior dX7_findAbove_61 ?_
        refine sim_sI dX7_findAbove_62 (fun h14 => ?_)
        exact sim_lv (am_leS (am_leS (am_leS am_leT))) (t_X7_findAbove_63 d (by omega) _ hrc17 _ hrc27 _ _ _ _)
def f_X7_findAbove_17  : Nat → Nat × Nat → Int32 → am_H → am_R
  | 0, _, _, _ => none
  | n + 1, a0, x1, h => m_gI (some a0) 7 0 h fun v4 => if v4 ≤ x1 then (m_rt h none) else (f_X7_findAbove_27 (f_X7_findAbove_17  n) 5000 a0 x1 (0 : Int32) h)
theorem t_X7_findAbove_17 (d : Nat) (hd : 2 ≤ d)  : ∀ (n : Nat) (a0 : Nat × Nat) (x1 : Int32) (h : am_H), Sim m_X7_findAbove d 17 [some (.inr (.inr (some a0))), some (.inl x1), none] [] h (f_X7_findAbove_17  n a0 x1 h) := by
  intro n
  induction n with
  | zero => intros; exact sim_none
  | succ n hrc17 =>
    intro a0 x1 h
    rw [f_X7_findAbove_17]
    refine sim_iload_n dX7_findAbove_17 rfl ?_
    refine sim_aload_n dX7_findAbove_18 rfl ?_
    refine sim_gI 7 0 dX7_findAbove_19 rfl wf_RX7_21 (Nat.le_of_ble_eq_true rfl) rfl (fun v4 => ?_)
    refine sim_ic_ge 75 dX7_findAbove_22 (by decide) (fun c => ?_) (fun c => ?_)
    · exact sim_vret dX7_findAbove_75 rfl
    · refine sim_iconst (0) dX7_findAbove_25 (by decide +kernel) ?_
      refine sim_istore_n dX7_findAbove_26 (Nat.le_of_ble_eq_true rfl) ?_
      exact sim_lv (am_leS (am_leS (am_leS am_leT))) (t_X7_findAbove_27 d (by omega) _ hrc17 _ _ _ _ _)
def f_X7_findAbove (a0 : Nat × Nat) (h : am_H) : am_R := m_gR (some a0) 7 2 h fun o1 => m_gR (some a0) 7 3 h fun o2 => m_cpy o1 (0 : Int32) o2 (0 : Int32) (30 : Int32) h fun h3 => f_X7_findAbove_17 5000 a0 (0 : Int32) h3
theorem k_X7_findAbove (d : Nat) (hd : 2 ≤ d) (a0 : Nat × Nat) (h : am_H) : am_Con m_X7_findAbove d [.inr (.inr (some a0))] h (f_X7_findAbove a0 h) := am_con (by decide +kernel) (Nat.le_of_ble_eq_true rfl) (by
  unfold f_X7_findAbove
  refine sim_aload_n dX7_findAbove_0 rfl ?_
  refine sim_gR 7 2 dX7_findAbove_1 rfl wf_RX7_15 (Nat.le_of_ble_eq_true rfl) rfl (fun o1 => ?_)
  refine sim_iconst (0) dX7_findAbove_4 (by decide +kernel) ?_
  refine sim_aload_n dX7_findAbove_5 rfl ?_
  refine sim_gR 7 3 dX7_findAbove_6 rfl wf_RX7_18 (Nat.le_of_ble_eq_true rfl) rfl (fun o2 => ?_)
  refine sim_iconst (0) dX7_findAbove_9 (by decide +kernel) ?_
  refine sim_bipush (30) dX7_findAbove_10 (by decide +kernel) ?_
  refine sim_cpy dX7_findAbove_12 wm_RX7_36 wcp_n wcp_s wz_RJ10 (by omega) (Nat.le_of_ble_eq_true rfl) (fun h3 => ?_)
  refine sim_iconst (0) dX7_findAbove_15 (by decide +kernel) ?_
  refine sim_istore_n dX7_findAbove_16 (Nat.le_of_ble_eq_true rfl) ?_
  exact sim_lv (am_leS (am_leS (am_leN am_leT))) (t_X7_findAbove_17 d (by omega) _ _ _ _))
theorem q_X7_findAbove : am_Cal m_X7_findAbove 0 2 := ⟨am_mem 722 (w := Cond.code yX7_findAbove cX7_findAbove 3 none) (by decide +kernel) rfl, am_mem 57 (w := Cond.initialized RX7) (by decide +kernel) rfl, fun z => absurd z (by decide), fun _ => am_mem 721 (w := Cond.instanceMethod yX7_findAbove) (by decide +kernel) rfl, fun z => absurd z (by decide), fun _ => am_mem 10 (w := Cond.selects RX7 yX7_findAbove yX7_findAbove) (by decide +kernel) rfl, by decide +kernel, by decide +kernel, Nat.le_of_ble_eq_true rfl⟩
theorem dX7_makeAlias_0 : decode cX7_makeAlias 0 = .ok (.iconst 0, 1) := by decide +kernel
theorem dX7_makeAlias_1 : decode cX7_makeAlias 1 = .ok (.istore_n 3, 1) := by decide +kernel
theorem dX7_makeAlias_2 : decode cX7_makeAlias 2 = .ok (.iload_n 3, 1) := by decide +kernel
theorem dX7_makeAlias_3 : decode cX7_makeAlias 3 = .ok (.aload_n 0, 1) := by decide +kernel
theorem dX7_makeAlias_4 : decode cX7_makeAlias 4 = .ok (.getfield 21, 3) := by decide +kernel
theorem dX7_makeAlias_7 : decode cX7_makeAlias 7 = .ok (.if_icmp .ge 61, 3) := by decide +kernel
theorem dX7_makeAlias_10 : decode cX7_makeAlias 10 = .ok (.aload_n 0, 1) := by decide +kernel
theorem dX7_makeAlias_11 : decode cX7_makeAlias 11 = .ok (.getfield 9, 3) := by decide +kernel
theorem dX7_makeAlias_14 : decode cX7_makeAlias 14 = .ok (.iload_n 3, 1) := by decide +kernel
theorem dX7_makeAlias_15 : decode cX7_makeAlias 15 = .ok (.iaload, 1) := by decide +kernel
theorem dX7_makeAlias_16 : decode cX7_makeAlias 16 = .ok (.iload_n 1, 1) := by decide +kernel
theorem dX7_makeAlias_17 : decode cX7_makeAlias 17 = .ok (.if_icmp .ne 10, 3) := by decide +kernel
theorem dX7_makeAlias_20 : decode cX7_makeAlias 20 = .ok (.aload_n 0, 1) := by decide +kernel
theorem dX7_makeAlias_21 : decode cX7_makeAlias 21 = .ok (.getfield 9, 3) := by decide +kernel
theorem dX7_makeAlias_24 : decode cX7_makeAlias 24 = .ok (.iload_n 3, 1) := by decide +kernel
theorem dX7_makeAlias_25 : decode cX7_makeAlias 25 = .ok (.iload_n 2, 1) := by decide +kernel
theorem dX7_makeAlias_26 : decode cX7_makeAlias 26 = .ok (.iastore, 1) := by decide +kernel
theorem dX7_makeAlias_27 : decode cX7_makeAlias 27 = .ok (.aload_n 0, 1) := by decide +kernel
theorem dX7_makeAlias_28 : decode cX7_makeAlias 28 = .ok (.getfield 15, 3) := by decide +kernel
theorem dX7_makeAlias_31 : decode cX7_makeAlias 31 = .ok (.iload_n 3, 1) := by decide +kernel
theorem dX7_makeAlias_32 : decode cX7_makeAlias 32 = .ok (.iaload, 1) := by decide +kernel
theorem dX7_makeAlias_33 : decode cX7_makeAlias 33 = .ok (.iload_n 1, 1) := by decide +kernel
theorem dX7_makeAlias_34 : decode cX7_makeAlias 34 = .ok (.invokestatic 25, 3) := by decide +kernel
theorem dX7_makeAlias_37 : decode cX7_makeAlias 37 = .ok (.ifCond .eq 25, 3) := by decide +kernel
theorem dX7_makeAlias_40 : decode cX7_makeAlias 40 = .ok (.aload_n 0, 1) := by decide +kernel
theorem dX7_makeAlias_41 : decode cX7_makeAlias 41 = .ok (.getfield 15, 3) := by decide +kernel
theorem dX7_makeAlias_44 : decode cX7_makeAlias 44 = .ok (.iload_n 3, 1) := by decide +kernel
theorem dX7_makeAlias_45 : decode cX7_makeAlias 45 = .ok (.aload_n 0, 1) := by decide +kernel
theorem dX7_makeAlias_46 : decode cX7_makeAlias 46 = .ok (.getfield 15, 3) := by decide +kernel
theorem dX7_makeAlias_49 : decode cX7_makeAlias 49 = .ok (.iload_n 3, 1) := by decide +kernel
theorem dX7_makeAlias_50 : decode cX7_makeAlias 50 = .ok (.iaload, 1) := by decide +kernel
theorem dX7_makeAlias_51 : decode cX7_makeAlias 51 = .ok (.iload_n 1, 1) := by decide +kernel
theorem dX7_makeAlias_52 : decode cX7_makeAlias 52 = .ok (.iconst 0, 1) := by decide +kernel
theorem dX7_makeAlias_53 : decode cX7_makeAlias 53 = .ok (.invokestatic 29, 3) := by decide +kernel
theorem dX7_makeAlias_56 : decode cX7_makeAlias 56 = .ok (.iload_n 2, 1) := by decide +kernel
theorem dX7_makeAlias_57 : decode cX7_makeAlias 57 = .ok (.iconst 1, 1) := by decide +kernel
theorem dX7_makeAlias_58 : decode cX7_makeAlias 58 = .ok (.invokestatic 29, 3) := by decide +kernel
theorem dX7_makeAlias_61 : decode cX7_makeAlias 61 = .ok (.iastore, 1) := by decide +kernel
theorem dX7_makeAlias_62 : decode cX7_makeAlias 62 = .ok (.iinc 3 1, 3) := by decide +kernel
theorem dX7_makeAlias_65 : decode cX7_makeAlias 65 = .ok (.goto (-63), 3) := by decide +kernel
theorem dX7_makeAlias_68 : decode cX7_makeAlias 68 = .ok (.aload_n 0, 1) := by decide +kernel
theorem dX7_makeAlias_69 : decode cX7_makeAlias 69 = .ok (.getfield 9, 3) := by decide +kernel
theorem dX7_makeAlias_72 : decode cX7_makeAlias 72 = .ok (.iload_n 1, 1) := by decide +kernel
theorem dX7_makeAlias_73 : decode cX7_makeAlias 73 = .ok (.iload_n 2, 1) := by decide +kernel
theorem dX7_makeAlias_74 : decode cX7_makeAlias 74 = .ok (.iastore, 1) := by decide +kernel
theorem dX7_makeAlias_75 : decode cX7_makeAlias 75 = .ok (.aload_n 0, 1) := by decide +kernel
theorem dX7_makeAlias_76 : decode cX7_makeAlias 76 = .ok (.getfield 15, 3) := by decide +kernel
theorem dX7_makeAlias_79 : decode cX7_makeAlias 79 = .ok (.iload_n 1, 1) := by decide +kernel
theorem dX7_makeAlias_80 : decode cX7_makeAlias 80 = .ok (.iconst 0, 1) := by decide +kernel
theorem dX7_makeAlias_81 : decode cX7_makeAlias 81 = .ok (.iastore, 1) := by decide +kernel
theorem dX7_makeAlias_82 : decode cX7_makeAlias 82 = .ok (.aload_n 0, 1) := by decide +kernel
theorem dX7_makeAlias_83 : decode cX7_makeAlias 83 = .ok (.invokevirtual 33, 3) := by decide +kernel
theorem dX7_makeAlias_86 : decode cX7_makeAlias 86 = .ok (.return_, 1) := by decide +kernel
abbrev m_X7_makeAlias : am_M := (yX7_makeAlias, cX7_makeAlias, 4, none, [])
def f_X7_makeAlias_62 (rc2 : Nat × Nat → Int32 → Int32 → Int32 → am_H → am_R) (a0 : Nat × Nat) (x1 : Int32) (x2 : Int32) (x3 : Int32) (h : am_H) : am_R := rc2 a0 x1 x2 (x3 + 1) h
theorem t_X7_makeAlias_62 (d : Nat) (hd : 3 ≤ d) (rc2 : Nat × Nat → Int32 → Int32 → Int32 → am_H → am_R) (hrc2 : ∀ a0 x1 x2 x3 h, Sim m_X7_makeAlias d 2 [some (.inr (.inr (some a0))), some (.inl x1), some (.inl x2), some (.inl x3)] [] h (rc2 a0 x1 x2 x3 h)) (a0 : Nat × Nat) (x1 : Int32) (x2 : Int32) (x3 : Int32) (h : am_H) : Sim m_X7_makeAlias d 62 [some (.inr (.inr (some a0))), some (.inl x1), some (.inl x2), some (.inl x3)] [] h (f_X7_makeAlias_62 rc2 a0 x1 x2 x3 h) := by
  unfold f_X7_makeAlias_62
  refine sim_iinc (1) dX7_makeAlias_62 rfl (by decide +kernel) (Nat.le_of_ble_eq_true rfl) ?_
  refine sim_goto 2 dX7_makeAlias_65 (by decide) ?_
  exact sim_lv (am_leS (am_leS (am_leS (am_leS am_leT)))) (hrc2 _ _ _ _ _)
def f_X7_makeAlias_27 (rc2 : Nat × Nat → Int32 → Int32 → Int32 → am_H → am_R) (a0 : Nat × Nat) (x1 : Int32) (x2 : Int32) (x3 : Int32) (h : am_H) : am_R := m_gR (some a0) 7 2 h fun o13 => m_aI o13 0 x3 h fun v14 => m_bJ (f_X10_has v14 x1 h) fun h15 v16 => if v16 = 0 then (f_X7_makeAlias_62 rc2 a0 x1 x2 x3 h15) else (m_gR (some a0) 7 2 h15 fun o17 => m_gR (some a0) 7 2 h15 fun o18 => m_aI o18 0 x3 h15 fun v19 => m_bJ (f_X10_with v19 x1 (0 : Int32) h15) fun h20 v21 => m_bJ (f_X10_with v21 x2 (1 : Int32) h20) fun h22 v23 => m_sI o17 x3 v23 h22 fun h24 => f_X7_makeAlias_62 rc2 a0 x1 x2 x3 h24)
theorem t_X7_makeAlias_27 (d : Nat) (hd : 3 ≤ d) (rc2 : Nat × Nat → Int32 → Int32 → Int32 → am_H → am_R) (hrc2 : ∀ a0 x1 x2 x3 h, Sim m_X7_makeAlias d 2 [some (.inr (.inr (some a0))), some (.inl x1), some (.inl x2), some (.inl x3)] [] h (rc2 a0 x1 x2 x3 h)) (a0 : Nat × Nat) (x1 : Int32) (x2 : Int32) (x3 : Int32) (h : am_H) : Sim m_X7_makeAlias d 27 [some (.inr (.inr (some a0))), some (.inl x1), some (.inl x2), some (.inl x3)] [] h (f_X7_makeAlias_27 rc2 a0 x1 x2 x3 h) := by
  unfold f_X7_makeAlias_27
  refine sim_aload_n dX7_makeAlias_27 rfl ?_
  refine sim_gR 7 2 dX7_makeAlias_28 rfl wf_RX7_15 (Nat.le_of_ble_eq_true rfl) rfl (fun o13 => ?_)
  refine sim_iload_n dX7_makeAlias_31 rfl ?_
  refine sim_aI dX7_makeAlias_32 (fun v14 => ?_)
  refine sim_iload_n dX7_makeAlias_33 rfl ?_
  refine sim_staticN (d - 1) dX7_makeAlias_34 (k_X10_has (d - 1) (by omega) _ _ _) q_X10_has wn_RX7_25 rfl rfl (by omega) (Nat.le_of_ble_eq_true rfl) am_nJ am_xJ (am_rJ fun h15 v16 => ?_)
  refine sim_if_eq 62 dX7_makeAlias_37 (by decide) (fun c => ?_) (fun c => ?_)
  · exact sim_lv (am_leS (am_leS (am_leS (am_leS am_leT)))) (t_X7_makeAlias_62 d (by omega) _ hrc2 _ _ _ _ _)
  · refine sim_aload_n dX7_makeAlias_40 rfl ?_
    refine sim_gR 7 2 dX7_makeAlias_41 rfl wf_RX7_15 (Nat.le_of_ble_eq_true rfl) rfl (fun o17 => ?_)
    refine sim_iload_n dX7_makeAlias_44 rfl ?_
    refine sim_aload_n dX7_makeAlias_45 rfl ?_
    refine sim_gR 7 2 dX7_makeAlias_46 rfl wf_RX7_15 (Nat.le_of_ble_eq_true rfl) rfl (fun o18 => ?_)
    refine sim_iload_n dX7_makeAlias_49 rfl ?_
    refine sim_aI dX7_makeAlias_50 (fun v19 => ?_)
    refine sim_iload_n dX7_makeAlias_51 rfl ?_
    refine sim_iconst (0) dX7_makeAlias_52 (by decide +kernel) ?_
    refine sim_staticN (d - 1) dX7_makeAlias_53 (k_X10_with (d - 1) (by omega) _ _ _ _) q_X10_with wn_RX7_29 rfl rfl (by omega) (Nat.le_of_ble_eq_true rfl) am_nJ am_xJ (am_rJ fun h20 v21 => ?_)
    refine sim_iload_n dX7_makeAlias_56 rfl ?_
    refine sim_iconst (1) dX7_makeAlias_57 (by decide +kernel) ?_
    refine sim_staticN (d - 1) dX7_makeAlias_58 (k_X10_with (d - 1) (by omega) _ _ _ _) q_X10_with wn_RX7_29 rfl rfl (by omega) (Nat.le_of_ble_eq_true rfl) am_nJ am_xJ (am_rJ fun h22 v23 => ?_)
    refine sim_sI dX7_makeAlias_61 (fun h24 => ?_)
    exact sim_lv (am_leS (am_leS (am_leS (am_leS am_leT)))) (t_X7_makeAlias_62 d (by omega) _ hrc2 _ _ _ _ _)
def f_X7_makeAlias_2  : Nat → Nat × Nat → Int32 → Int32 → Int32 → am_H → am_R
  | 0, _, _, _, _, _ => none
  | n + 1, a0, x1, x2, x3, h => m_gI (some a0) 7 0 h fun v1 => if v1 ≤ x3 then (m_gR (some a0) 7 1 h fun o2 => m_sI o2 x1 x2 h fun h3 => m_gR (some a0) 7 2 h3 fun o4 => m_sI o4 x1 (0 : Int32) h3 fun h5 => m_ao (some a0) 7 fun a8 => m_bV (f_X7_findAbove a8 h5) fun h6 => m_rt h6 none) else (m_gR (some a0) 7 1 h fun o9 => m_aI o9 0 x3 h fun v10 => if v10 = x1 then (m_gR (some a0) 7 1 h fun o11 => m_sI o11 x3 x2 h fun h12 => f_X7_makeAlias_27 (f_X7_makeAlias_2  n) a0 x1 x2 x3 h12) else (f_X7_makeAlias_27 (f_X7_makeAlias_2  n) a0 x1 x2 x3 h))
theorem t_X7_makeAlias_2 (d : Nat) (hd : 3 ≤ d)  : ∀ (n : Nat) (a0 : Nat × Nat) (x1 : Int32) (x2 : Int32) (x3 : Int32) (h : am_H), Sim m_X7_makeAlias d 2 [some (.inr (.inr (some a0))), some (.inl x1), some (.inl x2), some (.inl x3)] [] h (f_X7_makeAlias_2  n a0 x1 x2 x3 h) := by
  intro n
  induction n with
  | zero => intros; exact sim_none
  | succ n hrc2 =>
    intro a0 x1 x2 x3 h
    rw [f_X7_makeAlias_2]
    refine sim_iload_n dX7_makeAlias_2 rfl ?_
    refine sim_aload_n dX7_makeAlias_3 rfl ?_
    refine sim_gI 7 0 dX7_makeAlias_4 rfl wf_RX7_21 (Nat.le_of_ble_eq_true rfl) rfl (fun v1 => ?_)
    refine sim_ic_ge 68 dX7_makeAlias_7 (by decide) (fun c => ?_) (fun c => ?_)
    · refine sim_aload_n dX7_makeAlias_68 rfl ?_
      refine sim_gR 7 1 dX7_makeAlias_69 rfl wf_RX7_9 (Nat.le_of_ble_eq_true rfl) rfl (fun o2 => ?_)
      refine sim_iload_n dX7_makeAlias_72 rfl ?_
      refine sim_iload_n dX7_makeAlias_73 rfl ?_
      refine sim_sI dX7_makeAlias_74 (fun h3 => ?_)
      refine sim_aload_n dX7_makeAlias_75 rfl ?_
      refine sim_gR 7 2 dX7_makeAlias_76 rfl wf_RX7_15 (Nat.le_of_ble_eq_true rfl) rfl (fun o4 => ?_)
      refine sim_iload_n dX7_makeAlias_79 rfl ?_
      refine sim_iconst (0) dX7_makeAlias_80 (by decide +kernel) ?_
      refine sim_sI dX7_makeAlias_81 (fun h5 => ?_)
      refine sim_aload_n dX7_makeAlias_82 rfl ?_
      refine sim_ao0 (fun a8 e => ?_)
      refine sim_virt (d - 1) e dX7_makeAlias_83 (k_X7_findAbove (d - 1) (by omega) _  _) q_X7_findAbove rfl rfl wm_RX7_33 rfl rfl (by omega) (Nat.le_of_ble_eq_true rfl) am_nV (am_rV fun h6 => ?_) am_eV
      exact sim_vret dX7_makeAlias_86 rfl
    · refine sim_aload_n dX7_makeAlias_10 rfl ?_
      refine sim_gR 7 1 dX7_makeAlias_11 rfl wf_RX7_9 (Nat.le_of_ble_eq_true rfl) rfl (fun o9 => ?_)
      refine sim_iload_n dX7_makeAlias_14 rfl ?_
      refine sim_aI dX7_makeAlias_15 (fun v10 => ?_)
      refine sim_iload_n dX7_makeAlias_16 rfl ?_
      refine sim_ic_ne 27 dX7_makeAlias_17 (by decide) (fun c => ?_) (fun c => ?_)
      · exact sim_lv (am_leS (am_leS (am_leS (am_leS am_leT)))) (t_X7_makeAlias_27 d (by omega) _ hrc2 _ _ _ _ _)
      · refine sim_aload_n dX7_makeAlias_20 rfl ?_
        refine sim_gR 7 1 dX7_makeAlias_21 rfl wf_RX7_9 (Nat.le_of_ble_eq_true rfl) rfl (fun o11 => ?_)
        refine sim_iload_n dX7_makeAlias_24 rfl ?_
        refine sim_iload_n dX7_makeAlias_25 rfl ?_
        refine sim_sI dX7_makeAlias_26 (fun h12 => ?_)
        exact sim_lv (am_leS (am_leS (am_leS (am_leS am_leT)))) (t_X7_makeAlias_27 d (by omega) _ hrc2 _ _ _ _ _)
def f_X7_makeAlias (a0 : Nat × Nat) (x1 : Int32) (x2 : Int32) (h : am_H) : am_R := f_X7_makeAlias_2 5000 a0 x1 x2 (0 : Int32) h
theorem k_X7_makeAlias (d : Nat) (hd : 3 ≤ d) (a0 : Nat × Nat) (x1 : Int32) (x2 : Int32) (h : am_H) : am_Con m_X7_makeAlias d [.inr (.inr (some a0)), .inl x1, .inl x2] h (f_X7_makeAlias a0 x1 x2 h) := am_con (by decide +kernel) (Nat.le_of_ble_eq_true rfl) (by
  unfold f_X7_makeAlias
  refine sim_iconst (0) dX7_makeAlias_0 (by decide +kernel) ?_
  refine sim_istore_n dX7_makeAlias_1 (Nat.le_of_ble_eq_true rfl) ?_
  exact sim_lv (am_leS (am_leS (am_leS (am_leS am_leT)))) (t_X7_makeAlias_2 d (by omega) _ _ _ _ _ _))
theorem q_X7_makeAlias : am_Cal m_X7_makeAlias 2 2 := ⟨am_mem 717 (w := Cond.code yX7_makeAlias cX7_makeAlias 4 none) (by decide +kernel) rfl, am_mem 57 (w := Cond.initialized RX7) (by decide +kernel) rfl, fun z => absurd z (by decide), fun _ => am_mem 715 (w := Cond.instanceMethod yX7_makeAlias) (by decide +kernel) rfl, fun z => absurd z (by decide), fun _ => am_mem 716 (w := Cond.selects RX7 yX7_makeAlias yX7_makeAlias) (by decide +kernel) rfl, by decide +kernel, by decide +kernel, Nat.le_of_ble_eq_true rfl⟩
end
section
theorem dX10_merge_0 : decode cX10_merge 0 = .ok (.aload_n 0, 1) := by decide +kernel
theorem dX10_merge_1 : decode cX10_merge 1 = .ok (.iload_n 1, 1) := by decide +kernel
theorem dX10_merge_2 : decode cX10_merge 2 = .ok (.invokevirtual 189, 3) := by decide +kernel
theorem dX10_merge_5 : decode cX10_merge 5 = .ok (.aload_n 0, 1) := by decide +kernel
theorem dX10_merge_6 : decode cX10_merge 6 = .ok (.iload_n 2, 1) := by decide +kernel
theorem dX10_merge_7 : decode cX10_merge 7 = .ok (.invokevirtual 189, 3) := by decide +kernel
theorem dX10_merge_10 : decode cX10_merge 10 = .ok (.iload_n 1, 1) := by decide +kernel
theorem dX10_merge_11 : decode cX10_merge 11 = .ok (.iload_n 2, 1) := by decide +kernel
theorem dX10_merge_12 : decode cX10_merge 12 = .ok (.if_icmp .ne 13, 3) := by decide +kernel
theorem dX10_merge_15 : decode cX10_merge 15 = .ok (.new 66, 3) := by decide +kernel
theorem dX10_merge_18 : decode cX10_merge 18 = .ok (.dup, 1) := by decide +kernel
theorem dX10_merge_19 : decode cX10_merge 19 = .ok (.ldc 86, 2) := by decide +kernel
theorem dX10_merge_21 : decode cX10_merge 21 = .ok (.invokespecial 70, 3) := by decide +kernel
theorem dX10_merge_24 : decode cX10_merge 24 = .ok (.athrow, 1) := by decide +kernel
theorem dX10_merge_25 : decode cX10_merge 25 = .ok (.aload_n 0, 1) := by decide +kernel
theorem dX10_merge_26 : decode cX10_merge 26 = .ok (.getfield 34, 3) := by decide +kernel
theorem dX10_merge_29 : decode cX10_merge 29 = .ok (.iload_n 1, 1) := by decide +kernel
theorem dX10_merge_30 : decode cX10_merge 30 = .ok (.invokevirtual 192, 3) := by decide +kernel
theorem dX10_merge_33 : decode cX10_merge 33 = .ok (.istore_n 3, 1) := by decide +kernel
theorem dX10_merge_34 : decode cX10_merge 34 = .ok (.aload_n 0, 1) := by decide +kernel
theorem dX10_merge_35 : decode cX10_merge 35 = .ok (.getfield 34, 3) := by decide +kernel
theorem dX10_merge_38 : decode cX10_merge 38 = .ok (.iload_n 2, 1) := by decide +kernel
theorem dX10_merge_39 : decode cX10_merge 39 = .ok (.invokevirtual 192, 3) := by decide +kernel
theorem dX10_merge_42 : decode cX10_merge 42 = .ok (.iconst 1, 1) := by decide +kernel
theorem dX10_merge_43 : decode cX10_merge 43 = .ok (.if_icmp .ne 27, 3) := by decide +kernel
theorem dX10_merge_46 : decode cX10_merge 46 = .ok (.aload_n 0, 1) := by decide +kernel
theorem dX10_merge_47 : decode cX10_merge 47 = .ok (.getfield 34, 3) := by decide +kernel
theorem dX10_merge_50 : decode cX10_merge 50 = .ok (.iload_n 1, 1) := by decide +kernel
theorem dX10_merge_51 : decode cX10_merge 51 = .ok (.iload_n 2, 1) := by decide +kernel
theorem dX10_merge_52 : decode cX10_merge 52 = .ok (.invokevirtual 203, 3) := by decide +kernel
theorem dX10_merge_55 : decode cX10_merge 55 = .ok (.ifCond .ne 15, 3) := by decide +kernel
theorem dX10_merge_58 : decode cX10_merge 58 = .ok (.aload_n 0, 1) := by decide +kernel
theorem dX10_merge_59 : decode cX10_merge 59 = .ok (.getfield 34, 3) := by decide +kernel
theorem dX10_merge_62 : decode cX10_merge 62 = .ok (.iload_n 2, 1) := by decide +kernel
theorem dX10_merge_63 : decode cX10_merge 63 = .ok (.iload_n 1, 1) := by decide +kernel
theorem dX10_merge_64 : decode cX10_merge 64 = .ok (.invokevirtual 203, 3) := by decide +kernel
theorem dX10_merge_67 : decode cX10_merge 67 = .ok (.ifCond .eq 13, 3) := by decide +kernel
theorem dX10_merge_70 : decode cX10_merge 70 = .ok (.new 77, 3) := by decide +kernel
theorem dX10_merge_73 : decode cX10_merge 73 = .ok (.dup, 1) := by decide +kernel
theorem dX10_merge_74 : decode cX10_merge 74 = .ok (.ldc 206, 2) := by decide +kernel
theorem dX10_merge_76 : decode cX10_merge 76 = .ok (.invokespecial 81, 3) := by decide +kernel
theorem dX10_merge_79 : decode cX10_merge 79 = .ok (.athrow, 1) := by decide +kernel
theorem dX10_merge_80 : decode cX10_merge 80 = .ok (.aload_n 0, 1) := by decide +kernel
theorem dX10_merge_81 : decode cX10_merge 81 = .ok (.getfield 34, 3) := by decide +kernel
theorem dX10_merge_84 : decode cX10_merge 84 = .ok (.iload_n 1, 1) := by decide +kernel
theorem dX10_merge_85 : decode cX10_merge 85 = .ok (.iload_n 2, 1) := by decide +kernel
theorem dX10_merge_86 : decode cX10_merge 86 = .ok (.invokevirtual 208, 3) := by decide +kernel
theorem dX10_merge_89 : decode cX10_merge 89 = .ok (.aload_n 0, 1) := by decide +kernel
theorem dX10_merge_90 : decode cX10_merge 90 = .ok (.invokevirtual 200, 3) := by decide +kernel
theorem dX10_merge_93 : decode cX10_merge 93 = .ok (.iload_n 3, 1) := by decide +kernel
theorem dX10_merge_94 : decode cX10_merge 94 = .ok (.ireturn, 1) := by decide +kernel
abbrev m_X10_merge : am_M := (yX10_merge, cX10_merge, 4, some .int, [])
def f_X10_merge_70   (h : am_H) : am_R := m_ex h 2
theorem t_X10_merge_70 (d : Nat) (hd : 7 ≤ d)   (h : am_H) : Sim m_X10_merge d 70 [none, none, none, none] [] h (f_X10_merge_70   h) := by
  unfold f_X10_merge_70
  exact sim_throw 2 (by decide) dX10_merge_70 dX10_merge_73 dX10_merge_74 dX10_merge_76 dX10_merge_79 wx_RX10_77 wy_2 ws_RX10_206 at_RX10_81 gd_RX10_81 (by omega) (Nat.le_of_ble_eq_true rfl)
def f_X10_merge (a0 : Nat × Nat) (x1 : Int32) (x2 : Int32) (h : am_H) : am_R := m_ao (some a0) 10 fun a3 => m_bV (f_X10_checkTag a3 x1 h) fun h1 => m_ao (some a0) 10 fun a6 => m_bV (f_X10_checkTag a6 x2 h1) fun h4 => if x1 = x2 then (m_ex h4 1) else (m_gR (some a0) 10 7 h4 fun o7 => m_ao o7 7 fun a10 => m_bI (f_X7_kindOf a10 x1 h4) fun h8 v9 => m_gR (some a0) 10 7 h8 fun o11 => m_ao o11 7 fun a14 => m_bI (f_X7_kindOf a14 x2 h8) fun h12 v13 => if v13 = (1 : Int32) then (m_gR (some a0) 10 7 h12 fun o15 => m_ao o15 7 fun a18 => m_bI (f_X7_isAbove a18 x1 x2 h12) fun h16 v17 => if v17 = 0 then (m_gR (some a0) 10 7 h16 fun o19 => m_ao o19 7 fun a22 => m_bI (f_X7_isAbove a22 x2 x1 h16) fun h20 v21 => if v21 = 0 then (m_gR (some a0) 10 7 h20 fun o23 => m_ao o23 7 fun a26 => m_bV (f_X7_makeAlias a26 x1 x2 h20) fun h24 => m_ao (some a0) 10 fun a29 => m_bV (f_X10_letTaggedWorksWait a29 h24) fun h27 => m_ri h27 v9) else (f_X10_merge_70 h20)) else (f_X10_merge_70 h16)) else (f_X10_merge_70 h12))
theorem k_X10_merge (d : Nat) (hd : 7 ≤ d) (a0 : Nat × Nat) (x1 : Int32) (x2 : Int32) (h : am_H) : am_Con m_X10_merge d [.inr (.inr (some a0)), .inl x1, .inl x2] h (f_X10_merge a0 x1 x2 h) := am_con (by decide +kernel) (Nat.le_of_ble_eq_true rfl) (by
  unfold f_X10_merge
  refine sim_aload_n dX10_merge_0 rfl ?_
  refine sim_iload_n dX10_merge_1 rfl ?_
  refine sim_ao1 (fun a3 e => ?_)
  refine sim_virt (d - 1) e dX10_merge_2 (k_X10_checkTag (d - 1) (by omega) _ _ _) q_X10_checkTag rfl rfl wm_RX10_189 rfl rfl (by omega) (Nat.le_of_ble_eq_true rfl) am_nV (am_rV fun h1 => ?_) am_eV
  refine sim_aload_n dX10_merge_5 rfl ?_
  refine sim_iload_n dX10_merge_6 rfl ?_
  refine sim_ao1 (fun a6 e => ?_)
  refine sim_virt (d - 1) e dX10_merge_7 (k_X10_checkTag (d - 1) (by omega) _ _ _) q_X10_checkTag rfl rfl wm_RX10_189 rfl rfl (by omega) (Nat.le_of_ble_eq_true rfl) am_nV (am_rV fun h4 => ?_) am_eV
  refine sim_iload_n dX10_merge_10 rfl ?_
  refine sim_iload_n dX10_merge_11 rfl ?_
  refine sim_ic_ne 25 dX10_merge_12 (by decide) (fun c => ?_) (fun c => ?_)
  · refine sim_aload_n dX10_merge_25 rfl ?_
    refine sim_gR 10 7 dX10_merge_26 rfl wf_RX10_34 (Nat.le_of_ble_eq_true rfl) rfl (fun o7 => ?_)
    refine sim_iload_n dX10_merge_29 rfl ?_
    refine sim_ao1 (fun a10 e => ?_)
    refine sim_virt (d - 1) e dX10_merge_30 (k_X7_kindOf (d - 1) (by omega) _ _ _) q_X7_kindOf rfl rfl wm_RX10_192 rfl rfl (by omega) (Nat.le_of_ble_eq_true rfl) am_nI (am_rI fun h8 v9 => ?_) am_eI
    refine sim_istore_n dX10_merge_33 (Nat.le_of_ble_eq_true rfl) ?_
    refine sim_aload_n dX10_merge_34 rfl ?_
    refine sim_gR 10 7 dX10_merge_35 rfl wf_RX10_34 (Nat.le_of_ble_eq_true rfl) rfl (fun o11 => ?_)
    refine sim_iload_n dX10_merge_38 rfl ?_
    refine sim_ao1 (fun a14 e => ?_)
    refine sim_virt (d - 1) e dX10_merge_39 (k_X7_kindOf (d - 1) (by omega) _ _ _) q_X7_kindOf rfl rfl wm_RX10_192 rfl rfl (by omega) (Nat.le_of_ble_eq_true rfl) am_nI (am_rI fun h12 v13 => ?_) am_eI
    refine sim_iconst (1) dX10_merge_42 (by decide +kernel) ?_
    refine sim_ic_ne 70 dX10_merge_43 (by decide) (fun c => ?_) (fun c => ?_)
    · exact sim_lv (am_leN (am_leN (am_leN (am_leN am_leT)))) (t_X10_merge_70 d (by omega) _)
    · refine sim_aload_n dX10_merge_46 rfl ?_
      refine sim_gR 10 7 dX10_merge_47 rfl wf_RX10_34 (Nat.le_of_ble_eq_true rfl) rfl (fun o15 => ?_)
      refine sim_iload_n dX10_merge_50 rfl ?_
      refine sim_iload_n dX10_merge_51 rfl ?_
      refine sim_ao2 (fun a18 e => ?_)
      refine sim_virt (d - 1) e dX10_merge_52 (k_X7_isAbove (d - 1) (by omega) _ _ _ _) q_X7_isAbove rfl rfl wm_RX10_203 rfl rfl (by omega) (Nat.le_of_ble_eq_true rfl) am_nI (am_rI fun h16 v17 => ?_) am_eI
      refine sim_if_ne 70 dX10_merge_55 (by decide) (fun c => ?_) (fun c => ?_)
      · exact sim_lv (am_leN (am_leN (am_leN (am_leN am_leT)))) (t_X10_merge_70 d (by omega) _)
      · refine sim_aload_n dX10_merge_58 rfl ?_
        refine sim_gR 10 7 dX10_merge_59 rfl wf_RX10_34 (Nat.le_of_ble_eq_true rfl) rfl (fun o19 => ?_)
        refine sim_iload_n dX10_merge_62 rfl ?_
        refine sim_iload_n dX10_merge_63 rfl ?_
        refine sim_ao2 (fun a22 e => ?_)
        refine sim_virt (d - 1) e dX10_merge_64 (k_X7_isAbove (d - 1) (by omega) _ _ _ _) q_X7_isAbove rfl rfl wm_RX10_203 rfl rfl (by omega) (Nat.le_of_ble_eq_true rfl) am_nI (am_rI fun h20 v21 => ?_) am_eI
        refine sim_if_eq 80 dX10_merge_67 (by decide) (fun c => ?_) (fun c => ?_)
        · refine sim_aload_n dX10_merge_80 rfl ?_
          refine sim_gR 10 7 dX10_merge_81 rfl wf_RX10_34 (Nat.le_of_ble_eq_true rfl) rfl (fun o23 => ?_)
          refine sim_iload_n dX10_merge_84 rfl ?_
          refine sim_iload_n dX10_merge_85 rfl ?_
          refine sim_ao2 (fun a26 e => ?_)
          refine sim_virt (d - 1) e dX10_merge_86 (k_X7_makeAlias (d - 1) (by omega) _ _ _ _) q_X7_makeAlias rfl rfl wm_RX10_208 rfl rfl (by omega) (Nat.le_of_ble_eq_true rfl) am_nV (am_rV fun h24 => ?_) am_eV
          refine sim_aload_n dX10_merge_89 rfl ?_
          refine sim_ao0 (fun a29 e => ?_)
          refine sim_virt (d - 1) e dX10_merge_90 (k_X10_letTaggedWorksWait (d - 1) (by omega) _  _) q_X10_letTaggedWorksWait rfl rfl wm_RX10_200 rfl rfl (by omega) (Nat.le_of_ble_eq_true rfl) am_nV (am_rV fun h27 => ?_) am_eV
          refine sim_iload_n dX10_merge_93 rfl ?_
          exact sim_iret dX10_merge_94 rfl
        · exact sim_lv (am_leN (am_leN (am_leN (am_leN am_leT)))) (t_X10_merge_70 d (by omega) _)
  · exact sim_throw 1 (by decide) dX10_merge_15 dX10_merge_18 dX10_merge_19 dX10_merge_21 dX10_merge_24 wx_RX10_66 wy_1 ws_RX10_86 at_RX10_70 gd_RX10_70 (by omega) (Nat.le_of_ble_eq_true rfl))
theorem q_X10_merge : am_Cal m_X10_merge 2 2 := ⟨am_mem 708 (w := Cond.code yX10_merge cX10_merge 4 (some .int)) (by decide +kernel) rfl, am_mem 56 (w := Cond.initialized RX10) (by decide +kernel) rfl, fun z => absurd z (by decide), fun _ => am_mem 706 (w := Cond.instanceMethod yX10_merge) (by decide +kernel) rfl, fun z => absurd z (by decide), fun _ => am_mem 707 (w := Cond.selects RX10 yX10_merge yX10_merge) (by decide +kernel) rfl, by decide +kernel, by decide +kernel, Nat.le_of_ble_eq_true rfl⟩
theorem dL_merge_0 : decode cL_merge 0 = .ok (.aload_n 3, 1) := by decide +kernel
theorem dL_merge_1 : decode cL_merge 1 = .ok (.iconst 0, 1) := by decide +kernel
theorem dL_merge_2 : decode cL_merge 2 = .ok (.aload_n 0, 1) := by decide +kernel
theorem dL_merge_3 : decode cL_merge 3 = .ok (.iload_n 1, 1) := by decide +kernel
theorem dL_merge_4 : decode cL_merge 4 = .ok (.iload_n 2, 1) := by decide +kernel
theorem dL_merge_5 : decode cL_merge 5 = .ok (.invokevirtual 67, 3) := by decide +kernel
theorem dL_merge_8 : decode cL_merge 8 = .ok (.i2l, 1) := by decide +kernel
theorem dL_merge_9 : decode cL_merge 9 = .ok (.lastore, 1) := by decide +kernel
theorem dL_merge_10 : decode cL_merge 10 = .ok (.goto 15, 3) := by decide +kernel
theorem dL_merge_13 : decode cL_merge 13 = .ok (.astore 4, 2) := by decide +kernel
theorem dL_merge_15 : decode cL_merge 15 = .ok (.iconst 1, 1) := by decide +kernel
theorem dL_merge_16 : decode cL_merge 16 = .ok (.ireturn, 1) := by decide +kernel
theorem dL_merge_17 : decode cL_merge 17 = .ok (.astore 4, 2) := by decide +kernel
theorem dL_merge_19 : decode cL_merge 19 = .ok (.iconst 2, 1) := by decide +kernel
theorem dL_merge_20 : decode cL_merge 20 = .ok (.ireturn, 1) := by decide +kernel
theorem dL_merge_21 : decode cL_merge 21 = .ok (.astore 4, 2) := by decide +kernel
theorem dL_merge_23 : decode cL_merge 23 = .ok (.iconst 3, 1) := by decide +kernel
theorem dL_merge_24 : decode cL_merge 24 = .ok (.ireturn, 1) := by decide +kernel
theorem dL_merge_25 : decode cL_merge 25 = .ok (.iconst 0, 1) := by decide +kernel
theorem dL_merge_26 : decode cL_merge 26 = .ok (.ireturn, 1) := by decide +kernel
abbrev m_L_merge : am_M := (yL_merge, cL_merge, 5, some .int, [(0, 10, 13, 21), (0, 10, 17, 13), (0, 10, 21, 15)])
def f_L_merge (x0 : Option (Nat × Nat)) (x1 : Int32) (x2 : Int32) (x3 : Option (Nat × Nat)) (h : am_H) : am_R := m_ao x0 10 fun a3 => m_bIx (f_X10_merge a3 x1 x2 h) (fun h1 v2 => m_sL x3 (0 : Int32) (Int32.toInt64 v2) h1 fun h6 => m_ri h6 (0 : Int32)) (fun h4 e5 => if e5 = 0 then (m_ri h4 (1 : Int32)) else if e5 = 1 then (m_ri h4 (2 : Int32)) else if e5 = 2 then (m_ri h4 (3 : Int32)) else none)
theorem k_L_merge (d : Nat) (hd : 8 ≤ d) (x0 : Option (Nat × Nat)) (x1 : Int32) (x2 : Int32) (x3 : Option (Nat × Nat)) (h : am_H) : am_Con m_L_merge d [.inr (.inr x0), .inl x1, .inl x2, .inr (.inr x3)] h (f_L_merge x0 x1 x2 x3 h) := am_conX (by decide +kernel) (Nat.le_of_ble_eq_true rfl) (by
  unfold f_L_merge
  refine sim_aload_n dL_merge_0 rfl ?_
  refine sim_iconst (0) dL_merge_1 (by decide +kernel) ?_
  refine sim_aload_n dL_merge_2 rfl ?_
  refine sim_iload_n dL_merge_3 rfl ?_
  refine sim_iload_n dL_merge_4 rfl ?_
  refine sim_ao2 (fun a3 e => ?_)
  refine sim_virt (d - 1) e dL_merge_5 (k_X10_merge (d - 1) (by omega) _ _ _ _) q_X10_merge rfl rfl wm_RL_67 rfl rfl (by omega) (Nat.le_of_ble_eq_true rfl) am_nIx (am_rIx fun h1 v2 => ?_) (am_eIx fun h9 k9 => ?_)
  · refine sim_i2l dL_merge_8 ?_
    refine sim_sL dL_merge_9 (fun h6 => ?_)
    refine sim_goto 25 dL_merge_10 (by decide) ?_
    refine sim_iconst (0) dL_merge_25 (by decide +kernel) ?_
    exact sim_iret dL_merge_26 rfl
  · refine simx_case (fun cx => ?_) (fun cx => ?_)
    · subst cx
      refine simx_catch [] (0, 10, 13, 21) [(0, 10, 17, 13), (0, 10, 21, 15)] rfl ⟨by decide, by decide⟩ (by decide) wx_RL_21 wca_0 (by decide) (fun z hz => by cases hz) ?_
      refine sim_astore dL_merge_13 (Nat.le_of_ble_eq_true rfl) ?_
      refine sim_iconst (1) dL_merge_15 (by decide +kernel) ?_
      exact sim_iret dL_merge_16 rfl
    refine simx_case (fun cx => ?_) (fun cx => ?_)
    · subst cx
      refine simx_catch [(0, 10, 13, 21)] (0, 10, 17, 13) [(0, 10, 21, 15)] rfl ⟨by decide, by decide⟩ (by decide) wx_RL_13 wca_1 (by decide) (fun z hz => by simp only [List.mem_cons, List.not_mem_nil, or_false] at hz; subst hz; exact ⟨by decide, 0, _, by decide, by decide, wx_RL_21⟩) ?_
      refine sim_astore dL_merge_17 (Nat.le_of_ble_eq_true rfl) ?_
      refine sim_iconst (2) dL_merge_19 (by decide +kernel) ?_
      exact sim_iret dL_merge_20 rfl
    refine simx_case (fun cx => ?_) (fun cx => ?_)
    · subst cx
      refine simx_catch [(0, 10, 13, 21), (0, 10, 17, 13)] (0, 10, 21, 15) [] rfl ⟨by decide, by decide⟩ (by decide) wx_RL_15 wca_2 (by decide) (fun z hz => by
        simp only [List.mem_cons, List.not_mem_nil, or_false] at hz
        rcases hz with rfl | rfl
        · exact ⟨by decide, 0, _, by decide, by decide, wx_RL_21⟩
        · exact ⟨by decide, 1, _, by decide, by decide, wx_RL_13⟩) ?_
      refine sim_astore dL_merge_21 (Nat.le_of_ble_eq_true rfl) ?_
      refine sim_iconst (3) dL_merge_23 (by decide +kernel) ?_
      exact sim_iret dL_merge_24 rfl
    exact simx_none)
theorem q_L_merge : am_Cal m_L_merge 4 0 := ⟨am_mem 704 (w := Cond.codeWith yL_merge cL_merge 5 (some .int) [(0, 10, 13, 21), (0, 10, 17, 13), (0, 10, 21, 15)]) (by decide +kernel) rfl, am_mem 55 (w := Cond.initialized RL) (by decide +kernel) rfl, fun _ => am_mem 703 (w := Cond.static yL_merge) (by decide +kernel) rfl, fun z => absurd rfl z, fun z => absurd z (by decide), fun z => absurd z (by decide), by decide +kernel, by decide +kernel, Nat.le_of_ble_eq_true rfl⟩
theorem dX10_news_0 : decode cX10_news 0 = .ok (.iload_n 1, 1) := by decide +kernel
theorem dX10_news_1 : decode cX10_news 1 = .ok (.invokestatic 82, 3) := by decide +kernel
theorem dX10_news_4 : decode cX10_news 4 = .ok (.iconst 0, 1) := by decide +kernel
theorem dX10_news_5 : decode cX10_news 5 = .ok (.istore_n 2, 1) := by decide +kernel
theorem dX10_news_6 : decode cX10_news 6 = .ok (.iconst 0, 1) := by decide +kernel
theorem dX10_news_7 : decode cX10_news 7 = .ok (.istore_n 3, 1) := by decide +kernel
theorem dX10_news_8 : decode cX10_news 8 = .ok (.iload_n 3, 1) := by decide +kernel
theorem dX10_news_9 : decode cX10_news 9 = .ok (.aload_n 0, 1) := by decide +kernel
theorem dX10_news_10 : decode cX10_news 10 = .ok (.getfield 104, 3) := by decide +kernel
theorem dX10_news_13 : decode cX10_news 13 = .ok (.if_icmp .ge 29, 3) := by decide +kernel
theorem dX10_news_16 : decode cX10_news 16 = .ok (.iload_n 2, 1) := by decide +kernel
theorem dX10_news_17 : decode cX10_news 17 = .ok (.iload_n 3, 1) := by decide +kernel
theorem dX10_news_18 : decode cX10_news 18 = .ok (.aload_n 0, 1) := by decide +kernel
theorem dX10_news_19 : decode cX10_news 19 = .ok (.iload_n 1, 1) := by decide +kernel
theorem dX10_news_20 : decode cX10_news 20 = .ok (.iload_n 3, 1) := by decide +kernel
theorem dX10_news_21 : decode cX10_news 21 = .ok (.invokevirtual 370, 3) := by decide +kernel
theorem dX10_news_24 : decode cX10_news 24 = .ok (.ifCond .eq 7, 3) := by decide +kernel
theorem dX10_news_27 : decode cX10_news 27 = .ok (.iconst 1, 1) := by decide +kernel
theorem dX10_news_28 : decode cX10_news 28 = .ok (.goto 4, 3) := by decide +kernel
theorem dX10_news_31 : decode cX10_news 31 = .ok (.iconst 0, 1) := by decide +kernel
theorem dX10_news_32 : decode cX10_news 32 = .ok (.invokestatic 95, 3) := by decide +kernel
theorem dX10_news_35 : decode cX10_news 35 = .ok (.istore_n 2, 1) := by decide +kernel
theorem dX10_news_36 : decode cX10_news 36 = .ok (.iinc 3 1, 3) := by decide +kernel
theorem dX10_news_39 : decode cX10_news 39 = .ok (.goto (-31), 3) := by decide +kernel
theorem dX10_news_42 : decode cX10_news 42 = .ok (.iload_n 2, 1) := by decide +kernel
theorem dX10_news_43 : decode cX10_news 43 = .ok (.ireturn, 1) := by decide +kernel
abbrev m_X10_news : am_M := (yX10_news, cX10_news, 4, some .int, [])
def f_X10_news_32 (rc8 : Nat × Nat → Int32 → Int32 → Int32 → am_H → am_R) (a0 : Nat × Nat) (x1 : Int32) (x3 : Int32) (s0 : Int32) (s1 : Int32) (s2 : Int32) (h : am_H) : am_R := m_bI (f_X10_with s2 s1 s0 h) fun h7 v8 => rc8 a0 x1 v8 (x3 + 1) h7
theorem t_X10_news_32 (d : Nat) (hd : 7 ≤ d) (rc8 : Nat × Nat → Int32 → Int32 → Int32 → am_H → am_R) (hrc8 : ∀ a0 x1 x2 x3 h, Sim m_X10_news d 8 [some (.inr (.inr (some a0))), some (.inl x1), some (.inl x2), some (.inl x3)] [] h (rc8 a0 x1 x2 x3 h)) (a0 : Nat × Nat) (x1 : Int32) (x3 : Int32) (s0 : Int32) (s1 : Int32) (s2 : Int32) (h : am_H) : Sim m_X10_news d 32 [some (.inr (.inr (some a0))), some (.inl x1), none, some (.inl x3)] [.inl s0, .inl s1, .inl s2] h (f_X10_news_32 rc8 a0 x1 x3 s0 s1 s2 h) := by
  unfold f_X10_news_32
  refine sim_static (d - 1) dX10_news_32 (k_X10_with (d - 1) (by omega) _ _ _ _) q_X10_with wm_RX10_95 rfl rfl (by omega) (Nat.le_of_ble_eq_true rfl) am_nI (am_rI fun h7 v8 => ?_) am_eI
  refine sim_istore_n dX10_news_35 (Nat.le_of_ble_eq_true rfl) ?_
  refine sim_iinc (1) dX10_news_36 rfl (by decide +kernel) (Nat.le_of_ble_eq_true rfl) ?_
  refine sim_goto 8 dX10_news_39 (by decide) ?_
  exact sim_lv (am_leS (am_leS (am_leS (am_leS am_leT)))) (hrc8 _ _ _ _ _)
def f_X10_news_8  : Nat → Nat × Nat → Int32 → Int32 → Int32 → am_H → am_R
  | 0, _, _, _, _, _ => none
  | n + 1, a0, x1, x2, x3, h => m_gI (some a0) 10 4 h fun v3 => if v3 ≤ x3 then (m_ri h x2) else (m_ao (some a0) 10 fun a6 => m_bI (f_X10_newChapters a6 x1 x3 h) fun h4 v5 => if v5 = 0 then (f_X10_news_32 (f_X10_news_8  n) a0 x1 x3 (0 : Int32) x3 x2 h4) else (f_X10_news_32 (f_X10_news_8  n) a0 x1 x3 (1 : Int32) x3 x2 h4))
theorem t_X10_news_8 (d : Nat) (hd : 7 ≤ d)  : ∀ (n : Nat) (a0 : Nat × Nat) (x1 : Int32) (x2 : Int32) (x3 : Int32) (h : am_H), Sim m_X10_news d 8 [some (.inr (.inr (some a0))), some (.inl x1), some (.inl x2), some (.inl x3)] [] h (f_X10_news_8  n a0 x1 x2 x3 h) := by
  intro n
  induction n with
  | zero => intros; exact sim_none
  | succ n hrc8 =>
    intro a0 x1 x2 x3 h
    rw [f_X10_news_8]
    refine sim_iload_n dX10_news_8 rfl ?_
    refine sim_aload_n dX10_news_9 rfl ?_
    refine sim_gI 10 4 dX10_news_10 rfl wf_RX10_104 (Nat.le_of_ble_eq_true rfl) rfl (fun v3 => ?_)
    refine sim_ic_ge 42 dX10_news_13 (by decide) (fun c => ?_) (fun c => ?_)
    · refine sim_iload_n dX10_news_42 rfl ?_
      exact sim_iret dX10_news_43 rfl
    · refine sim_iload_n dX10_news_16 rfl ?_
      refine sim_iload_n dX10_news_17 rfl ?_
      refine sim_aload_n dX10_news_18 rfl ?_
      refine sim_iload_n dX10_news_19 rfl ?_
      refine sim_iload_n dX10_news_20 rfl ?_
      refine sim_ao2 (fun a6 e => ?_)
      refine sim_virt (d - 1) e dX10_news_21 (k_X10_newChapters (d - 1) (by omega) _ _ _ _) q_X10_newChapters rfl rfl wm_RX10_370 rfl rfl (by omega) (Nat.le_of_ble_eq_true rfl) am_nI (am_rI fun h4 v5 => ?_) am_eI
      refine sim_if_eq 31 dX10_news_24 (by decide) (fun c => ?_) (fun c => ?_)
      · refine sim_iconst (0) dX10_news_31 (by decide +kernel) ?_
        exact sim_lv (am_leS (am_leS (am_leN (am_leS am_leT)))) (t_X10_news_32 d (by omega) _ hrc8 _ _ _ _ _ _ _)
      · refine sim_iconst (1) dX10_news_27 (by decide +kernel) ?_
        refine sim_goto 32 dX10_news_28 (by decide) ?_
        exact sim_lv (am_leS (am_leS (am_leN (am_leS am_leT)))) (t_X10_news_32 d (by omega) _ hrc8 _ _ _ _ _ _ _)
def f_X10_news (a0 : Nat × Nat) (x1 : Int32) (h : am_H) : am_R := m_bV (f_X10_checkPerson x1 h) fun h1 => f_X10_news_8 5000 a0 x1 (0 : Int32) (0 : Int32) h1
theorem k_X10_news (d : Nat) (hd : 7 ≤ d) (a0 : Nat × Nat) (x1 : Int32) (h : am_H) : am_Con m_X10_news d [.inr (.inr (some a0)), .inl x1] h (f_X10_news a0 x1 h) := am_con (by decide +kernel) (Nat.le_of_ble_eq_true rfl) (by
  unfold f_X10_news
  refine sim_iload_n dX10_news_0 rfl ?_
  refine sim_static (d - 1) dX10_news_1 (k_X10_checkPerson (d - 1) (by omega) _ _) q_X10_checkPerson wm_RX10_82 rfl rfl (by omega) (Nat.le_of_ble_eq_true rfl) am_nV (am_rV fun h1 => ?_) am_eV
  refine sim_iconst (0) dX10_news_4 (by decide +kernel) ?_
  refine sim_istore_n dX10_news_5 (Nat.le_of_ble_eq_true rfl) ?_
  refine sim_iconst (0) dX10_news_6 (by decide +kernel) ?_
  refine sim_istore_n dX10_news_7 (Nat.le_of_ble_eq_true rfl) ?_
  exact sim_lv (am_leS (am_leS (am_leS (am_leS am_leT)))) (t_X10_news_8 d (by omega) _ _ _ _ _ _))
theorem q_X10_news : am_Cal m_X10_news 1 2 := ⟨am_mem 1070 (w := Cond.code yX10_news cX10_news 4 (some .int)) (by decide +kernel) rfl, am_mem 56 (w := Cond.initialized RX10) (by decide +kernel) rfl, fun z => absurd z (by decide), fun _ => am_mem 1068 (w := Cond.instanceMethod yX10_news) (by decide +kernel) rfl, fun z => absurd z (by decide), fun _ => am_mem 1069 (w := Cond.selects RX10 yX10_news yX10_news) (by decide +kernel) rfl, by decide +kernel, by decide +kernel, Nat.le_of_ble_eq_true rfl⟩
theorem dL_news_0 : decode cL_news 0 = .ok (.aload_n 2, 1) := by decide +kernel
theorem dL_news_1 : decode cL_news 1 = .ok (.iconst 0, 1) := by decide +kernel
theorem dL_news_2 : decode cL_news 2 = .ok (.aload_n 0, 1) := by decide +kernel
theorem dL_news_3 : decode cL_news 3 = .ok (.iload_n 1, 1) := by decide +kernel
theorem dL_news_4 : decode cL_news 4 = .ok (.invokevirtual 126, 3) := by decide +kernel
theorem dL_news_7 : decode cL_news 7 = .ok (.i2l, 1) := by decide +kernel
theorem dL_news_8 : decode cL_news 8 = .ok (.lastore, 1) := by decide +kernel
theorem dL_news_9 : decode cL_news 9 = .ok (.goto 6, 3) := by decide +kernel
theorem dL_news_12 : decode cL_news 12 = .ok (.astore_n 3, 1) := by decide +kernel
theorem dL_news_13 : decode cL_news 13 = .ok (.iconst 1, 1) := by decide +kernel
theorem dL_news_14 : decode cL_news 14 = .ok (.ireturn, 1) := by decide +kernel
theorem dL_news_15 : decode cL_news 15 = .ok (.iconst 0, 1) := by decide +kernel
theorem dL_news_16 : decode cL_news 16 = .ok (.ireturn, 1) := by decide +kernel
abbrev m_L_news : am_M := (yL_news, cL_news, 4, some .int, [(0, 9, 12, 21)])
def f_L_news (x0 : Option (Nat × Nat)) (x1 : Int32) (x2 : Option (Nat × Nat)) (h : am_H) : am_R := m_ao x0 10 fun a3 => m_bIx (f_X10_news a3 x1 h) (fun h1 v2 => m_sL x2 (0 : Int32) (Int32.toInt64 v2) h1 fun h6 => m_ri h6 (0 : Int32)) (fun h4 e5 => if e5 = 0 then (m_ri h4 (1 : Int32)) else none)
theorem k_L_news (d : Nat) (hd : 8 ≤ d) (x0 : Option (Nat × Nat)) (x1 : Int32) (x2 : Option (Nat × Nat)) (h : am_H) : am_Con m_L_news d [.inr (.inr x0), .inl x1, .inr (.inr x2)] h (f_L_news x0 x1 x2 h) := am_conX (by decide +kernel) (Nat.le_of_ble_eq_true rfl) (by
  unfold f_L_news
  refine sim_aload_n dL_news_0 rfl ?_
  refine sim_iconst (0) dL_news_1 (by decide +kernel) ?_
  refine sim_aload_n dL_news_2 rfl ?_
  refine sim_iload_n dL_news_3 rfl ?_
  refine sim_ao1 (fun a3 e => ?_)
  refine sim_virt (d - 1) e dL_news_4 (k_X10_news (d - 1) (by omega) _ _ _) q_X10_news rfl rfl wm_RL_126 rfl rfl (by omega) (Nat.le_of_ble_eq_true rfl) am_nIx (am_rIx fun h1 v2 => ?_) (am_eIx fun h9 k9 => ?_)
  · refine sim_i2l dL_news_7 ?_
    refine sim_sL dL_news_8 (fun h6 => ?_)
    refine sim_goto 15 dL_news_9 (by decide) ?_
    refine sim_iconst (0) dL_news_15 (by decide +kernel) ?_
    exact sim_iret dL_news_16 rfl
  · refine simx_case (fun cx => ?_) (fun cx => ?_)
    · subst cx
      refine simx_catch [] (0, 9, 12, 21) [] rfl ⟨by decide, by decide⟩ (by decide) wx_RL_21 wca_0 (by decide) (fun z hz => by cases hz) ?_
      refine sim_astore_n dL_news_12 (Nat.le_of_ble_eq_true rfl) ?_
      refine sim_iconst (1) dL_news_13 (by decide +kernel) ?_
      exact sim_iret dL_news_14 rfl
    exact simx_none)
theorem q_L_news : am_Cal m_L_news 3 0 := ⟨am_mem 1066 (w := Cond.codeWith yL_news cL_news 4 (some .int) [(0, 9, 12, 21)]) (by decide +kernel) rfl, am_mem 55 (w := Cond.initialized RL) (by decide +kernel) rfl, fun _ => am_mem 1065 (w := Cond.static yL_news) (by decide +kernel) rfl, fun z => absurd rfl z, fun z => absurd z (by decide), fun z => absurd z (by decide), by decide +kernel, by decide +kernel, Nat.le_of_ble_eq_true rfl⟩
theorem dX10_countFiledUnder_0 : decode cX10_countFiledUnder 0 = .ok (.iconst 0, 1) := by decide +kernel
theorem dX10_countFiledUnder_1 : decode cX10_countFiledUnder 1 = .ok (.istore_n 2, 1) := by decide +kernel
theorem dX10_countFiledUnder_2 : decode cX10_countFiledUnder 2 = .ok (.iconst 0, 1) := by decide +kernel
theorem dX10_countFiledUnder_3 : decode cX10_countFiledUnder 3 = .ok (.istore_n 3, 1) := by decide +kernel
theorem dX10_countFiledUnder_4 : decode cX10_countFiledUnder 4 = .ok (.iload_n 3, 1) := by decide +kernel
theorem dX10_countFiledUnder_5 : decode cX10_countFiledUnder 5 = .ok (.aload_n 0, 1) := by decide +kernel
theorem dX10_countFiledUnder_6 : decode cX10_countFiledUnder 6 = .ok (.getfield 104, 3) := by decide +kernel
theorem dX10_countFiledUnder_9 : decode cX10_countFiledUnder 9 = .ok (.if_icmp .ge 33, 3) := by decide +kernel
theorem dX10_countFiledUnder_12 : decode cX10_countFiledUnder 12 = .ok (.iload_n 2, 1) := by decide +kernel
theorem dX10_countFiledUnder_13 : decode cX10_countFiledUnder 13 = .ok (.aload_n 0, 1) := by decide +kernel
theorem dX10_countFiledUnder_14 : decode cX10_countFiledUnder 14 = .ok (.getfield 21, 3) := by decide +kernel
theorem dX10_countFiledUnder_17 : decode cX10_countFiledUnder 17 = .ok (.iload_n 3, 1) := by decide +kernel
theorem dX10_countFiledUnder_18 : decode cX10_countFiledUnder 18 = .ok (.aaload, 1) := by decide +kernel
theorem dX10_countFiledUnder_19 : decode cX10_countFiledUnder 19 = .ok (.getfield 388, 3) := by decide +kernel
theorem dX10_countFiledUnder_22 : decode cX10_countFiledUnder 22 = .ok (.iload_n 1, 1) := by decide +kernel
theorem dX10_countFiledUnder_23 : decode cX10_countFiledUnder 23 = .ok (.invokestatic 91, 3) := by decide +kernel
theorem dX10_countFiledUnder_26 : decode cX10_countFiledUnder 26 = .ok (.ifCond .eq 7, 3) := by decide +kernel
theorem dX10_countFiledUnder_29 : decode cX10_countFiledUnder 29 = .ok (.iconst 1, 1) := by decide +kernel
theorem dX10_countFiledUnder_30 : decode cX10_countFiledUnder 30 = .ok (.goto 4, 3) := by decide +kernel
theorem dX10_countFiledUnder_33 : decode cX10_countFiledUnder 33 = .ok (.iconst 0, 1) := by decide +kernel
theorem dX10_countFiledUnder_34 : decode cX10_countFiledUnder 34 = .ok (.iadd, 1) := by decide +kernel
theorem dX10_countFiledUnder_35 : decode cX10_countFiledUnder 35 = .ok (.istore_n 2, 1) := by decide +kernel
theorem dX10_countFiledUnder_36 : decode cX10_countFiledUnder 36 = .ok (.iinc 3 1, 3) := by decide +kernel
theorem dX10_countFiledUnder_39 : decode cX10_countFiledUnder 39 = .ok (.goto (-35), 3) := by decide +kernel
theorem dX10_countFiledUnder_42 : decode cX10_countFiledUnder 42 = .ok (.iload_n 2, 1) := by decide +kernel
theorem dX10_countFiledUnder_43 : decode cX10_countFiledUnder 43 = .ok (.ireturn, 1) := by decide +kernel
abbrev m_X10_countFiledUnder : am_M := (yX10_countFiledUnder, cX10_countFiledUnder, 4, some .int, [])
def f_X10_countFiledUnder_34 (rc4 : Nat × Nat → Int32 → Int32 → Int32 → am_H → am_R) (a0 : Nat × Nat) (x1 : Int32) (x3 : Int32) (s0 : Int32) (s1 : Int32) (h : am_H) : am_R := rc4 a0 x1 (s1 + s0) (x3 + 1) h
theorem t_X10_countFiledUnder_34 (d : Nat) (hd : 1 ≤ d) (rc4 : Nat × Nat → Int32 → Int32 → Int32 → am_H → am_R) (hrc4 : ∀ a0 x1 x2 x3 h, Sim m_X10_countFiledUnder d 4 [some (.inr (.inr (some a0))), some (.inl x1), some (.inl x2), some (.inl x3)] [] h (rc4 a0 x1 x2 x3 h)) (a0 : Nat × Nat) (x1 : Int32) (x3 : Int32) (s0 : Int32) (s1 : Int32) (h : am_H) : Sim m_X10_countFiledUnder d 34 [some (.inr (.inr (some a0))), some (.inl x1), none, some (.inl x3)] [.inl s0, .inl s1] h (f_X10_countFiledUnder_34 rc4 a0 x1 x3 s0 s1 h) := by
  unfold f_X10_countFiledUnder_34
  refine sim_iadd dX10_countFiledUnder_34 ?_
  refine sim_istore_n dX10_countFiledUnder_35 (Nat.le_of_ble_eq_true rfl) ?_
  refine sim_iinc (1) dX10_countFiledUnder_36 rfl (by decide +kernel) (Nat.le_of_ble_eq_true rfl) ?_
  refine sim_goto 4 dX10_countFiledUnder_39 (by decide) ?_
  exact sim_lv (am_leS (am_leS (am_leS (am_leS am_leT)))) (hrc4 _ _ _ _ _)
def f_X10_countFiledUnder_4  : Nat → Nat × Nat → Int32 → Int32 → Int32 → am_H → am_R
  | 0, _, _, _, _, _ => none
  | n + 1, a0, x1, x2, x3, h => m_gI (some a0) 10 4 h fun v1 => if v1 ≤ x3 then (m_ri h x2) else (m_gR (some a0) 10 3 h fun o2 => m_aR o2 5 x3 h fun o3 => m_gI o3 9 8 h fun v4 => m_bI (f_X10_has v4 x1 h) fun h5 v6 => if v6 = 0 then (f_X10_countFiledUnder_34 (f_X10_countFiledUnder_4  n) a0 x1 x3 (0 : Int32) x2 h5) else (f_X10_countFiledUnder_34 (f_X10_countFiledUnder_4  n) a0 x1 x3 (1 : Int32) x2 h5))
theorem t_X10_countFiledUnder_4 (d : Nat) (hd : 1 ≤ d)  : ∀ (n : Nat) (a0 : Nat × Nat) (x1 : Int32) (x2 : Int32) (x3 : Int32) (h : am_H), Sim m_X10_countFiledUnder d 4 [some (.inr (.inr (some a0))), some (.inl x1), some (.inl x2), some (.inl x3)] [] h (f_X10_countFiledUnder_4  n a0 x1 x2 x3 h) := by
  intro n
  induction n with
  | zero => intros; exact sim_none
  | succ n hrc4 =>
    intro a0 x1 x2 x3 h
    rw [f_X10_countFiledUnder_4]
    refine sim_iload_n dX10_countFiledUnder_4 rfl ?_
    refine sim_aload_n dX10_countFiledUnder_5 rfl ?_
    refine sim_gI 10 4 dX10_countFiledUnder_6 rfl wf_RX10_104 (Nat.le_of_ble_eq_true rfl) rfl (fun v1 => ?_)
    refine sim_ic_ge 42 dX10_countFiledUnder_9 (by decide) (fun c => ?_) (fun c => ?_)
    · refine sim_iload_n dX10_countFiledUnder_42 rfl ?_
      exact sim_iret dX10_countFiledUnder_43 rfl
    · refine sim_iload_n dX10_countFiledUnder_12 rfl ?_
      refine sim_aload_n dX10_countFiledUnder_13 rfl ?_
      refine sim_gR 10 3 dX10_countFiledUnder_14 rfl wf_RX10_21 (Nat.le_of_ble_eq_true rfl) rfl (fun o2 => ?_)
      refine sim_iload_n dX10_countFiledUnder_17 rfl ?_
      refine sim_aR 5 rfl dX10_countFiledUnder_18 (fun o3 => ?_)
      refine sim_gI 9 8 dX10_countFiledUnder_19 rfl wf_RX10_388 (Nat.le_of_ble_eq_true rfl) rfl (fun v4 => ?_)
      refine sim_iload_n dX10_countFiledUnder_22 rfl ?_
      refine sim_static (d - 1) dX10_countFiledUnder_23 (k_X10_has (d - 1) (by omega) _ _ _) q_X10_has wm_RX10_91 rfl rfl (by omega) (Nat.le_of_ble_eq_true rfl) am_nI (am_rI fun h5 v6 => ?_) am_eI
      refine sim_if_eq 33 dX10_countFiledUnder_26 (by decide) (fun c => ?_) (fun c => ?_)
      · refine sim_iconst (0) dX10_countFiledUnder_33 (by decide +kernel) ?_
        exact sim_lv (am_leS (am_leS (am_leN (am_leS am_leT)))) (t_X10_countFiledUnder_34 d (by omega) _ hrc4 _ _ _ _ _ _)
      · refine sim_iconst (1) dX10_countFiledUnder_29 (by decide +kernel) ?_
        refine sim_goto 34 dX10_countFiledUnder_30 (by decide) ?_
        exact sim_lv (am_leS (am_leS (am_leN (am_leS am_leT)))) (t_X10_countFiledUnder_34 d (by omega) _ hrc4 _ _ _ _ _ _)
def f_X10_countFiledUnder (a0 : Nat × Nat) (x1 : Int32) (h : am_H) : am_R := f_X10_countFiledUnder_4 5000 a0 x1 (0 : Int32) (0 : Int32) h
theorem k_X10_countFiledUnder (d : Nat) (hd : 1 ≤ d) (a0 : Nat × Nat) (x1 : Int32) (h : am_H) : am_Con m_X10_countFiledUnder d [.inr (.inr (some a0)), .inl x1] h (f_X10_countFiledUnder a0 x1 h) := am_con (by decide +kernel) (Nat.le_of_ble_eq_true rfl) (by
  unfold f_X10_countFiledUnder
  refine sim_iconst (0) dX10_countFiledUnder_0 (by decide +kernel) ?_
  refine sim_istore_n dX10_countFiledUnder_1 (Nat.le_of_ble_eq_true rfl) ?_
  refine sim_iconst (0) dX10_countFiledUnder_2 (by decide +kernel) ?_
  refine sim_istore_n dX10_countFiledUnder_3 (Nat.le_of_ble_eq_true rfl) ?_
  exact sim_lv (am_leS (am_leS (am_leS (am_leS am_leT)))) (t_X10_countFiledUnder_4 d (by omega) _ _ _ _ _ _))
theorem q_X10_countFiledUnder : am_Cal m_X10_countFiledUnder 1 2 := ⟨am_mem 764 (w := Cond.code yX10_countFiledUnder cX10_countFiledUnder 4 (some .int)) (by decide +kernel) rfl, am_mem 56 (w := Cond.initialized RX10) (by decide +kernel) rfl, fun z => absurd z (by decide), fun _ => am_mem 763 (w := Cond.instanceMethod yX10_countFiledUnder) (by decide +kernel) rfl, fun z => absurd z (by decide), fun _ => am_mem 12 (w := Cond.selects RX10 yX10_countFiledUnder yX10_countFiledUnder) (by decide +kernel) rfl, by decide +kernel, by decide +kernel, Nat.le_of_ble_eq_true rfl⟩
theorem dX10_countWith_0 : decode cX10_countWith 0 = .ok (.iconst 0, 1) := by decide +kernel
theorem dX10_countWith_1 : decode cX10_countWith 1 = .ok (.istore_n 2, 1) := by decide +kernel
theorem dX10_countWith_2 : decode cX10_countWith 2 = .ok (.iconst 0, 1) := by decide +kernel
theorem dX10_countWith_3 : decode cX10_countWith 3 = .ok (.istore_n 3, 1) := by decide +kernel
theorem dX10_countWith_4 : decode cX10_countWith 4 = .ok (.iload_n 3, 1) := by decide +kernel
theorem dX10_countWith_5 : decode cX10_countWith 5 = .ok (.aload_n 0, 1) := by decide +kernel
theorem dX10_countWith_6 : decode cX10_countWith 6 = .ok (.getfield 104, 3) := by decide +kernel
theorem dX10_countWith_9 : decode cX10_countWith 9 = .ok (.if_icmp .ge 33, 3) := by decide +kernel
theorem dX10_countWith_12 : decode cX10_countWith 12 = .ok (.iload_n 2, 1) := by decide +kernel
theorem dX10_countWith_13 : decode cX10_countWith 13 = .ok (.aload_n 0, 1) := by decide +kernel
theorem dX10_countWith_14 : decode cX10_countWith 14 = .ok (.getfield 21, 3) := by decide +kernel
theorem dX10_countWith_17 : decode cX10_countWith 17 = .ok (.iload_n 3, 1) := by decide +kernel
theorem dX10_countWith_18 : decode cX10_countWith 18 = .ok (.aaload, 1) := by decide +kernel
theorem dX10_countWith_19 : decode cX10_countWith 19 = .ok (.getfield 234, 3) := by decide +kernel
theorem dX10_countWith_22 : decode cX10_countWith 22 = .ok (.iload_n 1, 1) := by decide +kernel
theorem dX10_countWith_23 : decode cX10_countWith 23 = .ok (.invokestatic 91, 3) := by decide +kernel
theorem dX10_countWith_26 : decode cX10_countWith 26 = .ok (.ifCond .eq 7, 3) := by decide +kernel
theorem dX10_countWith_29 : decode cX10_countWith 29 = .ok (.iconst 1, 1) := by decide +kernel
theorem dX10_countWith_30 : decode cX10_countWith 30 = .ok (.goto 4, 3) := by decide +kernel
theorem dX10_countWith_33 : decode cX10_countWith 33 = .ok (.iconst 0, 1) := by decide +kernel
theorem dX10_countWith_34 : decode cX10_countWith 34 = .ok (.iadd, 1) := by decide +kernel
theorem dX10_countWith_35 : decode cX10_countWith 35 = .ok (.istore_n 2, 1) := by decide +kernel
theorem dX10_countWith_36 : decode cX10_countWith 36 = .ok (.iinc 3 1, 3) := by decide +kernel
theorem dX10_countWith_39 : decode cX10_countWith 39 = .ok (.goto (-35), 3) := by decide +kernel
theorem dX10_countWith_42 : decode cX10_countWith 42 = .ok (.iload_n 2, 1) := by decide +kernel
theorem dX10_countWith_43 : decode cX10_countWith 43 = .ok (.ireturn, 1) := by decide +kernel
abbrev m_X10_countWith : am_M := (yX10_countWith, cX10_countWith, 4, some .int, [])
def f_X10_countWith_34 (rc4 : Nat × Nat → Int32 → Int32 → Int32 → am_H → am_R) (a0 : Nat × Nat) (x1 : Int32) (x3 : Int32) (s0 : Int32) (s1 : Int32) (h : am_H) : am_R := rc4 a0 x1 (s1 + s0) (x3 + 1) h
theorem t_X10_countWith_34 (d : Nat) (hd : 1 ≤ d) (rc4 : Nat × Nat → Int32 → Int32 → Int32 → am_H → am_R) (hrc4 : ∀ a0 x1 x2 x3 h, Sim m_X10_countWith d 4 [some (.inr (.inr (some a0))), some (.inl x1), some (.inl x2), some (.inl x3)] [] h (rc4 a0 x1 x2 x3 h)) (a0 : Nat × Nat) (x1 : Int32) (x3 : Int32) (s0 : Int32) (s1 : Int32) (h : am_H) : Sim m_X10_countWith d 34 [some (.inr (.inr (some a0))), some (.inl x1), none, some (.inl x3)] [.inl s0, .inl s1] h (f_X10_countWith_34 rc4 a0 x1 x3 s0 s1 h) := by
  unfold f_X10_countWith_34
  refine sim_iadd dX10_countWith_34 ?_
  refine sim_istore_n dX10_countWith_35 (Nat.le_of_ble_eq_true rfl) ?_
  refine sim_iinc (1) dX10_countWith_36 rfl (by decide +kernel) (Nat.le_of_ble_eq_true rfl) ?_
  refine sim_goto 4 dX10_countWith_39 (by decide) ?_
  exact sim_lv (am_leS (am_leS (am_leS (am_leS am_leT)))) (hrc4 _ _ _ _ _)
def f_X10_countWith_4  : Nat → Nat × Nat → Int32 → Int32 → Int32 → am_H → am_R
  | 0, _, _, _, _, _ => none
  | n + 1, a0, x1, x2, x3, h => m_gI (some a0) 10 4 h fun v1 => if v1 ≤ x3 then (m_ri h x2) else (m_gR (some a0) 10 3 h fun o2 => m_aR o2 5 x3 h fun o3 => m_gI o3 9 7 h fun v4 => m_bI (f_X10_has v4 x1 h) fun h5 v6 => if v6 = 0 then (f_X10_countWith_34 (f_X10_countWith_4  n) a0 x1 x3 (0 : Int32) x2 h5) else (f_X10_countWith_34 (f_X10_countWith_4  n) a0 x1 x3 (1 : Int32) x2 h5))
theorem t_X10_countWith_4 (d : Nat) (hd : 1 ≤ d)  : ∀ (n : Nat) (a0 : Nat × Nat) (x1 : Int32) (x2 : Int32) (x3 : Int32) (h : am_H), Sim m_X10_countWith d 4 [some (.inr (.inr (some a0))), some (.inl x1), some (.inl x2), some (.inl x3)] [] h (f_X10_countWith_4  n a0 x1 x2 x3 h) := by
  intro n
  induction n with
  | zero => intros; exact sim_none
  | succ n hrc4 =>
    intro a0 x1 x2 x3 h
    rw [f_X10_countWith_4]
    refine sim_iload_n dX10_countWith_4 rfl ?_
    refine sim_aload_n dX10_countWith_5 rfl ?_
    refine sim_gI 10 4 dX10_countWith_6 rfl wf_RX10_104 (Nat.le_of_ble_eq_true rfl) rfl (fun v1 => ?_)
    refine sim_ic_ge 42 dX10_countWith_9 (by decide) (fun c => ?_) (fun c => ?_)
    · refine sim_iload_n dX10_countWith_42 rfl ?_
      exact sim_iret dX10_countWith_43 rfl
    · refine sim_iload_n dX10_countWith_12 rfl ?_
      refine sim_aload_n dX10_countWith_13 rfl ?_
      refine sim_gR 10 3 dX10_countWith_14 rfl wf_RX10_21 (Nat.le_of_ble_eq_true rfl) rfl (fun o2 => ?_)
      refine sim_iload_n dX10_countWith_17 rfl ?_
      refine sim_aR 5 rfl dX10_countWith_18 (fun o3 => ?_)
      refine sim_gI 9 7 dX10_countWith_19 rfl wf_RX10_234 (Nat.le_of_ble_eq_true rfl) rfl (fun v4 => ?_)
      refine sim_iload_n dX10_countWith_22 rfl ?_
      refine sim_static (d - 1) dX10_countWith_23 (k_X10_has (d - 1) (by omega) _ _ _) q_X10_has wm_RX10_91 rfl rfl (by omega) (Nat.le_of_ble_eq_true rfl) am_nI (am_rI fun h5 v6 => ?_) am_eI
      refine sim_if_eq 33 dX10_countWith_26 (by decide) (fun c => ?_) (fun c => ?_)
      · refine sim_iconst (0) dX10_countWith_33 (by decide +kernel) ?_
        exact sim_lv (am_leS (am_leS (am_leN (am_leS am_leT)))) (t_X10_countWith_34 d (by omega) _ hrc4 _ _ _ _ _ _)
      · refine sim_iconst (1) dX10_countWith_29 (by decide +kernel) ?_
        refine sim_goto 34 dX10_countWith_30 (by decide) ?_
        exact sim_lv (am_leS (am_leS (am_leN (am_leS am_leT)))) (t_X10_countWith_34 d (by omega) _ hrc4 _ _ _ _ _ _)
def f_X10_countWith (a0 : Nat × Nat) (x1 : Int32) (h : am_H) : am_R := f_X10_countWith_4 5000 a0 x1 (0 : Int32) (0 : Int32) h
theorem k_X10_countWith (d : Nat) (hd : 1 ≤ d) (a0 : Nat × Nat) (x1 : Int32) (h : am_H) : am_Con m_X10_countWith d [.inr (.inr (some a0)), .inl x1] h (f_X10_countWith a0 x1 h) := am_con (by decide +kernel) (Nat.le_of_ble_eq_true rfl) (by
  unfold f_X10_countWith
  refine sim_iconst (0) dX10_countWith_0 (by decide +kernel) ?_
  refine sim_istore_n dX10_countWith_1 (Nat.le_of_ble_eq_true rfl) ?_
  refine sim_iconst (0) dX10_countWith_2 (by decide +kernel) ?_
  refine sim_istore_n dX10_countWith_3 (Nat.le_of_ble_eq_true rfl) ?_
  exact sim_lv (am_leS (am_leS (am_leS (am_leS am_leT)))) (t_X10_countWith_4 d (by omega) _ _ _ _ _ _))
theorem q_X10_countWith : am_Cal m_X10_countWith 1 2 := ⟨am_mem 760 (w := Cond.code yX10_countWith cX10_countWith 4 (some .int)) (by decide +kernel) rfl, am_mem 56 (w := Cond.initialized RX10) (by decide +kernel) rfl, fun z => absurd z (by decide), fun _ => am_mem 759 (w := Cond.instanceMethod yX10_countWith) (by decide +kernel) rfl, fun z => absurd z (by decide), fun _ => am_mem 11 (w := Cond.selects RX10 yX10_countWith yX10_countWith) (by decide +kernel) rfl, by decide +kernel, by decide +kernel, Nat.le_of_ble_eq_true rfl⟩
theorem dX7_aboveOf_0 : decode cX7_aboveOf 0 = .ok (.aload_n 0, 1) := by decide +kernel
theorem dX7_aboveOf_1 : decode cX7_aboveOf 1 = .ok (.getfield 18, 3) := by decide +kernel
theorem dX7_aboveOf_4 : decode cX7_aboveOf 4 = .ok (.iload_n 1, 1) := by decide +kernel
theorem dX7_aboveOf_5 : decode cX7_aboveOf 5 = .ok (.iaload, 1) := by decide +kernel
theorem dX7_aboveOf_6 : decode cX7_aboveOf 6 = .ok (.ireturn, 1) := by decide +kernel
abbrev m_X7_aboveOf : am_M := (yX7_aboveOf, cX7_aboveOf, 2, some .int, [])
def f_X7_aboveOf (a0 : Nat × Nat) (x1 : Int32) (h : am_H) : am_R := m_gR (some a0) 7 3 h fun o1 => m_aI o1 0 x1 h fun v2 => m_ri h v2
theorem k_X7_aboveOf (d : Nat) (hd : 0 ≤ d) (a0 : Nat × Nat) (x1 : Int32) (h : am_H) : am_Con m_X7_aboveOf d [.inr (.inr (some a0)), .inl x1] h (f_X7_aboveOf a0 x1 h) := am_con (by decide +kernel) (Nat.le_of_ble_eq_true rfl) (by
  unfold f_X7_aboveOf
  refine sim_aload_n dX7_aboveOf_0 rfl ?_
  refine sim_gR 7 3 dX7_aboveOf_1 rfl wf_RX7_18 (Nat.le_of_ble_eq_true rfl) rfl (fun o1 => ?_)
  refine sim_iload_n dX7_aboveOf_4 rfl ?_
  refine sim_aI dX7_aboveOf_5 (fun v2 => ?_)
  exact sim_iret dX7_aboveOf_6 rfl)
theorem q_X7_aboveOf : am_Cal m_X7_aboveOf 1 2 := ⟨am_mem 756 (w := Cond.code yX7_aboveOf cX7_aboveOf 2 (some .int)) (by decide +kernel) rfl, am_mem 57 (w := Cond.initialized RX7) (by decide +kernel) rfl, fun z => absurd z (by decide), fun _ => am_mem 754 (w := Cond.instanceMethod yX7_aboveOf) (by decide +kernel) rfl, fun z => absurd z (by decide), fun _ => am_mem 755 (w := Cond.selects RX7 yX7_aboveOf yX7_aboveOf) (by decide +kernel) rfl, by decide +kernel, by decide +kernel, Nat.le_of_ble_eq_true rfl⟩
theorem dX7_meaningOf_0 : decode cX7_meaningOf 0 = .ok (.aload_n 0, 1) := by decide +kernel
theorem dX7_meaningOf_1 : decode cX7_meaningOf 1 = .ok (.getfield 9, 3) := by decide +kernel
theorem dX7_meaningOf_4 : decode cX7_meaningOf 4 = .ok (.iload_n 1, 1) := by decide +kernel
theorem dX7_meaningOf_5 : decode cX7_meaningOf 5 = .ok (.iaload, 1) := by decide +kernel
theorem dX7_meaningOf_6 : decode cX7_meaningOf 6 = .ok (.ireturn, 1) := by decide +kernel
abbrev m_X7_meaningOf : am_M := (yX7_meaningOf, cX7_meaningOf, 2, some .int, [])
def f_X7_meaningOf (a0 : Nat × Nat) (x1 : Int32) (h : am_H) : am_R := m_gR (some a0) 7 1 h fun o1 => m_aI o1 0 x1 h fun v2 => m_ri h v2
theorem k_X7_meaningOf (d : Nat) (hd : 0 ≤ d) (a0 : Nat × Nat) (x1 : Int32) (h : am_H) : am_Con m_X7_meaningOf d [.inr (.inr (some a0)), .inl x1] h (f_X7_meaningOf a0 x1 h) := am_con (by decide +kernel) (Nat.le_of_ble_eq_true rfl) (by
  unfold f_X7_meaningOf
  refine sim_aload_n dX7_meaningOf_0 rfl ?_
  refine sim_gR 7 1 dX7_meaningOf_1 rfl wf_RX7_9 (Nat.le_of_ble_eq_true rfl) rfl (fun o1 => ?_)
  refine sim_iload_n dX7_meaningOf_4 rfl ?_
  refine sim_aI dX7_meaningOf_5 (fun v2 => ?_)
  exact sim_iret dX7_meaningOf_6 rfl)
theorem q_X7_meaningOf : am_Cal m_X7_meaningOf 1 2 := ⟨am_mem 752 (w := Cond.code yX7_meaningOf cX7_meaningOf 2 (some .int)) (by decide +kernel) rfl, am_mem 57 (w := Cond.initialized RX7) (by decide +kernel) rfl, fun z => absurd z (by decide), fun _ => am_mem 750 (w := Cond.instanceMethod yX7_meaningOf) (by decide +kernel) rfl, fun z => absurd z (by decide), fun _ => am_mem 751 (w := Cond.selects RX7 yX7_meaningOf yX7_meaningOf) (by decide +kernel) rfl, by decide +kernel, by decide +kernel, Nat.le_of_ble_eq_true rfl⟩
theorem dX10_ofTag_0 : decode cX10_ofTag 0 = .ok (.aload_n 0, 1) := by decide +kernel
theorem dX10_ofTag_1 : decode cX10_ofTag 1 = .ok (.iload_n 1, 1) := by decide +kernel
theorem dX10_ofTag_2 : decode cX10_ofTag 2 = .ok (.invokevirtual 189, 3) := by decide +kernel
theorem dX10_ofTag_5 : decode cX10_ofTag 5 = .ok (.iload_n 2, 1) := by decide +kernel
theorem dX10_ofTag_6 : decode cX10_ofTag 6 = .ok (.tableswitch 73 0 4 #[34, 43, 52, 61, 67], 34) := by decide +kernel
theorem dX10_ofTag_40 : decode cX10_ofTag 40 = .ok (.aload_n 0, 1) := by decide +kernel
theorem dX10_ofTag_41 : decode cX10_ofTag 41 = .ok (.getfield 34, 3) := by decide +kernel
theorem dX10_ofTag_44 : decode cX10_ofTag 44 = .ok (.iload_n 1, 1) := by decide +kernel
theorem dX10_ofTag_45 : decode cX10_ofTag 45 = .ok (.invokevirtual 192, 3) := by decide +kernel
theorem dX10_ofTag_48 : decode cX10_ofTag 48 = .ok (.ireturn, 1) := by decide +kernel
theorem dX10_ofTag_49 : decode cX10_ofTag 49 = .ok (.aload_n 0, 1) := by decide +kernel
theorem dX10_ofTag_50 : decode cX10_ofTag 50 = .ok (.getfield 34, 3) := by decide +kernel
theorem dX10_ofTag_53 : decode cX10_ofTag 53 = .ok (.iload_n 1, 1) := by decide +kernel
theorem dX10_ofTag_54 : decode cX10_ofTag 54 = .ok (.invokevirtual 220, 3) := by decide +kernel
theorem dX10_ofTag_57 : decode cX10_ofTag 57 = .ok (.ireturn, 1) := by decide +kernel
theorem dX10_ofTag_58 : decode cX10_ofTag 58 = .ok (.aload_n 0, 1) := by decide +kernel
theorem dX10_ofTag_59 : decode cX10_ofTag 59 = .ok (.getfield 34, 3) := by decide +kernel
theorem dX10_ofTag_62 : decode cX10_ofTag 62 = .ok (.iload_n 1, 1) := by decide +kernel
theorem dX10_ofTag_63 : decode cX10_ofTag 63 = .ok (.invokevirtual 223, 3) := by decide +kernel
theorem dX10_ofTag_66 : decode cX10_ofTag 66 = .ok (.ireturn, 1) := by decide +kernel
theorem dX10_ofTag_67 : decode cX10_ofTag 67 = .ok (.aload_n 0, 1) := by decide +kernel
theorem dX10_ofTag_68 : decode cX10_ofTag 68 = .ok (.iload_n 1, 1) := by decide +kernel
theorem dX10_ofTag_69 : decode cX10_ofTag 69 = .ok (.invokevirtual 226, 3) := by decide +kernel
theorem dX10_ofTag_72 : decode cX10_ofTag 72 = .ok (.ireturn, 1) := by decide +kernel
theorem dX10_ofTag_73 : decode cX10_ofTag 73 = .ok (.aload_n 0, 1) := by decide +kernel
theorem dX10_ofTag_74 : decode cX10_ofTag 74 = .ok (.iload_n 1, 1) := by decide +kernel
theorem dX10_ofTag_75 : decode cX10_ofTag 75 = .ok (.invokevirtual 229, 3) := by decide +kernel
theorem dX10_ofTag_78 : decode cX10_ofTag 78 = .ok (.ireturn, 1) := by decide +kernel
theorem dX10_ofTag_79 : decode cX10_ofTag 79 = .ok (.new 66, 3) := by decide +kernel
theorem dX10_ofTag_82 : decode cX10_ofTag 82 = .ok (.dup, 1) := by decide +kernel
theorem dX10_ofTag_83 : decode cX10_ofTag 83 = .ok (.ldc 232, 2) := by decide +kernel
theorem dX10_ofTag_85 : decode cX10_ofTag 85 = .ok (.invokespecial 70, 3) := by decide +kernel
theorem dX10_ofTag_88 : decode cX10_ofTag 88 = .ok (.athrow, 1) := by decide +kernel
abbrev m_X10_ofTag : am_M := (yX10_ofTag, cX10_ofTag, 3, some .int, [])
def f_X10_ofTag (a0 : Nat × Nat) (x1 : Int32) (x2 : Int32) (h : am_H) : am_R := m_ao (some a0) 10 fun a3 => m_bV (f_X10_checkTag a3 x1 h) fun h1 => if x2 = 0 then (m_gR (some a0) 10 7 h1 fun o4 => m_ao o4 7 fun a7 => m_bI (f_X7_kindOf a7 x1 h1) fun h5 v6 => m_ri h5 v6) else if x2 = 1 then (m_gR (some a0) 10 7 h1 fun o8 => m_ao o8 7 fun a11 => m_bI (f_X7_meaningOf a11 x1 h1) fun h9 v10 => m_ri h9 v10) else if x2 = 2 then (m_gR (some a0) 10 7 h1 fun o12 => m_ao o12 7 fun a15 => m_bI (f_X7_aboveOf a15 x1 h1) fun h13 v14 => m_ri h13 v14) else if x2 = 3 then (m_ao (some a0) 10 fun a18 => m_bI (f_X10_countWith a18 x1 h1) fun h16 v17 => m_ri h16 v17) else if x2 = 4 then (m_ao (some a0) 10 fun a21 => m_bI (f_X10_countFiledUnder a21 x1 h1) fun h19 v20 => m_ri h19 v20) else (m_ex h1 1)
theorem k_X10_ofTag (d : Nat) (hd : 7 ≤ d) (a0 : Nat × Nat) (x1 : Int32) (x2 : Int32) (h : am_H) : am_Con m_X10_ofTag d [.inr (.inr (some a0)), .inl x1, .inl x2] h (f_X10_ofTag a0 x1 x2 h) := am_con (by decide +kernel) (Nat.le_of_ble_eq_true rfl) (by
  unfold f_X10_ofTag
  refine sim_aload_n dX10_ofTag_0 rfl ?_
  refine sim_iload_n dX10_ofTag_1 rfl ?_
  refine sim_ao1 (fun a3 e => ?_)
  refine sim_virt (d - 1) e dX10_ofTag_2 (k_X10_checkTag (d - 1) (by omega) _ _ _) q_X10_checkTag rfl rfl wm_RX10_189 rfl rfl (by omega) (Nat.le_of_ble_eq_true rfl) am_nV (am_rV fun h1 => ?_) am_eV
  refine sim_iload_n dX10_ofTag_5 rfl ?_
  refine sim_case (fun c6_0 => ?_) (fun c6_0 => ?_)
  · refine sim_tableIn (off := 34) (0) 40 c6_0 dX10_ofTag_6 (by decide +kernel) (by decide +kernel) (by decide +kernel) (by decide) ?_
    refine sim_aload_n dX10_ofTag_40 rfl ?_
    refine sim_gR 10 7 dX10_ofTag_41 rfl wf_RX10_34 (Nat.le_of_ble_eq_true rfl) rfl (fun o4 => ?_)
    refine sim_iload_n dX10_ofTag_44 rfl ?_
    refine sim_ao1 (fun a7 e => ?_)
    refine sim_virt (d - 1) e dX10_ofTag_45 (k_X7_kindOf (d - 1) (by omega) _ _ _) q_X7_kindOf rfl rfl wm_RX10_192 rfl rfl (by omega) (Nat.le_of_ble_eq_true rfl) am_nI (am_rI fun h5 v6 => ?_) am_eI
    exact sim_iret dX10_ofTag_48 rfl
  refine sim_case (fun c6_1 => ?_) (fun c6_1 => ?_)
  · refine sim_tableIn (off := 43) (1) 49 c6_1 dX10_ofTag_6 (by decide +kernel) (by decide +kernel) (by decide +kernel) (by decide) ?_
    refine sim_aload_n dX10_ofTag_49 rfl ?_
    refine sim_gR 10 7 dX10_ofTag_50 rfl wf_RX10_34 (Nat.le_of_ble_eq_true rfl) rfl (fun o8 => ?_)
    refine sim_iload_n dX10_ofTag_53 rfl ?_
    refine sim_ao1 (fun a11 e => ?_)
    refine sim_virt (d - 1) e dX10_ofTag_54 (k_X7_meaningOf (d - 1) (by omega) _ _ _) q_X7_meaningOf rfl rfl wm_RX10_220 rfl rfl (by omega) (Nat.le_of_ble_eq_true rfl) am_nI (am_rI fun h9 v10 => ?_) am_eI
    exact sim_iret dX10_ofTag_57 rfl
  refine sim_case (fun c6_2 => ?_) (fun c6_2 => ?_)
  · refine sim_tableIn (off := 52) (2) 58 c6_2 dX10_ofTag_6 (by decide +kernel) (by decide +kernel) (by decide +kernel) (by decide) ?_
    refine sim_aload_n dX10_ofTag_58 rfl ?_
    refine sim_gR 10 7 dX10_ofTag_59 rfl wf_RX10_34 (Nat.le_of_ble_eq_true rfl) rfl (fun o12 => ?_)
    refine sim_iload_n dX10_ofTag_62 rfl ?_
    refine sim_ao1 (fun a15 e => ?_)
    refine sim_virt (d - 1) e dX10_ofTag_63 (k_X7_aboveOf (d - 1) (by omega) _ _ _) q_X7_aboveOf rfl rfl wm_RX10_223 rfl rfl (by omega) (Nat.le_of_ble_eq_true rfl) am_nI (am_rI fun h13 v14 => ?_) am_eI
    exact sim_iret dX10_ofTag_66 rfl
  refine sim_case (fun c6_3 => ?_) (fun c6_3 => ?_)
  · refine sim_tableIn (off := 61) (3) 67 c6_3 dX10_ofTag_6 (by decide +kernel) (by decide +kernel) (by decide +kernel) (by decide) ?_
    refine sim_aload_n dX10_ofTag_67 rfl ?_
    refine sim_iload_n dX10_ofTag_68 rfl ?_
    refine sim_ao1 (fun a18 e => ?_)
    refine sim_virt (d - 1) e dX10_ofTag_69 (k_X10_countWith (d - 1) (by omega) _ _ _) q_X10_countWith rfl rfl wm_RX10_226 rfl rfl (by omega) (Nat.le_of_ble_eq_true rfl) am_nI (am_rI fun h16 v17 => ?_) am_eI
    exact sim_iret dX10_ofTag_72 rfl
  refine sim_case (fun c6_4 => ?_) (fun c6_4 => ?_)
  · refine sim_tableIn (off := 67) (4) 73 c6_4 dX10_ofTag_6 (by decide +kernel) (by decide +kernel) (by decide +kernel) (by decide) ?_
    refine sim_aload_n dX10_ofTag_73 rfl ?_
    refine sim_iload_n dX10_ofTag_74 rfl ?_
    refine sim_ao1 (fun a21 e => ?_)
    refine sim_virt (d - 1) e dX10_ofTag_75 (k_X10_countFiledUnder (d - 1) (by omega) _ _ _) q_X10_countFiledUnder rfl rfl wm_RX10_229 rfl rfl (by omega) (Nat.le_of_ble_eq_true rfl) am_nI (am_rI fun h19 v20 => ?_) am_eI
    exact sim_iret dX10_ofTag_78 rfl
  refine sim_tableOut 79 dX10_ofTag_6 ((am_out (N := 5) (by decide) (lt_s (lt_s (lt_s (lt_s (lt_s lt_0 c6_0) c6_1) c6_2) c6_3) c6_4)).imp id (fun z => by omega)) (by decide) ?_
  exact sim_throw 1 (by decide) dX10_ofTag_79 dX10_ofTag_82 dX10_ofTag_83 dX10_ofTag_85 dX10_ofTag_88 wx_RX10_66 wy_1 ws_RX10_232 at_RX10_70 gd_RX10_70 (by omega) (Nat.le_of_ble_eq_true rfl))
theorem q_X10_ofTag : am_Cal m_X10_ofTag 2 2 := ⟨am_mem 748 (w := Cond.code yX10_ofTag cX10_ofTag 3 (some .int)) (by decide +kernel) rfl, am_mem 56 (w := Cond.initialized RX10) (by decide +kernel) rfl, fun z => absurd z (by decide), fun _ => am_mem 746 (w := Cond.instanceMethod yX10_ofTag) (by decide +kernel) rfl, fun z => absurd z (by decide), fun _ => am_mem 747 (w := Cond.selects RX10 yX10_ofTag yX10_ofTag) (by decide +kernel) rfl, by decide +kernel, by decide +kernel, Nat.le_of_ble_eq_true rfl⟩
theorem dL_ofTag_0 : decode cL_ofTag 0 = .ok (.aload_n 3, 1) := by decide +kernel
theorem dL_ofTag_1 : decode cL_ofTag 1 = .ok (.iconst 0, 1) := by decide +kernel
theorem dL_ofTag_2 : decode cL_ofTag 2 = .ok (.aload_n 0, 1) := by decide +kernel
theorem dL_ofTag_3 : decode cL_ofTag 3 = .ok (.iload_n 1, 1) := by decide +kernel
theorem dL_ofTag_4 : decode cL_ofTag 4 = .ok (.iload_n 2, 1) := by decide +kernel
theorem dL_ofTag_5 : decode cL_ofTag 5 = .ok (.invokevirtual 73, 3) := by decide +kernel
theorem dL_ofTag_8 : decode cL_ofTag 8 = .ok (.i2l, 1) := by decide +kernel
theorem dL_ofTag_9 : decode cL_ofTag 9 = .ok (.lastore, 1) := by decide +kernel
theorem dL_ofTag_10 : decode cL_ofTag 10 = .ok (.goto 11, 3) := by decide +kernel
theorem dL_ofTag_13 : decode cL_ofTag 13 = .ok (.astore 4, 2) := by decide +kernel
theorem dL_ofTag_15 : decode cL_ofTag 15 = .ok (.iconst 1, 1) := by decide +kernel
theorem dL_ofTag_16 : decode cL_ofTag 16 = .ok (.ireturn, 1) := by decide +kernel
theorem dL_ofTag_17 : decode cL_ofTag 17 = .ok (.astore 4, 2) := by decide +kernel
theorem dL_ofTag_19 : decode cL_ofTag 19 = .ok (.iconst 2, 1) := by decide +kernel
theorem dL_ofTag_20 : decode cL_ofTag 20 = .ok (.ireturn, 1) := by decide +kernel
theorem dL_ofTag_21 : decode cL_ofTag 21 = .ok (.iconst 0, 1) := by decide +kernel
theorem dL_ofTag_22 : decode cL_ofTag 22 = .ok (.ireturn, 1) := by decide +kernel
abbrev m_L_ofTag : am_M := (yL_ofTag, cL_ofTag, 5, some .int, [(0, 10, 13, 21), (0, 10, 17, 13)])
def f_L_ofTag (x0 : Option (Nat × Nat)) (x1 : Int32) (x2 : Int32) (x3 : Option (Nat × Nat)) (h : am_H) : am_R := m_ao x0 10 fun a3 => m_bIx (f_X10_ofTag a3 x1 x2 h) (fun h1 v2 => m_sL x3 (0 : Int32) (Int32.toInt64 v2) h1 fun h6 => m_ri h6 (0 : Int32)) (fun h4 e5 => if e5 = 0 then (m_ri h4 (1 : Int32)) else if e5 = 1 then (m_ri h4 (2 : Int32)) else none)
theorem k_L_ofTag (d : Nat) (hd : 8 ≤ d) (x0 : Option (Nat × Nat)) (x1 : Int32) (x2 : Int32) (x3 : Option (Nat × Nat)) (h : am_H) : am_Con m_L_ofTag d [.inr (.inr x0), .inl x1, .inl x2, .inr (.inr x3)] h (f_L_ofTag x0 x1 x2 x3 h) := am_conX (by decide +kernel) (Nat.le_of_ble_eq_true rfl) (by
  unfold f_L_ofTag
  refine sim_aload_n dL_ofTag_0 rfl ?_
  refine sim_iconst (0) dL_ofTag_1 (by decide +kernel) ?_
  refine sim_aload_n dL_ofTag_2 rfl ?_
  refine sim_iload_n dL_ofTag_3 rfl ?_
  refine sim_iload_n dL_ofTag_4 rfl ?_
  refine sim_ao2 (fun a3 e => ?_)
  refine sim_virt (d - 1) e dL_ofTag_5 (k_X10_ofTag (d - 1) (by omega) _ _ _ _) q_X10_ofTag rfl rfl wm_RL_73 rfl rfl (by omega) (Nat.le_of_ble_eq_true rfl) am_nIx (am_rIx fun h1 v2 => ?_) (am_eIx fun h9 k9 => ?_)
  · refine sim_i2l dL_ofTag_8 ?_
    refine sim_sL dL_ofTag_9 (fun h6 => ?_)
    refine sim_goto 21 dL_ofTag_10 (by decide) ?_
    refine sim_iconst (0) dL_ofTag_21 (by decide +kernel) ?_
    exact sim_iret dL_ofTag_22 rfl
  · refine simx_case (fun cx => ?_) (fun cx => ?_)
    · subst cx
      refine simx_catch [] (0, 10, 13, 21) [(0, 10, 17, 13)] rfl ⟨by decide, by decide⟩ (by decide) wx_RL_21 wca_0 (by decide) (fun z hz => by cases hz) ?_
      refine sim_astore dL_ofTag_13 (Nat.le_of_ble_eq_true rfl) ?_
      refine sim_iconst (1) dL_ofTag_15 (by decide +kernel) ?_
      exact sim_iret dL_ofTag_16 rfl
    refine simx_case (fun cx => ?_) (fun cx => ?_)
    · subst cx
      refine simx_catch [(0, 10, 13, 21)] (0, 10, 17, 13) [] rfl ⟨by decide, by decide⟩ (by decide) wx_RL_13 wca_1 (by decide) (fun z hz => by simp only [List.mem_cons, List.not_mem_nil, or_false] at hz; subst hz; exact ⟨by decide, 0, _, by decide, by decide, wx_RL_21⟩) ?_
      refine sim_astore dL_ofTag_17 (Nat.le_of_ble_eq_true rfl) ?_
      refine sim_iconst (2) dL_ofTag_19 (by decide +kernel) ?_
      exact sim_iret dL_ofTag_20 rfl
    exact simx_none)
theorem q_L_ofTag : am_Cal m_L_ofTag 4 0 := ⟨am_mem 744 (w := Cond.codeWith yL_ofTag cL_ofTag 5 (some .int) [(0, 10, 13, 21), (0, 10, 17, 13)]) (by decide +kernel) rfl, am_mem 55 (w := Cond.initialized RL) (by decide +kernel) rfl, fun _ => am_mem 743 (w := Cond.static yL_ofTag) (by decide +kernel) rfl, fun z => absurd rfl z, fun z => absurd z (by decide), fun z => absurd z (by decide), by decide +kernel, by decide +kernel, Nat.le_of_ble_eq_true rfl⟩
theorem dX10_owners_0 : decode cX10_owners 0 = .ok (.iload_n 1, 1) := by decide +kernel
theorem dX10_owners_1 : decode cX10_owners 1 = .ok (.invokestatic 99, 3) := by decide +kernel
theorem dX10_owners_4 : decode cX10_owners 4 = .ok (.aload_n 0, 1) := by decide +kernel
theorem dX10_owners_5 : decode cX10_owners 5 = .ok (.iload_n 2, 1) := by decide +kernel
theorem dX10_owners_6 : decode cX10_owners 6 = .ok (.invokevirtual 112, 3) := by decide +kernel
theorem dX10_owners_9 : decode cX10_owners 9 = .ok (.iload_n 1, 1) := by decide +kernel
theorem dX10_owners_10 : decode cX10_owners 10 = .ok (.aload_n 0, 1) := by decide +kernel
theorem dX10_owners_11 : decode cX10_owners 11 = .ok (.getfield 73, 3) := by decide +kernel
theorem dX10_owners_14 : decode cX10_owners 14 = .ok (.invokevirtual 176, 3) := by decide +kernel
theorem dX10_owners_17 : decode cX10_owners 17 = .ok (.ireturn, 1) := by decide +kernel
abbrev m_X10_owners : am_M := (yX10_owners, cX10_owners, 3, some .int, [])
def f_X10_owners (a0 : Nat × Nat) (x1 : Int32) (x2 : Int32) (h : am_H) : am_R := m_bV (f_X10_checkFace x1 h) fun h1 => m_ao (some a0) 10 fun a5 => m_bR (f_X10_workAt a5 x2 h1) fun h3 o4 => m_gI (some a0) 10 0 h3 fun v6 => m_ao o4 9 fun a9 => m_bI (f_X9_ownersToldTo a9 x1 v6 h3) fun h7 v8 => m_ri h7 v8
theorem k_X10_owners (d : Nat) (hd : 8 ≤ d) (a0 : Nat × Nat) (x1 : Int32) (x2 : Int32) (h : am_H) : am_Con m_X10_owners d [.inr (.inr (some a0)), .inl x1, .inl x2] h (f_X10_owners a0 x1 x2 h) := am_con (by decide +kernel) (Nat.le_of_ble_eq_true rfl) (by
  unfold f_X10_owners
  refine sim_iload_n dX10_owners_0 rfl ?_
  refine sim_static (d - 1) dX10_owners_1 (k_X10_checkFace (d - 1) (by omega) _ _) q_X10_checkFace wm_RX10_99 rfl rfl (by omega) (Nat.le_of_ble_eq_true rfl) am_nV (am_rV fun h1 => ?_) am_eV
  refine sim_aload_n dX10_owners_4 rfl ?_
  refine sim_iload_n dX10_owners_5 rfl ?_
  refine sim_ao1 (fun a5 e => ?_)
  refine sim_virt (d - 1) e dX10_owners_6 (k_X10_workAt (d - 1) (by omega) _ _ _) q_X10_workAt rfl rfl wm_RX10_112 rfl rfl (by omega) (Nat.le_of_ble_eq_true rfl) am_nR (am_rR fun h3 o4 => ?_) am_eR
  refine sim_iload_n dX10_owners_9 rfl ?_
  refine sim_aload_n dX10_owners_10 rfl ?_
  refine sim_gI 10 0 dX10_owners_11 rfl wf_RX10_73 (Nat.le_of_ble_eq_true rfl) rfl (fun v6 => ?_)
  refine sim_ao2 (fun a9 e => ?_)
  refine sim_virt (d - 1) e dX10_owners_14 (k_X9_ownersToldTo (d - 1) (by omega) _ _ _ _) q_X9_ownersToldTo rfl rfl wm_RX10_176 rfl rfl (by omega) (Nat.le_of_ble_eq_true rfl) am_nI (am_rI fun h7 v8 => ?_) am_eI
  exact sim_iret dX10_owners_17 rfl)
theorem q_X10_owners : am_Cal m_X10_owners 2 2 := ⟨am_mem 659 (w := Cond.code yX10_owners cX10_owners 3 (some .int)) (by decide +kernel) rfl, am_mem 56 (w := Cond.initialized RX10) (by decide +kernel) rfl, fun z => absurd z (by decide), fun _ => am_mem 657 (w := Cond.instanceMethod yX10_owners) (by decide +kernel) rfl, fun z => absurd z (by decide), fun _ => am_mem 658 (w := Cond.selects RX10 yX10_owners yX10_owners) (by decide +kernel) rfl, by decide +kernel, by decide +kernel, Nat.le_of_ble_eq_true rfl⟩
theorem dL_owners_0 : decode cL_owners 0 = .ok (.aload_n 3, 1) := by decide +kernel
theorem dL_owners_1 : decode cL_owners 1 = .ok (.iconst 0, 1) := by decide +kernel
theorem dL_owners_2 : decode cL_owners 2 = .ok (.aload_n 0, 1) := by decide +kernel
theorem dL_owners_3 : decode cL_owners 3 = .ok (.iload_n 1, 1) := by decide +kernel
theorem dL_owners_4 : decode cL_owners 4 = .ok (.iload_n 2, 1) := by decide +kernel
theorem dL_owners_5 : decode cL_owners 5 = .ok (.invokevirtual 57, 3) := by decide +kernel
theorem dL_owners_8 : decode cL_owners 8 = .ok (.i2l, 1) := by decide +kernel
theorem dL_owners_9 : decode cL_owners 9 = .ok (.lastore, 1) := by decide +kernel
theorem dL_owners_10 : decode cL_owners 10 = .ok (.goto 7, 3) := by decide +kernel
theorem dL_owners_13 : decode cL_owners 13 = .ok (.astore 4, 2) := by decide +kernel
theorem dL_owners_15 : decode cL_owners 15 = .ok (.iconst 1, 1) := by decide +kernel
theorem dL_owners_16 : decode cL_owners 16 = .ok (.ireturn, 1) := by decide +kernel
theorem dL_owners_17 : decode cL_owners 17 = .ok (.iconst 0, 1) := by decide +kernel
theorem dL_owners_18 : decode cL_owners 18 = .ok (.ireturn, 1) := by decide +kernel
abbrev m_L_owners : am_M := (yL_owners, cL_owners, 5, some .int, [(0, 10, 13, 21)])
def f_L_owners (x0 : Option (Nat × Nat)) (x1 : Int32) (x2 : Int32) (x3 : Option (Nat × Nat)) (h : am_H) : am_R := m_ao x0 10 fun a3 => m_bIx (f_X10_owners a3 x1 x2 h) (fun h1 v2 => m_sL x3 (0 : Int32) (Int32.toInt64 v2) h1 fun h6 => m_ri h6 (0 : Int32)) (fun h4 e5 => if e5 = 0 then (m_ri h4 (1 : Int32)) else none)
theorem k_L_owners (d : Nat) (hd : 9 ≤ d) (x0 : Option (Nat × Nat)) (x1 : Int32) (x2 : Int32) (x3 : Option (Nat × Nat)) (h : am_H) : am_Con m_L_owners d [.inr (.inr x0), .inl x1, .inl x2, .inr (.inr x3)] h (f_L_owners x0 x1 x2 x3 h) := am_conX (by decide +kernel) (Nat.le_of_ble_eq_true rfl) (by
  unfold f_L_owners
  refine sim_aload_n dL_owners_0 rfl ?_
  refine sim_iconst (0) dL_owners_1 (by decide +kernel) ?_
  refine sim_aload_n dL_owners_2 rfl ?_
  refine sim_iload_n dL_owners_3 rfl ?_
  refine sim_iload_n dL_owners_4 rfl ?_
  refine sim_ao2 (fun a3 e => ?_)
  refine sim_virt (d - 1) e dL_owners_5 (k_X10_owners (d - 1) (by omega) _ _ _ _) q_X10_owners rfl rfl wm_RL_57 rfl rfl (by omega) (Nat.le_of_ble_eq_true rfl) am_nIx (am_rIx fun h1 v2 => ?_) (am_eIx fun h9 k9 => ?_)
  · refine sim_i2l dL_owners_8 ?_
    refine sim_sL dL_owners_9 (fun h6 => ?_)
    refine sim_goto 17 dL_owners_10 (by decide) ?_
    refine sim_iconst (0) dL_owners_17 (by decide +kernel) ?_
    exact sim_iret dL_owners_18 rfl
  · refine simx_case (fun cx => ?_) (fun cx => ?_)
    · subst cx
      refine simx_catch [] (0, 10, 13, 21) [] rfl ⟨by decide, by decide⟩ (by decide) wx_RL_21 wca_0 (by decide) (fun z hz => by cases hz) ?_
      refine sim_astore dL_owners_13 (Nat.le_of_ble_eq_true rfl) ?_
      refine sim_iconst (1) dL_owners_15 (by decide +kernel) ?_
      exact sim_iret dL_owners_16 rfl
    exact simx_none)
theorem q_L_owners : am_Cal m_L_owners 4 0 := ⟨am_mem 655 (w := Cond.codeWith yL_owners cL_owners 5 (some .int) [(0, 10, 13, 21)]) (by decide +kernel) rfl, am_mem 55 (w := Cond.initialized RL) (by decide +kernel) rfl, fun _ => am_mem 654 (w := Cond.static yL_owners) (by decide +kernel) rfl, fun z => absurd rfl z, fun z => absurd z (by decide), fun z => absurd z (by decide), by decide +kernel, by decide +kernel, Nat.le_of_ble_eq_true rfl⟩
theorem dX7_isParent_0 : decode cX7_isParent 0 = .ok (.aload_n 0, 1) := by decide +kernel
theorem dX7_isParent_1 : decode cX7_isParent 1 = .ok (.getfield 15, 3) := by decide +kernel
theorem dX7_isParent_4 : decode cX7_isParent 4 = .ok (.iload_n 2, 1) := by decide +kernel
theorem dX7_isParent_5 : decode cX7_isParent 5 = .ok (.iaload, 1) := by decide +kernel
theorem dX7_isParent_6 : decode cX7_isParent 6 = .ok (.iload_n 1, 1) := by decide +kernel
theorem dX7_isParent_7 : decode cX7_isParent 7 = .ok (.invokestatic 25, 3) := by decide +kernel
theorem dX7_isParent_10 : decode cX7_isParent 10 = .ok (.ireturn, 1) := by decide +kernel
abbrev m_X7_isParent : am_M := (yX7_isParent, cX7_isParent, 3, some .boolean, [])
def f_X7_isParent (a0 : Nat × Nat) (x1 : Int32) (x2 : Int32) (h : am_H) : am_R := m_gR (some a0) 7 2 h fun o1 => m_aI o1 0 x2 h fun v2 => m_bJ (f_X10_has v2 x1 h) fun h3 v4 => m_rz h3 v4
theorem k_X7_isParent (d : Nat) (hd : 1 ≤ d) (a0 : Nat × Nat) (x1 : Int32) (x2 : Int32) (h : am_H) : am_Con m_X7_isParent d [.inr (.inr (some a0)), .inl x1, .inl x2] h (f_X7_isParent a0 x1 x2 h) := am_con (by decide +kernel) (Nat.le_of_ble_eq_true rfl) (by
  unfold f_X7_isParent
  refine sim_aload_n dX7_isParent_0 rfl ?_
  refine sim_gR 7 2 dX7_isParent_1 rfl wf_RX7_15 (Nat.le_of_ble_eq_true rfl) rfl (fun o1 => ?_)
  refine sim_iload_n dX7_isParent_4 rfl ?_
  refine sim_aI dX7_isParent_5 (fun v2 => ?_)
  refine sim_iload_n dX7_isParent_6 rfl ?_
  refine sim_staticN (d - 1) dX7_isParent_7 (k_X10_has (d - 1) (by omega) _ _ _) q_X10_has wn_RX7_25 rfl rfl (by omega) (Nat.le_of_ble_eq_true rfl) am_nJ am_xJ (am_rJ fun h3 v4 => ?_)
  exact sim_zret dX7_isParent_10 rfl)
theorem q_X7_isParent : am_Cal m_X7_isParent 2 2 := ⟨am_mem 737 (w := Cond.code yX7_isParent cX7_isParent 3 (some .boolean)) (by decide +kernel) rfl, am_mem 57 (w := Cond.initialized RX7) (by decide +kernel) rfl, fun z => absurd z (by decide), fun _ => am_mem 735 (w := Cond.instanceMethod yX7_isParent) (by decide +kernel) rfl, fun z => absurd z (by decide), fun _ => am_mem 736 (w := Cond.selects RX7 yX7_isParent yX7_isParent) (by decide +kernel) rfl, by decide +kernel, by decide +kernel, Nat.le_of_ble_eq_true rfl⟩
theorem dX7_setParent_0 : decode cX7_setParent 0 = .ok (.aload_n 0, 1) := by decide +kernel
theorem dX7_setParent_1 : decode cX7_setParent 1 = .ok (.getfield 15, 3) := by decide +kernel
theorem dX7_setParent_4 : decode cX7_setParent 4 = .ok (.iload_n 1, 1) := by decide +kernel
theorem dX7_setParent_5 : decode cX7_setParent 5 = .ok (.aload_n 0, 1) := by decide +kernel
theorem dX7_setParent_6 : decode cX7_setParent 6 = .ok (.getfield 15, 3) := by decide +kernel
theorem dX7_setParent_9 : decode cX7_setParent 9 = .ok (.iload_n 1, 1) := by decide +kernel
theorem dX7_setParent_10 : decode cX7_setParent 10 = .ok (.iaload, 1) := by decide +kernel
theorem dX7_setParent_11 : decode cX7_setParent 11 = .ok (.iload_n 2, 1) := by decide +kernel
theorem dX7_setParent_12 : decode cX7_setParent 12 = .ok (.iload_n 3, 1) := by decide +kernel
theorem dX7_setParent_13 : decode cX7_setParent 13 = .ok (.invokestatic 29, 3) := by decide +kernel
theorem dX7_setParent_16 : decode cX7_setParent 16 = .ok (.iastore, 1) := by decide +kernel
theorem dX7_setParent_17 : decode cX7_setParent 17 = .ok (.aload_n 0, 1) := by decide +kernel
theorem dX7_setParent_18 : decode cX7_setParent 18 = .ok (.invokevirtual 33, 3) := by decide +kernel
theorem dX7_setParent_21 : decode cX7_setParent 21 = .ok (.return_, 1) := by decide +kernel
abbrev m_X7_setParent : am_M := (yX7_setParent, cX7_setParent, 4, none, [])
def f_X7_setParent (a0 : Nat × Nat) (x1 : Int32) (x2 : Int32) (x3 : Int32) (h : am_H) : am_R := m_gR (some a0) 7 2 h fun o1 => m_gR (some a0) 7 2 h fun o2 => m_aI o2 0 x1 h fun v3 => m_bJ (f_X10_with v3 x2 x3 h) fun h4 v5 => m_sI o1 x1 v5 h4 fun h6 => m_ao (some a0) 7 fun a9 => m_bV (f_X7_findAbove a9 h6) fun h7 => m_rt h7 none
theorem k_X7_setParent (d : Nat) (hd : 3 ≤ d) (a0 : Nat × Nat) (x1 : Int32) (x2 : Int32) (x3 : Int32) (h : am_H) : am_Con m_X7_setParent d [.inr (.inr (some a0)), .inl x1, .inl x2, .inl x3] h (f_X7_setParent a0 x1 x2 x3 h) := am_con (by decide +kernel) (Nat.le_of_ble_eq_true rfl) (by
  unfold f_X7_setParent
  refine sim_aload_n dX7_setParent_0 rfl ?_
  refine sim_gR 7 2 dX7_setParent_1 rfl wf_RX7_15 (Nat.le_of_ble_eq_true rfl) rfl (fun o1 => ?_)
  refine sim_iload_n dX7_setParent_4 rfl ?_
  refine sim_aload_n dX7_setParent_5 rfl ?_
  refine sim_gR 7 2 dX7_setParent_6 rfl wf_RX7_15 (Nat.le_of_ble_eq_true rfl) rfl (fun o2 => ?_)
  refine sim_iload_n dX7_setParent_9 rfl ?_
  refine sim_aI dX7_setParent_10 (fun v3 => ?_)
  refine sim_iload_n dX7_setParent_11 rfl ?_
  refine sim_iload_n dX7_setParent_12 rfl ?_
  refine sim_staticN (d - 1) dX7_setParent_13 (k_X10_with (d - 1) (by omega) _ _ _ _) q_X10_with wn_RX7_29 rfl rfl (by omega) (Nat.le_of_ble_eq_true rfl) am_nJ am_xJ (am_rJ fun h4 v5 => ?_)
  refine sim_sI dX7_setParent_16 (fun h6 => ?_)
  refine sim_aload_n dX7_setParent_17 rfl ?_
  refine sim_ao0 (fun a9 e => ?_)
  refine sim_virt (d - 1) e dX7_setParent_18 (k_X7_findAbove (d - 1) (by omega) _  _) q_X7_findAbove rfl rfl wm_RX7_33 rfl rfl (by omega) (Nat.le_of_ble_eq_true rfl) am_nV (am_rV fun h7 => ?_) am_eV
  exact sim_vret dX7_setParent_21 rfl)
theorem q_X7_setParent : am_Cal m_X7_setParent 3 2 := ⟨am_mem 741 (w := Cond.code yX7_setParent cX7_setParent 4 none) (by decide +kernel) rfl, am_mem 57 (w := Cond.initialized RX7) (by decide +kernel) rfl, fun z => absurd z (by decide), fun _ => am_mem 739 (w := Cond.instanceMethod yX7_setParent) (by decide +kernel) rfl, fun z => absurd z (by decide), fun _ => am_mem 740 (w := Cond.selects RX7 yX7_setParent yX7_setParent) (by decide +kernel) rfl, by decide +kernel, by decide +kernel, Nat.le_of_ble_eq_true rfl⟩
theorem dX10_parent_0 : decode cX10_parent 0 = .ok (.aload_n 0, 1) := by decide +kernel
theorem dX10_parent_1 : decode cX10_parent 1 = .ok (.iload_n 1, 1) := by decide +kernel
theorem dX10_parent_2 : decode cX10_parent 2 = .ok (.invokevirtual 189, 3) := by decide +kernel
theorem dX10_parent_5 : decode cX10_parent 5 = .ok (.aload_n 0, 1) := by decide +kernel
theorem dX10_parent_6 : decode cX10_parent 6 = .ok (.iload_n 2, 1) := by decide +kernel
theorem dX10_parent_7 : decode cX10_parent 7 = .ok (.invokevirtual 189, 3) := by decide +kernel
theorem dX10_parent_10 : decode cX10_parent 10 = .ok (.iload_n 1, 1) := by decide +kernel
theorem dX10_parent_11 : decode cX10_parent 11 = .ok (.iload_n 2, 1) := by decide +kernel
theorem dX10_parent_12 : decode cX10_parent 12 = .ok (.if_icmp .ne 13, 3) := by decide +kernel
theorem dX10_parent_15 : decode cX10_parent 15 = .ok (.new 66, 3) := by decide +kernel
theorem dX10_parent_18 : decode cX10_parent 18 = .ok (.dup, 1) := by decide +kernel
theorem dX10_parent_19 : decode cX10_parent 19 = .ok (.ldc 86, 2) := by decide +kernel
theorem dX10_parent_21 : decode cX10_parent 21 = .ok (.invokespecial 70, 3) := by decide +kernel
theorem dX10_parent_24 : decode cX10_parent 24 = .ok (.athrow, 1) := by decide +kernel
theorem dX10_parent_25 : decode cX10_parent 25 = .ok (.aload_n 0, 1) := by decide +kernel
theorem dX10_parent_26 : decode cX10_parent 26 = .ok (.getfield 34, 3) := by decide +kernel
theorem dX10_parent_29 : decode cX10_parent 29 = .ok (.iload_n 1, 1) := by decide +kernel
theorem dX10_parent_30 : decode cX10_parent 30 = .ok (.invokevirtual 192, 3) := by decide +kernel
theorem dX10_parent_33 : decode cX10_parent 33 = .ok (.iconst 1, 1) := by decide +kernel
theorem dX10_parent_34 : decode cX10_parent 34 = .ok (.if_icmp .ne 31, 3) := by decide +kernel
theorem dX10_parent_37 : decode cX10_parent 37 = .ok (.aload_n 0, 1) := by decide +kernel
theorem dX10_parent_38 : decode cX10_parent 38 = .ok (.getfield 34, 3) := by decide +kernel
theorem dX10_parent_41 : decode cX10_parent 41 = .ok (.iload_n 2, 1) := by decide +kernel
theorem dX10_parent_42 : decode cX10_parent 42 = .ok (.invokevirtual 192, 3) := by decide +kernel
theorem dX10_parent_45 : decode cX10_parent 45 = .ok (.iconst 1, 1) := by decide +kernel
theorem dX10_parent_46 : decode cX10_parent 46 = .ok (.if_icmp .ne 19, 3) := by decide +kernel
theorem dX10_parent_49 : decode cX10_parent 49 = .ok (.iload_n 3, 1) := by decide +kernel
theorem dX10_parent_50 : decode cX10_parent 50 = .ok (.ifCond .eq 25, 3) := by decide +kernel
theorem dX10_parent_53 : decode cX10_parent 53 = .ok (.aload_n 0, 1) := by decide +kernel
theorem dX10_parent_54 : decode cX10_parent 54 = .ok (.getfield 34, 3) := by decide +kernel
theorem dX10_parent_57 : decode cX10_parent 57 = .ok (.iload_n 1, 1) := by decide +kernel
theorem dX10_parent_58 : decode cX10_parent 58 = .ok (.iload_n 2, 1) := by decide +kernel
theorem dX10_parent_59 : decode cX10_parent 59 = .ok (.invokevirtual 203, 3) := by decide +kernel
theorem dX10_parent_62 : decode cX10_parent 62 = .ok (.ifCond .eq 13, 3) := by decide +kernel
theorem dX10_parent_65 : decode cX10_parent 65 = .ok (.new 77, 3) := by decide +kernel
theorem dX10_parent_68 : decode cX10_parent 68 = .ok (.dup, 1) := by decide +kernel
theorem dX10_parent_69 : decode cX10_parent 69 = .ok (.ldc 211, 2) := by decide +kernel
theorem dX10_parent_71 : decode cX10_parent 71 = .ok (.invokespecial 81, 3) := by decide +kernel
theorem dX10_parent_74 : decode cX10_parent 74 = .ok (.athrow, 1) := by decide +kernel
theorem dX10_parent_75 : decode cX10_parent 75 = .ok (.aload_n 0, 1) := by decide +kernel
theorem dX10_parent_76 : decode cX10_parent 76 = .ok (.getfield 34, 3) := by decide +kernel
theorem dX10_parent_79 : decode cX10_parent 79 = .ok (.iload_n 2, 1) := by decide +kernel
theorem dX10_parent_80 : decode cX10_parent 80 = .ok (.iload_n 1, 1) := by decide +kernel
theorem dX10_parent_81 : decode cX10_parent 81 = .ok (.invokevirtual 213, 3) := by decide +kernel
theorem dX10_parent_84 : decode cX10_parent 84 = .ok (.istore 4, 2) := by decide +kernel
theorem dX10_parent_86 : decode cX10_parent 86 = .ok (.iload 4, 2) := by decide +kernel
theorem dX10_parent_88 : decode cX10_parent 88 = .ok (.iload_n 3, 1) := by decide +kernel
theorem dX10_parent_89 : decode cX10_parent 89 = .ok (.if_icmp .eq 17, 3) := by decide +kernel
theorem dX10_parent_92 : decode cX10_parent 92 = .ok (.aload_n 0, 1) := by decide +kernel
theorem dX10_parent_93 : decode cX10_parent 93 = .ok (.getfield 34, 3) := by decide +kernel
theorem dX10_parent_96 : decode cX10_parent 96 = .ok (.iload_n 1, 1) := by decide +kernel
theorem dX10_parent_97 : decode cX10_parent 97 = .ok (.iload_n 2, 1) := by decide +kernel
theorem dX10_parent_98 : decode cX10_parent 98 = .ok (.iload_n 3, 1) := by decide +kernel
theorem dX10_parent_99 : decode cX10_parent 99 = .ok (.invokevirtual 216, 3) := by decide +kernel
theorem dX10_parent_102 : decode cX10_parent 102 = .ok (.aload_n 0, 1) := by decide +kernel
theorem dX10_parent_103 : decode cX10_parent 103 = .ok (.invokevirtual 200, 3) := by decide +kernel
theorem dX10_parent_106 : decode cX10_parent 106 = .ok (.iload 4, 2) := by decide +kernel
theorem dX10_parent_108 : decode cX10_parent 108 = .ok (.ireturn, 1) := by decide +kernel
abbrev m_X10_parent : am_M := (yX10_parent, cX10_parent, 5, some .boolean, [])
def f_X10_parent_106  (x4 : Int32) (h : am_H) : am_R := m_rz h x4
theorem t_X10_parent_106 (d : Nat) (hd : 7 ≤ d)  (x4 : Int32) (h : am_H) : Sim m_X10_parent d 106 [none, none, none, none, some (.inl x4)] [] h (f_X10_parent_106  x4 h) := by
  unfold f_X10_parent_106
  refine sim_iload dX10_parent_106 rfl ?_
  exact sim_zret dX10_parent_108 rfl
def f_X10_parent_75  (a0 : Nat × Nat) (x1 : Int32) (x2 : Int32) (x3 : Int32) (h : am_H) : am_R := m_gR (some a0) 10 7 h fun o19 => m_ao o19 7 fun a22 => m_bI (f_X7_isParent a22 x2 x1 h) fun h20 v21 => if v21 = x3 then (f_X10_parent_106 v21 h20) else (m_gR (some a0) 10 7 h20 fun o23 => m_ao o23 7 fun a26 => m_bV (f_X7_setParent a26 x1 x2 x3 h20) fun h24 => m_ao (some a0) 10 fun a29 => m_bV (f_X10_letTaggedWorksWait a29 h24) fun h27 => f_X10_parent_106 v21 h27)
theorem t_X10_parent_75 (d : Nat) (hd : 7 ≤ d)  (a0 : Nat × Nat) (x1 : Int32) (x2 : Int32) (x3 : Int32) (h : am_H) : Sim m_X10_parent d 75 [some (.inr (.inr (some a0))), some (.inl x1), some (.inl x2), some (.inl x3), none] [] h (f_X10_parent_75  a0 x1 x2 x3 h) := by
  unfold f_X10_parent_75
  refine sim_aload_n dX10_parent_75 rfl ?_
  refine sim_gR 10 7 dX10_parent_76 rfl wf_RX10_34 (Nat.le_of_ble_eq_true rfl) rfl (fun o19 => ?_)
  refine sim_iload_n dX10_parent_79 rfl ?_
  refine sim_iload_n dX10_parent_80 rfl ?_
  refine sim_ao2 (fun a22 e => ?_)
  refine sim_virt (d - 1) e dX10_parent_81 (k_X7_isParent (d - 1) (by omega) _ _ _ _) q_X7_isParent rfl rfl wm_RX10_213 rfl rfl (by omega) (Nat.le_of_ble_eq_true rfl) am_nI (am_rI fun h20 v21 => ?_) am_eI
  refine sim_istore dX10_parent_84 (Nat.le_of_ble_eq_true rfl) ?_
  refine sim_iload dX10_parent_86 rfl ?_
  refine sim_iload_n dX10_parent_88 rfl ?_
  refine sim_ic_eq 106 dX10_parent_89 (by decide) (fun c => ?_) (fun c => ?_)
  · exact sim_lv (am_leN (am_leN (am_leN (am_leN (am_leS am_leT))))) (t_X10_parent_106 d (by omega) _ _)
  · refine sim_aload_n dX10_parent_92 rfl ?_
    refine sim_gR 10 7 dX10_parent_93 rfl wf_RX10_34 (Nat.le_of_ble_eq_true rfl) rfl (fun o23 => ?_)
    refine sim_iload_n dX10_parent_96 rfl ?_
    refine sim_iload_n dX10_parent_97 rfl ?_
    refine sim_iload_n dX10_parent_98 rfl ?_
    refine sim_ao3 (fun a26 e => ?_)
    refine sim_virt (d - 1) e dX10_parent_99 (k_X7_setParent (d - 1) (by omega) _ _ _ _ _) q_X7_setParent rfl rfl wm_RX10_216 rfl rfl (by omega) (Nat.le_of_ble_eq_true rfl) am_nV (am_rV fun h24 => ?_) am_eV
    refine sim_aload_n dX10_parent_102 rfl ?_
    refine sim_ao0 (fun a29 e => ?_)
    refine sim_virt (d - 1) e dX10_parent_103 (k_X10_letTaggedWorksWait (d - 1) (by omega) _  _) q_X10_letTaggedWorksWait rfl rfl wm_RX10_200 rfl rfl (by omega) (Nat.le_of_ble_eq_true rfl) am_nV (am_rV fun h27 => ?_) am_eV
    exact sim_lv (am_leN (am_leN (am_leN (am_leN (am_leS am_leT))))) (t_X10_parent_106 d (by omega) _ _)
def f_X10_parent_65   (h : am_H) : am_R := m_ex h 2
theorem t_X10_parent_65 (d : Nat) (hd : 7 ≤ d)   (h : am_H) : Sim m_X10_parent d 65 [none, none, none, none, none] [] h (f_X10_parent_65   h) := by
  unfold f_X10_parent_65
  exact sim_throw 2 (by decide) dX10_parent_65 dX10_parent_68 dX10_parent_69 dX10_parent_71 dX10_parent_74 wx_RX10_77 wy_2 ws_RX10_211 at_RX10_81 gd_RX10_81 (by omega) (Nat.le_of_ble_eq_true rfl)
def f_X10_parent (a0 : Nat × Nat) (x1 : Int32) (x2 : Int32) (x3 : Int32) (h : am_H) : am_R := m_ao (some a0) 10 fun a3 => m_bV (f_X10_checkTag a3 x1 h) fun h1 => m_ao (some a0) 10 fun a6 => m_bV (f_X10_checkTag a6 x2 h1) fun h4 => if x1 = x2 then (m_ex h4 1) else (m_gR (some a0) 10 7 h4 fun o7 => m_ao o7 7 fun a10 => m_bI (f_X7_kindOf a10 x1 h4) fun h8 v9 => if v9 = (1 : Int32) then (m_gR (some a0) 10 7 h8 fun o11 => m_ao o11 7 fun a14 => m_bI (f_X7_kindOf a14 x2 h8) fun h12 v13 => if v13 = (1 : Int32) then (if x3 = 0 then (f_X10_parent_75 a0 x1 x2 x3 h12) else (m_gR (some a0) 10 7 h12 fun o15 => m_ao o15 7 fun a18 => m_bI (f_X7_isAbove a18 x1 x2 h12) fun h16 v17 => if v17 = 0 then (f_X10_parent_75 a0 x1 x2 x3 h16) else (f_X10_parent_65 h16))) else (f_X10_parent_65 h12)) else (f_X10_parent_65 h8))
theorem k_X10_parent (d : Nat) (hd : 7 ≤ d) (a0 : Nat × Nat) (x1 : Int32) (x2 : Int32) (x3 : Int32) (h : am_H) : am_Con m_X10_parent d [.inr (.inr (some a0)), .inl x1, .inl x2, .inl x3] h (f_X10_parent a0 x1 x2 x3 h) := am_con (by decide +kernel) (Nat.le_of_ble_eq_true rfl) (by
  unfold f_X10_parent
  refine sim_aload_n dX10_parent_0 rfl ?_
  refine sim_iload_n dX10_parent_1 rfl ?_
  refine sim_ao1 (fun a3 e => ?_)
  refine sim_virt (d - 1) e dX10_parent_2 (k_X10_checkTag (d - 1) (by omega) _ _ _) q_X10_checkTag rfl rfl wm_RX10_189 rfl rfl (by omega) (Nat.le_of_ble_eq_true rfl) am_nV (am_rV fun h1 => ?_) am_eV
  refine sim_aload_n dX10_parent_5 rfl ?_
  refine sim_iload_n dX10_parent_6 rfl ?_
  refine sim_ao1 (fun a6 e => ?_)
  refine sim_virt (d - 1) e dX10_parent_7 (k_X10_checkTag (d - 1) (by omega) _ _ _) q_X10_checkTag rfl rfl wm_RX10_189 rfl rfl (by omega) (Nat.le_of_ble_eq_true rfl) am_nV (am_rV fun h4 => ?_) am_eV
  refine sim_iload_n dX10_parent_10 rfl ?_
  refine sim_iload_n dX10_parent_11 rfl ?_
  refine sim_ic_ne 25 dX10_parent_12 (by decide) (fun c => ?_) (fun c => ?_)
  · refine sim_aload_n dX10_parent_25 rfl ?_
    refine sim_gR 10 7 dX10_parent_26 rfl wf_RX10_34 (Nat.le_of_ble_eq_true rfl) rfl (fun o7 => ?_)
    refine sim_iload_n dX10_parent_29 rfl ?_
    refine sim_ao1 (fun a10 e => ?_)
    refine sim_virt (d - 1) e dX10_parent_30 (k_X7_kindOf (d - 1) (by omega) _ _ _) q_X7_kindOf rfl rfl wm_RX10_192 rfl rfl (by omega) (Nat.le_of_ble_eq_true rfl) am_nI (am_rI fun h8 v9 => ?_) am_eI
    refine sim_iconst (1) dX10_parent_33 (by decide +kernel) ?_
    refine sim_ic_ne 65 dX10_parent_34 (by decide) (fun c => ?_) (fun c => ?_)
    · exact sim_lv (am_leN (am_leN (am_leN (am_leN (am_leN am_leT))))) (t_X10_parent_65 d (by omega) _)
    · refine sim_aload_n dX10_parent_37 rfl ?_
      refine sim_gR 10 7 dX10_parent_38 rfl wf_RX10_34 (Nat.le_of_ble_eq_true rfl) rfl (fun o11 => ?_)
      refine sim_iload_n dX10_parent_41 rfl ?_
      refine sim_ao1 (fun a14 e => ?_)
      refine sim_virt (d - 1) e dX10_parent_42 (k_X7_kindOf (d - 1) (by omega) _ _ _) q_X7_kindOf rfl rfl wm_RX10_192 rfl rfl (by omega) (Nat.le_of_ble_eq_true rfl) am_nI (am_rI fun h12 v13 => ?_) am_eI
      refine sim_iconst (1) dX10_parent_45 (by decide +kernel) ?_
      refine sim_ic_ne 65 dX10_parent_46 (by decide) (fun c => ?_) (fun c => ?_)
      · exact sim_lv (am_leN (am_leN (am_leN (am_leN (am_leN am_leT))))) (t_X10_parent_65 d (by omega) _)
      · refine sim_iload_n dX10_parent_49 rfl ?_
        refine sim_if_eq 75 dX10_parent_50 (by decide) (fun c => ?_) (fun c => ?_)
        · exact sim_lv (am_leS (am_leS (am_leS (am_leS (am_leN am_leT))))) (t_X10_parent_75 d (by omega) _ _ _ _ _)
        · refine sim_aload_n dX10_parent_53 rfl ?_
          refine sim_gR 10 7 dX10_parent_54 rfl wf_RX10_34 (Nat.le_of_ble_eq_true rfl) rfl (fun o15 => ?_)
          refine sim_iload_n dX10_parent_57 rfl ?_
          refine sim_iload_n dX10_parent_58 rfl ?_
          refine sim_ao2 (fun a18 e => ?_)
          refine sim_virt (d - 1) e dX10_parent_59 (k_X7_isAbove (d - 1) (by omega) _ _ _ _) q_X7_isAbove rfl rfl wm_RX10_203 rfl rfl (by omega) (Nat.le_of_ble_eq_true rfl) am_nI (am_rI fun h16 v17 => ?_) am_eI
          refine sim_if_eq 75 dX10_parent_62 (by decide) (fun c => ?_) (fun c => ?_)
          · exact sim_lv (am_leS (am_leS (am_leS (am_leS (am_leN am_leT))))) (t_X10_parent_75 d (by omega) _ _ _ _ _)
          · exact sim_lv (am_leN (am_leN (am_leN (am_leN (am_leN am_leT))))) (t_X10_parent_65 d (by omega) _)
  · exact sim_throw 1 (by decide) dX10_parent_15 dX10_parent_18 dX10_parent_19 dX10_parent_21 dX10_parent_24 wx_RX10_66 wy_1 ws_RX10_86 at_RX10_70 gd_RX10_70 (by omega) (Nat.le_of_ble_eq_true rfl))
theorem q_X10_parent : am_Cal m_X10_parent 3 2 := ⟨am_mem 732 (w := Cond.code yX10_parent cX10_parent 5 (some .boolean)) (by decide +kernel) rfl, am_mem 56 (w := Cond.initialized RX10) (by decide +kernel) rfl, fun z => absurd z (by decide), fun _ => am_mem 730 (w := Cond.instanceMethod yX10_parent) (by decide +kernel) rfl, fun z => absurd z (by decide), fun _ => am_mem 731 (w := Cond.selects RX10 yX10_parent yX10_parent) (by decide +kernel) rfl, by decide +kernel, by decide +kernel, Nat.le_of_ble_eq_true rfl⟩
theorem dL_parent_0 : decode cL_parent 0 = .ok (.aload 4, 2) := by decide +kernel
theorem dL_parent_2 : decode cL_parent 2 = .ok (.iconst 0, 1) := by decide +kernel
theorem dL_parent_3 : decode cL_parent 3 = .ok (.aload_n 0, 1) := by decide +kernel
theorem dL_parent_4 : decode cL_parent 4 = .ok (.iload_n 1, 1) := by decide +kernel
theorem dL_parent_5 : decode cL_parent 5 = .ok (.iload_n 2, 1) := by decide +kernel
theorem dL_parent_6 : decode cL_parent 6 = .ok (.iload_n 3, 1) := by decide +kernel
theorem dL_parent_7 : decode cL_parent 7 = .ok (.invokevirtual 70, 3) := by decide +kernel
theorem dL_parent_10 : decode cL_parent 10 = .ok (.ifCond .eq 7, 3) := by decide +kernel
theorem dL_parent_13 : decode cL_parent 13 = .ok (.lconst 1, 1) := by decide +kernel
theorem dL_parent_14 : decode cL_parent 14 = .ok (.goto 4, 3) := by decide +kernel
theorem dL_parent_17 : decode cL_parent 17 = .ok (.lconst 0, 1) := by decide +kernel
theorem dL_parent_18 : decode cL_parent 18 = .ok (.lastore, 1) := by decide +kernel
theorem dL_parent_19 : decode cL_parent 19 = .ok (.goto 15, 3) := by decide +kernel
theorem dL_parent_22 : decode cL_parent 22 = .ok (.astore 5, 2) := by decide +kernel
theorem dL_parent_24 : decode cL_parent 24 = .ok (.iconst 1, 1) := by decide +kernel
theorem dL_parent_25 : decode cL_parent 25 = .ok (.ireturn, 1) := by decide +kernel
theorem dL_parent_26 : decode cL_parent 26 = .ok (.astore 5, 2) := by decide +kernel
theorem dL_parent_28 : decode cL_parent 28 = .ok (.iconst 2, 1) := by decide +kernel
theorem dL_parent_29 : decode cL_parent 29 = .ok (.ireturn, 1) := by decide +kernel
theorem dL_parent_30 : decode cL_parent 30 = .ok (.astore 5, 2) := by decide +kernel
theorem dL_parent_32 : decode cL_parent 32 = .ok (.iconst 3, 1) := by decide +kernel
theorem dL_parent_33 : decode cL_parent 33 = .ok (.ireturn, 1) := by decide +kernel
theorem dL_parent_34 : decode cL_parent 34 = .ok (.iconst 0, 1) := by decide +kernel
theorem dL_parent_35 : decode cL_parent 35 = .ok (.ireturn, 1) := by decide +kernel
abbrev m_L_parent : am_M := (yL_parent, cL_parent, 6, some .int, [(0, 19, 22, 21), (0, 19, 26, 13), (0, 19, 30, 15)])
def f_L_parent_18  (s0 : Int64) (s1 : Int32) (s2 : Option (Nat × Nat)) (h : am_H) : am_R := m_sL s2 s1 s0 h fun h6 => m_ri h6 (0 : Int32)
theorem t_L_parent_18 (d : Nat) (hd : 8 ≤ d)  (s0 : Int64) (s1 : Int32) (s2 : Option (Nat × Nat)) (h : am_H) : Sim m_L_parent d 18 [none, none, none, none, none, none] [.inr (.inl s0), .inl s1, .inr (.inr s2)] h (f_L_parent_18  s0 s1 s2 h) := by
  unfold f_L_parent_18
  refine sim_sL dL_parent_18 (fun h6 => ?_)
  refine sim_goto 34 dL_parent_19 (by decide) ?_
  refine sim_iconst (0) dL_parent_34 (by decide +kernel) ?_
  exact sim_iret dL_parent_35 rfl
def f_L_parent (x0 : Option (Nat × Nat)) (x1 : Int32) (x2 : Int32) (x3 : Int32) (x4 : Option (Nat × Nat)) (h : am_H) : am_R := m_ao x0 10 fun a3 => m_bIx (f_X10_parent a3 x1 x2 x3 h) (fun h1 v2 => if v2 = 0 then (f_L_parent_18 (0 : Int64) (0 : Int32) x4 h1) else (f_L_parent_18 (1 : Int64) (0 : Int32) x4 h1)) (fun h4 e5 => if e5 = 0 then (m_ri h4 (1 : Int32)) else if e5 = 1 then (m_ri h4 (2 : Int32)) else if e5 = 2 then (m_ri h4 (3 : Int32)) else none)
theorem k_L_parent (d : Nat) (hd : 8 ≤ d) (x0 : Option (Nat × Nat)) (x1 : Int32) (x2 : Int32) (x3 : Int32) (x4 : Option (Nat × Nat)) (h : am_H) : am_Con m_L_parent d [.inr (.inr x0), .inl x1, .inl x2, .inl x3, .inr (.inr x4)] h (f_L_parent x0 x1 x2 x3 x4 h) := am_conX (by decide +kernel) (Nat.le_of_ble_eq_true rfl) (by
  unfold f_L_parent
  refine sim_aload dL_parent_0 rfl ?_
  refine sim_iconst (0) dL_parent_2 (by decide +kernel) ?_
  refine sim_aload_n dL_parent_3 rfl ?_
  refine sim_iload_n dL_parent_4 rfl ?_
  refine sim_iload_n dL_parent_5 rfl ?_
  refine sim_iload_n dL_parent_6 rfl ?_
  refine sim_ao3 (fun a3 e => ?_)
  refine sim_virt (d - 1) e dL_parent_7 (k_X10_parent (d - 1) (by omega) _ _ _ _ _) q_X10_parent rfl rfl wm_RL_70 rfl rfl (by omega) (Nat.le_of_ble_eq_true rfl) am_nIx (am_rIx fun h1 v2 => ?_) (am_eIx fun h9 k9 => ?_)
  · refine sim_if_eq 17 dL_parent_10 (by decide) (fun c => ?_) (fun c => ?_)
    · refine sim_lconst (0) dL_parent_17 (by decide +kernel) ?_
      exact sim_lv (am_leN (am_leN (am_leN (am_leN (am_leN (am_leN am_leT)))))) (t_L_parent_18 d (by omega) _ _ _ _)
    · refine sim_lconst (1) dL_parent_13 (by decide +kernel) ?_
      refine sim_goto 18 dL_parent_14 (by decide) ?_
      exact sim_lv (am_leN (am_leN (am_leN (am_leN (am_leN (am_leN am_leT)))))) (t_L_parent_18 d (by omega) _ _ _ _)
  · refine simx_case (fun cx => ?_) (fun cx => ?_)
    · subst cx
      refine simx_catch [] (0, 19, 22, 21) [(0, 19, 26, 13), (0, 19, 30, 15)] rfl ⟨by decide, by decide⟩ (by decide) wx_RL_21 wca_0 (by decide) (fun z hz => by cases hz) ?_
      refine sim_astore dL_parent_22 (Nat.le_of_ble_eq_true rfl) ?_
      refine sim_iconst (1) dL_parent_24 (by decide +kernel) ?_
      exact sim_iret dL_parent_25 rfl
    refine simx_case (fun cx => ?_) (fun cx => ?_)
    · subst cx
      refine simx_catch [(0, 19, 22, 21)] (0, 19, 26, 13) [(0, 19, 30, 15)] rfl ⟨by decide, by decide⟩ (by decide) wx_RL_13 wca_1 (by decide) (fun z hz => by simp only [List.mem_cons, List.not_mem_nil, or_false] at hz; subst hz; exact ⟨by decide, 0, _, by decide, by decide, wx_RL_21⟩) ?_
      refine sim_astore dL_parent_26 (Nat.le_of_ble_eq_true rfl) ?_
      refine sim_iconst (2) dL_parent_28 (by decide +kernel) ?_
      exact sim_iret dL_parent_29 rfl
    refine simx_case (fun cx => ?_) (fun cx => ?_)
    · subst cx
      refine simx_catch [(0, 19, 22, 21), (0, 19, 26, 13)] (0, 19, 30, 15) [] rfl ⟨by decide, by decide⟩ (by decide) wx_RL_15 wca_2 (by decide) (fun z hz => by
        simp only [List.mem_cons, List.not_mem_nil, or_false] at hz
        rcases hz with rfl | rfl
        · exact ⟨by decide, 0, _, by decide, by decide, wx_RL_21⟩
        · exact ⟨by decide, 1, _, by decide, by decide, wx_RL_13⟩) ?_
      refine sim_astore dL_parent_30 (Nat.le_of_ble_eq_true rfl) ?_
      refine sim_iconst (3) dL_parent_32 (by decide +kernel) ?_
      exact sim_iret dL_parent_33 rfl
    exact simx_none)
theorem q_L_parent : am_Cal m_L_parent 5 0 := ⟨am_mem 728 (w := Cond.codeWith yL_parent cL_parent 6 (some .int) [(0, 19, 22, 21), (0, 19, 26, 13), (0, 19, 30, 15)]) (by decide +kernel) rfl, am_mem 55 (w := Cond.initialized RL) (by decide +kernel) rfl, fun _ => am_mem 727 (w := Cond.static yL_parent) (by decide +kernel) rfl, fun z => absurd rfl z, fun z => absurd z (by decide), fun z => absurd z (by decide), by decide +kernel, by decide +kernel, Nat.le_of_ble_eq_true rfl⟩
theorem dX10_pass_0 : decode cX10_pass 0 = .ok (.iload_n 1, 1) := by decide +kernel
theorem dX10_pass_1 : decode cX10_pass 1 = .ok (.iconst 1, 1) := by decide +kernel
theorem dX10_pass_2 : decode cX10_pass 2 = .ok (.if_icmp .lt 9, 3) := by decide +kernel
theorem dX10_pass_5 : decode cX10_pass 5 = .ok (.iload_n 1, 1) := by decide +kernel
theorem dX10_pass_6 : decode cX10_pass 6 = .ok (.bipush 100, 2) := by decide +kernel
theorem dX10_pass_8 : decode cX10_pass 8 = .ok (.if_icmp .le 13, 3) := by decide +kernel
theorem dX10_pass_11 : decode cX10_pass 11 = .ok (.new 66, 3) := by decide +kernel
theorem dX10_pass_14 : decode cX10_pass 14 = .ok (.dup, 1) := by decide +kernel
theorem dX10_pass_15 : decode cX10_pass 15 = .ok (.ldc 68, 2) := by decide +kernel
theorem dX10_pass_17 : decode cX10_pass 17 = .ok (.invokespecial 70, 3) := by decide +kernel
theorem dX10_pass_20 : decode cX10_pass 20 = .ok (.athrow, 1) := by decide +kernel
theorem dX10_pass_21 : decode cX10_pass 21 = .ok (.aload_n 0, 1) := by decide +kernel
theorem dX10_pass_22 : decode cX10_pass 22 = .ok (.getfield 73, 3) := by decide +kernel
theorem dX10_pass_25 : decode cX10_pass 25 = .ok (.iload_n 1, 1) := by decide +kernel
theorem dX10_pass_26 : decode cX10_pass 26 = .ok (.iadd, 1) := by decide +kernel
theorem dX10_pass_27 : decode cX10_pass 27 = .ok (.sipush 2000, 3) := by decide +kernel
theorem dX10_pass_30 : decode cX10_pass 30 = .ok (.if_icmp .le 13, 3) := by decide +kernel
theorem dX10_pass_33 : decode cX10_pass 33 = .ok (.new 77, 3) := by decide +kernel
theorem dX10_pass_36 : decode cX10_pass 36 = .ok (.dup, 1) := by decide +kernel
theorem dX10_pass_37 : decode cX10_pass 37 = .ok (.ldc 79, 2) := by decide +kernel
theorem dX10_pass_39 : decode cX10_pass 39 = .ok (.invokespecial 81, 3) := by decide +kernel
theorem dX10_pass_42 : decode cX10_pass 42 = .ok (.athrow, 1) := by decide +kernel
theorem dX10_pass_43 : decode cX10_pass 43 = .ok (.aload_n 0, 1) := by decide +kernel
theorem dX10_pass_44 : decode cX10_pass 44 = .ok (.dup, 1) := by decide +kernel
theorem dX10_pass_45 : decode cX10_pass 45 = .ok (.getfield 73, 3) := by decide +kernel
theorem dX10_pass_48 : decode cX10_pass 48 = .ok (.iload_n 1, 1) := by decide +kernel
theorem dX10_pass_49 : decode cX10_pass 49 = .ok (.iadd, 1) := by decide +kernel
theorem dX10_pass_50 : decode cX10_pass 50 = .ok (.putfield 73, 3) := by decide +kernel
theorem dX10_pass_53 : decode cX10_pass 53 = .ok (.aload_n 0, 1) := by decide +kernel
theorem dX10_pass_54 : decode cX10_pass 54 = .ok (.getfield 73, 3) := by decide +kernel
theorem dX10_pass_57 : decode cX10_pass 57 = .ok (.ireturn, 1) := by decide +kernel
abbrev m_X10_pass : am_M := (yX10_pass, cX10_pass, 2, some .int, [])
def f_X10_pass_11   (h : am_H) : am_R := m_ex h 1
theorem t_X10_pass_11 (d : Nat) (hd : 6 ≤ d)   (h : am_H) : Sim m_X10_pass d 11 [none, none] [] h (f_X10_pass_11   h) := by
  unfold f_X10_pass_11
  exact sim_throw 1 (by decide) dX10_pass_11 dX10_pass_14 dX10_pass_15 dX10_pass_17 dX10_pass_20 wx_RX10_66 wy_1 ws_RX10_68 at_RX10_70 gd_RX10_70 (by omega) (Nat.le_of_ble_eq_true rfl)
def f_X10_pass (a0 : Nat × Nat) (x1 : Int32) (h : am_H) : am_R := if x1 < (1 : Int32) then (f_X10_pass_11 h) else (if x1 ≤ (100 : Int32) then (m_gI (some a0) 10 0 h fun v1 => if (v1 + x1) ≤ (2000 : Int32) then (m_gI (some a0) 10 0 h fun v2 => m_pI (some a0) 10 0 (v2 + x1) h fun h3 => m_gI (some a0) 10 0 h3 fun v4 => m_ri h3 v4) else (m_ex h 2)) else (f_X10_pass_11 h))
theorem k_X10_pass (d : Nat) (hd : 6 ≤ d) (a0 : Nat × Nat) (x1 : Int32) (h : am_H) : am_Con m_X10_pass d [.inr (.inr (some a0)), .inl x1] h (f_X10_pass a0 x1 h) := am_con (by decide +kernel) (Nat.le_of_ble_eq_true rfl) (by
  unfold f_X10_pass
  refine sim_iload_n dX10_pass_0 rfl ?_
  refine sim_iconst (1) dX10_pass_1 (by decide +kernel) ?_
  refine sim_ic_lt 11 dX10_pass_2 (by decide) (fun c => ?_) (fun c => ?_)
  · exact sim_lv (am_leN (am_leN am_leT)) (t_X10_pass_11 d (by omega) _)
  · refine sim_iload_n dX10_pass_5 rfl ?_
    refine sim_bipush (100) dX10_pass_6 (by decide +kernel) ?_
    refine sim_ic_le 21 dX10_pass_8 (by decide) (fun c => ?_) (fun c => ?_)
    · refine sim_aload_n dX10_pass_21 rfl ?_
      refine sim_gI 10 0 dX10_pass_22 rfl wf_RX10_73 (Nat.le_of_ble_eq_true rfl) rfl (fun v1 => ?_)
      refine sim_iload_n dX10_pass_25 rfl ?_
      refine sim_iadd dX10_pass_26 ?_
      refine sim_sipush (2000) dX10_pass_27 (by decide +kernel) ?_
      refine sim_ic_le 43 dX10_pass_30 (by decide) (fun c => ?_) (fun c => ?_)
      · refine sim_aload_n dX10_pass_43 rfl ?_
        refine sim_dup_r dX10_pass_44 ?_
        refine sim_gI 10 0 dX10_pass_45 rfl wf_RX10_73 (Nat.le_of_ble_eq_true rfl) rfl (fun v2 => ?_)
        refine sim_iload_n dX10_pass_48 rfl ?_
        refine sim_iadd dX10_pass_49 ?_
        refine sim_pI 10 0 dX10_pass_50 rfl wf_RX10_73 (Nat.le_of_ble_eq_true rfl) rfl (Or.inl rfl) rfl (fun h3 => ?_)
        refine sim_aload_n dX10_pass_53 rfl ?_
        refine sim_gI 10 0 dX10_pass_54 rfl wf_RX10_73 (Nat.le_of_ble_eq_true rfl) rfl (fun v4 => ?_)
        exact sim_iret dX10_pass_57 rfl
      · exact sim_throw 2 (by decide) dX10_pass_33 dX10_pass_36 dX10_pass_37 dX10_pass_39 dX10_pass_42 wx_RX10_77 wy_2 ws_RX10_79 at_RX10_81 gd_RX10_81 (by omega) (Nat.le_of_ble_eq_true rfl)
    · exact sim_lv (am_leN (am_leN am_leT)) (t_X10_pass_11 d (by omega) _))
theorem q_X10_pass : am_Cal m_X10_pass 1 2 := ⟨am_mem 365 (w := Cond.code yX10_pass cX10_pass 2 (some .int)) (by decide +kernel) rfl, am_mem 56 (w := Cond.initialized RX10) (by decide +kernel) rfl, fun z => absurd z (by decide), fun _ => am_mem 363 (w := Cond.instanceMethod yX10_pass) (by decide +kernel) rfl, fun z => absurd z (by decide), fun _ => am_mem 364 (w := Cond.selects RX10 yX10_pass yX10_pass) (by decide +kernel) rfl, by decide +kernel, by decide +kernel, Nat.le_of_ble_eq_true rfl⟩
theorem dL_pass_0 : decode cL_pass 0 = .ok (.aload_n 2, 1) := by decide +kernel
theorem dL_pass_1 : decode cL_pass 1 = .ok (.iconst 0, 1) := by decide +kernel
theorem dL_pass_2 : decode cL_pass 2 = .ok (.aload_n 0, 1) := by decide +kernel
theorem dL_pass_3 : decode cL_pass 3 = .ok (.iload_n 1, 1) := by decide +kernel
theorem dL_pass_4 : decode cL_pass 4 = .ok (.invokevirtual 7, 3) := by decide +kernel
theorem dL_pass_7 : decode cL_pass 7 = .ok (.i2l, 1) := by decide +kernel
theorem dL_pass_8 : decode cL_pass 8 = .ok (.lastore, 1) := by decide +kernel
theorem dL_pass_9 : decode cL_pass 9 = .ok (.goto 9, 3) := by decide +kernel
theorem dL_pass_12 : decode cL_pass 12 = .ok (.astore_n 3, 1) := by decide +kernel
theorem dL_pass_13 : decode cL_pass 13 = .ok (.iconst 1, 1) := by decide +kernel
theorem dL_pass_14 : decode cL_pass 14 = .ok (.ireturn, 1) := by decide +kernel
theorem dL_pass_15 : decode cL_pass 15 = .ok (.astore_n 3, 1) := by decide +kernel
theorem dL_pass_16 : decode cL_pass 16 = .ok (.iconst 2, 1) := by decide +kernel
theorem dL_pass_17 : decode cL_pass 17 = .ok (.ireturn, 1) := by decide +kernel
theorem dL_pass_18 : decode cL_pass 18 = .ok (.iconst 0, 1) := by decide +kernel
theorem dL_pass_19 : decode cL_pass 19 = .ok (.ireturn, 1) := by decide +kernel
abbrev m_L_pass : am_M := (yL_pass, cL_pass, 4, some .int, [(0, 9, 12, 13), (0, 9, 15, 15)])
def f_L_pass (x0 : Option (Nat × Nat)) (x1 : Int32) (x2 : Option (Nat × Nat)) (h : am_H) : am_R := m_ao x0 10 fun a3 => m_bIx (f_X10_pass a3 x1 h) (fun h1 v2 => m_sL x2 (0 : Int32) (Int32.toInt64 v2) h1 fun h6 => m_ri h6 (0 : Int32)) (fun h4 e5 => if e5 = 1 then (m_ri h4 (1 : Int32)) else if e5 = 2 then (m_ri h4 (2 : Int32)) else none)
theorem k_L_pass (d : Nat) (hd : 7 ≤ d) (x0 : Option (Nat × Nat)) (x1 : Int32) (x2 : Option (Nat × Nat)) (h : am_H) : am_Con m_L_pass d [.inr (.inr x0), .inl x1, .inr (.inr x2)] h (f_L_pass x0 x1 x2 h) := am_conX (by decide +kernel) (Nat.le_of_ble_eq_true rfl) (by
  unfold f_L_pass
  refine sim_aload_n dL_pass_0 rfl ?_
  refine sim_iconst (0) dL_pass_1 (by decide +kernel) ?_
  refine sim_aload_n dL_pass_2 rfl ?_
  refine sim_iload_n dL_pass_3 rfl ?_
  refine sim_ao1 (fun a3 e => ?_)
  refine sim_virt (d - 1) e dL_pass_4 (k_X10_pass (d - 1) (by omega) _ _ _) q_X10_pass rfl rfl wm_RL_7 rfl rfl (by omega) (Nat.le_of_ble_eq_true rfl) am_nIx (am_rIx fun h1 v2 => ?_) (am_eIx fun h9 k9 => ?_)
  · refine sim_i2l dL_pass_7 ?_
    refine sim_sL dL_pass_8 (fun h6 => ?_)
    refine sim_goto 18 dL_pass_9 (by decide) ?_
    refine sim_iconst (0) dL_pass_18 (by decide +kernel) ?_
    exact sim_iret dL_pass_19 rfl
  · refine simx_case (fun cx => ?_) (fun cx => ?_)
    · subst cx
      refine simx_catch [] (0, 9, 12, 13) [(0, 9, 15, 15)] rfl ⟨by decide, by decide⟩ (by decide) wx_RL_13 wca_1 (by decide) (fun z hz => by cases hz) ?_
      refine sim_astore_n dL_pass_12 (Nat.le_of_ble_eq_true rfl) ?_
      refine sim_iconst (1) dL_pass_13 (by decide +kernel) ?_
      exact sim_iret dL_pass_14 rfl
    refine simx_case (fun cx => ?_) (fun cx => ?_)
    · subst cx
      refine simx_catch [(0, 9, 12, 13)] (0, 9, 15, 15) [] rfl ⟨by decide, by decide⟩ (by decide) wx_RL_15 wca_2 (by decide) (fun z hz => by simp only [List.mem_cons, List.not_mem_nil, or_false] at hz; subst hz; exact ⟨by decide, 1, _, by decide, by decide, wx_RL_13⟩) ?_
      refine sim_astore_n dL_pass_15 (Nat.le_of_ble_eq_true rfl) ?_
      refine sim_iconst (2) dL_pass_16 (by decide +kernel) ?_
      exact sim_iret dL_pass_17 rfl
    exact simx_none)
theorem q_L_pass : am_Cal m_L_pass 3 0 := ⟨am_mem 359 (w := Cond.codeWith yL_pass cL_pass 4 (some .int) [(0, 9, 12, 13), (0, 9, 15, 15)]) (by decide +kernel) rfl, am_mem 55 (w := Cond.initialized RL) (by decide +kernel) rfl, fun _ => am_mem 358 (w := Cond.static yL_pass) (by decide +kernel) rfl, fun z => absurd rfl z, fun z => absurd z (by decide), fun z => absurd z (by decide), by decide +kernel, by decide +kernel, Nat.le_of_ble_eq_true rfl⟩
theorem dX10_post_0 : decode cX10_post 0 = .ok (.aload_n 0, 1) := by decide +kernel
theorem dX10_post_1 : decode cX10_post 1 = .ok (.iload_n 1, 1) := by decide +kernel
theorem dX10_post_2 : decode cX10_post 2 = .ok (.invokevirtual 112, 3) := by decide +kernel
theorem dX10_post_5 : decode cX10_post 5 = .ok (.astore_n 2, 1) := by decide +kernel
theorem dX10_post_6 : decode cX10_post 6 = .ok (.aload_n 2, 1) := by decide +kernel
theorem dX10_post_7 : decode cX10_post 7 = .ok (.invokevirtual 141, 3) := by decide +kernel
theorem dX10_post_10 : decode cX10_post 10 = .ok (.ifCond .ne 10, 3) := by decide +kernel
theorem dX10_post_13 : decode cX10_post 13 = .ok (.aload_n 2, 1) := by decide +kernel
theorem dX10_post_14 : decode cX10_post 14 = .ok (.getfield 133, 3) := by decide +kernel
theorem dX10_post_17 : decode cX10_post 17 = .ok (.ifCond .ne 13, 3) := by decide +kernel
theorem dX10_post_20 : decode cX10_post 20 = .ok (.new 77, 3) := by decide +kernel
theorem dX10_post_23 : decode cX10_post 23 = .ok (.dup, 1) := by decide +kernel
theorem dX10_post_24 : decode cX10_post 24 = .ok (.ldc 145, 2) := by decide +kernel
theorem dX10_post_26 : decode cX10_post 26 = .ok (.invokespecial 81, 3) := by decide +kernel
theorem dX10_post_29 : decode cX10_post 29 = .ok (.athrow, 1) := by decide +kernel
theorem dX10_post_30 : decode cX10_post 30 = .ok (.aload_n 2, 1) := by decide +kernel
theorem dX10_post_31 : decode cX10_post 31 = .ok (.aload_n 0, 1) := by decide +kernel
theorem dX10_post_32 : decode cX10_post 32 = .ok (.getfield 73, 3) := by decide +kernel
theorem dX10_post_35 : decode cX10_post 35 = .ok (.putfield 147, 3) := by decide +kernel
theorem dX10_post_38 : decode cX10_post 38 = .ok (.aload_n 2, 1) := by decide +kernel
theorem dX10_post_39 : decode cX10_post 39 = .ok (.getfield 133, 3) := by decide +kernel
theorem dX10_post_42 : decode cX10_post 42 = .ok (.ireturn, 1) := by decide +kernel
abbrev m_X10_post : am_M := (yX10_post, cX10_post, 3, some .int, [])
def f_X10_post_20   (h : am_H) : am_R := m_ex h 2
theorem t_X10_post_20 (d : Nat) (hd : 8 ≤ d)   (h : am_H) : Sim m_X10_post d 20 [none, none, none] [] h (f_X10_post_20   h) := by
  unfold f_X10_post_20
  exact sim_throw 2 (by decide) dX10_post_20 dX10_post_23 dX10_post_24 dX10_post_26 dX10_post_29 wx_RX10_77 wy_2 ws_RX10_145 at_RX10_81 gd_RX10_81 (by omega) (Nat.le_of_ble_eq_true rfl)
def f_X10_post (a0 : Nat × Nat) (x1 : Int32) (h : am_H) : am_R := m_ao (some a0) 10 fun a3 => m_bR (f_X10_workAt a3 x1 h) fun h1 o2 => m_ao o2 9 fun a6 => m_bI (f_X9_isPosted a6 h1) fun h4 v5 => if v5 = 0 then (m_gI o2 9 3 h4 fun v7 => if v7 = 0 then (f_X10_post_20 h4) else (m_gI (some a0) 10 0 h4 fun v8 => m_pI o2 9 4 v8 h4 fun h9 => m_gI o2 9 3 h9 fun v10 => m_ri h9 v10)) else (f_X10_post_20 h4)
theorem k_X10_post (d : Nat) (hd : 8 ≤ d) (a0 : Nat × Nat) (x1 : Int32) (h : am_H) : am_Con m_X10_post d [.inr (.inr (some a0)), .inl x1] h (f_X10_post a0 x1 h) := am_con (by decide +kernel) (Nat.le_of_ble_eq_true rfl) (by
  unfold f_X10_post
  refine sim_aload_n dX10_post_0 rfl ?_
  refine sim_iload_n dX10_post_1 rfl ?_
  refine sim_ao1 (fun a3 e => ?_)
  refine sim_virt (d - 1) e dX10_post_2 (k_X10_workAt (d - 1) (by omega) _ _ _) q_X10_workAt rfl rfl wm_RX10_112 rfl rfl (by omega) (Nat.le_of_ble_eq_true rfl) am_nR (am_rR fun h1 o2 => ?_) am_eR
  refine sim_astore_n dX10_post_5 (Nat.le_of_ble_eq_true rfl) ?_
  refine sim_aload_n dX10_post_6 rfl ?_
  refine sim_ao0 (fun a6 e => ?_)
  refine sim_virt (d - 1) e dX10_post_7 (k_X9_isPosted (d - 1) (by omega) _  _) q_X9_isPosted rfl rfl wm_RX10_141 rfl rfl (by omega) (Nat.le_of_ble_eq_true rfl) am_nI (am_rI fun h4 v5 => ?_) am_eI
  refine sim_if_ne 20 dX10_post_10 (by decide) (fun c => ?_) (fun c => ?_)
  · exact sim_lv (am_leN (am_leN (am_leN am_leT))) (t_X10_post_20 d (by omega) _)
  · refine sim_aload_n dX10_post_13 rfl ?_
    refine sim_gI 9 3 dX10_post_14 rfl wf_RX10_133 (Nat.le_of_ble_eq_true rfl) rfl (fun v7 => ?_)
    refine sim_if_ne 30 dX10_post_17 (by decide) (fun c => ?_) (fun c => ?_)
    · refine sim_aload_n dX10_post_30 rfl ?_
      refine sim_aload_n dX10_post_31 rfl ?_
      refine sim_gI 10 0 dX10_post_32 rfl wf_RX10_73 (Nat.le_of_ble_eq_true rfl) rfl (fun v8 => ?_)
      refine sim_pI 9 4 dX10_post_35 rfl wf_RX10_147 (Nat.le_of_ble_eq_true rfl) rfl (Or.inl rfl) rfl (fun h9 => ?_)
      refine sim_aload_n dX10_post_38 rfl ?_
      refine sim_gI 9 3 dX10_post_39 rfl wf_RX10_133 (Nat.le_of_ble_eq_true rfl) rfl (fun v10 => ?_)
      exact sim_iret dX10_post_42 rfl
    · exact sim_lv (am_leN (am_leN (am_leN am_leT))) (t_X10_post_20 d (by omega) _))
theorem q_X10_post : am_Cal m_X10_post 1 2 := ⟨am_mem 595 (w := Cond.code yX10_post cX10_post 3 (some .int)) (by decide +kernel) rfl, am_mem 56 (w := Cond.initialized RX10) (by decide +kernel) rfl, fun z => absurd z (by decide), fun _ => am_mem 593 (w := Cond.instanceMethod yX10_post) (by decide +kernel) rfl, fun z => absurd z (by decide), fun _ => am_mem 594 (w := Cond.selects RX10 yX10_post yX10_post) (by decide +kernel) rfl, by decide +kernel, by decide +kernel, Nat.le_of_ble_eq_true rfl⟩
end
