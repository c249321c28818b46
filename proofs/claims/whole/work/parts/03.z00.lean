theorem dX10_checkPerson_0 : decode cX10_checkPerson 0 = .ok (.iload_n 0, 1) := by decide +kernel
theorem dX10_checkPerson_1 : decode cX10_checkPerson 1 = .ok (.ifCond .lt 9, 3) := by decide +kernel
theorem dX10_checkPerson_4 : decode cX10_checkPerson 4 = .ok (.iload_n 0, 1) := by decide +kernel
theorem dX10_checkPerson_5 : decode cX10_checkPerson 5 = .ok (.bipush 12, 2) := by decide +kernel
theorem dX10_checkPerson_7 : decode cX10_checkPerson 7 = .ok (.if_icmp .lt 14, 3) := by decide +kernel
theorem dX10_checkPerson_10 : decode cX10_checkPerson 10 = .ok (.new 162, 3) := by decide +kernel
theorem dX10_checkPerson_13 : decode cX10_checkPerson 13 = .ok (.dup, 1) := by decide +kernel
theorem dX10_checkPerson_14 : decode cX10_checkPerson 14 = .ok (.ldc_w 378, 3) := by decide +kernel
theorem dX10_checkPerson_17 : decode cX10_checkPerson 17 = .ok (.invokespecial 166, 3) := by decide +kernel
theorem dX10_checkPerson_20 : decode cX10_checkPerson 20 = .ok (.athrow, 1) := by decide +kernel
theorem dX10_checkPerson_21 : decode cX10_checkPerson 21 = .ok (.return_, 1) := by decide +kernel
theorem dX10_has_0 : decode cX10_has 0 = .ok (.iload_n 0, 1) := by decide +kernel
theorem dX10_has_1 : decode cX10_has 1 = .ok (.iload_n 1, 1) := by decide +kernel
theorem dX10_has_2 : decode cX10_has 2 = .ok (.iushr, 1) := by decide +kernel
theorem dX10_has_3 : decode cX10_has 3 = .ok (.iconst 1, 1) := by decide +kernel
theorem dX10_has_4 : decode cX10_has 4 = .ok (.iand, 1) := by decide +kernel
theorem dX10_has_5 : decode cX10_has 5 = .ok (.ifCond .eq 7, 3) := by decide +kernel
theorem dX10_has_8 : decode cX10_has 8 = .ok (.iconst 1, 1) := by decide +kernel
theorem dX10_has_9 : decode cX10_has 9 = .ok (.goto 4, 3) := by decide +kernel
theorem dX10_has_12 : decode cX10_has 12 = .ok (.iconst 0, 1) := by decide +kernel
theorem dX10_has_13 : decode cX10_has 13 = .ok (.ireturn, 1) := by decide +kernel
theorem dX10_with_0 : decode cX10_with 0 = .ok (.iload_n 2, 1) := by decide +kernel
theorem dX10_with_1 : decode cX10_with 1 = .ok (.ifCond .eq 11, 3) := by decide +kernel
theorem dX10_with_4 : decode cX10_with 4 = .ok (.iload_n 0, 1) := by decide +kernel
theorem dX10_with_5 : decode cX10_with 5 = .ok (.iconst 1, 1) := by decide +kernel
theorem dX10_with_6 : decode cX10_with 6 = .ok (.iload_n 1, 1) := by decide +kernel
theorem dX10_with_7 : decode cX10_with 7 = .ok (.ishl, 1) := by decide +kernel
theorem dX10_with_8 : decode cX10_with 8 = .ok (.ior, 1) := by decide +kernel
theorem dX10_with_9 : decode cX10_with 9 = .ok (.goto 10, 3) := by decide +kernel
theorem dX10_with_12 : decode cX10_with 12 = .ok (.iload_n 0, 1) := by decide +kernel
theorem dX10_with_13 : decode cX10_with 13 = .ok (.iconst 1, 1) := by decide +kernel
theorem dX10_with_14 : decode cX10_with 14 = .ok (.iload_n 1, 1) := by decide +kernel
theorem dX10_with_15 : decode cX10_with 15 = .ok (.ishl, 1) := by decide +kernel
theorem dX10_with_16 : decode cX10_with 16 = .ok (.iconst (-1), 1) := by decide +kernel
theorem dX10_with_17 : decode cX10_with 17 = .ok (.ixor, 1) := by decide +kernel
theorem dX10_with_18 : decode cX10_with 18 = .ok (.iand, 1) := by decide +kernel
theorem dX10_with_19 : decode cX10_with 19 = .ok (.ireturn, 1) := by decide +kernel
theorem dX10_block_0 : decode cX10_block 0 = .ok (.iload_n 1, 1) := by decide +kernel
theorem dX10_block_1 : decode cX10_block 1 = .ok (.invokestatic 82, 3) := by decide +kernel
theorem dX10_block_4 : decode cX10_block 4 = .ok (.iload_n 2, 1) := by decide +kernel
theorem dX10_block_5 : decode cX10_block 5 = .ok (.invokestatic 82, 3) := by decide +kernel
theorem dX10_block_8 : decode cX10_block 8 = .ok (.iload_n 1, 1) := by decide +kernel
theorem dX10_block_9 : decode cX10_block 9 = .ok (.iload_n 2, 1) := by decide +kernel
theorem dX10_block_10 : decode cX10_block 10 = .ok (.if_icmp .ne 13, 3) := by decide +kernel
theorem dX10_block_13 : decode cX10_block 13 = .ok (.new 66, 3) := by decide +kernel
theorem dX10_block_16 : decode cX10_block 16 = .ok (.dup, 1) := by decide +kernel
theorem dX10_block_17 : decode cX10_block 17 = .ok (.ldc 86, 2) := by decide +kernel
theorem dX10_block_19 : decode cX10_block 19 = .ok (.invokespecial 70, 3) := by decide +kernel
theorem dX10_block_22 : decode cX10_block 22 = .ok (.athrow, 1) := by decide +kernel
theorem dX10_block_23 : decode cX10_block 23 = .ok (.aload_n 0, 1) := by decide +kernel
theorem dX10_block_24 : decode cX10_block 24 = .ok (.getfield 15, 3) := by decide +kernel
theorem dX10_block_27 : decode cX10_block 27 = .ok (.iload_n 1, 1) := by decide +kernel
theorem dX10_block_28 : decode cX10_block 28 = .ok (.aaload, 1) := by decide +kernel
theorem dX10_block_29 : decode cX10_block 29 = .ok (.astore 4, 2) := by decide +kernel
theorem dX10_block_31 : decode cX10_block 31 = .ok (.aload 4, 2) := by decide +kernel
theorem dX10_block_33 : decode cX10_block 33 = .ok (.getfield 88, 3) := by decide +kernel
theorem dX10_block_36 : decode cX10_block 36 = .ok (.iload_n 2, 1) := by decide +kernel
theorem dX10_block_37 : decode cX10_block 37 = .ok (.invokestatic 91, 3) := by decide +kernel
theorem dX10_block_40 : decode cX10_block 40 = .ok (.istore 5, 2) := by decide +kernel
theorem dX10_block_42 : decode cX10_block 42 = .ok (.aload 4, 2) := by decide +kernel
theorem dX10_block_44 : decode cX10_block 44 = .ok (.aload 4, 2) := by decide +kernel
theorem dX10_block_46 : decode cX10_block 46 = .ok (.getfield 88, 3) := by decide +kernel
theorem dX10_block_49 : decode cX10_block 49 = .ok (.iload_n 2, 1) := by decide +kernel
theorem dX10_block_50 : decode cX10_block 50 = .ok (.iload_n 3, 1) := by decide +kernel
theorem dX10_block_51 : decode cX10_block 51 = .ok (.invokestatic 95, 3) := by decide +kernel
theorem dX10_block_54 : decode cX10_block 54 = .ok (.putfield 88, 3) := by decide +kernel
theorem dX10_block_57 : decode cX10_block 57 = .ok (.iload 5, 2) := by decide +kernel
theorem dX10_block_59 : decode cX10_block 59 = .ok (.ireturn, 1) := by decide +kernel
theorem dL_block_0 : decode cL_block 0 = .ok (.aload 4, 2) := by decide +kernel
theorem dL_block_2 : decode cL_block 2 = .ok (.iconst 0, 1) := by decide +kernel
theorem dL_block_3 : decode cL_block 3 = .ok (.aload_n 0, 1) := by decide +kernel
theorem dL_block_4 : decode cL_block 4 = .ok (.iload_n 1, 1) := by decide +kernel
theorem dL_block_5 : decode cL_block 5 = .ok (.iload_n 2, 1) := by decide +kernel
theorem dL_block_6 : decode cL_block 6 = .ok (.iload_n 3, 1) := by decide +kernel
theorem dL_block_7 : decode cL_block 7 = .ok (.invokevirtual 17, 3) := by decide +kernel
theorem dL_block_10 : decode cL_block 10 = .ok (.ifCond .eq 7, 3) := by decide +kernel
theorem dL_block_13 : decode cL_block 13 = .ok (.lconst 1, 1) := by decide +kernel
theorem dL_block_14 : decode cL_block 14 = .ok (.goto 4, 3) := by decide +kernel
theorem dL_block_17 : decode cL_block 17 = .ok (.lconst 0, 1) := by decide +kernel
theorem dL_block_18 : decode cL_block 18 = .ok (.lastore, 1) := by decide +kernel
theorem dL_block_19 : decode cL_block 19 = .ok (.goto 11, 3) := by decide +kernel
theorem dL_block_22 : decode cL_block 22 = .ok (.astore 5, 2) := by decide +kernel
theorem dL_block_24 : decode cL_block 24 = .ok (.iconst 1, 1) := by decide +kernel
theorem dL_block_25 : decode cL_block 25 = .ok (.ireturn, 1) := by decide +kernel
theorem dL_block_26 : decode cL_block 26 = .ok (.astore 5, 2) := by decide +kernel
theorem dL_block_28 : decode cL_block 28 = .ok (.iconst 2, 1) := by decide +kernel
theorem dL_block_29 : decode cL_block 29 = .ok (.ireturn, 1) := by decide +kernel
theorem dL_block_30 : decode cL_block 30 = .ok (.iconst 0, 1) := by decide +kernel
theorem dL_block_31 : decode cL_block 31 = .ok (.ireturn, 1) := by decide +kernel
theorem dX10_commentAt_0 : decode cX10_commentAt 0 = .ok (.iload_n 1, 1) := by decide +kernel
theorem dX10_commentAt_1 : decode cX10_commentAt 1 = .ok (.ifCond .lt 11, 3) := by decide +kernel
theorem dX10_commentAt_4 : decode cX10_commentAt 4 = .ok (.iload_n 1, 1) := by decide +kernel
theorem dX10_commentAt_5 : decode cX10_commentAt 5 = .ok (.aload_n 0, 1) := by decide +kernel
theorem dX10_commentAt_6 : decode cX10_commentAt 6 = .ok (.getfield 327, 3) := by decide +kernel
theorem dX10_commentAt_9 : decode cX10_commentAt 9 = .ok (.if_icmp .lt 14, 3) := by decide +kernel
theorem dX10_commentAt_12 : decode cX10_commentAt 12 = .ok (.new 162, 3) := by decide +kernel
theorem dX10_commentAt_15 : decode cX10_commentAt 15 = .ok (.dup, 1) := by decide +kernel
theorem dX10_commentAt_16 : decode cX10_commentAt 16 = .ok (.ldc_w 386, 3) := by decide +kernel
theorem dX10_commentAt_19 : decode cX10_commentAt 19 = .ok (.invokespecial 166, 3) := by decide +kernel
theorem dX10_commentAt_22 : decode cX10_commentAt 22 = .ok (.athrow, 1) := by decide +kernel
theorem dX10_commentAt_23 : decode cX10_commentAt 23 = .ok (.aload_n 0, 1) := by decide +kernel
theorem dX10_commentAt_24 : decode cX10_commentAt 24 = .ok (.getfield 61, 3) := by decide +kernel
theorem dX10_commentAt_27 : decode cX10_commentAt 27 = .ok (.iload_n 1, 1) := by decide +kernel
theorem dX10_commentAt_28 : decode cX10_commentAt 28 = .ok (.aaload, 1) := by decide +kernel
theorem dX10_commentAt_29 : decode cX10_commentAt 29 = .ok (.areturn, 1) := by decide +kernel
theorem dX10_change_0 : decode cX10_change 0 = .ok (.aload_n 0, 1) := by decide +kernel
theorem dX10_change_1 : decode cX10_change 1 = .ok (.iload_n 1, 1) := by decide +kernel
theorem dX10_change_2 : decode cX10_change 2 = .ok (.invokevirtual 318, 3) := by decide +kernel
theorem dX10_change_5 : decode cX10_change 5 = .ok (.astore_n 3, 1) := by decide +kernel
theorem dX10_change_6 : decode cX10_change 6 = .ok (.iload_n 2, 1) := by decide +kernel
theorem dX10_change_7 : decode cX10_change 7 = .ok (.tableswitch 101 0 3 #[29, 51, 65, 79], 29) := by decide +kernel
theorem dX10_change_36 : decode cX10_change 36 = .ok (.aload_n 3, 1) := by decide +kernel
theorem dX10_change_37 : decode cX10_change 37 = .ok (.getfield 339, 3) := by decide +kernel
theorem dX10_change_40 : decode cX10_change 40 = .ok (.ifCond .ne 7, 3) := by decide +kernel
theorem dX10_change_43 : decode cX10_change 43 = .ok (.iconst 1, 1) := by decide +kernel
theorem dX10_change_44 : decode cX10_change 44 = .ok (.goto 4, 3) := by decide +kernel
theorem dX10_change_47 : decode cX10_change 47 = .ok (.iconst 0, 1) := by decide +kernel
theorem dX10_change_48 : decode cX10_change 48 = .ok (.istore 4, 2) := by decide +kernel
theorem dX10_change_50 : decode cX10_change 50 = .ok (.aload_n 3, 1) := by decide +kernel
theorem dX10_change_51 : decode cX10_change 51 = .ok (.iconst 1, 1) := by decide +kernel
theorem dX10_change_52 : decode cX10_change 52 = .ok (.putfield 339, 3) := by decide +kernel
theorem dX10_change_55 : decode cX10_change 55 = .ok (.iload 4, 2) := by decide +kernel
theorem dX10_change_57 : decode cX10_change 57 = .ok (.ireturn, 1) := by decide +kernel
theorem dX10_change_58 : decode cX10_change 58 = .ok (.aload_n 3, 1) := by decide +kernel
theorem dX10_change_59 : decode cX10_change 59 = .ok (.getfield 339, 3) := by decide +kernel
theorem dX10_change_62 : decode cX10_change 62 = .ok (.istore 4, 2) := by decide +kernel
theorem dX10_change_64 : decode cX10_change 64 = .ok (.aload_n 3, 1) := by decide +kernel
theorem dX10_change_65 : decode cX10_change 65 = .ok (.iconst 0, 1) := by decide +kernel
theorem dX10_change_66 : decode cX10_change 66 = .ok (.putfield 339, 3) := by decide +kernel
theorem dX10_change_69 : decode cX10_change 69 = .ok (.iload 4, 2) := by decide +kernel
theorem dX10_change_71 : decode cX10_change 71 = .ok (.ireturn, 1) := by decide +kernel
theorem dX10_change_72 : decode cX10_change 72 = .ok (.aload_n 3, 1) := by decide +kernel
theorem dX10_change_73 : decode cX10_change 73 = .ok (.getfield 342, 3) := by decide +kernel
theorem dX10_change_76 : decode cX10_change 76 = .ok (.istore 4, 2) := by decide +kernel
theorem dX10_change_78 : decode cX10_change 78 = .ok (.aload_n 3, 1) := by decide +kernel
theorem dX10_change_79 : decode cX10_change 79 = .ok (.iconst 0, 1) := by decide +kernel
theorem dX10_change_80 : decode cX10_change 80 = .ok (.putfield 342, 3) := by decide +kernel
theorem dX10_change_83 : decode cX10_change 83 = .ok (.iload 4, 2) := by decide +kernel
theorem dX10_change_85 : decode cX10_change 85 = .ok (.ireturn, 1) := by decide +kernel
theorem dX10_change_86 : decode cX10_change 86 = .ok (.aload_n 3, 1) := by decide +kernel
theorem dX10_change_87 : decode cX10_change 87 = .ok (.getfield 345, 3) := by decide +kernel
theorem dX10_change_90 : decode cX10_change 90 = .ok (.ifCond .ne 7, 3) := by decide +kernel
theorem dX10_change_93 : decode cX10_change 93 = .ok (.iconst 1, 1) := by decide +kernel
theorem dX10_change_94 : decode cX10_change 94 = .ok (.goto 4, 3) := by decide +kernel
theorem dX10_change_97 : decode cX10_change 97 = .ok (.iconst 0, 1) := by decide +kernel
theorem dX10_change_98 : decode cX10_change 98 = .ok (.istore 4, 2) := by decide +kernel
theorem dX10_change_100 : decode cX10_change 100 = .ok (.aload_n 3, 1) := by decide +kernel
theorem dX10_change_101 : decode cX10_change 101 = .ok (.iconst 1, 1) := by decide +kernel
theorem dX10_change_102 : decode cX10_change 102 = .ok (.putfield 345, 3) := by decide +kernel
theorem dX10_change_105 : decode cX10_change 105 = .ok (.iload 4, 2) := by decide +kernel
theorem dX10_change_107 : decode cX10_change 107 = .ok (.ireturn, 1) := by decide +kernel
theorem dX10_change_108 : decode cX10_change 108 = .ok (.new 66, 3) := by decide +kernel
theorem dX10_change_111 : decode cX10_change 111 = .ok (.dup, 1) := by decide +kernel
theorem dX10_change_112 : decode cX10_change 112 = .ok (.ldc 232, 2) := by decide +kernel
theorem dX10_change_114 : decode cX10_change 114 = .ok (.invokespecial 70, 3) := by decide +kernel
theorem dX10_change_117 : decode cX10_change 117 = .ok (.athrow, 1) := by decide +kernel
theorem dL_change_0 : decode cL_change 0 = .ok (.aload_n 3, 1) := by decide +kernel
theorem dL_change_1 : decode cL_change 1 = .ok (.iconst 0, 1) := by decide +kernel
theorem dL_change_2 : decode cL_change 2 = .ok (.aload_n 0, 1) := by decide +kernel
theorem dL_change_3 : decode cL_change 3 = .ok (.iload_n 1, 1) := by decide +kernel
theorem dL_change_4 : decode cL_change 4 = .ok (.iload_n 2, 1) := by decide +kernel
theorem dL_change_5 : decode cL_change 5 = .ok (.invokevirtual 110, 3) := by decide +kernel
theorem dL_change_8 : decode cL_change 8 = .ok (.ifCond .eq 7, 3) := by decide +kernel
theorem dL_change_11 : decode cL_change 11 = .ok (.lconst 1, 1) := by decide +kernel
theorem dL_change_12 : decode cL_change 12 = .ok (.goto 4, 3) := by decide +kernel
theorem dL_change_15 : decode cL_change 15 = .ok (.lconst 0, 1) := by decide +kernel
theorem dL_change_16 : decode cL_change 16 = .ok (.lastore, 1) := by decide +kernel
theorem dL_change_17 : decode cL_change 17 = .ok (.goto 11, 3) := by decide +kernel
theorem dL_change_20 : decode cL_change 20 = .ok (.astore 4, 2) := by decide +kernel
theorem dL_change_22 : decode cL_change 22 = .ok (.iconst 1, 1) := by decide +kernel
theorem dL_change_23 : decode cL_change 23 = .ok (.ireturn, 1) := by decide +kernel
theorem dL_change_24 : decode cL_change 24 = .ok (.astore 4, 2) := by decide +kernel
theorem dL_change_26 : decode cL_change 26 = .ok (.iconst 2, 1) := by decide +kernel
theorem dL_change_27 : decode cL_change 27 = .ok (.ireturn, 1) := by decide +kernel
theorem dL_change_28 : decode cL_change 28 = .ok (.iconst 0, 1) := by decide +kernel
theorem dL_change_29 : decode cL_change 29 = .ok (.ireturn, 1) := by decide +kernel
theorem dX10_checkWork_0 : decode cX10_checkWork 0 = .ok (.iload_n 1, 1) := by decide +kernel
theorem dX10_checkWork_1 : decode cX10_checkWork 1 = .ok (.ifCond .lt 11, 3) := by decide +kernel
theorem dX10_checkWork_4 : decode cX10_checkWork 4 = .ok (.iload_n 1, 1) := by decide +kernel
theorem dX10_checkWork_5 : decode cX10_checkWork 5 = .ok (.aload_n 0, 1) := by decide +kernel
theorem dX10_checkWork_6 : decode cX10_checkWork 6 = .ok (.getfield 104, 3) := by decide +kernel
theorem dX10_checkWork_9 : decode cX10_checkWork 9 = .ok (.if_icmp .lt 14, 3) := by decide +kernel
theorem dX10_checkWork_12 : decode cX10_checkWork 12 = .ok (.new 162, 3) := by decide +kernel
theorem dX10_checkWork_15 : decode cX10_checkWork 15 = .ok (.dup, 1) := by decide +kernel
theorem dX10_checkWork_16 : decode cX10_checkWork 16 = .ok (.ldc_w 384, 3) := by decide +kernel
theorem dX10_checkWork_19 : decode cX10_checkWork 19 = .ok (.invokespecial 166, 3) := by decide +kernel
theorem dX10_checkWork_22 : decode cX10_checkWork 22 = .ok (.athrow, 1) := by decide +kernel
theorem dX10_checkWork_23 : decode cX10_checkWork 23 = .ok (.return_, 1) := by decide +kernel
theorem dX10_workAt_0 : decode cX10_workAt 0 = .ok (.aload_n 0, 1) := by decide +kernel
theorem dX10_workAt_1 : decode cX10_workAt 1 = .ok (.iload_n 1, 1) := by decide +kernel
theorem dX10_workAt_2 : decode cX10_workAt 2 = .ok (.invokevirtual 361, 3) := by decide +kernel
theorem dX10_workAt_5 : decode cX10_workAt 5 = .ok (.aload_n 0, 1) := by decide +kernel
theorem dX10_workAt_6 : decode cX10_workAt 6 = .ok (.getfield 21, 3) := by decide +kernel
theorem dX10_workAt_9 : decode cX10_workAt 9 = .ok (.iload_n 1, 1) := by decide +kernel
theorem dX10_workAt_10 : decode cX10_workAt 10 = .ok (.aaload, 1) := by decide +kernel
theorem dX10_workAt_11 : decode cX10_workAt 11 = .ok (.areturn, 1) := by decide +kernel
theorem dX10_chapter_0 : decode cX10_chapter 0 = .ok (.aload_n 0, 1) := by decide +kernel
theorem dX10_chapter_1 : decode cX10_chapter 1 = .ok (.iload_n 1, 1) := by decide +kernel
theorem dX10_chapter_2 : decode cX10_chapter 2 = .ok (.invokevirtual 112, 3) := by decide +kernel
theorem dX10_chapter_5 : decode cX10_chapter 5 = .ok (.astore_n 2, 1) := by decide +kernel
theorem dX10_chapter_6 : decode cX10_chapter 6 = .ok (.aload_n 2, 1) := by decide +kernel
theorem dX10_chapter_7 : decode cX10_chapter 7 = .ok (.getfield 133, 3) := by decide +kernel
theorem dX10_chapter_10 : decode cX10_chapter 10 = .ok (.bipush 8, 2) := by decide +kernel
theorem dX10_chapter_12 : decode cX10_chapter 12 = .ok (.if_icmp .lt 13, 3) := by decide +kernel
theorem dX10_chapter_15 : decode cX10_chapter 15 = .ok (.new 77, 3) := by decide +kernel
theorem dX10_chapter_18 : decode cX10_chapter 18 = .ok (.dup, 1) := by decide +kernel
theorem dX10_chapter_19 : decode cX10_chapter 19 = .ok (.ldc 136, 2) := by decide +kernel
theorem dX10_chapter_21 : decode cX10_chapter 21 = .ok (.invokespecial 81, 3) := by decide +kernel
theorem dX10_chapter_24 : decode cX10_chapter 24 = .ok (.athrow, 1) := by decide +kernel
theorem dX10_chapter_25 : decode cX10_chapter 25 = .ok (.aload_n 2, 1) := by decide +kernel
theorem dX10_chapter_26 : decode cX10_chapter 26 = .ok (.getfield 138, 3) := by decide +kernel
theorem dX10_chapter_29 : decode cX10_chapter 29 = .ok (.aload_n 2, 1) := by decide +kernel
theorem dX10_chapter_30 : decode cX10_chapter 30 = .ok (.getfield 133, 3) := by decide +kernel
theorem dX10_chapter_33 : decode cX10_chapter 33 = .ok (.aload_n 0, 1) := by decide +kernel
theorem dX10_chapter_34 : decode cX10_chapter 34 = .ok (.getfield 73, 3) := by decide +kernel
theorem dX10_chapter_37 : decode cX10_chapter 37 = .ok (.iastore, 1) := by decide +kernel
theorem dX10_chapter_38 : decode cX10_chapter 38 = .ok (.aload_n 2, 1) := by decide +kernel
theorem dX10_chapter_39 : decode cX10_chapter 39 = .ok (.dup, 1) := by decide +kernel
theorem dX10_chapter_40 : decode cX10_chapter 40 = .ok (.getfield 133, 3) := by decide +kernel
theorem dX10_chapter_43 : decode cX10_chapter 43 = .ok (.iconst 1, 1) := by decide +kernel
theorem dX10_chapter_44 : decode cX10_chapter 44 = .ok (.iadd, 1) := by decide +kernel
theorem dX10_chapter_45 : decode cX10_chapter 45 = .ok (.putfield 133, 3) := by decide +kernel
theorem dX10_chapter_48 : decode cX10_chapter 48 = .ok (.aload_n 2, 1) := by decide +kernel
theorem dX10_chapter_49 : decode cX10_chapter 49 = .ok (.getfield 133, 3) := by decide +kernel
theorem dX10_chapter_52 : decode cX10_chapter 52 = .ok (.iconst 1, 1) := by decide +kernel
theorem dX10_chapter_53 : decode cX10_chapter 53 = .ok (.isub, 1) := by decide +kernel
theorem dX10_chapter_54 : decode cX10_chapter 54 = .ok (.ireturn, 1) := by decide +kernel
theorem dL_chapter_0 : decode cL_chapter 0 = .ok (.aload_n 2, 1) := by decide +kernel
theorem dL_chapter_1 : decode cL_chapter 1 = .ok (.iconst 0, 1) := by decide +kernel
theorem dL_chapter_2 : decode cL_chapter 2 = .ok (.aload_n 0, 1) := by decide +kernel
theorem dL_chapter_3 : decode cL_chapter 3 = .ok (.iload_n 1, 1) := by decide +kernel
theorem dL_chapter_4 : decode cL_chapter 4 = .ok (.invokevirtual 37, 3) := by decide +kernel
theorem dL_chapter_7 : decode cL_chapter 7 = .ok (.i2l, 1) := by decide +kernel
theorem dL_chapter_8 : decode cL_chapter 8 = .ok (.lastore, 1) := by decide +kernel
theorem dL_chapter_9 : decode cL_chapter 9 = .ok (.goto 9, 3) := by decide +kernel
theorem dL_chapter_12 : decode cL_chapter 12 = .ok (.astore_n 3, 1) := by decide +kernel
theorem dL_chapter_13 : decode cL_chapter 13 = .ok (.iconst 1, 1) := by decide +kernel
theorem dL_chapter_14 : decode cL_chapter 14 = .ok (.ireturn, 1) := by decide +kernel
theorem dL_chapter_15 : decode cL_chapter 15 = .ok (.astore_n 3, 1) := by decide +kernel
theorem dL_chapter_16 : decode cL_chapter 16 = .ok (.iconst 2, 1) := by decide +kernel
theorem dL_chapter_17 : decode cL_chapter 17 = .ok (.ireturn, 1) := by decide +kernel
theorem dL_chapter_18 : decode cL_chapter 18 = .ok (.iconst 0, 1) := by decide +kernel
theorem dL_chapter_19 : decode cL_chapter 19 = .ok (.ireturn, 1) := by decide +kernel
theorem dX10_collect_0 : decode cX10_collect 0 = .ok (.aload_n 0, 1) := by decide +kernel
theorem dX10_collect_1 : decode cX10_collect 1 = .ok (.iload_n 1, 1) := by decide +kernel
theorem dX10_collect_2 : decode cX10_collect 2 = .ok (.invokevirtual 112, 3) := by decide +kernel
theorem dX10_collect_5 : decode cX10_collect 5 = .ok (.astore_n 3, 1) := by decide +kernel
theorem dX10_collect_6 : decode cX10_collect 6 = .ok (.iload_n 2, 1) := by decide +kernel
theorem dX10_collect_7 : decode cX10_collect 7 = .ok (.ifCond .lt 11, 3) := by decide +kernel
theorem dX10_collect_10 : decode cX10_collect 10 = .ok (.iload_n 2, 1) := by decide +kernel
theorem dX10_collect_11 : decode cX10_collect 11 = .ok (.aload_n 0, 1) := by decide +kernel
theorem dX10_collect_12 : decode cX10_collect 12 = .ok (.getfield 156, 3) := by decide +kernel
theorem dX10_collect_15 : decode cX10_collect 15 = .ok (.if_icmp .lt 13, 3) := by decide +kernel
theorem dX10_collect_18 : decode cX10_collect 18 = .ok (.new 162, 3) := by decide +kernel
theorem dX10_collect_21 : decode cX10_collect 21 = .ok (.dup, 1) := by decide +kernel
theorem dX10_collect_22 : decode cX10_collect 22 = .ok (.ldc 164, 2) := by decide +kernel
theorem dX10_collect_24 : decode cX10_collect 24 = .ok (.invokespecial 166, 3) := by decide +kernel
theorem dX10_collect_27 : decode cX10_collect 27 = .ok (.athrow, 1) := by decide +kernel
theorem dX10_collect_28 : decode cX10_collect 28 = .ok (.aload_n 3, 1) := by decide +kernel
theorem dX10_collect_29 : decode cX10_collect 29 = .ok (.getfield 167, 3) := by decide +kernel
theorem dX10_collect_32 : decode cX10_collect 32 = .ok (.ifnull 13, 3) := by decide +kernel
theorem dX10_collect_35 : decode cX10_collect 35 = .ok (.new 77, 3) := by decide +kernel
theorem dX10_collect_38 : decode cX10_collect 38 = .ok (.dup, 1) := by decide +kernel
theorem dX10_collect_39 : decode cX10_collect 39 = .ok (.ldc 171, 2) := by decide +kernel
theorem dX10_collect_41 : decode cX10_collect 41 = .ok (.invokespecial 81, 3) := by decide +kernel
theorem dX10_collect_44 : decode cX10_collect 44 = .ok (.athrow, 1) := by decide +kernel
theorem dX10_collect_45 : decode cX10_collect 45 = .ok (.aload_n 3, 1) := by decide +kernel
theorem dX10_collect_46 : decode cX10_collect 46 = .ok (.aload_n 0, 1) := by decide +kernel
theorem dX10_collect_47 : decode cX10_collect 47 = .ok (.getfield 27, 3) := by decide +kernel
theorem dX10_collect_50 : decode cX10_collect 50 = .ok (.iload_n 2, 1) := by decide +kernel
theorem dX10_collect_51 : decode cX10_collect 51 = .ok (.aaload, 1) := by decide +kernel
theorem dX10_collect_52 : decode cX10_collect 52 = .ok (.putfield 167, 3) := by decide +kernel
theorem dX10_collect_55 : decode cX10_collect 55 = .ok (.return_, 1) := by decide +kernel
theorem dL_collect_0 : decode cL_collect 0 = .ok (.aload_n 0, 1) := by decide +kernel
theorem dL_collect_1 : decode cL_collect 1 = .ok (.iload_n 1, 1) := by decide +kernel
theorem dL_collect_2 : decode cL_collect 2 = .ok (.iload_n 2, 1) := by decide +kernel
theorem dL_collect_3 : decode cL_collect 3 = .ok (.invokevirtual 50, 3) := by decide +kernel
theorem dL_collect_6 : decode cL_collect 6 = .ok (.goto 9, 3) := by decide +kernel
theorem dL_collect_9 : decode cL_collect 9 = .ok (.astore_n 3, 1) := by decide +kernel
theorem dL_collect_10 : decode cL_collect 10 = .ok (.iconst 1, 1) := by decide +kernel
theorem dL_collect_11 : decode cL_collect 11 = .ok (.ireturn, 1) := by decide +kernel
theorem dL_collect_12 : decode cL_collect 12 = .ok (.astore_n 3, 1) := by decide +kernel
theorem dL_collect_13 : decode cL_collect 13 = .ok (.iconst 2, 1) := by decide +kernel
theorem dL_collect_14 : decode cL_collect 14 = .ok (.ireturn, 1) := by decide +kernel
theorem dL_collect_15 : decode cL_collect 15 = .ok (.iconst 0, 1) := by decide +kernel
theorem dL_collect_16 : decode cL_collect 16 = .ok (.ireturn, 1) := by decide +kernel
theorem dX0_init_0 : decode cX0_init 0 = .ok (.aload_n 0, 1) := by decide +kernel
theorem dX0_init_1 : decode cX0_init 1 = .ok (.invokespecial 1, 3) := by decide +kernel
theorem dX0_init_4 : decode cX0_init 4 = .ok (.aload_n 0, 1) := by decide +kernel
theorem dX0_init_5 : decode cX0_init 5 = .ok (.iload_n 1, 1) := by decide +kernel
theorem dX0_init_6 : decode cX0_init 6 = .ok (.putfield 7, 3) := by decide +kernel
theorem dX0_init_9 : decode cX0_init 9 = .ok (.aload_n 0, 1) := by decide +kernel
theorem dX0_init_10 : decode cX0_init 10 = .ok (.iload_n 2, 1) := by decide +kernel
theorem dX0_init_11 : decode cX0_init 11 = .ok (.putfield 13, 3) := by decide +kernel
theorem dX0_init_14 : decode cX0_init 14 = .ok (.return_, 1) := by decide +kernel
theorem dX10_collection_0 : decode cX10_collection 0 = .ok (.iload_n 1, 1) := by decide +kernel
theorem dX10_collection_1 : decode cX10_collection 1 = .ok (.ifCond .lt 22, 3) := by decide +kernel
theorem dX10_collection_4 : decode cX10_collection 4 = .ok (.iload_n 1, 1) := by decide +kernel
theorem dX10_collection_5 : decode cX10_collection 5 = .ok (.sipush 2000, 3) := by decide +kernel
theorem dX10_collection_8 : decode cX10_collection 8 = .ok (.if_icmp .gt 15, 3) := by decide +kernel
theorem dX10_collection_11 : decode cX10_collection 11 = .ok (.iload_n 2, 1) := by decide +kernel
theorem dX10_collection_12 : decode cX10_collection 12 = .ok (.iload_n 1, 1) := by decide +kernel
theorem dX10_collection_13 : decode cX10_collection 13 = .ok (.if_icmp .lt 10, 3) := by decide +kernel
theorem dX10_collection_16 : decode cX10_collection 16 = .ok (.iload_n 2, 1) := by decide +kernel
theorem dX10_collection_17 : decode cX10_collection 17 = .ok (.sipush 2000, 3) := by decide +kernel
theorem dX10_collection_20 : decode cX10_collection 20 = .ok (.if_icmp .le 13, 3) := by decide +kernel
theorem dX10_collection_23 : decode cX10_collection 23 = .ok (.new 66, 3) := by decide +kernel
theorem dX10_collection_26 : decode cX10_collection 26 = .ok (.dup, 1) := by decide +kernel
theorem dX10_collection_27 : decode cX10_collection 27 = .ok (.ldc 154, 2) := by decide +kernel
theorem dX10_collection_29 : decode cX10_collection 29 = .ok (.invokespecial 70, 3) := by decide +kernel
theorem dX10_collection_32 : decode cX10_collection 32 = .ok (.athrow, 1) := by decide +kernel
theorem dX10_collection_33 : decode cX10_collection 33 = .ok (.aload_n 0, 1) := by decide +kernel
theorem dX10_collection_34 : decode cX10_collection 34 = .ok (.getfield 156, 3) := by decide +kernel
theorem dX10_collection_37 : decode cX10_collection 37 = .ok (.bipush 6, 2) := by decide +kernel
theorem dX10_collection_39 : decode cX10_collection 39 = .ok (.if_icmp .lt 13, 3) := by decide +kernel
theorem dX10_collection_42 : decode cX10_collection 42 = .ok (.new 77, 3) := by decide +kernel
theorem dX10_collection_45 : decode cX10_collection 45 = .ok (.dup, 1) := by decide +kernel
theorem dX10_collection_46 : decode cX10_collection 46 = .ok (.ldc 159, 2) := by decide +kernel
theorem dX10_collection_48 : decode cX10_collection 48 = .ok (.invokespecial 81, 3) := by decide +kernel
theorem dX10_collection_51 : decode cX10_collection 51 = .ok (.athrow, 1) := by decide +kernel
theorem dX10_collection_52 : decode cX10_collection 52 = .ok (.aload_n 0, 1) := by decide +kernel
theorem dX10_collection_53 : decode cX10_collection 53 = .ok (.getfield 27, 3) := by decide +kernel
theorem dX10_collection_56 : decode cX10_collection 56 = .ok (.aload_n 0, 1) := by decide +kernel
theorem dX10_collection_57 : decode cX10_collection 57 = .ok (.getfield 156, 3) := by decide +kernel
theorem dX10_collection_60 : decode cX10_collection 60 = .ok (.new 25, 3) := by decide +kernel
theorem dX10_collection_63 : decode cX10_collection 63 = .ok (.dup, 1) := by decide +kernel
theorem dX10_collection_64 : decode cX10_collection 64 = .ok (.iload_n 1, 1) := by decide +kernel
theorem dX10_collection_65 : decode cX10_collection 65 = .ok (.iload_n 2, 1) := by decide +kernel
theorem dX10_collection_66 : decode cX10_collection 66 = .ok (.invokespecial 161, 3) := by decide +kernel
theorem dX10_collection_69 : decode cX10_collection 69 = .ok (.aastore, 1) := by decide +kernel
theorem dX10_collection_70 : decode cX10_collection 70 = .ok (.aload_n 0, 1) := by decide +kernel
theorem dX10_collection_71 : decode cX10_collection 71 = .ok (.dup, 1) := by decide +kernel
theorem dX10_collection_72 : decode cX10_collection 72 = .ok (.getfield 156, 3) := by decide +kernel
theorem dX10_collection_75 : decode cX10_collection 75 = .ok (.iconst 1, 1) := by decide +kernel
theorem dX10_collection_76 : decode cX10_collection 76 = .ok (.iadd, 1) := by decide +kernel
theorem dX10_collection_77 : decode cX10_collection 77 = .ok (.putfield 156, 3) := by decide +kernel
theorem dX10_collection_80 : decode cX10_collection 80 = .ok (.aload_n 0, 1) := by decide +kernel
theorem dX10_collection_81 : decode cX10_collection 81 = .ok (.getfield 156, 3) := by decide +kernel
theorem dX10_collection_84 : decode cX10_collection 84 = .ok (.iconst 1, 1) := by decide +kernel
theorem dX10_collection_85 : decode cX10_collection 85 = .ok (.isub, 1) := by decide +kernel
theorem dX10_collection_86 : decode cX10_collection 86 = .ok (.ireturn, 1) := by decide +kernel
theorem dL_collection_0 : decode cL_collection 0 = .ok (.aload_n 3, 1) := by decide +kernel
theorem dL_collection_1 : decode cL_collection 1 = .ok (.iconst 0, 1) := by decide +kernel
theorem dL_collection_2 : decode cL_collection 2 = .ok (.aload_n 0, 1) := by decide +kernel
theorem dL_collection_3 : decode cL_collection 3 = .ok (.iload_n 1, 1) := by decide +kernel
theorem dL_collection_4 : decode cL_collection 4 = .ok (.iload_n 2, 1) := by decide +kernel
theorem dL_collection_5 : decode cL_collection 5 = .ok (.invokevirtual 47, 3) := by decide +kernel
theorem dL_collection_8 : decode cL_collection 8 = .ok (.i2l, 1) := by decide +kernel
theorem dL_collection_9 : decode cL_collection 9 = .ok (.lastore, 1) := by decide +kernel
theorem dL_collection_10 : decode cL_collection 10 = .ok (.goto 11, 3) := by decide +kernel
theorem dL_collection_13 : decode cL_collection 13 = .ok (.astore 4, 2) := by decide +kernel
theorem dL_collection_15 : decode cL_collection 15 = .ok (.iconst 1, 1) := by decide +kernel
theorem dL_collection_16 : decode cL_collection 16 = .ok (.ireturn, 1) := by decide +kernel
theorem dL_collection_17 : decode cL_collection 17 = .ok (.astore 4, 2) := by decide +kernel
theorem dL_collection_19 : decode cL_collection 19 = .ok (.iconst 2, 1) := by decide +kernel
theorem dL_collection_20 : decode cL_collection 20 = .ok (.ireturn, 1) := by decide +kernel
theorem dL_collection_21 : decode cL_collection 21 = .ok (.iconst 0, 1) := by decide +kernel
theorem dL_collection_22 : decode cL_collection 22 = .ok (.ireturn, 1) := by decide +kernel
theorem dX10_checkFace_0 : decode cX10_checkFace 0 = .ok (.iload_n 0, 1) := by decide +kernel
theorem dX10_checkFace_1 : decode cX10_checkFace 1 = .ok (.ifCond .lt 9, 3) := by decide +kernel
theorem dX10_checkFace_4 : decode cX10_checkFace 4 = .ok (.iload_n 0, 1) := by decide +kernel
theorem dX10_checkFace_5 : decode cX10_checkFace 5 = .ok (.bipush 32, 2) := by decide +kernel
theorem dX10_checkFace_7 : decode cX10_checkFace 7 = .ok (.if_icmp .lt 14, 3) := by decide +kernel
theorem dX10_checkFace_10 : decode cX10_checkFace 10 = .ok (.new 162, 3) := by decide +kernel
theorem dX10_checkFace_13 : decode cX10_checkFace 13 = .ok (.dup, 1) := by decide +kernel
theorem dX10_checkFace_14 : decode cX10_checkFace 14 = .ok (.ldc_w 376, 3) := by decide +kernel
theorem dX10_checkFace_17 : decode cX10_checkFace 17 = .ok (.invokespecial 166, 3) := by decide +kernel
theorem dX10_checkFace_20 : decode cX10_checkFace 20 = .ok (.athrow, 1) := by decide +kernel
theorem dX10_checkFace_21 : decode cX10_checkFace 21 = .ok (.return_, 1) := by decide +kernel
theorem dX10_isBlockedBy_0 : decode cX10_isBlockedBy 0 = .ok (.iload_n 1, 1) := by decide +kernel
theorem dX10_isBlockedBy_1 : decode cX10_isBlockedBy 1 = .ok (.ifCond .lt 29, 3) := by decide +kernel
theorem dX10_isBlockedBy_4 : decode cX10_isBlockedBy 4 = .ok (.iload_n 1, 1) := by decide +kernel
theorem dX10_isBlockedBy_5 : decode cX10_isBlockedBy 5 = .ok (.bipush 12, 2) := by decide +kernel
theorem dX10_isBlockedBy_7 : decode cX10_isBlockedBy 7 = .ok (.if_icmp .ge 23, 3) := by decide +kernel
theorem dX10_isBlockedBy_10 : decode cX10_isBlockedBy 10 = .ok (.aload_n 0, 1) := by decide +kernel
theorem dX10_isBlockedBy_11 : decode cX10_isBlockedBy 11 = .ok (.getfield 15, 3) := by decide +kernel
theorem dX10_isBlockedBy_14 : decode cX10_isBlockedBy 14 = .ok (.iload_n 1, 1) := by decide +kernel
theorem dX10_isBlockedBy_15 : decode cX10_isBlockedBy 15 = .ok (.aaload, 1) := by decide +kernel
theorem dX10_isBlockedBy_16 : decode cX10_isBlockedBy 16 = .ok (.getfield 88, 3) := by decide +kernel
theorem dX10_isBlockedBy_19 : decode cX10_isBlockedBy 19 = .ok (.iload_n 2, 1) := by decide +kernel
theorem dX10_isBlockedBy_20 : decode cX10_isBlockedBy 20 = .ok (.invokestatic 91, 3) := by decide +kernel
theorem dX10_isBlockedBy_23 : decode cX10_isBlockedBy 23 = .ok (.ifCond .eq 7, 3) := by decide +kernel
theorem dX10_isBlockedBy_26 : decode cX10_isBlockedBy 26 = .ok (.iconst 1, 1) := by decide +kernel
theorem dX10_isBlockedBy_27 : decode cX10_isBlockedBy 27 = .ok (.goto 4, 3) := by decide +kernel
theorem dX10_isBlockedBy_30 : decode cX10_isBlockedBy 30 = .ok (.iconst 0, 1) := by decide +kernel
theorem dX10_isBlockedBy_31 : decode cX10_isBlockedBy 31 = .ok (.ireturn, 1) := by decide +kernel
theorem dX10_isBlockedByAny_0 : decode cX10_isBlockedByAny 0 = .ok (.iconst 0, 1) := by decide +kernel
theorem dX10_isBlockedByAny_1 : decode cX10_isBlockedByAny 1 = .ok (.istore_n 3, 1) := by decide +kernel
theorem dX10_isBlockedByAny_2 : decode cX10_isBlockedByAny 2 = .ok (.iload_n 3, 1) := by decide +kernel
theorem dX10_isBlockedByAny_3 : decode cX10_isBlockedByAny 3 = .ok (.bipush 12, 2) := by decide +kernel
theorem dX10_isBlockedByAny_5 : decode cX10_isBlockedByAny 5 = .ok (.if_icmp .ge 28, 3) := by decide +kernel
theorem dX10_isBlockedByAny_8 : decode cX10_isBlockedByAny 8 = .ok (.iload_n 1, 1) := by decide +kernel
theorem dX10_isBlockedByAny_9 : decode cX10_isBlockedByAny 9 = .ok (.iload_n 3, 1) := by decide +kernel
theorem dX10_isBlockedByAny_10 : decode cX10_isBlockedByAny 10 = .ok (.invokestatic 91, 3) := by decide +kernel
theorem dX10_isBlockedByAny_13 : decode cX10_isBlockedByAny 13 = .ok (.ifCond .eq 14, 3) := by decide +kernel
theorem dX10_isBlockedByAny_16 : decode cX10_isBlockedByAny 16 = .ok (.aload_n 0, 1) := by decide +kernel
theorem dX10_isBlockedByAny_17 : decode cX10_isBlockedByAny 17 = .ok (.iload_n 3, 1) := by decide +kernel
theorem dX10_isBlockedByAny_18 : decode cX10_isBlockedByAny 18 = .ok (.iload_n 2, 1) := by decide +kernel
theorem dX10_isBlockedByAny_19 : decode cX10_isBlockedByAny 19 = .ok (.invokevirtual 455, 3) := by decide +kernel
theorem dX10_isBlockedByAny_22 : decode cX10_isBlockedByAny 22 = .ok (.ifCond .eq 5, 3) := by decide +kernel
theorem dX10_isBlockedByAny_25 : decode cX10_isBlockedByAny 25 = .ok (.iconst 1, 1) := by decide +kernel
theorem dX10_isBlockedByAny_26 : decode cX10_isBlockedByAny 26 = .ok (.ireturn, 1) := by decide +kernel
theorem dX10_isBlockedByAny_27 : decode cX10_isBlockedByAny 27 = .ok (.iinc 3 1, 3) := by decide +kernel
theorem dX10_isBlockedByAny_30 : decode cX10_isBlockedByAny 30 = .ok (.goto (-28), 3) := by decide +kernel
theorem dX10_isBlockedByAny_33 : decode cX10_isBlockedByAny 33 = .ok (.iconst 0, 1) := by decide +kernel
theorem dX10_isBlockedByAny_34 : decode cX10_isBlockedByAny 34 = .ok (.ireturn, 1) := by decide +kernel
theorem dX9_isOwnedBy_0 : decode cX9_isOwnedBy 0 = .ok (.aload_n 0, 1) := by decide +kernel
theorem dX9_isOwnedBy_1 : decode cX9_isOwnedBy 1 = .ok (.getfield 19, 3) := by decide +kernel
theorem dX9_isOwnedBy_4 : decode cX9_isOwnedBy 4 = .ok (.iload_n 1, 1) := by decide +kernel
theorem dX9_isOwnedBy_5 : decode cX9_isOwnedBy 5 = .ok (.invokestatic 25, 3) := by decide +kernel
theorem dX9_isOwnedBy_8 : decode cX9_isOwnedBy 8 = .ok (.ireturn, 1) := by decide +kernel
theorem dX9_isPosted_0 : decode cX9_isPosted 0 = .ok (.aload_n 0, 1) := by decide +kernel
theorem dX9_isPosted_1 : decode cX9_isPosted 1 = .ok (.getfield 15, 3) := by decide +kernel
theorem dX9_isPosted_4 : decode cX9_isPosted 4 = .ok (.iconst (-1), 1) := by decide +kernel
theorem dX9_isPosted_5 : decode cX9_isPosted 5 = .ok (.if_icmp .eq 7, 3) := by decide +kernel
theorem dX9_isPosted_8 : decode cX9_isPosted 8 = .ok (.iconst 1, 1) := by decide +kernel
theorem dX9_isPosted_9 : decode cX9_isPosted 9 = .ok (.goto 4, 3) := by decide +kernel
theorem dX9_isPosted_12 : decode cX9_isPosted 12 = .ok (.iconst 0, 1) := by decide +kernel
theorem dX9_isPosted_13 : decode cX9_isPosted 13 = .ok (.ireturn, 1) := by decide +kernel
theorem dX9_isSeenBy_0 : decode cX9_isSeenBy 0 = .ok (.aload_n 0, 1) := by decide +kernel
theorem dX9_isSeenBy_1 : decode cX9_isSeenBy 1 = .ok (.iload_n 1, 1) := by decide +kernel
theorem dX9_isSeenBy_2 : decode cX9_isSeenBy 2 = .ok (.invokevirtual 29, 3) := by decide +kernel
theorem dX9_isSeenBy_5 : decode cX9_isSeenBy 5 = .ok (.ifCond .eq 5, 3) := by decide +kernel
theorem dX9_isSeenBy_8 : decode cX9_isSeenBy 8 = .ok (.iconst 1, 1) := by decide +kernel
theorem dX9_isSeenBy_9 : decode cX9_isSeenBy 9 = .ok (.ireturn, 1) := by decide +kernel
theorem dX9_isSeenBy_10 : decode cX9_isSeenBy 10 = .ok (.aload_n 0, 1) := by decide +kernel
theorem dX9_isSeenBy_11 : decode cX9_isSeenBy 11 = .ok (.getfield 33, 3) := by decide +kernel
theorem dX9_isSeenBy_14 : decode cX9_isSeenBy 14 = .ok (.ifnull 14, 3) := by decide +kernel
theorem dX9_isSeenBy_17 : decode cX9_isSeenBy 17 = .ok (.aload_n 0, 1) := by decide +kernel
theorem dX9_isSeenBy_18 : decode cX9_isSeenBy 18 = .ok (.getfield 33, 3) := by decide +kernel
theorem dX9_isSeenBy_21 : decode cX9_isSeenBy 21 = .ok (.getfield 37, 3) := by decide +kernel
theorem dX9_isSeenBy_24 : decode cX9_isSeenBy 24 = .ok (.iload_n 2, 1) := by decide +kernel
theorem dX9_isSeenBy_25 : decode cX9_isSeenBy 25 = .ok (.if_icmp .gt 7, 3) := by decide +kernel
theorem dX9_isSeenBy_28 : decode cX9_isSeenBy 28 = .ok (.iconst 1, 1) := by decide +kernel
theorem dX9_isSeenBy_29 : decode cX9_isSeenBy 29 = .ok (.goto 4, 3) := by decide +kernel
theorem dX9_isSeenBy_32 : decode cX9_isSeenBy 32 = .ok (.iconst 0, 1) := by decide +kernel
theorem dX9_isSeenBy_33 : decode cX9_isSeenBy 33 = .ok (.istore_n 3, 1) := by decide +kernel
theorem dX9_isSeenBy_34 : decode cX9_isSeenBy 34 = .ok (.aload_n 0, 1) := by decide +kernel
theorem dX9_isSeenBy_35 : decode cX9_isSeenBy 35 = .ok (.invokevirtual 42, 3) := by decide +kernel
theorem dX9_isSeenBy_38 : decode cX9_isSeenBy 38 = .ok (.ifCond .eq 24, 3) := by decide +kernel
theorem dX9_isSeenBy_41 : decode cX9_isSeenBy 41 = .ok (.iload_n 3, 1) := by decide +kernel
theorem dX9_isSeenBy_42 : decode cX9_isSeenBy 42 = .ok (.ifCond .eq 20, 3) := by decide +kernel
theorem dX9_isSeenBy_45 : decode cX9_isSeenBy 45 = .ok (.aload_n 0, 1) := by decide +kernel
theorem dX9_isSeenBy_46 : decode cX9_isSeenBy 46 = .ok (.getfield 46, 3) := by decide +kernel
theorem dX9_isSeenBy_49 : decode cX9_isSeenBy 49 = .ok (.ifCond .eq 9, 3) := by decide +kernel
theorem dX9_isSeenBy_52 : decode cX9_isSeenBy 52 = .ok (.iload_n 1, 1) := by decide +kernel
theorem dX9_isSeenBy_53 : decode cX9_isSeenBy 53 = .ok (.bipush 12, 2) := by decide +kernel
theorem dX9_isSeenBy_55 : decode cX9_isSeenBy 55 = .ok (.if_icmp .ge 7, 3) := by decide +kernel
theorem dX9_isSeenBy_58 : decode cX9_isSeenBy 58 = .ok (.iconst 1, 1) := by decide +kernel
theorem dX9_isSeenBy_59 : decode cX9_isSeenBy 59 = .ok (.goto 4, 3) := by decide +kernel
theorem dX9_isSeenBy_62 : decode cX9_isSeenBy 62 = .ok (.iconst 0, 1) := by decide +kernel
theorem dX9_isSeenBy_63 : decode cX9_isSeenBy 63 = .ok (.ireturn, 1) := by decide +kernel
theorem dX10_isReadBy_0 : decode cX10_isReadBy 0 = .ok (.aload_n 2, 1) := by decide +kernel
theorem dX10_isReadBy_1 : decode cX10_isReadBy 1 = .ok (.getfield 345, 3) := by decide +kernel
theorem dX10_isReadBy_4 : decode cX10_isReadBy 4 = .ok (.ifCond .ne 15, 3) := by decide +kernel
theorem dX10_isReadBy_7 : decode cX10_isReadBy 7 = .ok (.aload_n 3, 1) := by decide +kernel
theorem dX10_isReadBy_8 : decode cX10_isReadBy 8 = .ok (.iload_n 1, 1) := by decide +kernel
theorem dX10_isReadBy_9 : decode cX10_isReadBy 9 = .ok (.aload_n 0, 1) := by decide +kernel
theorem dX10_isReadBy_10 : decode cX10_isReadBy 10 = .ok (.getfield 73, 3) := by decide +kernel
theorem dX10_isReadBy_13 : decode cX10_isReadBy 13 = .ok (.invokevirtual 173, 3) := by decide +kernel
theorem dX10_isReadBy_16 : decode cX10_isReadBy 16 = .ok (.ifCond .ne 5, 3) := by decide +kernel
theorem dX10_isReadBy_19 : decode cX10_isReadBy 19 = .ok (.iconst 0, 1) := by decide +kernel
theorem dX10_isReadBy_20 : decode cX10_isReadBy 20 = .ok (.ireturn, 1) := by decide +kernel
theorem dX10_isReadBy_21 : decode cX10_isReadBy 21 = .ok (.aload_n 2, 1) := by decide +kernel
theorem dX10_isReadBy_22 : decode cX10_isReadBy 22 = .ok (.getfield 342, 3) := by decide +kernel
theorem dX10_isReadBy_25 : decode cX10_isReadBy 25 = .ok (.ifCond .eq 19, 3) := by decide +kernel
theorem dX10_isReadBy_28 : decode cX10_isReadBy 28 = .ok (.aload_n 2, 1) := by decide +kernel
theorem dX10_isReadBy_29 : decode cX10_isReadBy 29 = .ok (.getfield 446, 3) := by decide +kernel
theorem dX10_isReadBy_32 : decode cX10_isReadBy 32 = .ok (.iload_n 1, 1) := by decide +kernel
theorem dX10_isReadBy_33 : decode cX10_isReadBy 33 = .ok (.if_icmp .eq 11, 3) := by decide +kernel
theorem dX10_isReadBy_36 : decode cX10_isReadBy 36 = .ok (.aload_n 3, 1) := by decide +kernel
theorem dX10_isReadBy_37 : decode cX10_isReadBy 37 = .ok (.iload_n 1, 1) := by decide +kernel
theorem dX10_isReadBy_38 : decode cX10_isReadBy 38 = .ok (.invokevirtual 125, 3) := by decide +kernel
theorem dX10_isReadBy_41 : decode cX10_isReadBy 41 = .ok (.ifCond .eq 7, 3) := by decide +kernel
theorem dX10_isReadBy_44 : decode cX10_isReadBy 44 = .ok (.iconst 1, 1) := by decide +kernel
theorem dX10_isReadBy_45 : decode cX10_isReadBy 45 = .ok (.goto 4, 3) := by decide +kernel
theorem dX10_isReadBy_48 : decode cX10_isReadBy 48 = .ok (.iconst 0, 1) := by decide +kernel
theorem dX10_isReadBy_49 : decode cX10_isReadBy 49 = .ok (.ireturn, 1) := by decide +kernel
theorem dX1_isFrozenHereOrAbove_0 : decode cX1_isFrozenHereOrAbove 0 = .ok (.aload_n 0, 1) := by decide +kernel
theorem dX1_isFrozenHereOrAbove_1 : decode cX1_isFrozenHereOrAbove 1 = .ok (.astore_n 1, 1) := by decide +kernel
theorem dX1_isFrozenHereOrAbove_2 : decode cX1_isFrozenHereOrAbove 2 = .ok (.aload_n 1, 1) := by decide +kernel
theorem dX1_isFrozenHereOrAbove_3 : decode cX1_isFrozenHereOrAbove 3 = .ok (.ifnull 20, 3) := by decide +kernel
theorem dX1_isFrozenHereOrAbove_6 : decode cX1_isFrozenHereOrAbove 6 = .ok (.aload_n 1, 1) := by decide +kernel
theorem dX1_isFrozenHereOrAbove_7 : decode cX1_isFrozenHereOrAbove 7 = .ok (.getfield 24, 3) := by decide +kernel
theorem dX1_isFrozenHereOrAbove_10 : decode cX1_isFrozenHereOrAbove 10 = .ok (.ifCond .eq 5, 3) := by decide +kernel
theorem dX1_isFrozenHereOrAbove_13 : decode cX1_isFrozenHereOrAbove 13 = .ok (.iconst 1, 1) := by decide +kernel
theorem dX1_isFrozenHereOrAbove_14 : decode cX1_isFrozenHereOrAbove 14 = .ok (.ireturn, 1) := by decide +kernel
theorem dX1_isFrozenHereOrAbove_15 : decode cX1_isFrozenHereOrAbove 15 = .ok (.aload_n 1, 1) := by decide +kernel
theorem dX1_isFrozenHereOrAbove_16 : decode cX1_isFrozenHereOrAbove 16 = .ok (.getfield 16, 3) := by decide +kernel
theorem dX1_isFrozenHereOrAbove_19 : decode cX1_isFrozenHereOrAbove 19 = .ok (.astore_n 1, 1) := by decide +kernel
theorem dX1_isFrozenHereOrAbove_20 : decode cX1_isFrozenHereOrAbove 20 = .ok (.goto (-18), 3) := by decide +kernel
theorem dX1_isFrozenHereOrAbove_23 : decode cX1_isFrozenHereOrAbove 23 = .ok (.iconst 0, 1) := by decide +kernel
theorem dX1_isFrozenHereOrAbove_24 : decode cX1_isFrozenHereOrAbove 24 = .ok (.ireturn, 1) := by decide +kernel
theorem dX10_mayComment_0 : decode cX10_mayComment 0 = .ok (.aload_n 1, 1) := by decide +kernel
theorem dX10_mayComment_1 : decode cX10_mayComment 1 = .ok (.iload_n 2, 1) := by decide +kernel
theorem dX10_mayComment_2 : decode cX10_mayComment 2 = .ok (.aload_n 0, 1) := by decide +kernel
theorem dX10_mayComment_3 : decode cX10_mayComment 3 = .ok (.getfield 73, 3) := by decide +kernel
theorem dX10_mayComment_6 : decode cX10_mayComment 6 = .ok (.invokevirtual 173, 3) := by decide +kernel
theorem dX10_mayComment_9 : decode cX10_mayComment 9 = .ok (.ifCond .eq 15, 3) := by decide +kernel
theorem dX10_mayComment_12 : decode cX10_mayComment 12 = .ok (.aload_n 0, 1) := by decide +kernel
theorem dX10_mayComment_13 : decode cX10_mayComment 13 = .ok (.aload_n 1, 1) := by decide +kernel
theorem dX10_mayComment_14 : decode cX10_mayComment 14 = .ok (.getfield 116, 3) := by decide +kernel
theorem dX10_mayComment_17 : decode cX10_mayComment 17 = .ok (.iload_n 2, 1) := by decide +kernel
theorem dX10_mayComment_18 : decode cX10_mayComment 18 = .ok (.invokevirtual 449, 3) := by decide +kernel
theorem dX10_mayComment_21 : decode cX10_mayComment 21 = .ok (.ifCond .eq 5, 3) := by decide +kernel
theorem dX10_mayComment_24 : decode cX10_mayComment 24 = .ok (.iconst 0, 1) := by decide +kernel
theorem dX10_mayComment_25 : decode cX10_mayComment 25 = .ok (.ireturn, 1) := by decide +kernel
theorem dX10_mayComment_26 : decode cX10_mayComment 26 = .ok (.aload_n 3, 1) := by decide +kernel
theorem dX10_mayComment_27 : decode cX10_mayComment 27 = .ok (.ifnonnull 5, 3) := by decide +kernel
theorem dX10_mayComment_30 : decode cX10_mayComment 30 = .ok (.iconst 1, 1) := by decide +kernel
theorem dX10_mayComment_31 : decode cX10_mayComment 31 = .ok (.ireturn, 1) := by decide +kernel
theorem dX10_mayComment_32 : decode cX10_mayComment 32 = .ok (.aload_n 0, 1) := by decide +kernel
theorem dX10_mayComment_33 : decode cX10_mayComment 33 = .ok (.iload_n 2, 1) := by decide +kernel
theorem dX10_mayComment_34 : decode cX10_mayComment 34 = .ok (.aload_n 3, 1) := by decide +kernel
theorem dX10_mayComment_35 : decode cX10_mayComment 35 = .ok (.aload_n 1, 1) := by decide +kernel
theorem dX10_mayComment_36 : decode cX10_mayComment 36 = .ok (.invokevirtual 348, 3) := by decide +kernel
theorem dX10_mayComment_39 : decode cX10_mayComment 39 = .ok (.ifCond .eq 26, 3) := by decide +kernel
theorem dX10_mayComment_42 : decode cX10_mayComment 42 = .ok (.aload_n 3, 1) := by decide +kernel
theorem dX10_mayComment_43 : decode cX10_mayComment 43 = .ok (.invokevirtual 452, 3) := by decide +kernel
theorem dX10_mayComment_46 : decode cX10_mayComment 46 = .ok (.ifCond .ne 19, 3) := by decide +kernel
theorem dX10_mayComment_49 : decode cX10_mayComment 49 = .ok (.aload_n 0, 1) := by decide +kernel
theorem dX10_mayComment_50 : decode cX10_mayComment 50 = .ok (.aload_n 3, 1) := by decide +kernel
theorem dX10_mayComment_51 : decode cX10_mayComment 51 = .ok (.getfield 446, 3) := by decide +kernel
theorem dX10_mayComment_54 : decode cX10_mayComment 54 = .ok (.iload_n 2, 1) := by decide +kernel
theorem dX10_mayComment_55 : decode cX10_mayComment 55 = .ok (.invokevirtual 455, 3) := by decide +kernel
theorem dX10_mayComment_58 : decode cX10_mayComment 58 = .ok (.ifCond .ne 7, 3) := by decide +kernel
theorem dX10_mayComment_61 : decode cX10_mayComment 61 = .ok (.iconst 1, 1) := by decide +kernel
theorem dX10_mayComment_62 : decode cX10_mayComment 62 = .ok (.goto 4, 3) := by decide +kernel
theorem dX10_mayComment_65 : decode cX10_mayComment 65 = .ok (.iconst 0, 1) := by decide +kernel
theorem dX10_mayComment_66 : decode cX10_mayComment 66 = .ok (.ireturn, 1) := by decide +kernel
theorem dX1_init_0 : decode cX1_init 0 = .ok (.aload_n 0, 1) := by decide +kernel
theorem dX1_init_1 : decode cX1_init 1 = .ok (.invokespecial 1, 3) := by decide +kernel
theorem dX1_init_4 : decode cX1_init 4 = .ok (.aload_n 0, 1) := by decide +kernel
theorem dX1_init_5 : decode cX1_init 5 = .ok (.iload_n 1, 1) := by decide +kernel
theorem dX1_init_6 : decode cX1_init 6 = .ok (.putfield 7, 3) := by decide +kernel
theorem dX1_init_9 : decode cX1_init 9 = .ok (.aload_n 0, 1) := by decide +kernel
theorem dX1_init_10 : decode cX1_init 10 = .ok (.iload_n 2, 1) := by decide +kernel
theorem dX1_init_11 : decode cX1_init 11 = .ok (.putfield 13, 3) := by decide +kernel
theorem dX1_init_14 : decode cX1_init 14 = .ok (.aload_n 0, 1) := by decide +kernel
theorem dX1_init_15 : decode cX1_init 15 = .ok (.aload_n 3, 1) := by decide +kernel
theorem dX1_init_16 : decode cX1_init 16 = .ok (.putfield 16, 3) := by decide +kernel
theorem dX1_init_19 : decode cX1_init 19 = .ok (.aload_n 0, 1) := by decide +kernel
theorem dX1_init_20 : decode cX1_init 20 = .ok (.iload 4, 2) := by decide +kernel
theorem dX1_init_22 : decode cX1_init 22 = .ok (.putfield 20, 3) := by decide +kernel
theorem dX1_init_25 : decode cX1_init 25 = .ok (.return_, 1) := by decide +kernel
theorem dX10_comment_0 : decode cX10_comment 0 = .ok (.aload_n 0, 1) := by decide +kernel
theorem dX10_comment_1 : decode cX10_comment 1 = .ok (.iload_n 1, 1) := by decide +kernel
theorem dX10_comment_2 : decode cX10_comment 2 = .ok (.invokevirtual 112, 3) := by decide +kernel
theorem dX10_comment_5 : decode cX10_comment 5 = .ok (.astore 4, 2) := by decide +kernel
theorem dX10_comment_7 : decode cX10_comment 7 = .ok (.iload_n 2, 1) := by decide +kernel
theorem dX10_comment_8 : decode cX10_comment 8 = .ok (.invokestatic 99, 3) := by decide +kernel
theorem dX10_comment_11 : decode cX10_comment 11 = .ok (.iload_n 3, 1) := by decide +kernel
theorem dX10_comment_12 : decode cX10_comment 12 = .ok (.iconst (-1), 1) := by decide +kernel
theorem dX10_comment_13 : decode cX10_comment 13 = .ok (.if_icmp .ne 7, 3) := by decide +kernel
theorem dX10_comment_16 : decode cX10_comment 16 = .ok (.aconst_null, 1) := by decide +kernel
theorem dX10_comment_17 : decode cX10_comment 17 = .ok (.goto 8, 3) := by decide +kernel
theorem dX10_comment_20 : decode cX10_comment 20 = .ok (.aload_n 0, 1) := by decide +kernel
theorem dX10_comment_21 : decode cX10_comment 21 = .ok (.iload_n 3, 1) := by decide +kernel
theorem dX10_comment_22 : decode cX10_comment 22 = .ok (.invokevirtual 318, 3) := by decide +kernel
theorem dX10_comment_25 : decode cX10_comment 25 = .ok (.astore 5, 2) := by decide +kernel
theorem dX10_comment_27 : decode cX10_comment 27 = .ok (.aload 5, 2) := by decide +kernel
theorem dX10_comment_29 : decode cX10_comment 29 = .ok (.ifnull 23, 3) := by decide +kernel
theorem dX10_comment_32 : decode cX10_comment 32 = .ok (.aload 5, 2) := by decide +kernel
theorem dX10_comment_34 : decode cX10_comment 34 = .ok (.getfield 322, 3) := by decide +kernel
theorem dX10_comment_37 : decode cX10_comment 37 = .ok (.iload_n 1, 1) := by decide +kernel
theorem dX10_comment_38 : decode cX10_comment 38 = .ok (.if_icmp .eq 14, 3) := by decide +kernel
theorem dX10_comment_41 : decode cX10_comment 41 = .ok (.new 66, 3) := by decide +kernel
theorem dX10_comment_44 : decode cX10_comment 44 = .ok (.dup, 1) := by decide +kernel
theorem dX10_comment_45 : decode cX10_comment 45 = .ok (.ldc_w 325, 3) := by decide +kernel
theorem dX10_comment_48 : decode cX10_comment 48 = .ok (.invokespecial 70, 3) := by decide +kernel
theorem dX10_comment_51 : decode cX10_comment 51 = .ok (.athrow, 1) := by decide +kernel
theorem dX10_comment_52 : decode cX10_comment 52 = .ok (.aload_n 0, 1) := by decide +kernel
theorem dX10_comment_53 : decode cX10_comment 53 = .ok (.getfield 327, 3) := by decide +kernel
theorem dX10_comment_56 : decode cX10_comment 56 = .ok (.bipush 60, 2) := by decide +kernel
theorem dX10_comment_58 : decode cX10_comment 58 = .ok (.if_icmp .ge 15, 3) := by decide +kernel
theorem dX10_comment_61 : decode cX10_comment 61 = .ok (.aload_n 0, 1) := by decide +kernel
theorem dX10_comment_62 : decode cX10_comment 62 = .ok (.aload 4, 2) := by decide +kernel
theorem dX10_comment_64 : decode cX10_comment 64 = .ok (.iload_n 2, 1) := by decide +kernel
theorem dX10_comment_65 : decode cX10_comment 65 = .ok (.aload 5, 2) := by decide +kernel
theorem dX10_comment_67 : decode cX10_comment 67 = .ok (.invokevirtual 330, 3) := by decide +kernel
theorem dX10_comment_70 : decode cX10_comment 70 = .ok (.ifCond .ne 14, 3) := by decide +kernel
theorem dX10_comment_73 : decode cX10_comment 73 = .ok (.new 77, 3) := by decide +kernel
theorem dX10_comment_76 : decode cX10_comment 76 = .ok (.dup, 1) := by decide +kernel
theorem dX10_comment_77 : decode cX10_comment 77 = .ok (.ldc_w 334, 3) := by decide +kernel
theorem dX10_comment_80 : decode cX10_comment 80 = .ok (.invokespecial 81, 3) := by decide +kernel
theorem dX10_comment_83 : decode cX10_comment 83 = .ok (.athrow, 1) := by decide +kernel
theorem dX10_comment_84 : decode cX10_comment 84 = .ok (.aload 4, 2) := by decide +kernel
theorem dX10_comment_86 : decode cX10_comment 86 = .ok (.getfield 315, 3) := by decide +kernel
theorem dX10_comment_89 : decode cX10_comment 89 = .ok (.ifCond .eq 16, 3) := by decide +kernel
theorem dX10_comment_92 : decode cX10_comment 92 = .ok (.aload 4, 2) := by decide +kernel
theorem dX10_comment_94 : decode cX10_comment 94 = .ok (.iload_n 2, 1) := by decide +kernel
theorem dX10_comment_95 : decode cX10_comment 95 = .ok (.invokevirtual 125, 3) := by decide +kernel
theorem dX10_comment_98 : decode cX10_comment 98 = .ok (.ifCond .ne 7, 3) := by decide +kernel
theorem dX10_comment_101 : decode cX10_comment 101 = .ok (.iconst 1, 1) := by decide +kernel
theorem dX10_comment_102 : decode cX10_comment 102 = .ok (.goto 4, 3) := by decide +kernel
theorem dX10_comment_105 : decode cX10_comment 105 = .ok (.iconst 0, 1) := by decide +kernel
theorem dX10_comment_106 : decode cX10_comment 106 = .ok (.istore 6, 2) := by decide +kernel
theorem dX10_comment_108 : decode cX10_comment 108 = .ok (.aload_n 0, 1) := by decide +kernel
theorem dX10_comment_109 : decode cX10_comment 109 = .ok (.getfield 61, 3) := by decide +kernel
theorem dX10_comment_112 : decode cX10_comment 112 = .ok (.aload_n 0, 1) := by decide +kernel
theorem dX10_comment_113 : decode cX10_comment 113 = .ok (.getfield 327, 3) := by decide +kernel
theorem dX10_comment_116 : decode cX10_comment 116 = .ok (.new 59, 3) := by decide +kernel
theorem dX10_comment_119 : decode cX10_comment 119 = .ok (.dup, 1) := by decide +kernel
theorem dX10_comment_120 : decode cX10_comment 120 = .ok (.iload_n 1, 1) := by decide +kernel
theorem dX10_comment_121 : decode cX10_comment 121 = .ok (.iload_n 2, 1) := by decide +kernel
theorem dX10_comment_122 : decode cX10_comment 122 = .ok (.aload 5, 2) := by decide +kernel
theorem dX10_comment_124 : decode cX10_comment 124 = .ok (.iload 6, 2) := by decide +kernel
theorem dX10_comment_126 : decode cX10_comment 126 = .ok (.invokespecial 336, 3) := by decide +kernel
theorem dX10_comment_129 : decode cX10_comment 129 = .ok (.aastore, 1) := by decide +kernel
theorem dX10_comment_130 : decode cX10_comment 130 = .ok (.aload_n 0, 1) := by decide +kernel
theorem dX10_comment_131 : decode cX10_comment 131 = .ok (.dup, 1) := by decide +kernel
theorem dX10_comment_132 : decode cX10_comment 132 = .ok (.getfield 327, 3) := by decide +kernel
theorem dX10_comment_135 : decode cX10_comment 135 = .ok (.iconst 1, 1) := by decide +kernel
theorem dX10_comment_136 : decode cX10_comment 136 = .ok (.iadd, 1) := by decide +kernel
theorem dX10_comment_137 : decode cX10_comment 137 = .ok (.putfield 327, 3) := by decide +kernel
theorem dX10_comment_140 : decode cX10_comment 140 = .ok (.aload_n 0, 1) := by decide +kernel
theorem dX10_comment_141 : decode cX10_comment 141 = .ok (.getfield 327, 3) := by decide +kernel
theorem dX10_comment_144 : decode cX10_comment 144 = .ok (.iconst 1, 1) := by decide +kernel
theorem dX10_comment_145 : decode cX10_comment 145 = .ok (.isub, 1) := by decide +kernel
theorem dX10_comment_146 : decode cX10_comment 146 = .ok (.ireturn, 1) := by decide +kernel
theorem dL_comment_0 : decode cL_comment 0 = .ok (.aload 4, 2) := by decide +kernel
theorem dL_comment_2 : decode cL_comment 2 = .ok (.iconst 0, 1) := by decide +kernel
theorem dL_comment_3 : decode cL_comment 3 = .ok (.aload_n 0, 1) := by decide +kernel
theorem dL_comment_4 : decode cL_comment 4 = .ok (.iload_n 1, 1) := by decide +kernel
theorem dL_comment_5 : decode cL_comment 5 = .ok (.iload_n 2, 1) := by decide +kernel
theorem dL_comment_6 : decode cL_comment 6 = .ok (.iload_n 3, 1) := by decide +kernel
theorem dL_comment_7 : decode cL_comment 7 = .ok (.invokevirtual 106, 3) := by decide +kernel
theorem dL_comment_10 : decode cL_comment 10 = .ok (.i2l, 1) := by decide +kernel
theorem dL_comment_11 : decode cL_comment 11 = .ok (.lastore, 1) := by decide +kernel
theorem dL_comment_12 : decode cL_comment 12 = .ok (.goto 15, 3) := by decide +kernel
theorem dL_comment_15 : decode cL_comment 15 = .ok (.astore 5, 2) := by decide +kernel
theorem dL_comment_17 : decode cL_comment 17 = .ok (.iconst 1, 1) := by decide +kernel
theorem dL_comment_18 : decode cL_comment 18 = .ok (.ireturn, 1) := by decide +kernel
theorem dL_comment_19 : decode cL_comment 19 = .ok (.astore 5, 2) := by decide +kernel
theorem dL_comment_21 : decode cL_comment 21 = .ok (.iconst 2, 1) := by decide +kernel
theorem dL_comment_22 : decode cL_comment 22 = .ok (.ireturn, 1) := by decide +kernel
theorem dL_comment_23 : decode cL_comment 23 = .ok (.astore 5, 2) := by decide +kernel
theorem dL_comment_25 : decode cL_comment 25 = .ok (.iconst 3, 1) := by decide +kernel
theorem dL_comment_26 : decode cL_comment 26 = .ok (.ireturn, 1) := by decide +kernel
theorem dL_comment_27 : decode cL_comment 27 = .ok (.iconst 0, 1) := by decide +kernel
theorem dL_comment_28 : decode cL_comment 28 = .ok (.ireturn, 1) := by decide +kernel
theorem dJ6_bitCount_0f7a4_0 : decode cJ6_bitCount_0f7a4 0 = .ok (.iload_n 0, 1) := by decide +kernel
theorem dJ6_bitCount_0f7a4_1 : decode cJ6_bitCount_0f7a4 1 = .ok (.iload_n 0, 1) := by decide +kernel
theorem dJ6_bitCount_0f7a4_2 : decode cJ6_bitCount_0f7a4 2 = .ok (.iconst 1, 1) := by decide +kernel
theorem dJ6_bitCount_0f7a4_3 : decode cJ6_bitCount_0f7a4 3 = .ok (.iushr, 1) := by decide +kernel
theorem dJ6_bitCount_0f7a4_4 : decode cJ6_bitCount_0f7a4 4 = .ok (.ldc_w 265, 3) := by decide +kernel
theorem dJ6_bitCount_0f7a4_7 : decode cJ6_bitCount_0f7a4 7 = .ok (.iand, 1) := by decide +kernel
theorem dJ6_bitCount_0f7a4_8 : decode cJ6_bitCount_0f7a4 8 = .ok (.isub, 1) := by decide +kernel
theorem dJ6_bitCount_0f7a4_9 : decode cJ6_bitCount_0f7a4 9 = .ok (.istore_n 0, 1) := by decide +kernel
theorem dJ6_bitCount_0f7a4_10 : decode cJ6_bitCount_0f7a4 10 = .ok (.iload_n 0, 1) := by decide +kernel
theorem dJ6_bitCount_0f7a4_11 : decode cJ6_bitCount_0f7a4 11 = .ok (.ldc_w 266, 3) := by decide +kernel
theorem dJ6_bitCount_0f7a4_14 : decode cJ6_bitCount_0f7a4 14 = .ok (.iand, 1) := by decide +kernel
theorem dJ6_bitCount_0f7a4_15 : decode cJ6_bitCount_0f7a4 15 = .ok (.iload_n 0, 1) := by decide +kernel
theorem dJ6_bitCount_0f7a4_16 : decode cJ6_bitCount_0f7a4 16 = .ok (.iconst 2, 1) := by decide +kernel
theorem dJ6_bitCount_0f7a4_17 : decode cJ6_bitCount_0f7a4 17 = .ok (.iushr, 1) := by decide +kernel
theorem dJ6_bitCount_0f7a4_18 : decode cJ6_bitCount_0f7a4 18 = .ok (.ldc_w 266, 3) := by decide +kernel
theorem dJ6_bitCount_0f7a4_21 : decode cJ6_bitCount_0f7a4 21 = .ok (.iand, 1) := by decide +kernel
theorem dJ6_bitCount_0f7a4_22 : decode cJ6_bitCount_0f7a4 22 = .ok (.iadd, 1) := by decide +kernel
theorem dJ6_bitCount_0f7a4_23 : decode cJ6_bitCount_0f7a4 23 = .ok (.istore_n 0, 1) := by decide +kernel
theorem dJ6_bitCount_0f7a4_24 : decode cJ6_bitCount_0f7a4 24 = .ok (.iload_n 0, 1) := by decide +kernel
theorem dJ6_bitCount_0f7a4_25 : decode cJ6_bitCount_0f7a4 25 = .ok (.iload_n 0, 1) := by decide +kernel
theorem dJ6_bitCount_0f7a4_26 : decode cJ6_bitCount_0f7a4 26 = .ok (.iconst 4, 1) := by decide +kernel
theorem dJ6_bitCount_0f7a4_27 : decode cJ6_bitCount_0f7a4 27 = .ok (.iushr, 1) := by decide +kernel
theorem dJ6_bitCount_0f7a4_28 : decode cJ6_bitCount_0f7a4 28 = .ok (.iadd, 1) := by decide +kernel
theorem dJ6_bitCount_0f7a4_29 : decode cJ6_bitCount_0f7a4 29 = .ok (.ldc_w 267, 3) := by decide +kernel
theorem dJ6_bitCount_0f7a4_32 : decode cJ6_bitCount_0f7a4 32 = .ok (.iand, 1) := by decide +kernel
theorem dJ6_bitCount_0f7a4_33 : decode cJ6_bitCount_0f7a4 33 = .ok (.istore_n 0, 1) := by decide +kernel
theorem dJ6_bitCount_0f7a4_34 : decode cJ6_bitCount_0f7a4 34 = .ok (.iload_n 0, 1) := by decide +kernel
theorem dJ6_bitCount_0f7a4_35 : decode cJ6_bitCount_0f7a4 35 = .ok (.iload_n 0, 1) := by decide +kernel
theorem dJ6_bitCount_0f7a4_36 : decode cJ6_bitCount_0f7a4 36 = .ok (.bipush 8, 2) := by decide +kernel
theorem dJ6_bitCount_0f7a4_38 : decode cJ6_bitCount_0f7a4 38 = .ok (.iushr, 1) := by decide +kernel
theorem dJ6_bitCount_0f7a4_39 : decode cJ6_bitCount_0f7a4 39 = .ok (.iadd, 1) := by decide +kernel
theorem dJ6_bitCount_0f7a4_40 : decode cJ6_bitCount_0f7a4 40 = .ok (.istore_n 0, 1) := by decide +kernel
theorem dJ6_bitCount_0f7a4_41 : decode cJ6_bitCount_0f7a4 41 = .ok (.iload_n 0, 1) := by decide +kernel
theorem dJ6_bitCount_0f7a4_42 : decode cJ6_bitCount_0f7a4 42 = .ok (.iload_n 0, 1) := by decide +kernel
theorem dJ6_bitCount_0f7a4_43 : decode cJ6_bitCount_0f7a4 43 = .ok (.bipush 16, 2) := by decide +kernel
theorem dJ6_bitCount_0f7a4_45 : decode cJ6_bitCount_0f7a4 45 = .ok (.iushr, 1) := by decide +kernel
theorem dJ6_bitCount_0f7a4_46 : decode cJ6_bitCount_0f7a4 46 = .ok (.iadd, 1) := by decide +kernel
theorem dJ6_bitCount_0f7a4_47 : decode cJ6_bitCount_0f7a4 47 = .ok (.istore_n 0, 1) := by decide +kernel
theorem dJ6_bitCount_0f7a4_48 : decode cJ6_bitCount_0f7a4 48 = .ok (.iload_n 0, 1) := by decide +kernel
theorem dJ6_bitCount_0f7a4_49 : decode cJ6_bitCount_0f7a4 49 = .ok (.bipush 63, 2) := by decide +kernel
theorem dJ6_bitCount_0f7a4_51 : decode cJ6_bitCount_0f7a4 51 = .ok (.iand, 1) := by decide +kernel
theorem dJ6_bitCount_0f7a4_52 : decode cJ6_bitCount_0f7a4 52 = .ok (.ireturn, 1) := by decide +kernel
theorem dX3_firstDayOfAny_0 : decode cX3_firstDayOfAny 0 = .ok (.sipush 2001, 3) := by decide +kernel
theorem dX3_firstDayOfAny_3 : decode cX3_firstDayOfAny 3 = .ok (.istore_n 2, 1) := by decide +kernel
theorem dX3_firstDayOfAny_4 : decode cX3_firstDayOfAny 4 = .ok (.iconst 0, 1) := by decide +kernel
theorem dX3_firstDayOfAny_5 : decode cX3_firstDayOfAny 5 = .ok (.istore_n 3, 1) := by decide +kernel
theorem dX3_firstDayOfAny_6 : decode cX3_firstDayOfAny 6 = .ok (.iload_n 3, 1) := by decide +kernel
theorem dX3_firstDayOfAny_7 : decode cX3_firstDayOfAny 7 = .ok (.bipush 12, 2) := by decide +kernel
theorem dX3_firstDayOfAny_9 : decode cX3_firstDayOfAny 9 = .ok (.if_icmp .ge 28, 3) := by decide +kernel
theorem dX3_firstDayOfAny_12 : decode cX3_firstDayOfAny 12 = .ok (.iload_n 1, 1) := by decide +kernel
theorem dX3_firstDayOfAny_13 : decode cX3_firstDayOfAny 13 = .ok (.iload_n 3, 1) := by decide +kernel
theorem dX3_firstDayOfAny_14 : decode cX3_firstDayOfAny 14 = .ok (.invokestatic 27, 3) := by decide +kernel
theorem dX3_firstDayOfAny_17 : decode cX3_firstDayOfAny 17 = .ok (.ifCond .eq 14, 3) := by decide +kernel
theorem dX3_firstDayOfAny_20 : decode cX3_firstDayOfAny 20 = .ok (.iload_n 2, 1) := by decide +kernel
theorem dX3_firstDayOfAny_21 : decode cX3_firstDayOfAny 21 = .ok (.aload_n 0, 1) := by decide +kernel
theorem dX3_firstDayOfAny_22 : decode cX3_firstDayOfAny 22 = .ok (.getfield 15, 3) := by decide +kernel
theorem dX3_firstDayOfAny_25 : decode cX3_firstDayOfAny 25 = .ok (.iload_n 3, 1) := by decide +kernel
theorem dX3_firstDayOfAny_26 : decode cX3_firstDayOfAny 26 = .ok (.iaload, 1) := by decide +kernel
theorem dX3_firstDayOfAny_27 : decode cX3_firstDayOfAny 27 = .ok (.invokestatic 31, 3) := by decide +kernel
theorem dX3_firstDayOfAny_30 : decode cX3_firstDayOfAny 30 = .ok (.istore_n 2, 1) := by decide +kernel
theorem dX3_firstDayOfAny_31 : decode cX3_firstDayOfAny 31 = .ok (.iinc 3 1, 3) := by decide +kernel
theorem dX3_firstDayOfAny_34 : decode cX3_firstDayOfAny 34 = .ok (.goto (-28), 3) := by decide +kernel
theorem dX3_firstDayOfAny_37 : decode cX3_firstDayOfAny 37 = .ok (.iload_n 2, 1) := by decide +kernel
theorem dX3_firstDayOfAny_38 : decode cX3_firstDayOfAny 38 = .ok (.ireturn, 1) := by decide +kernel
theorem dX9_outDay_0 : decode cX9_outDay 0 = .ok (.aload_n 0, 1) := by decide +kernel
theorem dX9_outDay_1 : decode cX9_outDay 1 = .ok (.getfield 9, 3) := by decide +kernel
theorem dX9_outDay_4 : decode cX9_outDay 4 = .ok (.iload_n 1, 1) := by decide +kernel
theorem dX9_outDay_5 : decode cX9_outDay 5 = .ok (.iaload, 1) := by decide +kernel
theorem dX9_outDay_6 : decode cX9_outDay 6 = .ok (.aload_n 0, 1) := by decide +kernel
theorem dX9_outDay_7 : decode cX9_outDay 7 = .ok (.getfield 15, 3) := by decide +kernel
theorem dX9_outDay_10 : decode cX9_outDay 10 = .ok (.invokestatic 56, 3) := by decide +kernel
theorem dX9_outDay_13 : decode cX9_outDay 13 = .ok (.ireturn, 1) := by decide +kernel
theorem dX9_chaptersOutFrom_0 : decode cX9_chaptersOutFrom 0 = .ok (.iconst 0, 1) := by decide +kernel
theorem dX9_chaptersOutFrom_1 : decode cX9_chaptersOutFrom 1 = .ok (.istore_n 2, 1) := by decide +kernel
theorem dX9_chaptersOutFrom_2 : decode cX9_chaptersOutFrom 2 = .ok (.iconst 0, 1) := by decide +kernel
theorem dX9_chaptersOutFrom_3 : decode cX9_chaptersOutFrom 3 = .ok (.istore_n 3, 1) := by decide +kernel
theorem dX9_chaptersOutFrom_4 : decode cX9_chaptersOutFrom 4 = .ok (.iload_n 3, 1) := by decide +kernel
theorem dX9_chaptersOutFrom_5 : decode cX9_chaptersOutFrom 5 = .ok (.aload_n 0, 1) := by decide +kernel
theorem dX9_chaptersOutFrom_6 : decode cX9_chaptersOutFrom 6 = .ok (.getfield 62, 3) := by decide +kernel
theorem dX9_chaptersOutFrom_9 : decode cX9_chaptersOutFrom 9 = .ok (.if_icmp .ge 29, 3) := by decide +kernel
theorem dX9_chaptersOutFrom_12 : decode cX9_chaptersOutFrom 12 = .ok (.iload_n 2, 1) := by decide +kernel
theorem dX9_chaptersOutFrom_13 : decode cX9_chaptersOutFrom 13 = .ok (.iload_n 3, 1) := by decide +kernel
theorem dX9_chaptersOutFrom_14 : decode cX9_chaptersOutFrom 14 = .ok (.aload_n 0, 1) := by decide +kernel
theorem dX9_chaptersOutFrom_15 : decode cX9_chaptersOutFrom 15 = .ok (.iload_n 3, 1) := by decide +kernel
theorem dX9_chaptersOutFrom_16 : decode cX9_chaptersOutFrom 16 = .ok (.invokevirtual 65, 3) := by decide +kernel
theorem dX9_chaptersOutFrom_19 : decode cX9_chaptersOutFrom 19 = .ok (.iload_n 1, 1) := by decide +kernel
theorem dX9_chaptersOutFrom_20 : decode cX9_chaptersOutFrom 20 = .ok (.if_icmp .lt 7, 3) := by decide +kernel
theorem dX9_chaptersOutFrom_23 : decode cX9_chaptersOutFrom 23 = .ok (.iconst 1, 1) := by decide +kernel
theorem dX9_chaptersOutFrom_24 : decode cX9_chaptersOutFrom 24 = .ok (.goto 4, 3) := by decide +kernel
theorem dX9_chaptersOutFrom_27 : decode cX9_chaptersOutFrom 27 = .ok (.iconst 0, 1) := by decide +kernel
theorem dX9_chaptersOutFrom_28 : decode cX9_chaptersOutFrom 28 = .ok (.invokestatic 69, 3) := by decide +kernel
theorem dX9_chaptersOutFrom_31 : decode cX9_chaptersOutFrom 31 = .ok (.istore_n 2, 1) := by decide +kernel
theorem dX9_chaptersOutFrom_32 : decode cX9_chaptersOutFrom 32 = .ok (.iinc 3 1, 3) := by decide +kernel
theorem dX9_chaptersOutFrom_35 : decode cX9_chaptersOutFrom 35 = .ok (.goto (-31), 3) := by decide +kernel
theorem dX9_chaptersOutFrom_38 : decode cX9_chaptersOutFrom 38 = .ok (.iload_n 2, 1) := by decide +kernel
theorem dX9_chaptersOutFrom_39 : decode cX9_chaptersOutFrom 39 = .ok (.ireturn, 1) := by decide +kernel
theorem dX9_ownersToldTo_0 : decode cX9_ownersToldTo 0 = .ok (.aload_n 0, 1) := by decide +kernel
theorem dX9_ownersToldTo_1 : decode cX9_ownersToldTo 1 = .ok (.getfield 33, 3) := by decide +kernel
theorem dX9_ownersToldTo_4 : decode cX9_ownersToldTo 4 = .ok (.ifnull 14, 3) := by decide +kernel
theorem dX9_ownersToldTo_7 : decode cX9_ownersToldTo 7 = .ok (.aload_n 0, 1) := by decide +kernel
theorem dX9_ownersToldTo_8 : decode cX9_ownersToldTo 8 = .ok (.getfield 33, 3) := by decide +kernel
theorem dX9_ownersToldTo_11 : decode cX9_ownersToldTo 11 = .ok (.getfield 50, 3) := by decide +kernel
theorem dX9_ownersToldTo_14 : decode cX9_ownersToldTo 14 = .ok (.iload_n 2, 1) := by decide +kernel
theorem dX9_ownersToldTo_15 : decode cX9_ownersToldTo 15 = .ok (.if_icmp .gt 7, 3) := by decide +kernel
theorem dX9_ownersToldTo_18 : decode cX9_ownersToldTo 18 = .ok (.iconst 1, 1) := by decide +kernel
theorem dX9_ownersToldTo_19 : decode cX9_ownersToldTo 19 = .ok (.goto 4, 3) := by decide +kernel
theorem dX9_ownersToldTo_22 : decode cX9_ownersToldTo 22 = .ok (.iconst 0, 1) := by decide +kernel
theorem dX9_ownersToldTo_23 : decode cX9_ownersToldTo 23 = .ok (.istore_n 3, 1) := by decide +kernel
theorem dX9_ownersToldTo_24 : decode cX9_ownersToldTo 24 = .ok (.aload_n 0, 1) := by decide +kernel
theorem dX9_ownersToldTo_25 : decode cX9_ownersToldTo 25 = .ok (.iload_n 1, 1) := by decide +kernel
theorem dX9_ownersToldTo_26 : decode cX9_ownersToldTo 26 = .ok (.iload_n 2, 1) := by decide +kernel
theorem dX9_ownersToldTo_27 : decode cX9_ownersToldTo 27 = .ok (.invokevirtual 53, 3) := by decide +kernel
theorem dX9_ownersToldTo_30 : decode cX9_ownersToldTo 30 = .ok (.ifCond .eq 22, 3) := by decide +kernel
theorem dX9_ownersToldTo_33 : decode cX9_ownersToldTo 33 = .ok (.aload_n 0, 1) := by decide +kernel
theorem dX9_ownersToldTo_34 : decode cX9_ownersToldTo 34 = .ok (.iload_n 1, 1) := by decide +kernel
theorem dX9_ownersToldTo_35 : decode cX9_ownersToldTo 35 = .ok (.invokevirtual 29, 3) := by decide +kernel
theorem dX9_ownersToldTo_38 : decode cX9_ownersToldTo 38 = .ok (.ifCond .ne 7, 3) := by decide +kernel
theorem dX9_ownersToldTo_41 : decode cX9_ownersToldTo 41 = .ok (.iload_n 3, 1) := by decide +kernel
theorem dX9_ownersToldTo_42 : decode cX9_ownersToldTo 42 = .ok (.ifCond .eq 10, 3) := by decide +kernel
theorem dX9_ownersToldTo_45 : decode cX9_ownersToldTo 45 = .ok (.aload_n 0, 1) := by decide +kernel
theorem dX9_ownersToldTo_46 : decode cX9_ownersToldTo 46 = .ok (.getfield 19, 3) := by decide +kernel
theorem dX9_ownersToldTo_49 : decode cX9_ownersToldTo 49 = .ok (.goto 4, 3) := by decide +kernel
theorem dX9_ownersToldTo_52 : decode cX9_ownersToldTo 52 = .ok (.iconst 0, 1) := by decide +kernel
theorem dX9_ownersToldTo_53 : decode cX9_ownersToldTo 53 = .ok (.ireturn, 1) := by decide +kernel
theorem dX10_newChapters_0 : decode cX10_newChapters 0 = .ok (.aload_n 0, 1) := by decide +kernel
theorem dX10_newChapters_1 : decode cX10_newChapters 1 = .ok (.getfield 21, 3) := by decide +kernel
theorem dX10_newChapters_4 : decode cX10_newChapters 4 = .ok (.iload_n 2, 1) := by decide +kernel
theorem dX10_newChapters_5 : decode cX10_newChapters 5 = .ok (.aaload, 1) := by decide +kernel
theorem dX10_newChapters_6 : decode cX10_newChapters 6 = .ok (.astore_n 3, 1) := by decide +kernel
theorem dX10_newChapters_7 : decode cX10_newChapters 7 = .ok (.aload_n 0, 1) := by decide +kernel
theorem dX10_newChapters_8 : decode cX10_newChapters 8 = .ok (.getfield 15, 3) := by decide +kernel
theorem dX10_newChapters_11 : decode cX10_newChapters 11 = .ok (.iload_n 1, 1) := by decide +kernel
theorem dX10_newChapters_12 : decode cX10_newChapters 12 = .ok (.aaload, 1) := by decide +kernel
theorem dX10_newChapters_13 : decode cX10_newChapters 13 = .ok (.astore 4, 2) := by decide +kernel
theorem dX10_newChapters_15 : decode cX10_newChapters 15 = .ok (.aload_n 3, 1) := by decide +kernel
theorem dX10_newChapters_16 : decode cX10_newChapters 16 = .ok (.invokevirtual 141, 3) := by decide +kernel
theorem dX10_newChapters_19 : decode cX10_newChapters 19 = .ok (.ifCond .eq 23, 3) := by decide +kernel
theorem dX10_newChapters_22 : decode cX10_newChapters 22 = .ok (.aload_n 3, 1) := by decide +kernel
theorem dX10_newChapters_23 : decode cX10_newChapters 23 = .ok (.iload_n 1, 1) := by decide +kernel
theorem dX10_newChapters_24 : decode cX10_newChapters 24 = .ok (.aload_n 0, 1) := by decide +kernel
theorem dX10_newChapters_25 : decode cX10_newChapters 25 = .ok (.getfield 73, 3) := by decide +kernel
theorem dX10_newChapters_28 : decode cX10_newChapters 28 = .ok (.invokevirtual 173, 3) := by decide +kernel
theorem dX10_newChapters_31 : decode cX10_newChapters 31 = .ok (.ifCond .eq 11, 3) := by decide +kernel
theorem dX10_newChapters_34 : decode cX10_newChapters 34 = .ok (.aload_n 3, 1) := by decide +kernel
theorem dX10_newChapters_35 : decode cX10_newChapters 35 = .ok (.iload_n 1, 1) := by decide +kernel
theorem dX10_newChapters_36 : decode cX10_newChapters 36 = .ok (.invokevirtual 125, 3) := by decide +kernel
theorem dX10_newChapters_39 : decode cX10_newChapters 39 = .ok (.ifCond .eq 5, 3) := by decide +kernel
theorem dX10_newChapters_42 : decode cX10_newChapters 42 = .ok (.iconst 0, 1) := by decide +kernel
theorem dX10_newChapters_43 : decode cX10_newChapters 43 = .ok (.ireturn, 1) := by decide +kernel
theorem dX10_newChapters_44 : decode cX10_newChapters 44 = .ok (.aload 4, 2) := by decide +kernel
theorem dX10_newChapters_46 : decode cX10_newChapters 46 = .ok (.getfield 367, 3) := by decide +kernel
theorem dX10_newChapters_49 : decode cX10_newChapters 49 = .ok (.iload_n 2, 1) := by decide +kernel
theorem dX10_newChapters_50 : decode cX10_newChapters 50 = .ok (.iaload, 1) := by decide +kernel
theorem dX10_newChapters_51 : decode cX10_newChapters 51 = .ok (.aload 4, 2) := by decide +kernel
theorem dX10_newChapters_53 : decode cX10_newChapters 53 = .ok (.aload_n 3, 1) := by decide +kernel
theorem dX10_newChapters_54 : decode cX10_newChapters 54 = .ok (.iload_n 1, 1) := by decide +kernel
theorem dX10_newChapters_55 : decode cX10_newChapters 55 = .ok (.aload_n 0, 1) := by decide +kernel
theorem dX10_newChapters_56 : decode cX10_newChapters 56 = .ok (.getfield 73, 3) := by decide +kernel
theorem dX10_newChapters_59 : decode cX10_newChapters 59 = .ok (.invokevirtual 176, 3) := by decide +kernel
theorem dX10_newChapters_62 : decode cX10_newChapters 62 = .ok (.invokevirtual 458, 3) := by decide +kernel
theorem dX10_newChapters_65 : decode cX10_newChapters 65 = .ok (.invokestatic 461, 3) := by decide +kernel
theorem dX10_newChapters_68 : decode cX10_newChapters 68 = .ok (.istore 5, 2) := by decide +kernel
theorem dX10_newChapters_70 : decode cX10_newChapters 70 = .ok (.aload_n 3, 1) := by decide +kernel
theorem dX10_newChapters_71 : decode cX10_newChapters 71 = .ok (.iload 5, 2) := by decide +kernel
theorem dX10_newChapters_73 : decode cX10_newChapters 73 = .ok (.invokevirtual 466, 3) := by decide +kernel
theorem dX10_newChapters_76 : decode cX10_newChapters 76 = .ok (.aload 4, 2) := by decide +kernel
theorem dX10_newChapters_78 : decode cX10_newChapters 78 = .ok (.getfield 373, 3) := by decide +kernel
theorem dX10_newChapters_81 : decode cX10_newChapters 81 = .ok (.iload_n 2, 1) := by decide +kernel
theorem dX10_newChapters_82 : decode cX10_newChapters 82 = .ok (.iaload, 1) := by decide +kernel
theorem dX10_newChapters_83 : decode cX10_newChapters 83 = .ok (.iconst (-1), 1) := by decide +kernel
theorem dX10_newChapters_84 : decode cX10_newChapters 84 = .ok (.ixor, 1) := by decide +kernel
theorem dX10_newChapters_85 : decode cX10_newChapters 85 = .ok (.iand, 1) := by decide +kernel
theorem dX10_newChapters_86 : decode cX10_newChapters 86 = .ok (.ireturn, 1) := by decide +kernel
theorem dX10_digest_0 : decode cX10_digest 0 = .ok (.iload_n 1, 1) := by decide +kernel
theorem dX10_digest_1 : decode cX10_digest 1 = .ok (.invokestatic 82, 3) := by decide +kernel
theorem dX10_digest_4 : decode cX10_digest 4 = .ok (.aload_n 0, 1) := by decide +kernel
theorem dX10_digest_5 : decode cX10_digest 5 = .ok (.getfield 15, 3) := by decide +kernel
theorem dX10_digest_8 : decode cX10_digest 8 = .ok (.iload_n 1, 1) := by decide +kernel
theorem dX10_digest_9 : decode cX10_digest 9 = .ok (.aaload, 1) := by decide +kernel
theorem dX10_digest_10 : decode cX10_digest 10 = .ok (.astore_n 2, 1) := by decide +kernel
theorem dX10_digest_11 : decode cX10_digest 11 = .ok (.iconst 0, 1) := by decide +kernel
theorem dX10_digest_12 : decode cX10_digest 12 = .ok (.istore_n 3, 1) := by decide +kernel
theorem dX10_digest_13 : decode cX10_digest 13 = .ok (.iconst 0, 1) := by decide +kernel
theorem dX10_digest_14 : decode cX10_digest 14 = .ok (.istore 4, 2) := by decide +kernel
theorem dX10_digest_16 : decode cX10_digest 16 = .ok (.iload 4, 2) := by decide +kernel
theorem dX10_digest_18 : decode cX10_digest 18 = .ok (.aload_n 0, 1) := by decide +kernel
theorem dX10_digest_19 : decode cX10_digest 19 = .ok (.getfield 104, 3) := by decide +kernel
theorem dX10_digest_22 : decode cX10_digest 22 = .ok (.if_icmp .ge 38, 3) := by decide +kernel
theorem dX10_digest_25 : decode cX10_digest 25 = .ok (.aload_n 0, 1) := by decide +kernel
theorem dX10_digest_26 : decode cX10_digest 26 = .ok (.iload_n 1, 1) := by decide +kernel
theorem dX10_digest_27 : decode cX10_digest 27 = .ok (.iload 4, 2) := by decide +kernel
theorem dX10_digest_29 : decode cX10_digest 29 = .ok (.invokevirtual 370, 3) := by decide +kernel
theorem dX10_digest_32 : decode cX10_digest 32 = .ok (.istore 5, 2) := by decide +kernel
theorem dX10_digest_34 : decode cX10_digest 34 = .ok (.aload_n 2, 1) := by decide +kernel
theorem dX10_digest_35 : decode cX10_digest 35 = .ok (.getfield 373, 3) := by decide +kernel
theorem dX10_digest_38 : decode cX10_digest 38 = .ok (.iload 4, 2) := by decide +kernel
theorem dX10_digest_40 : decode cX10_digest 40 = .ok (.dup2, 1) := by decide +kernel
theorem dX10_digest_41 : decode cX10_digest 41 = .ok (.iaload, 1) := by decide +kernel
theorem dX10_digest_42 : decode cX10_digest 42 = .ok (.iload 5, 2) := by decide +kernel
theorem dX10_digest_44 : decode cX10_digest 44 = .ok (.ior, 1) := by decide +kernel
theorem dX10_digest_45 : decode cX10_digest 45 = .ok (.iastore, 1) := by decide +kernel
theorem dX10_digest_46 : decode cX10_digest 46 = .ok (.iload_n 3, 1) := by decide +kernel
theorem dX10_digest_47 : decode cX10_digest 47 = .ok (.iload 5, 2) := by decide +kernel
theorem dX10_digest_49 : decode cX10_digest 49 = .ok (.invokestatic 119, 3) := by decide +kernel
theorem dX10_digest_52 : decode cX10_digest 52 = .ok (.iadd, 1) := by decide +kernel
theorem dX10_digest_53 : decode cX10_digest 53 = .ok (.istore_n 3, 1) := by decide +kernel
theorem dX10_digest_54 : decode cX10_digest 54 = .ok (.iinc 4 1, 3) := by decide +kernel
theorem dX10_digest_57 : decode cX10_digest 57 = .ok (.goto (-41), 3) := by decide +kernel
theorem dX10_digest_60 : decode cX10_digest 60 = .ok (.iload_n 3, 1) := by decide +kernel
theorem dX10_digest_61 : decode cX10_digest 61 = .ok (.ireturn, 1) := by decide +kernel
theorem dL_digest_0 : decode cL_digest 0 = .ok (.aload_n 2, 1) := by decide +kernel
theorem dL_digest_1 : decode cL_digest 1 = .ok (.iconst 0, 1) := by decide +kernel
theorem dL_digest_2 : decode cL_digest 2 = .ok (.aload_n 0, 1) := by decide +kernel
theorem dL_digest_3 : decode cL_digest 3 = .ok (.iload_n 1, 1) := by decide +kernel
theorem dL_digest_4 : decode cL_digest 4 = .ok (.invokevirtual 129, 3) := by decide +kernel
theorem dL_digest_7 : decode cL_digest 7 = .ok (.i2l, 1) := by decide +kernel
theorem dL_digest_8 : decode cL_digest 8 = .ok (.lastore, 1) := by decide +kernel
theorem dL_digest_9 : decode cL_digest 9 = .ok (.goto 6, 3) := by decide +kernel
theorem dL_digest_12 : decode cL_digest 12 = .ok (.astore_n 3, 1) := by decide +kernel
theorem dL_digest_13 : decode cL_digest 13 = .ok (.iconst 1, 1) := by decide +kernel
theorem dL_digest_14 : decode cL_digest 14 = .ok (.ireturn, 1) := by decide +kernel
theorem dL_digest_15 : decode cL_digest 15 = .ok (.iconst 0, 1) := by decide +kernel
theorem dL_digest_16 : decode cL_digest 16 = .ok (.ireturn, 1) := by decide +kernel
theorem dX10_join_0 : decode cX10_join 0 = .ok (.aload_n 0, 1) := by decide +kernel
theorem dX10_join_1 : decode cX10_join 1 = .ok (.iload_n 1, 1) := by decide +kernel
theorem dX10_join_2 : decode cX10_join 2 = .ok (.invokevirtual 112, 3) := by decide +kernel
theorem dX10_join_5 : decode cX10_join 5 = .ok (.astore_n 3, 1) := by decide +kernel
theorem dX10_join_6 : decode cX10_join 6 = .ok (.iload_n 2, 1) := by decide +kernel
theorem dX10_join_7 : decode cX10_join 7 = .ok (.invokestatic 82, 3) := by decide +kernel
theorem dX10_join_10 : decode cX10_join 10 = .ok (.aload_n 3, 1) := by decide +kernel
theorem dX10_join_11 : decode cX10_join 11 = .ok (.getfield 116, 3) := by decide +kernel
theorem dX10_join_14 : decode cX10_join 14 = .ok (.invokestatic 119, 3) := by decide +kernel
theorem dX10_join_17 : decode cX10_join 17 = .ok (.istore 4, 2) := by decide +kernel
theorem dX10_join_19 : decode cX10_join 19 = .ok (.aload_n 3, 1) := by decide +kernel
theorem dX10_join_20 : decode cX10_join 20 = .ok (.iload_n 2, 1) := by decide +kernel
theorem dX10_join_21 : decode cX10_join 21 = .ok (.invokevirtual 125, 3) := by decide +kernel
theorem dX10_join_24 : decode cX10_join 24 = .ok (.ifCond .ne 14, 3) := by decide +kernel
theorem dX10_join_27 : decode cX10_join 27 = .ok (.iload 4, 2) := by decide +kernel
theorem dX10_join_29 : decode cX10_join 29 = .ok (.iconst 3, 1) := by decide +kernel
theorem dX10_join_30 : decode cX10_join 30 = .ok (.if_icmp .ge 8, 3) := by decide +kernel
theorem dX10_join_33 : decode cX10_join 33 = .ok (.iload 4, 2) := by decide +kernel
theorem dX10_join_35 : decode cX10_join 35 = .ok (.ifCond .ne 13, 3) := by decide +kernel
theorem dX10_join_38 : decode cX10_join 38 = .ok (.new 77, 3) := by decide +kernel
theorem dX10_join_41 : decode cX10_join 41 = .ok (.dup, 1) := by decide +kernel
theorem dX10_join_42 : decode cX10_join 42 = .ok (.ldc 129, 2) := by decide +kernel
theorem dX10_join_44 : decode cX10_join 44 = .ok (.invokespecial 81, 3) := by decide +kernel
theorem dX10_join_47 : decode cX10_join 47 = .ok (.athrow, 1) := by decide +kernel
theorem dX10_join_48 : decode cX10_join 48 = .ok (.aload_n 3, 1) := by decide +kernel
theorem dX10_join_49 : decode cX10_join 49 = .ok (.aload_n 3, 1) := by decide +kernel
theorem dX10_join_50 : decode cX10_join 50 = .ok (.getfield 116, 3) := by decide +kernel
theorem dX10_join_53 : decode cX10_join 53 = .ok (.iload_n 2, 1) := by decide +kernel
theorem dX10_join_54 : decode cX10_join 54 = .ok (.iconst 1, 1) := by decide +kernel
theorem dX10_join_55 : decode cX10_join 55 = .ok (.invokestatic 95, 3) := by decide +kernel
theorem dX10_join_58 : decode cX10_join 58 = .ok (.putfield 116, 3) := by decide +kernel
theorem dX10_join_61 : decode cX10_join 61 = .ok (.iload 4, 2) := by decide +kernel
theorem dX10_join_63 : decode cX10_join 63 = .ok (.iconst 1, 1) := by decide +kernel
theorem dX10_join_64 : decode cX10_join 64 = .ok (.iadd, 1) := by decide +kernel
theorem dX10_join_65 : decode cX10_join 65 = .ok (.ireturn, 1) := by decide +kernel
theorem dL_join_0 : decode cL_join 0 = .ok (.aload_n 3, 1) := by decide +kernel
theorem dL_join_1 : decode cL_join 1 = .ok (.iconst 0, 1) := by decide +kernel
theorem dL_join_2 : decode cL_join 2 = .ok (.aload_n 0, 1) := by decide +kernel
theorem dL_join_3 : decode cL_join 3 = .ok (.iload_n 1, 1) := by decide +kernel
theorem dL_join_4 : decode cL_join 4 = .ok (.iload_n 2, 1) := by decide +kernel
theorem dL_join_5 : decode cL_join 5 = .ok (.invokevirtual 31, 3) := by decide +kernel
theorem dL_join_8 : decode cL_join 8 = .ok (.i2l, 1) := by decide +kernel
theorem dL_join_9 : decode cL_join 9 = .ok (.lastore, 1) := by decide +kernel
theorem dL_join_10 : decode cL_join 10 = .ok (.goto 11, 3) := by decide +kernel
theorem dL_join_13 : decode cL_join 13 = .ok (.astore 4, 2) := by decide +kernel
theorem dL_join_15 : decode cL_join 15 = .ok (.iconst 1, 1) := by decide +kernel
theorem dL_join_16 : decode cL_join 16 = .ok (.ireturn, 1) := by decide +kernel
theorem dL_join_17 : decode cL_join 17 = .ok (.astore 4, 2) := by decide +kernel
theorem dL_join_19 : decode cL_join 19 = .ok (.iconst 2, 1) := by decide +kernel
theorem dL_join_20 : decode cL_join 20 = .ok (.ireturn, 1) := by decide +kernel
theorem dL_join_21 : decode cL_join 21 = .ok (.iconst 0, 1) := by decide +kernel
theorem dL_join_22 : decode cL_join 22 = .ok (.ireturn, 1) := by decide +kernel
theorem dX10_countKudos_0 : decode cX10_countKudos 0 = .ok (.iconst 0, 1) := by decide +kernel
theorem dX10_countKudos_1 : decode cX10_countKudos 1 = .ok (.istore_n 2, 1) := by decide +kernel
theorem dX10_countKudos_2 : decode cX10_countKudos 2 = .ok (.iconst 0, 1) := by decide +kernel
theorem dX10_countKudos_3 : decode cX10_countKudos 3 = .ok (.istore_n 3, 1) := by decide +kernel
theorem dX10_countKudos_4 : decode cX10_countKudos 4 = .ok (.iload_n 3, 1) := by decide +kernel
theorem dX10_countKudos_5 : decode cX10_countKudos 5 = .ok (.bipush 32, 2) := by decide +kernel
theorem dX10_countKudos_7 : decode cX10_countKudos 7 = .ok (.if_icmp .ge 47, 3) := by decide +kernel
theorem dX10_countKudos_10 : decode cX10_countKudos 10 = .ok (.iconst 1, 1) := by decide +kernel
theorem dX10_countKudos_11 : decode cX10_countKudos 11 = .ok (.iload_n 3, 1) := by decide +kernel
theorem dX10_countKudos_12 : decode cX10_countKudos 12 = .ok (.ishl, 1) := by decide +kernel
theorem dX10_countKudos_13 : decode cX10_countKudos 13 = .ok (.iconst 1, 1) := by decide +kernel
theorem dX10_countKudos_14 : decode cX10_countKudos 14 = .ok (.isub, 1) := by decide +kernel
theorem dX10_countKudos_15 : decode cX10_countKudos 15 = .ok (.istore 4, 2) := by decide +kernel
theorem dX10_countKudos_17 : decode cX10_countKudos 17 = .ok (.aload_n 1, 1) := by decide +kernel
theorem dX10_countKudos_18 : decode cX10_countKudos 18 = .ok (.getfield 352, 3) := by decide +kernel
theorem dX10_countKudos_21 : decode cX10_countKudos 21 = .ok (.iload_n 3, 1) := by decide +kernel
theorem dX10_countKudos_22 : decode cX10_countKudos 22 = .ok (.invokestatic 91, 3) := by decide +kernel
theorem dX10_countKudos_25 : decode cX10_countKudos 25 = .ok (.ifCond .eq 23, 3) := by decide +kernel
theorem dX10_countKudos_28 : decode cX10_countKudos 28 = .ok (.aload_n 1, 1) := by decide +kernel
theorem dX10_countKudos_29 : decode cX10_countKudos 29 = .ok (.getfield 352, 3) := by decide +kernel
theorem dX10_countKudos_32 : decode cX10_countKudos 32 = .ok (.aload_n 0, 1) := by decide +kernel
theorem dX10_countKudos_33 : decode cX10_countKudos 33 = .ok (.getfield 9, 3) := by decide +kernel
theorem dX10_countKudos_36 : decode cX10_countKudos 36 = .ok (.iload_n 3, 1) := by decide +kernel
theorem dX10_countKudos_37 : decode cX10_countKudos 37 = .ok (.iaload, 1) := by decide +kernel
theorem dX10_countKudos_38 : decode cX10_countKudos 38 = .ok (.iand, 1) := by decide +kernel
theorem dX10_countKudos_39 : decode cX10_countKudos 39 = .ok (.iload 4, 2) := by decide +kernel
theorem dX10_countKudos_41 : decode cX10_countKudos 41 = .ok (.iand, 1) := by decide +kernel
theorem dX10_countKudos_42 : decode cX10_countKudos 42 = .ok (.ifCond .ne 6, 3) := by decide +kernel
theorem dX10_countKudos_45 : decode cX10_countKudos 45 = .ok (.iinc 2 1, 3) := by decide +kernel
theorem dX10_countKudos_48 : decode cX10_countKudos 48 = .ok (.iinc 3 1, 3) := by decide +kernel
theorem dX10_countKudos_51 : decode cX10_countKudos 51 = .ok (.goto (-47), 3) := by decide +kernel
theorem dX10_countKudos_54 : decode cX10_countKudos 54 = .ok (.iload_n 2, 1) := by decide +kernel
theorem dX10_countKudos_55 : decode cX10_countKudos 55 = .ok (.ireturn, 1) := by decide +kernel
theorem dX10_kudos_0 : decode cX10_kudos 0 = .ok (.aload_n 0, 1) := by decide +kernel
theorem dX10_kudos_1 : decode cX10_kudos 1 = .ok (.iload_n 1, 1) := by decide +kernel
theorem dX10_kudos_2 : decode cX10_kudos 2 = .ok (.invokevirtual 112, 3) := by decide +kernel
theorem dX10_kudos_5 : decode cX10_kudos 5 = .ok (.astore_n 3, 1) := by decide +kernel
theorem dX10_kudos_6 : decode cX10_kudos 6 = .ok (.iload_n 2, 1) := by decide +kernel
theorem dX10_kudos_7 : decode cX10_kudos 7 = .ok (.invokestatic 99, 3) := by decide +kernel
theorem dX10_kudos_10 : decode cX10_kudos 10 = .ok (.aload_n 3, 1) := by decide +kernel
theorem dX10_kudos_11 : decode cX10_kudos 11 = .ok (.iload_n 2, 1) := by decide +kernel
theorem dX10_kudos_12 : decode cX10_kudos 12 = .ok (.aload_n 0, 1) := by decide +kernel
theorem dX10_kudos_13 : decode cX10_kudos 13 = .ok (.getfield 73, 3) := by decide +kernel
theorem dX10_kudos_16 : decode cX10_kudos 16 = .ok (.invokevirtual 173, 3) := by decide +kernel
theorem dX10_kudos_19 : decode cX10_kudos 19 = .ok (.ifCond .eq 25, 3) := by decide +kernel
theorem dX10_kudos_22 : decode cX10_kudos 22 = .ok (.aload_n 3, 1) := by decide +kernel
theorem dX10_kudos_23 : decode cX10_kudos 23 = .ok (.iload_n 2, 1) := by decide +kernel
theorem dX10_kudos_24 : decode cX10_kudos 24 = .ok (.invokevirtual 125, 3) := by decide +kernel
theorem dX10_kudos_27 : decode cX10_kudos 27 = .ok (.ifCond .ne 17, 3) := by decide +kernel
theorem dX10_kudos_30 : decode cX10_kudos 30 = .ok (.aload_n 3, 1) := by decide +kernel
theorem dX10_kudos_31 : decode cX10_kudos 31 = .ok (.getfield 352, 3) := by decide +kernel
theorem dX10_kudos_34 : decode cX10_kudos 34 = .ok (.aload_n 0, 1) := by decide +kernel
theorem dX10_kudos_35 : decode cX10_kudos 35 = .ok (.getfield 9, 3) := by decide +kernel
theorem dX10_kudos_38 : decode cX10_kudos 38 = .ok (.iload_n 2, 1) := by decide +kernel
theorem dX10_kudos_39 : decode cX10_kudos 39 = .ok (.iaload, 1) := by decide +kernel
theorem dX10_kudos_40 : decode cX10_kudos 40 = .ok (.iand, 1) := by decide +kernel
theorem dX10_kudos_41 : decode cX10_kudos 41 = .ok (.ifCond .eq 14, 3) := by decide +kernel
theorem dX10_kudos_44 : decode cX10_kudos 44 = .ok (.new 77, 3) := by decide +kernel
theorem dX10_kudos_47 : decode cX10_kudos 47 = .ok (.dup, 1) := by decide +kernel
theorem dX10_kudos_48 : decode cX10_kudos 48 = .ok (.ldc_w 355, 3) := by decide +kernel
theorem dX10_kudos_51 : decode cX10_kudos 51 = .ok (.invokespecial 81, 3) := by decide +kernel
theorem dX10_kudos_54 : decode cX10_kudos 54 = .ok (.athrow, 1) := by decide +kernel
theorem dX10_kudos_55 : decode cX10_kudos 55 = .ok (.aload_n 3, 1) := by decide +kernel
theorem dX10_kudos_56 : decode cX10_kudos 56 = .ok (.aload_n 3, 1) := by decide +kernel
theorem dX10_kudos_57 : decode cX10_kudos 57 = .ok (.getfield 352, 3) := by decide +kernel
theorem dX10_kudos_60 : decode cX10_kudos 60 = .ok (.iload_n 2, 1) := by decide +kernel
theorem dX10_kudos_61 : decode cX10_kudos 61 = .ok (.iconst 1, 1) := by decide +kernel
theorem dX10_kudos_62 : decode cX10_kudos 62 = .ok (.invokestatic 95, 3) := by decide +kernel
theorem dX10_kudos_65 : decode cX10_kudos 65 = .ok (.putfield 352, 3) := by decide +kernel
theorem dX10_kudos_68 : decode cX10_kudos 68 = .ok (.aload_n 0, 1) := by decide +kernel
theorem dX10_kudos_69 : decode cX10_kudos 69 = .ok (.aload_n 3, 1) := by decide +kernel
theorem dX10_kudos_70 : decode cX10_kudos 70 = .ok (.invokevirtual 357, 3) := by decide +kernel
theorem dX10_kudos_73 : decode cX10_kudos 73 = .ok (.ireturn, 1) := by decide +kernel
theorem dL_kudos_0 : decode cL_kudos 0 = .ok (.aload_n 3, 1) := by decide +kernel
theorem dL_kudos_1 : decode cL_kudos 1 = .ok (.iconst 0, 1) := by decide +kernel
theorem dL_kudos_2 : decode cL_kudos 2 = .ok (.aload_n 0, 1) := by decide +kernel
theorem dL_kudos_3 : decode cL_kudos 3 = .ok (.iload_n 1, 1) := by decide +kernel
theorem dL_kudos_4 : decode cL_kudos 4 = .ok (.iload_n 2, 1) := by decide +kernel
theorem dL_kudos_5 : decode cL_kudos 5 = .ok (.invokevirtual 116, 3) := by decide +kernel
theorem dL_kudos_8 : decode cL_kudos 8 = .ok (.i2l, 1) := by decide +kernel
theorem dL_kudos_9 : decode cL_kudos 9 = .ok (.lastore, 1) := by decide +kernel
theorem dL_kudos_10 : decode cL_kudos 10 = .ok (.goto 11, 3) := by decide +kernel
theorem dL_kudos_13 : decode cL_kudos 13 = .ok (.astore 4, 2) := by decide +kernel
theorem dL_kudos_15 : decode cL_kudos 15 = .ok (.iconst 1, 1) := by decide +kernel
theorem dL_kudos_16 : decode cL_kudos 16 = .ok (.ireturn, 1) := by decide +kernel
theorem dL_kudos_17 : decode cL_kudos 17 = .ok (.astore 4, 2) := by decide +kernel
theorem dL_kudos_19 : decode cL_kudos 19 = .ok (.iconst 2, 1) := by decide +kernel
theorem dL_kudos_20 : decode cL_kudos 20 = .ok (.ireturn, 1) := by decide +kernel
theorem dL_kudos_21 : decode cL_kudos 21 = .ok (.iconst 0, 1) := by decide +kernel
theorem dL_kudos_22 : decode cL_kudos 22 = .ok (.ireturn, 1) := by decide +kernel
theorem dX10_leave_0 : decode cX10_leave 0 = .ok (.aload_n 0, 1) := by decide +kernel
theorem dX10_leave_1 : decode cX10_leave 1 = .ok (.iload_n 1, 1) := by decide +kernel
theorem dX10_leave_2 : decode cX10_leave 2 = .ok (.invokevirtual 112, 3) := by decide +kernel
theorem dX10_leave_5 : decode cX10_leave 5 = .ok (.astore_n 3, 1) := by decide +kernel
theorem dX10_leave_6 : decode cX10_leave 6 = .ok (.iload_n 2, 1) := by decide +kernel
theorem dX10_leave_7 : decode cX10_leave 7 = .ok (.invokestatic 82, 3) := by decide +kernel
theorem dX10_leave_10 : decode cX10_leave 10 = .ok (.aload_n 3, 1) := by decide +kernel
theorem dX10_leave_11 : decode cX10_leave 11 = .ok (.iload_n 2, 1) := by decide +kernel
theorem dX10_leave_12 : decode cX10_leave 12 = .ok (.invokevirtual 125, 3) := by decide +kernel
theorem dX10_leave_15 : decode cX10_leave 15 = .ok (.ifCond .ne 13, 3) := by decide +kernel
theorem dX10_leave_18 : decode cX10_leave 18 = .ok (.new 77, 3) := by decide +kernel
theorem dX10_leave_21 : decode cX10_leave 21 = .ok (.dup, 1) := by decide +kernel
theorem dX10_leave_22 : decode cX10_leave 22 = .ok (.ldc 131, 2) := by decide +kernel
theorem dX10_leave_24 : decode cX10_leave 24 = .ok (.invokespecial 81, 3) := by decide +kernel
theorem dX10_leave_27 : decode cX10_leave 27 = .ok (.athrow, 1) := by decide +kernel
theorem dX10_leave_28 : decode cX10_leave 28 = .ok (.aload_n 3, 1) := by decide +kernel
theorem dX10_leave_29 : decode cX10_leave 29 = .ok (.aload_n 3, 1) := by decide +kernel
theorem dX10_leave_30 : decode cX10_leave 30 = .ok (.getfield 116, 3) := by decide +kernel
theorem dX10_leave_33 : decode cX10_leave 33 = .ok (.iload_n 2, 1) := by decide +kernel
theorem dX10_leave_34 : decode cX10_leave 34 = .ok (.iconst 0, 1) := by decide +kernel
theorem dX10_leave_35 : decode cX10_leave 35 = .ok (.invokestatic 95, 3) := by decide +kernel
theorem dX10_leave_38 : decode cX10_leave 38 = .ok (.putfield 116, 3) := by decide +kernel
theorem dX10_leave_41 : decode cX10_leave 41 = .ok (.aload_n 3, 1) := by decide +kernel
theorem dX10_leave_42 : decode cX10_leave 42 = .ok (.getfield 116, 3) := by decide +kernel
theorem dX10_leave_45 : decode cX10_leave 45 = .ok (.invokestatic 119, 3) := by decide +kernel
theorem dX10_leave_48 : decode cX10_leave 48 = .ok (.ireturn, 1) := by decide +kernel
theorem dL_leave_0 : decode cL_leave 0 = .ok (.aload_n 3, 1) := by decide +kernel
theorem dL_leave_1 : decode cL_leave 1 = .ok (.iconst 0, 1) := by decide +kernel
theorem dL_leave_2 : decode cL_leave 2 = .ok (.aload_n 0, 1) := by decide +kernel
theorem dL_leave_3 : decode cL_leave 3 = .ok (.iload_n 1, 1) := by decide +kernel
theorem dL_leave_4 : decode cL_leave 4 = .ok (.iload_n 2, 1) := by decide +kernel
theorem dL_leave_5 : decode cL_leave 5 = .ok (.invokevirtual 34, 3) := by decide +kernel
theorem dL_leave_8 : decode cL_leave 8 = .ok (.i2l, 1) := by decide +kernel
theorem dL_leave_9 : decode cL_leave 9 = .ok (.lastore, 1) := by decide +kernel
theorem dL_leave_10 : decode cL_leave 10 = .ok (.goto 11, 3) := by decide +kernel
theorem dL_leave_13 : decode cL_leave 13 = .ok (.astore 4, 2) := by decide +kernel
theorem dL_leave_15 : decode cL_leave 15 = .ok (.iconst 1, 1) := by decide +kernel
theorem dL_leave_16 : decode cL_leave 16 = .ok (.ireturn, 1) := by decide +kernel
theorem dL_leave_17 : decode cL_leave 17 = .ok (.astore 4, 2) := by decide +kernel
theorem dL_leave_19 : decode cL_leave 19 = .ok (.iconst 2, 1) := by decide +kernel
theorem dL_leave_20 : decode cL_leave 20 = .ok (.ireturn, 1) := by decide +kernel
theorem dL_leave_21 : decode cL_leave 21 = .ok (.iconst 0, 1) := by decide +kernel
theorem dL_leave_22 : decode cL_leave 22 = .ok (.ireturn, 1) := by decide +kernel
theorem dX10_liked_0 : decode cX10_liked 0 = .ok (.aload_n 0, 1) := by decide +kernel
theorem dX10_liked_1 : decode cX10_liked 1 = .ok (.aload_n 0, 1) := by decide +kernel
theorem dX10_liked_2 : decode cX10_liked 2 = .ok (.iload_n 1, 1) := by decide +kernel
theorem dX10_liked_3 : decode cX10_liked 3 = .ok (.invokevirtual 112, 3) := by decide +kernel
theorem dX10_liked_6 : decode cX10_liked 6 = .ok (.invokevirtual 357, 3) := by decide +kernel
theorem dX10_liked_9 : decode cX10_liked 9 = .ok (.ireturn, 1) := by decide +kernel
theorem dL_liked_0 : decode cL_liked 0 = .ok (.aload_n 2, 1) := by decide +kernel
theorem dL_liked_1 : decode cL_liked 1 = .ok (.iconst 0, 1) := by decide +kernel
theorem dL_liked_2 : decode cL_liked 2 = .ok (.aload_n 0, 1) := by decide +kernel
theorem dL_liked_3 : decode cL_liked 3 = .ok (.iload_n 1, 1) := by decide +kernel
theorem dL_liked_4 : decode cL_liked 4 = .ok (.invokevirtual 119, 3) := by decide +kernel
theorem dL_liked_7 : decode cL_liked 7 = .ok (.i2l, 1) := by decide +kernel
theorem dL_liked_8 : decode cL_liked 8 = .ok (.lastore, 1) := by decide +kernel
theorem dL_liked_9 : decode cL_liked 9 = .ok (.goto 6, 3) := by decide +kernel
theorem dL_liked_12 : decode cL_liked 12 = .ok (.astore_n 3, 1) := by decide +kernel
theorem dL_liked_13 : decode cL_liked 13 = .ok (.iconst 1, 1) := by decide +kernel
theorem dL_liked_14 : decode cL_liked 14 = .ok (.ireturn, 1) := by decide +kernel
theorem dL_liked_15 : decode cL_liked 15 = .ok (.iconst 0, 1) := by decide +kernel
theorem dL_liked_16 : decode cL_liked 16 = .ok (.ireturn, 1) := by decide +kernel
theorem dX10_lock_0 : decode cX10_lock 0 = .ok (.aload_n 0, 1) := by decide +kernel
theorem dX10_lock_1 : decode cX10_lock 1 = .ok (.iload_n 1, 1) := by decide +kernel
theorem dX10_lock_2 : decode cX10_lock 2 = .ok (.invokevirtual 112, 3) := by decide +kernel
theorem dX10_lock_5 : decode cX10_lock 5 = .ok (.astore_n 3, 1) := by decide +kernel
theorem dX10_lock_6 : decode cX10_lock 6 = .ok (.aload_n 3, 1) := by decide +kernel
theorem dX10_lock_7 : decode cX10_lock 7 = .ok (.getfield 150, 3) := by decide +kernel
theorem dX10_lock_10 : decode cX10_lock 10 = .ok (.istore 4, 2) := by decide +kernel
theorem dX10_lock_12 : decode cX10_lock 12 = .ok (.aload_n 3, 1) := by decide +kernel
theorem dX10_lock_13 : decode cX10_lock 13 = .ok (.iload_n 2, 1) := by decide +kernel
theorem dX10_lock_14 : decode cX10_lock 14 = .ok (.putfield 150, 3) := by decide +kernel
theorem dX10_lock_17 : decode cX10_lock 17 = .ok (.iload 4, 2) := by decide +kernel
theorem dX10_lock_19 : decode cX10_lock 19 = .ok (.ireturn, 1) := by decide +kernel
theorem dL_lock_0 : decode cL_lock 0 = .ok (.aload_n 3, 1) := by decide +kernel
theorem dL_lock_1 : decode cL_lock 1 = .ok (.iconst 0, 1) := by decide +kernel
theorem dL_lock_2 : decode cL_lock 2 = .ok (.aload_n 0, 1) := by decide +kernel
theorem dL_lock_3 : decode cL_lock 3 = .ok (.iload_n 1, 1) := by decide +kernel
theorem dL_lock_4 : decode cL_lock 4 = .ok (.iload_n 2, 1) := by decide +kernel
theorem dL_lock_5 : decode cL_lock 5 = .ok (.invokevirtual 43, 3) := by decide +kernel
theorem dL_lock_8 : decode cL_lock 8 = .ok (.ifCond .eq 7, 3) := by decide +kernel
theorem dL_lock_11 : decode cL_lock 11 = .ok (.lconst 1, 1) := by decide +kernel
theorem dL_lock_12 : decode cL_lock 12 = .ok (.goto 4, 3) := by decide +kernel
theorem dL_lock_15 : decode cL_lock 15 = .ok (.lconst 0, 1) := by decide +kernel
theorem dL_lock_16 : decode cL_lock 16 = .ok (.lastore, 1) := by decide +kernel
theorem dL_lock_17 : decode cL_lock 17 = .ok (.goto 7, 3) := by decide +kernel
theorem dL_lock_20 : decode cL_lock 20 = .ok (.astore 4, 2) := by decide +kernel
theorem dL_lock_22 : decode cL_lock 22 = .ok (.iconst 1, 1) := by decide +kernel
theorem dL_lock_23 : decode cL_lock 23 = .ok (.ireturn, 1) := by decide +kernel
theorem dL_lock_24 : decode cL_lock 24 = .ok (.iconst 0, 1) := by decide +kernel
theorem dL_lock_25 : decode cL_lock 25 = .ok (.ireturn, 1) := by decide +kernel
theorem dX10_checkTag_0 : decode cX10_checkTag 0 = .ok (.iload_n 1, 1) := by decide +kernel
theorem dX10_checkTag_1 : decode cX10_checkTag 1 = .ok (.ifCond .lt 14, 3) := by decide +kernel
theorem dX10_checkTag_4 : decode cX10_checkTag 4 = .ok (.iload_n 1, 1) := by decide +kernel
theorem dX10_checkTag_5 : decode cX10_checkTag 5 = .ok (.aload_n 0, 1) := by decide +kernel
theorem dX10_checkTag_6 : decode cX10_checkTag 6 = .ok (.getfield 34, 3) := by decide +kernel
theorem dX10_checkTag_9 : decode cX10_checkTag 9 = .ok (.getfield 180, 3) := by decide +kernel
theorem dX10_checkTag_12 : decode cX10_checkTag 12 = .ok (.if_icmp .lt 14, 3) := by decide +kernel
theorem dX10_checkTag_15 : decode cX10_checkTag 15 = .ok (.new 162, 3) := by decide +kernel
theorem dX10_checkTag_18 : decode cX10_checkTag 18 = .ok (.dup, 1) := by decide +kernel
theorem dX10_checkTag_19 : decode cX10_checkTag 19 = .ok (.ldc_w 380, 3) := by decide +kernel
theorem dX10_checkTag_22 : decode cX10_checkTag 22 = .ok (.invokespecial 166, 3) := by decide +kernel
theorem dX10_checkTag_25 : decode cX10_checkTag 25 = .ok (.athrow, 1) := by decide +kernel
theorem dX10_checkTag_26 : decode cX10_checkTag 26 = .ok (.return_, 1) := by decide +kernel
theorem dX10_letTaggedWorksWait_0 : decode cX10_letTaggedWorksWait 0 = .ok (.iconst 0, 1) := by decide +kernel
theorem dX10_letTaggedWorksWait_1 : decode cX10_letTaggedWorksWait 1 = .ok (.istore_n 1, 1) := by decide +kernel
theorem dX10_letTaggedWorksWait_2 : decode cX10_letTaggedWorksWait 2 = .ok (.iload_n 1, 1) := by decide +kernel
theorem dX10_letTaggedWorksWait_3 : decode cX10_letTaggedWorksWait 3 = .ok (.aload_n 0, 1) := by decide +kernel
theorem dX10_letTaggedWorksWait_4 : decode cX10_letTaggedWorksWait 4 = .ok (.getfield 104, 3) := by decide +kernel
theorem dX10_letTaggedWorksWait_7 : decode cX10_letTaggedWorksWait 7 = .ok (.if_icmp .ge 39, 3) := by decide +kernel
theorem dX10_letTaggedWorksWait_10 : decode cX10_letTaggedWorksWait 10 = .ok (.aload_n 0, 1) := by decide +kernel
theorem dX10_letTaggedWorksWait_11 : decode cX10_letTaggedWorksWait 11 = .ok (.getfield 21, 3) := by decide +kernel
theorem dX10_letTaggedWorksWait_14 : decode cX10_letTaggedWorksWait 14 = .ok (.iload_n 1, 1) := by decide +kernel
theorem dX10_letTaggedWorksWait_15 : decode cX10_letTaggedWorksWait 15 = .ok (.aaload, 1) := by decide +kernel
theorem dX10_letTaggedWorksWait_16 : decode cX10_letTaggedWorksWait 16 = .ok (.astore_n 2, 1) := by decide +kernel
theorem dX10_letTaggedWorksWait_17 : decode cX10_letTaggedWorksWait 17 = .ok (.aload_n 2, 1) := by decide +kernel
theorem dX10_letTaggedWorksWait_18 : decode cX10_letTaggedWorksWait 18 = .ok (.aload_n 2, 1) := by decide +kernel
theorem dX10_letTaggedWorksWait_19 : decode cX10_letTaggedWorksWait 19 = .ok (.getfield 244, 3) := by decide +kernel
theorem dX10_letTaggedWorksWait_22 : decode cX10_letTaggedWorksWait 22 = .ok (.ifCond .ne 10, 3) := by decide +kernel
theorem dX10_letTaggedWorksWait_25 : decode cX10_letTaggedWorksWait 25 = .ok (.aload_n 2, 1) := by decide +kernel
theorem dX10_letTaggedWorksWait_26 : decode cX10_letTaggedWorksWait 26 = .ok (.getfield 234, 3) := by decide +kernel
theorem dX10_letTaggedWorksWait_29 : decode cX10_letTaggedWorksWait 29 = .ok (.ifCond .eq 7, 3) := by decide +kernel
theorem dX10_letTaggedWorksWait_32 : decode cX10_letTaggedWorksWait 32 = .ok (.iconst 1, 1) := by decide +kernel
theorem dX10_letTaggedWorksWait_33 : decode cX10_letTaggedWorksWait 33 = .ok (.goto 4, 3) := by decide +kernel
theorem dX10_letTaggedWorksWait_36 : decode cX10_letTaggedWorksWait 36 = .ok (.iconst 0, 1) := by decide +kernel
theorem dX10_letTaggedWorksWait_37 : decode cX10_letTaggedWorksWait 37 = .ok (.putfield 244, 3) := by decide +kernel
theorem dX10_letTaggedWorksWait_40 : decode cX10_letTaggedWorksWait 40 = .ok (.iinc 1 1, 3) := by decide +kernel
theorem dX10_letTaggedWorksWait_43 : decode cX10_letTaggedWorksWait 43 = .ok (.goto (-41), 3) := by decide +kernel
theorem dX10_letTaggedWorksWait_46 : decode cX10_letTaggedWorksWait 46 = .ok (.return_, 1) := by decide +kernel
theorem dX7_kindOf_0 : decode cX7_kindOf 0 = .ok (.aload_n 0, 1) := by decide +kernel
theorem dX7_kindOf_1 : decode cX7_kindOf 1 = .ok (.getfield 9, 3) := by decide +kernel
theorem dX7_kindOf_4 : decode cX7_kindOf 4 = .ok (.iload_n 1, 1) := by decide +kernel
theorem dX7_kindOf_5 : decode cX7_kindOf 5 = .ok (.iaload, 1) := by decide +kernel
theorem dX7_kindOf_6 : decode cX7_kindOf 6 = .ok (.iconst (-1), 1) := by decide +kernel
theorem dX7_kindOf_7 : decode cX7_kindOf 7 = .ok (.if_icmp .ne 5, 3) := by decide +kernel
theorem dX7_kindOf_10 : decode cX7_kindOf 10 = .ok (.iconst 0, 1) := by decide +kernel
theorem dX7_kindOf_11 : decode cX7_kindOf 11 = .ok (.ireturn, 1) := by decide +kernel
theorem dX7_kindOf_12 : decode cX7_kindOf 12 = .ok (.aload_n 0, 1) := by decide +kernel
theorem dX7_kindOf_13 : decode cX7_kindOf 13 = .ok (.getfield 9, 3) := by decide +kernel
theorem dX7_kindOf_16 : decode cX7_kindOf 16 = .ok (.iload_n 1, 1) := by decide +kernel
theorem dX7_kindOf_17 : decode cX7_kindOf 17 = .ok (.iaload, 1) := by decide +kernel
theorem dX7_kindOf_18 : decode cX7_kindOf 18 = .ok (.iload_n 1, 1) := by decide +kernel
theorem dX7_kindOf_19 : decode cX7_kindOf 19 = .ok (.if_icmp .ne 7, 3) := by decide +kernel
theorem dX7_kindOf_22 : decode cX7_kindOf 22 = .ok (.iconst 1, 1) := by decide +kernel
theorem dX7_kindOf_23 : decode cX7_kindOf 23 = .ok (.goto 4, 3) := by decide +kernel
theorem dX7_kindOf_26 : decode cX7_kindOf 26 = .ok (.iconst 2, 1) := by decide +kernel
theorem dX7_kindOf_27 : decode cX7_kindOf 27 = .ok (.ireturn, 1) := by decide +kernel
theorem dX7_makeMain_0 : decode cX7_makeMain 0 = .ok (.aload_n 0, 1) := by decide +kernel
theorem dX7_makeMain_1 : decode cX7_makeMain 1 = .ok (.getfield 9, 3) := by decide +kernel
theorem dX7_makeMain_4 : decode cX7_makeMain 4 = .ok (.iload_n 1, 1) := by decide +kernel
theorem dX7_makeMain_5 : decode cX7_makeMain 5 = .ok (.iload_n 1, 1) := by decide +kernel
theorem dX7_makeMain_6 : decode cX7_makeMain 6 = .ok (.iastore, 1) := by decide +kernel
theorem dX7_makeMain_7 : decode cX7_makeMain 7 = .ok (.return_, 1) := by decide +kernel
theorem dX10_make_0 : decode cX10_make 0 = .ok (.aload_n 0, 1) := by decide +kernel
theorem dX10_make_1 : decode cX10_make 1 = .ok (.iload_n 1, 1) := by decide +kernel
theorem dX10_make_2 : decode cX10_make 2 = .ok (.invokevirtual 189, 3) := by decide +kernel
theorem dX10_make_5 : decode cX10_make 5 = .ok (.aload_n 0, 1) := by decide +kernel
theorem dX10_make_6 : decode cX10_make 6 = .ok (.getfield 34, 3) := by decide +kernel
theorem dX10_make_9 : decode cX10_make 9 = .ok (.iload_n 1, 1) := by decide +kernel
theorem dX10_make_10 : decode cX10_make 10 = .ok (.invokevirtual 192, 3) := by decide +kernel
theorem dX10_make_13 : decode cX10_make 13 = .ok (.istore_n 2, 1) := by decide +kernel
theorem dX10_make_14 : decode cX10_make 14 = .ok (.iload_n 2, 1) := by decide +kernel
theorem dX10_make_15 : decode cX10_make 15 = .ok (.iconst 1, 1) := by decide +kernel
theorem dX10_make_16 : decode cX10_make 16 = .ok (.if_icmp .ne 13, 3) := by decide +kernel
theorem dX10_make_19 : decode cX10_make 19 = .ok (.new 77, 3) := by decide +kernel
theorem dX10_make_22 : decode cX10_make 22 = .ok (.dup, 1) := by decide +kernel
theorem dX10_make_23 : decode cX10_make 23 = .ok (.ldc 195, 2) := by decide +kernel
theorem dX10_make_25 : decode cX10_make 25 = .ok (.invokespecial 81, 3) := by decide +kernel
theorem dX10_make_28 : decode cX10_make 28 = .ok (.athrow, 1) := by decide +kernel
theorem dX10_make_29 : decode cX10_make 29 = .ok (.aload_n 0, 1) := by decide +kernel
theorem dX10_make_30 : decode cX10_make 30 = .ok (.getfield 34, 3) := by decide +kernel
theorem dX10_make_33 : decode cX10_make 33 = .ok (.iload_n 1, 1) := by decide +kernel
theorem dX10_make_34 : decode cX10_make 34 = .ok (.invokevirtual 197, 3) := by decide +kernel
theorem dX10_make_37 : decode cX10_make 37 = .ok (.aload_n 0, 1) := by decide +kernel
theorem dX10_make_38 : decode cX10_make 38 = .ok (.invokevirtual 200, 3) := by decide +kernel
theorem dX10_make_41 : decode cX10_make 41 = .ok (.iload_n 2, 1) := by decide +kernel
theorem dX10_make_42 : decode cX10_make 42 = .ok (.ireturn, 1) := by decide +kernel
theorem dL_make_0 : decode cL_make 0 = .ok (.aload_n 2, 1) := by decide +kernel
theorem dL_make_1 : decode cL_make 1 = .ok (.iconst 0, 1) := by decide +kernel
theorem dL_make_2 : decode cL_make 2 = .ok (.aload_n 0, 1) := by decide +kernel
theorem dL_make_3 : decode cL_make 3 = .ok (.iload_n 1, 1) := by decide +kernel
theorem dL_make_4 : decode cL_make 4 = .ok (.invokevirtual 64, 3) := by decide +kernel
theorem dL_make_7 : decode cL_make 7 = .ok (.i2l, 1) := by decide +kernel
theorem dL_make_8 : decode cL_make 8 = .ok (.lastore, 1) := by decide +kernel
theorem dL_make_9 : decode cL_make 9 = .ok (.goto 9, 3) := by decide +kernel
theorem dL_make_12 : decode cL_make 12 = .ok (.astore_n 3, 1) := by decide +kernel
theorem dL_make_13 : decode cL_make 13 = .ok (.iconst 1, 1) := by decide +kernel
theorem dL_make_14 : decode cL_make 14 = .ok (.ireturn, 1) := by decide +kernel
theorem dL_make_15 : decode cL_make 15 = .ok (.astore_n 3, 1) := by decide +kernel
theorem dL_make_16 : decode cL_make 16 = .ok (.iconst 2, 1) := by decide +kernel
theorem dL_make_17 : decode cL_make 17 = .ok (.ireturn, 1) := by decide +kernel
theorem dL_make_18 : decode cL_make 18 = .ok (.iconst 0, 1) := by decide +kernel
theorem dL_make_19 : decode cL_make 19 = .ok (.ireturn, 1) := by decide +kernel
theorem dX7_belongUnder_0 : decode cX7_belongUnder 0 = .ok (.iconst 0, 1) := by decide +kernel
theorem dX7_belongUnder_1 : decode cX7_belongUnder 1 = .ok (.istore_n 2, 1) := by decide +kernel
theorem dX7_belongUnder_2 : decode cX7_belongUnder 2 = .ok (.iconst 0, 1) := by decide +kernel
theorem dX7_belongUnder_3 : decode cX7_belongUnder 3 = .ok (.istore_n 3, 1) := by decide +kernel
theorem dX7_belongUnder_4 : decode cX7_belongUnder 4 = .ok (.iload_n 3, 1) := by decide +kernel
theorem dX7_belongUnder_5 : decode cX7_belongUnder 5 = .ok (.aload_n 0, 1) := by decide +kernel
theorem dX7_belongUnder_6 : decode cX7_belongUnder 6 = .ok (.getfield 21, 3) := by decide +kernel
theorem dX7_belongUnder_9 : decode cX7_belongUnder 9 = .ok (.if_icmp .ge 50, 3) := by decide +kernel
theorem dX7_belongUnder_12 : decode cX7_belongUnder 12 = .ok (.iload_n 1, 1) := by decide +kernel
theorem dX7_belongUnder_13 : decode cX7_belongUnder 13 = .ok (.iload_n 3, 1) := by decide +kernel
theorem dX7_belongUnder_14 : decode cX7_belongUnder 14 = .ok (.invokestatic 25, 3) := by decide +kernel
theorem dX7_belongUnder_17 : decode cX7_belongUnder 17 = .ok (.ifCond .eq 36, 3) := by decide +kernel
theorem dX7_belongUnder_20 : decode cX7_belongUnder 20 = .ok (.aload_n 0, 1) := by decide +kernel
theorem dX7_belongUnder_21 : decode cX7_belongUnder 21 = .ok (.getfield 9, 3) := by decide +kernel
theorem dX7_belongUnder_24 : decode cX7_belongUnder 24 = .ok (.iload_n 3, 1) := by decide +kernel
theorem dX7_belongUnder_25 : decode cX7_belongUnder 25 = .ok (.iaload, 1) := by decide +kernel
theorem dX7_belongUnder_26 : decode cX7_belongUnder 26 = .ok (.iconst (-1), 1) := by decide +kernel
theorem dX7_belongUnder_27 : decode cX7_belongUnder 27 = .ok (.if_icmp .eq 26, 3) := by decide +kernel
theorem dX7_belongUnder_30 : decode cX7_belongUnder 30 = .ok (.iload_n 2, 1) := by decide +kernel
theorem dX7_belongUnder_31 : decode cX7_belongUnder 31 = .ok (.iconst 1, 1) := by decide +kernel
theorem dX7_belongUnder_32 : decode cX7_belongUnder 32 = .ok (.aload_n 0, 1) := by decide +kernel
theorem dX7_belongUnder_33 : decode cX7_belongUnder 33 = .ok (.getfield 9, 3) := by decide +kernel
theorem dX7_belongUnder_36 : decode cX7_belongUnder 36 = .ok (.iload_n 3, 1) := by decide +kernel
theorem dX7_belongUnder_37 : decode cX7_belongUnder 37 = .ok (.iaload, 1) := by decide +kernel
theorem dX7_belongUnder_38 : decode cX7_belongUnder 38 = .ok (.ishl, 1) := by decide +kernel
theorem dX7_belongUnder_39 : decode cX7_belongUnder 39 = .ok (.aload_n 0, 1) := by decide +kernel
theorem dX7_belongUnder_40 : decode cX7_belongUnder 40 = .ok (.getfield 18, 3) := by decide +kernel
theorem dX7_belongUnder_43 : decode cX7_belongUnder 43 = .ok (.aload_n 0, 1) := by decide +kernel
theorem dX7_belongUnder_44 : decode cX7_belongUnder 44 = .ok (.getfield 9, 3) := by decide +kernel
theorem dX7_belongUnder_47 : decode cX7_belongUnder 47 = .ok (.iload_n 3, 1) := by decide +kernel
theorem dX7_belongUnder_48 : decode cX7_belongUnder 48 = .ok (.iaload, 1) := by decide +kernel
theorem dX7_belongUnder_49 : decode cX7_belongUnder 49 = .ok (.iaload, 1) := by decide +kernel
theorem dX7_belongUnder_50 : decode cX7_belongUnder 50 = .ok (.ior, 1) := by decide +kernel
theorem dX7_belongUnder_51 : decode cX7_belongUnder 51 = .ok (.ior, 1) := by decide +kernel
theorem dX7_belongUnder_52 : decode cX7_belongUnder 52 = .ok (.istore_n 2, 1) := by decide +kernel
theorem dX7_belongUnder_53 : decode cX7_belongUnder 53 = .ok (.iinc 3 1, 3) := by decide +kernel
theorem dX7_belongUnder_56 : decode cX7_belongUnder 56 = .ok (.goto (-52), 3) := by decide +kernel
theorem dX7_belongUnder_59 : decode cX7_belongUnder 59 = .ok (.iload_n 2, 1) := by decide +kernel
theorem dX7_belongUnder_60 : decode cX7_belongUnder 60 = .ok (.ireturn, 1) := by decide +kernel
theorem dX7_meaningsOf_0 : decode cX7_meaningsOf 0 = .ok (.iconst 0, 1) := by decide +kernel
theorem dX7_meaningsOf_1 : decode cX7_meaningsOf 1 = .ok (.istore_n 2, 1) := by decide +kernel
theorem dX7_meaningsOf_2 : decode cX7_meaningsOf 2 = .ok (.iconst 0, 1) := by decide +kernel
theorem dX7_meaningsOf_3 : decode cX7_meaningsOf 3 = .ok (.istore_n 3, 1) := by decide +kernel
theorem dX7_meaningsOf_4 : decode cX7_meaningsOf 4 = .ok (.iload_n 3, 1) := by decide +kernel
theorem dX7_meaningsOf_5 : decode cX7_meaningsOf 5 = .ok (.aload_n 0, 1) := by decide +kernel
theorem dX7_meaningsOf_6 : decode cX7_meaningsOf 6 = .ok (.getfield 21, 3) := by decide +kernel
theorem dX7_meaningsOf_9 : decode cX7_meaningsOf 9 = .ok (.if_icmp .ge 38, 3) := by decide +kernel
theorem dX7_meaningsOf_12 : decode cX7_meaningsOf 12 = .ok (.iload_n 1, 1) := by decide +kernel
theorem dX7_meaningsOf_13 : decode cX7_meaningsOf 13 = .ok (.iload_n 3, 1) := by decide +kernel
theorem dX7_meaningsOf_14 : decode cX7_meaningsOf 14 = .ok (.invokestatic 25, 3) := by decide +kernel
theorem dX7_meaningsOf_17 : decode cX7_meaningsOf 17 = .ok (.ifCond .eq 24, 3) := by decide +kernel
theorem dX7_meaningsOf_20 : decode cX7_meaningsOf 20 = .ok (.aload_n 0, 1) := by decide +kernel
theorem dX7_meaningsOf_21 : decode cX7_meaningsOf 21 = .ok (.getfield 9, 3) := by decide +kernel
theorem dX7_meaningsOf_24 : decode cX7_meaningsOf 24 = .ok (.iload_n 3, 1) := by decide +kernel
theorem dX7_meaningsOf_25 : decode cX7_meaningsOf 25 = .ok (.iaload, 1) := by decide +kernel
theorem dX7_meaningsOf_26 : decode cX7_meaningsOf 26 = .ok (.iconst (-1), 1) := by decide +kernel
theorem dX7_meaningsOf_27 : decode cX7_meaningsOf 27 = .ok (.if_icmp .eq 14, 3) := by decide +kernel
theorem dX7_meaningsOf_30 : decode cX7_meaningsOf 30 = .ok (.iload_n 2, 1) := by decide +kernel
theorem dX7_meaningsOf_31 : decode cX7_meaningsOf 31 = .ok (.iconst 1, 1) := by decide +kernel
theorem dX7_meaningsOf_32 : decode cX7_meaningsOf 32 = .ok (.aload_n 0, 1) := by decide +kernel
theorem dX7_meaningsOf_33 : decode cX7_meaningsOf 33 = .ok (.getfield 9, 3) := by decide +kernel
theorem dX7_meaningsOf_36 : decode cX7_meaningsOf 36 = .ok (.iload_n 3, 1) := by decide +kernel
theorem dX7_meaningsOf_37 : decode cX7_meaningsOf 37 = .ok (.iaload, 1) := by decide +kernel
theorem dX7_meaningsOf_38 : decode cX7_meaningsOf 38 = .ok (.ishl, 1) := by decide +kernel
theorem dX7_meaningsOf_39 : decode cX7_meaningsOf 39 = .ok (.ior, 1) := by decide +kernel
theorem dX7_meaningsOf_40 : decode cX7_meaningsOf 40 = .ok (.istore_n 2, 1) := by decide +kernel
theorem dX7_meaningsOf_41 : decode cX7_meaningsOf 41 = .ok (.iinc 3 1, 3) := by decide +kernel
theorem dX7_meaningsOf_44 : decode cX7_meaningsOf 44 = .ok (.goto (-40), 3) := by decide +kernel
theorem dX7_meaningsOf_47 : decode cX7_meaningsOf 47 = .ok (.iload_n 2, 1) := by decide +kernel
theorem dX7_meaningsOf_48 : decode cX7_meaningsOf 48 = .ok (.ireturn, 1) := by decide +kernel
theorem dX6_suits_0 : decode cX6_suits 0 = .ok (.aload_n 0, 1) := by decide +kernel
theorem dX6_suits_1 : decode cX6_suits 1 = .ok (.getfield 19, 3) := by decide +kernel
theorem dX6_suits_4 : decode cX6_suits 4 = .ok (.aload_n 1, 1) := by decide +kernel
theorem dX6_suits_5 : decode cX6_suits 5 = .ok (.getfield 7, 3) := by decide +kernel
theorem dX6_suits_8 : decode cX6_suits 8 = .ok (.invokestatic 22, 3) := by decide +kernel
theorem dX6_suits_11 : decode cX6_suits 11 = .ok (.ifCond .ne 17, 3) := by decide +kernel
theorem dX6_suits_14 : decode cX6_suits 14 = .ok (.aload_n 1, 1) := by decide +kernel
theorem dX6_suits_15 : decode cX6_suits 15 = .ok (.getfield 19, 3) := by decide +kernel
theorem dX6_suits_18 : decode cX6_suits 18 = .ok (.aload_n 0, 1) := by decide +kernel
theorem dX6_suits_19 : decode cX6_suits 19 = .ok (.getfield 7, 3) := by decide +kernel
theorem dX6_suits_22 : decode cX6_suits 22 = .ok (.invokestatic 22, 3) := by decide +kernel
theorem dX6_suits_25 : decode cX6_suits 25 = .ok (.ifCond .eq 5, 3) := by decide +kernel
theorem dX6_suits_28 : decode cX6_suits 28 = .ok (.iconst 0, 1) := by decide +kernel
theorem dX6_suits_29 : decode cX6_suits 29 = .ok (.ireturn, 1) := by decide +kernel
theorem dX6_suits_30 : decode cX6_suits 30 = .ok (.aload_n 2, 1) := by decide +kernel
theorem dX6_suits_31 : decode cX6_suits 31 = .ok (.aload_n 1, 1) := by decide +kernel
theorem dX6_suits_32 : decode cX6_suits 32 = .ok (.getfield 13, 3) := by decide +kernel
theorem dX6_suits_35 : decode cX6_suits 35 = .ok (.invokevirtual 28, 3) := by decide +kernel
theorem dX6_suits_38 : decode cX6_suits 38 = .ok (.aload_n 2, 1) := by decide +kernel
theorem dX6_suits_39 : decode cX6_suits 39 = .ok (.aload_n 0, 1) := by decide +kernel
theorem dX6_suits_40 : decode cX6_suits 40 = .ok (.getfield 16, 3) := by decide +kernel
theorem dX6_suits_43 : decode cX6_suits 43 = .ok (.invokevirtual 34, 3) := by decide +kernel
theorem dX6_suits_46 : decode cX6_suits 46 = .ok (.iand, 1) := by decide +kernel
theorem dX6_suits_47 : decode cX6_suits 47 = .ok (.ifCond .eq 7, 3) := by decide +kernel
theorem dX6_suits_50 : decode cX6_suits 50 = .ok (.iconst 1, 1) := by decide +kernel
theorem dX6_suits_51 : decode cX6_suits 51 = .ok (.goto 4, 3) := by decide +kernel
theorem dX6_suits_54 : decode cX6_suits 54 = .ok (.iconst 0, 1) := by decide +kernel
theorem dX6_suits_55 : decode cX6_suits 55 = .ok (.ireturn, 1) := by decide +kernel
theorem dX2_findReceivers_0 : decode cX2_findReceivers 0 = .ok (.iconst 0, 1) := by decide +kernel
theorem dX2_findReceivers_1 : decode cX2_findReceivers 1 = .ok (.istore_n 2, 1) := by decide +kernel
theorem dX2_findReceivers_2 : decode cX2_findReceivers 2 = .ok (.iload_n 2, 1) := by decide +kernel
theorem dX2_findReceivers_3 : decode cX2_findReceivers 3 = .ok (.aload_n 0, 1) := by decide +kernel
theorem dX2_findReceivers_4 : decode cX2_findReceivers 4 = .ok (.getfield 24, 3) := by decide +kernel
theorem dX2_findReceivers_7 : decode cX2_findReceivers 7 = .ok (.if_icmp .ge 78, 3) := by decide +kernel
theorem dX2_findReceivers_10 : decode cX2_findReceivers 10 = .ok (.iconst 0, 1) := by decide +kernel
theorem dX2_findReceivers_11 : decode cX2_findReceivers 11 = .ok (.istore_n 3, 1) := by decide +kernel
theorem dX2_findReceivers_12 : decode cX2_findReceivers 12 = .ok (.iconst 0, 1) := by decide +kernel
theorem dX2_findReceivers_13 : decode cX2_findReceivers 13 = .ok (.istore 4, 2) := by decide +kernel
theorem dX2_findReceivers_15 : decode cX2_findReceivers 15 = .ok (.iload 4, 2) := by decide +kernel
theorem dX2_findReceivers_17 : decode cX2_findReceivers 17 = .ok (.aload_n 0, 1) := by decide +kernel
theorem dX2_findReceivers_18 : decode cX2_findReceivers 18 = .ok (.getfield 24, 3) := by decide +kernel
theorem dX2_findReceivers_21 : decode cX2_findReceivers 21 = .ok (.if_icmp .ge 51, 3) := by decide +kernel
theorem dX2_findReceivers_24 : decode cX2_findReceivers 24 = .ok (.iload_n 2, 1) := by decide +kernel
theorem dX2_findReceivers_25 : decode cX2_findReceivers 25 = .ok (.iload 4, 2) := by decide +kernel
theorem dX2_findReceivers_27 : decode cX2_findReceivers 27 = .ok (.if_icmp .eq 27, 3) := by decide +kernel
theorem dX2_findReceivers_30 : decode cX2_findReceivers 30 = .ok (.aload_n 0, 1) := by decide +kernel
theorem dX2_findReceivers_31 : decode cX2_findReceivers 31 = .ok (.getfield 11, 3) := by decide +kernel
theorem dX2_findReceivers_34 : decode cX2_findReceivers 34 = .ok (.iload_n 2, 1) := by decide +kernel
theorem dX2_findReceivers_35 : decode cX2_findReceivers 35 = .ok (.aaload, 1) := by decide +kernel
theorem dX2_findReceivers_36 : decode cX2_findReceivers 36 = .ok (.aload_n 0, 1) := by decide +kernel
theorem dX2_findReceivers_37 : decode cX2_findReceivers 37 = .ok (.getfield 11, 3) := by decide +kernel
theorem dX2_findReceivers_40 : decode cX2_findReceivers 40 = .ok (.iload 4, 2) := by decide +kernel
theorem dX2_findReceivers_42 : decode cX2_findReceivers 42 = .ok (.aaload, 1) := by decide +kernel
theorem dX2_findReceivers_43 : decode cX2_findReceivers 43 = .ok (.aload_n 1, 1) := by decide +kernel
theorem dX2_findReceivers_44 : decode cX2_findReceivers 44 = .ok (.invokevirtual 56, 3) := by decide +kernel
theorem dX2_findReceivers_47 : decode cX2_findReceivers 47 = .ok (.ifCond .eq 7, 3) := by decide +kernel
theorem dX2_findReceivers_50 : decode cX2_findReceivers 50 = .ok (.iconst 1, 1) := by decide +kernel
theorem dX2_findReceivers_51 : decode cX2_findReceivers 51 = .ok (.goto 4, 3) := by decide +kernel
theorem dX2_findReceivers_54 : decode cX2_findReceivers 54 = .ok (.iconst 0, 1) := by decide +kernel
theorem dX2_findReceivers_55 : decode cX2_findReceivers 55 = .ok (.istore 5, 2) := by decide +kernel
theorem dX2_findReceivers_57 : decode cX2_findReceivers 57 = .ok (.iload_n 3, 1) := by decide +kernel
theorem dX2_findReceivers_58 : decode cX2_findReceivers 58 = .ok (.iload 4, 2) := by decide +kernel
theorem dX2_findReceivers_60 : decode cX2_findReceivers 60 = .ok (.iload 5, 2) := by decide +kernel
theorem dX2_findReceivers_62 : decode cX2_findReceivers 62 = .ok (.invokestatic 39, 3) := by decide +kernel
theorem dX2_findReceivers_65 : decode cX2_findReceivers 65 = .ok (.istore_n 3, 1) := by decide +kernel
theorem dX2_findReceivers_66 : decode cX2_findReceivers 66 = .ok (.iinc 4 1, 3) := by decide +kernel
theorem dX2_findReceivers_69 : decode cX2_findReceivers 69 = .ok (.goto (-54), 3) := by decide +kernel
theorem dX2_findReceivers_72 : decode cX2_findReceivers 72 = .ok (.aload_n 0, 1) := by decide +kernel
theorem dX2_findReceivers_73 : decode cX2_findReceivers 73 = .ok (.getfield 17, 3) := by decide +kernel
theorem dX2_findReceivers_76 : decode cX2_findReceivers 76 = .ok (.iload_n 2, 1) := by decide +kernel
theorem dX2_findReceivers_77 : decode cX2_findReceivers 77 = .ok (.iload_n 3, 1) := by decide +kernel
theorem dX2_findReceivers_78 : decode cX2_findReceivers 78 = .ok (.iastore, 1) := by decide +kernel
theorem dX2_findReceivers_79 : decode cX2_findReceivers 79 = .ok (.iinc 2 1, 3) := by decide +kernel
theorem dX2_findReceivers_82 : decode cX2_findReceivers 82 = .ok (.goto (-80), 3) := by decide +kernel
theorem dX2_findReceivers_85 : decode cX2_findReceivers 85 = .ok (.return_, 1) := by decide +kernel
theorem dX2_findWays_0 : decode cX2_findWays 0 = .ok (.aload_n 0, 1) := by decide +kernel
theorem dX2_findWays_1 : decode cX2_findWays 1 = .ok (.aload_n 1, 1) := by decide +kernel
theorem dX2_findWays_2 : decode cX2_findWays 2 = .ok (.invokevirtual 47, 3) := by decide +kernel
theorem dX2_findWays_5 : decode cX2_findWays 5 = .ok (.iconst 1, 1) := by decide +kernel
theorem dX2_findWays_6 : decode cX2_findWays 6 = .ok (.aload_n 0, 1) := by decide +kernel
theorem dX2_findWays_7 : decode cX2_findWays 7 = .ok (.getfield 24, 3) := by decide +kernel
theorem dX2_findWays_10 : decode cX2_findWays 10 = .ok (.ishl, 1) := by decide +kernel
theorem dX2_findWays_11 : decode cX2_findWays 11 = .ok (.iconst 1, 1) := by decide +kernel
theorem dX2_findWays_12 : decode cX2_findWays 12 = .ok (.isub, 1) := by decide +kernel
theorem dX2_findWays_13 : decode cX2_findWays 13 = .ok (.istore_n 2, 1) := by decide +kernel
theorem dX2_findWays_14 : decode cX2_findWays 14 = .ok (.aload_n 0, 1) := by decide +kernel
theorem dX2_findWays_15 : decode cX2_findWays 15 = .ok (.getfield 21, 3) := by decide +kernel
theorem dX2_findWays_18 : decode cX2_findWays 18 = .ok (.iload_n 2, 1) := by decide +kernel
theorem dX2_findWays_19 : decode cX2_findWays 19 = .ok (.iconst 1, 1) := by decide +kernel
theorem dX2_findWays_20 : decode cX2_findWays 20 = .ok (.iastore, 1) := by decide +kernel
theorem dX2_findWays_21 : decode cX2_findWays 21 = .ok (.iload_n 2, 1) := by decide +kernel
theorem dX2_findWays_22 : decode cX2_findWays 22 = .ok (.iconst 1, 1) := by decide +kernel
theorem dX2_findWays_23 : decode cX2_findWays 23 = .ok (.isub, 1) := by decide +kernel
theorem dX2_findWays_24 : decode cX2_findWays 24 = .ok (.istore_n 3, 1) := by decide +kernel
theorem dX2_findWays_25 : decode cX2_findWays 25 = .ok (.iload_n 3, 1) := by decide +kernel
theorem dX2_findWays_26 : decode cX2_findWays 26 = .ok (.ifCond .lt 84, 3) := by decide +kernel
theorem dX2_findWays_29 : decode cX2_findWays 29 = .ok (.aload_n 0, 1) := by decide +kernel
theorem dX2_findWays_30 : decode cX2_findWays 30 = .ok (.getfield 17, 3) := by decide +kernel
theorem dX2_findWays_33 : decode cX2_findWays 33 = .ok (.iload_n 3, 1) := by decide +kernel
theorem dX2_findWays_34 : decode cX2_findWays 34 = .ok (.invokestatic 50, 3) := by decide +kernel
theorem dX2_findWays_37 : decode cX2_findWays 37 = .ok (.iaload, 1) := by decide +kernel
theorem dX2_findWays_38 : decode cX2_findWays 38 = .ok (.iload_n 3, 1) := by decide +kernel
theorem dX2_findWays_39 : decode cX2_findWays 39 = .ok (.iconst (-1), 1) := by decide +kernel
theorem dX2_findWays_40 : decode cX2_findWays 40 = .ok (.ixor, 1) := by decide +kernel
theorem dX2_findWays_41 : decode cX2_findWays 41 = .ok (.iand, 1) := by decide +kernel
theorem dX2_findWays_42 : decode cX2_findWays 42 = .ok (.istore 4, 2) := by decide +kernel
theorem dX2_findWays_44 : decode cX2_findWays 44 = .ok (.iconst 0, 1) := by decide +kernel
theorem dX2_findWays_45 : decode cX2_findWays 45 = .ok (.istore 5, 2) := by decide +kernel
theorem dX2_findWays_47 : decode cX2_findWays 47 = .ok (.iconst 0, 1) := by decide +kernel
theorem dX2_findWays_48 : decode cX2_findWays 48 = .ok (.istore 6, 2) := by decide +kernel
theorem dX2_findWays_50 : decode cX2_findWays 50 = .ok (.iload 6, 2) := by decide +kernel
theorem dX2_findWays_52 : decode cX2_findWays 52 = .ok (.aload_n 0, 1) := by decide +kernel
theorem dX2_findWays_53 : decode cX2_findWays 53 = .ok (.getfield 24, 3) := by decide +kernel
theorem dX2_findWays_56 : decode cX2_findWays 56 = .ok (.if_icmp .ge 40, 3) := by decide +kernel
theorem dX2_findWays_59 : decode cX2_findWays 59 = .ok (.iload 5, 2) := by decide +kernel
theorem dX2_findWays_61 : decode cX2_findWays 61 = .ok (.iload 4, 2) := by decide +kernel
theorem dX2_findWays_63 : decode cX2_findWays 63 = .ok (.iload 6, 2) := by decide +kernel
theorem dX2_findWays_65 : decode cX2_findWays 65 = .ok (.invokestatic 43, 3) := by decide +kernel
theorem dX2_findWays_68 : decode cX2_findWays 68 = .ok (.ifCond .eq 18, 3) := by decide +kernel
theorem dX2_findWays_71 : decode cX2_findWays 71 = .ok (.aload_n 0, 1) := by decide +kernel
theorem dX2_findWays_72 : decode cX2_findWays 72 = .ok (.getfield 21, 3) := by decide +kernel
theorem dX2_findWays_75 : decode cX2_findWays 75 = .ok (.iload_n 3, 1) := by decide +kernel
theorem dX2_findWays_76 : decode cX2_findWays 76 = .ok (.iload 6, 2) := by decide +kernel
theorem dX2_findWays_78 : decode cX2_findWays 78 = .ok (.iconst 1, 1) := by decide +kernel
theorem dX2_findWays_79 : decode cX2_findWays 79 = .ok (.invokestatic 39, 3) := by decide +kernel
theorem dX2_findWays_82 : decode cX2_findWays 82 = .ok (.iaload, 1) := by decide +kernel
theorem dX2_findWays_83 : decode cX2_findWays 83 = .ok (.goto 4, 3) := by decide +kernel
theorem dX2_findWays_86 : decode cX2_findWays 86 = .ok (.iconst 0, 1) := by decide +kernel
theorem dX2_findWays_87 : decode cX2_findWays 87 = .ok (.iadd, 1) := by decide +kernel
theorem dX2_findWays_88 : decode cX2_findWays 88 = .ok (.istore 5, 2) := by decide +kernel
theorem dX2_findWays_90 : decode cX2_findWays 90 = .ok (.iinc 6 1, 3) := by decide +kernel
theorem dX2_findWays_93 : decode cX2_findWays 93 = .ok (.goto (-43), 3) := by decide +kernel
theorem dX2_findWays_96 : decode cX2_findWays 96 = .ok (.aload_n 0, 1) := by decide +kernel
theorem dX2_findWays_97 : decode cX2_findWays 97 = .ok (.getfield 21, 3) := by decide +kernel
theorem dX2_findWays_100 : decode cX2_findWays 100 = .ok (.iload_n 3, 1) := by decide +kernel
theorem dX2_findWays_101 : decode cX2_findWays 101 = .ok (.iload 5, 2) := by decide +kernel
theorem dX2_findWays_103 : decode cX2_findWays 103 = .ok (.iastore, 1) := by decide +kernel
theorem dX2_findWays_104 : decode cX2_findWays 104 = .ok (.iinc 3 (-1), 3) := by decide +kernel
theorem dX2_findWays_107 : decode cX2_findWays 107 = .ok (.goto (-82), 3) := by decide +kernel
theorem dX2_findWays_110 : decode cX2_findWays 110 = .ok (.return_, 1) := by decide +kernel
theorem dX2_lowestReceiver_0 : decode cX2_lowestReceiver 0 = .ok (.aload_n 0, 1) := by decide +kernel
theorem dX2_lowestReceiver_1 : decode cX2_lowestReceiver 1 = .ok (.getfield 17, 3) := by decide +kernel
theorem dX2_lowestReceiver_4 : decode cX2_lowestReceiver 4 = .ok (.iload_n 1, 1) := by decide +kernel
theorem dX2_lowestReceiver_5 : decode cX2_lowestReceiver 5 = .ok (.iaload, 1) := by decide +kernel
theorem dX2_lowestReceiver_6 : decode cX2_lowestReceiver 6 = .ok (.iload_n 2, 1) := by decide +kernel
theorem dX2_lowestReceiver_7 : decode cX2_lowestReceiver 7 = .ok (.iconst (-1), 1) := by decide +kernel
theorem dX2_lowestReceiver_8 : decode cX2_lowestReceiver 8 = .ok (.ixor, 1) := by decide +kernel
theorem dX2_lowestReceiver_9 : decode cX2_lowestReceiver 9 = .ok (.iand, 1) := by decide +kernel
theorem dX2_lowestReceiver_10 : decode cX2_lowestReceiver 10 = .ok (.istore_n 3, 1) := by decide +kernel
theorem dX2_lowestReceiver_11 : decode cX2_lowestReceiver 11 = .ok (.iconst 0, 1) := by decide +kernel
theorem dX2_lowestReceiver_12 : decode cX2_lowestReceiver 12 = .ok (.istore 4, 2) := by decide +kernel
theorem dX2_lowestReceiver_14 : decode cX2_lowestReceiver 14 = .ok (.iload 4, 2) := by decide +kernel
theorem dX2_lowestReceiver_16 : decode cX2_lowestReceiver 16 = .ok (.aload_n 0, 1) := by decide +kernel
theorem dX2_lowestReceiver_17 : decode cX2_lowestReceiver 17 = .ok (.getfield 24, 3) := by decide +kernel
theorem dX2_lowestReceiver_20 : decode cX2_lowestReceiver 20 = .ok (.if_icmp .ge 36, 3) := by decide +kernel
theorem dX2_lowestReceiver_23 : decode cX2_lowestReceiver 23 = .ok (.iload_n 3, 1) := by decide +kernel
theorem dX2_lowestReceiver_24 : decode cX2_lowestReceiver 24 = .ok (.iload 4, 2) := by decide +kernel
theorem dX2_lowestReceiver_26 : decode cX2_lowestReceiver 26 = .ok (.invokestatic 43, 3) := by decide +kernel
theorem dX2_lowestReceiver_29 : decode cX2_lowestReceiver 29 = .ok (.ifCond .eq 21, 3) := by decide +kernel
theorem dX2_lowestReceiver_32 : decode cX2_lowestReceiver 32 = .ok (.aload_n 0, 1) := by decide +kernel
theorem dX2_lowestReceiver_33 : decode cX2_lowestReceiver 33 = .ok (.getfield 21, 3) := by decide +kernel
theorem dX2_lowestReceiver_36 : decode cX2_lowestReceiver 36 = .ok (.iload_n 2, 1) := by decide +kernel
theorem dX2_lowestReceiver_37 : decode cX2_lowestReceiver 37 = .ok (.iload 4, 2) := by decide +kernel
theorem dX2_lowestReceiver_39 : decode cX2_lowestReceiver 39 = .ok (.iconst 1, 1) := by decide +kernel
theorem dX2_lowestReceiver_40 : decode cX2_lowestReceiver 40 = .ok (.invokestatic 39, 3) := by decide +kernel
theorem dX2_lowestReceiver_43 : decode cX2_lowestReceiver 43 = .ok (.iaload, 1) := by decide +kernel
theorem dX2_lowestReceiver_44 : decode cX2_lowestReceiver 44 = .ok (.ifCond .le 6, 3) := by decide +kernel
theorem dX2_lowestReceiver_47 : decode cX2_lowestReceiver 47 = .ok (.iload 4, 2) := by decide +kernel
theorem dX2_lowestReceiver_49 : decode cX2_lowestReceiver 49 = .ok (.ireturn, 1) := by decide +kernel
theorem dX2_lowestReceiver_50 : decode cX2_lowestReceiver 50 = .ok (.iinc 4 1, 3) := by decide +kernel
theorem dX2_lowestReceiver_53 : decode cX2_lowestReceiver 53 = .ok (.goto (-39), 3) := by decide +kernel
theorem dX2_lowestReceiver_56 : decode cX2_lowestReceiver 56 = .ok (.iconst (-1), 1) := by decide +kernel
theorem dX2_lowestReceiver_57 : decode cX2_lowestReceiver 57 = .ok (.ireturn, 1) := by decide +kernel
theorem dX2_receiverOf_0 : decode cX2_receiverOf 0 = .ok (.aload_n 0, 1) := by decide +kernel
theorem dX2_receiverOf_1 : decode cX2_receiverOf 1 = .ok (.aload_n 2, 1) := by decide +kernel
theorem dX2_receiverOf_2 : decode cX2_receiverOf 2 = .ok (.invokevirtual 31, 3) := by decide +kernel
theorem dX2_receiverOf_5 : decode cX2_receiverOf 5 = .ok (.iconst (-1), 1) := by decide +kernel
theorem dX2_receiverOf_6 : decode cX2_receiverOf 6 = .ok (.istore_n 3, 1) := by decide +kernel
theorem dX2_receiverOf_7 : decode cX2_receiverOf 7 = .ok (.iconst 0, 1) := by decide +kernel
theorem dX2_receiverOf_8 : decode cX2_receiverOf 8 = .ok (.istore 4, 2) := by decide +kernel
theorem dX2_receiverOf_10 : decode cX2_receiverOf 10 = .ok (.iconst 0, 1) := by decide +kernel
theorem dX2_receiverOf_11 : decode cX2_receiverOf 11 = .ok (.istore 5, 2) := by decide +kernel
theorem dX2_receiverOf_13 : decode cX2_receiverOf 13 = .ok (.iload 5, 2) := by decide +kernel
theorem dX2_receiverOf_15 : decode cX2_receiverOf 15 = .ok (.iload_n 1, 1) := by decide +kernel
theorem dX2_receiverOf_16 : decode cX2_receiverOf 16 = .ok (.if_icmp .gt 47, 3) := by decide +kernel
theorem dX2_receiverOf_19 : decode cX2_receiverOf 19 = .ok (.aload_n 0, 1) := by decide +kernel
theorem dX2_receiverOf_20 : decode cX2_receiverOf 20 = .ok (.getfield 21, 3) := by decide +kernel
theorem dX2_receiverOf_23 : decode cX2_receiverOf 23 = .ok (.iload 4, 2) := by decide +kernel
theorem dX2_receiverOf_25 : decode cX2_receiverOf 25 = .ok (.iaload, 1) := by decide +kernel
theorem dX2_receiverOf_26 : decode cX2_receiverOf 26 = .ok (.ifCond .le 37, 3) := by decide +kernel
theorem dX2_receiverOf_29 : decode cX2_receiverOf 29 = .ok (.aload_n 0, 1) := by decide +kernel
theorem dX2_receiverOf_30 : decode cX2_receiverOf 30 = .ok (.iload 5, 2) := by decide +kernel
theorem dX2_receiverOf_32 : decode cX2_receiverOf 32 = .ok (.iload 4, 2) := by decide +kernel
theorem dX2_receiverOf_34 : decode cX2_receiverOf 34 = .ok (.invokevirtual 35, 3) := by decide +kernel
theorem dX2_receiverOf_37 : decode cX2_receiverOf 37 = .ok (.istore_n 3, 1) := by decide +kernel
theorem dX2_receiverOf_38 : decode cX2_receiverOf 38 = .ok (.iload_n 3, 1) := by decide +kernel
theorem dX2_receiverOf_39 : decode cX2_receiverOf 39 = .ok (.iconst (-1), 1) := by decide +kernel
theorem dX2_receiverOf_40 : decode cX2_receiverOf 40 = .ok (.if_icmp .ne 8, 3) := by decide +kernel
theorem dX2_receiverOf_43 : decode cX2_receiverOf 43 = .ok (.iload 4, 2) := by decide +kernel
theorem dX2_receiverOf_45 : decode cX2_receiverOf 45 = .ok (.goto 10, 3) := by decide +kernel
theorem dX2_receiverOf_48 : decode cX2_receiverOf 48 = .ok (.iload 4, 2) := by decide +kernel
theorem dX2_receiverOf_50 : decode cX2_receiverOf 50 = .ok (.iload_n 3, 1) := by decide +kernel
theorem dX2_receiverOf_51 : decode cX2_receiverOf 51 = .ok (.iconst 1, 1) := by decide +kernel
theorem dX2_receiverOf_52 : decode cX2_receiverOf 52 = .ok (.invokestatic 39, 3) := by decide +kernel
theorem dX2_receiverOf_55 : decode cX2_receiverOf 55 = .ok (.istore 4, 2) := by decide +kernel
theorem dX2_receiverOf_57 : decode cX2_receiverOf 57 = .ok (.iinc 5 1, 3) := by decide +kernel
theorem dX2_receiverOf_60 : decode cX2_receiverOf 60 = .ok (.goto (-47), 3) := by decide +kernel
theorem dX2_receiverOf_63 : decode cX2_receiverOf 63 = .ok (.iload_n 3, 1) := by decide +kernel
theorem dX2_receiverOf_64 : decode cX2_receiverOf 64 = .ok (.ireturn, 1) := by decide +kernel
theorem dX10_match_0 : decode cX10_match 0 = .ok (.iload_n 1, 1) := by decide +kernel
theorem dX10_match_1 : decode cX10_match 1 = .ok (.ifCond .lt 14, 3) := by decide +kernel
theorem dX10_match_4 : decode cX10_match 4 = .ok (.iload_n 1, 1) := by decide +kernel
theorem dX10_match_5 : decode cX10_match 5 = .ok (.aload_n 0, 1) := by decide +kernel
theorem dX10_match_6 : decode cX10_match 6 = .ok (.getfield 55, 3) := by decide +kernel
theorem dX10_match_9 : decode cX10_match 9 = .ok (.getfield 294, 3) := by decide +kernel
theorem dX10_match_12 : decode cX10_match 12 = .ok (.if_icmp .lt 14, 3) := by decide +kernel
theorem dX10_match_15 : decode cX10_match 15 = .ok (.new 162, 3) := by decide +kernel
theorem dX10_match_18 : decode cX10_match 18 = .ok (.dup, 1) := by decide +kernel
theorem dX10_match_19 : decode cX10_match 19 = .ok (.ldc_w 305, 3) := by decide +kernel
theorem dX10_match_22 : decode cX10_match 22 = .ok (.invokespecial 166, 3) := by decide +kernel
theorem dX10_match_25 : decode cX10_match 25 = .ok (.athrow, 1) := by decide +kernel
theorem dX10_match_26 : decode cX10_match 26 = .ok (.aload_n 0, 1) := by decide +kernel
theorem dX10_match_27 : decode cX10_match 27 = .ok (.getfield 55, 3) := by decide +kernel
theorem dX10_match_30 : decode cX10_match 30 = .ok (.iload_n 1, 1) := by decide +kernel
theorem dX10_match_31 : decode cX10_match 31 = .ok (.aload_n 0, 1) := by decide +kernel
theorem dX10_match_32 : decode cX10_match 32 = .ok (.getfield 34, 3) := by decide +kernel
theorem dX10_match_35 : decode cX10_match 35 = .ok (.invokevirtual 307, 3) := by decide +kernel
theorem dX10_match_38 : decode cX10_match 38 = .ok (.ireturn, 1) := by decide +kernel
theorem dL_match_0 : decode cL_match 0 = .ok (.aload_n 2, 1) := by decide +kernel
theorem dL_match_1 : decode cL_match 1 = .ok (.iconst 0, 1) := by decide +kernel
theorem dL_match_2 : decode cL_match 2 = .ok (.aload_n 0, 1) := by decide +kernel
