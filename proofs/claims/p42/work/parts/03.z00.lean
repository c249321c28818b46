theorem dL_bit_0 : decode cL_bit 0 = .ok (.iload_n 0, 1) := by decide +kernel
theorem dL_bit_1 : decode cL_bit 1 = .ok (.ifCond .eq 7, 3) := by decide +kernel
theorem dL_bit_4 : decode cL_bit 4 = .ok (.iconst 1, 1) := by decide +kernel
theorem dL_bit_5 : decode cL_bit 5 = .ok (.goto 4, 3) := by decide +kernel
theorem dL_bit_8 : decode cL_bit 8 = .ok (.iconst 0, 1) := by decide +kernel
theorem dL_bit_9 : decode cL_bit 9 = .ok (.ireturn, 1) := by decide +kernel
theorem dX10_checkWork_0 : decode cX10_checkWork 0 = .ok (.iload_n 1, 1) := by decide +kernel
theorem dX10_checkWork_1 : decode cX10_checkWork 1 = .ok (.ifCond .lt 11, 3) := by decide +kernel
theorem dX10_checkWork_4 : decode cX10_checkWork 4 = .ok (.iload_n 1, 1) := by decide +kernel
theorem dX10_checkWork_5 : decode cX10_checkWork 5 = .ok (.aload_n 0, 1) := by decide +kernel
theorem dX10_checkWork_6 : decode cX10_checkWork 6 = .ok (.getfield 104, 3) := by decide +kernel
theorem dX10_checkWork_9 : decode cX10_checkWork 9 = .ok (.if_icmp .lt 14, 3) := by decide +kernel
theorem dX10_checkWork_12 : decode cX10_checkWork 12 = .ok (.new 162, 3) := by decide +kernel
theorem dX10_checkWork_15 : decode cX10_checkWork 15 = .ok (.dup, 1) := by decide +kernel
theorem dX10_checkWork_16 : decode cX10_checkWork 16 = .ok (.ldc_w 384, 3) := by decide +kernel
theorem dX10_checkWork_19 : decode cX10_checkWork 19 = .ok (.invokespecial 166, 3) := by decide +kernel
theorem dX10_checkWork_22 : decode cX10_checkWork 22 = .ok (.athrow, 1) := by decide +kernel
theorem dX10_checkWork_23 : decode cX10_checkWork 23 = .ok (.return_, 1) := by decide +kernel
theorem dX10_workAt_0 : decode cX10_workAt 0 = .ok (.aload_n 0, 1) := by decide +kernel
theorem dX10_workAt_1 : decode cX10_workAt 1 = .ok (.iload_n 1, 1) := by decide +kernel
theorem dX10_workAt_2 : decode cX10_workAt 2 = .ok (.invokevirtual 361, 3) := by decide +kernel
theorem dX10_workAt_5 : decode cX10_workAt 5 = .ok (.aload_n 0, 1) := by decide +kernel
theorem dX10_workAt_6 : decode cX10_workAt 6 = .ok (.getfield 21, 3) := by decide +kernel
theorem dX10_workAt_9 : decode cX10_workAt 9 = .ok (.iload_n 1, 1) := by decide +kernel
theorem dX10_workAt_10 : decode cX10_workAt 10 = .ok (.aaload, 1) := by decide +kernel
theorem dX10_workAt_11 : decode cX10_workAt 11 = .ok (.areturn, 1) := by decide +kernel
theorem dX10_collect_0 : decode cX10_collect 0 = .ok (.aload_n 0, 1) := by decide +kernel
theorem dX10_collect_1 : decode cX10_collect 1 = .ok (.iload_n 1, 1) := by decide +kernel
theorem dX10_collect_2 : decode cX10_collect 2 = .ok (.invokevirtual 112, 3) := by decide +kernel
theorem dX10_collect_5 : decode cX10_collect 5 = .ok (.astore_n 3, 1) := by decide +kernel
theorem dX10_collect_6 : decode cX10_collect 6 = .ok (.iload_n 2, 1) := by decide +kernel
theorem dX10_collect_7 : decode cX10_collect 7 = .ok (.ifCond .lt 11, 3) := by decide +kernel
theorem dX10_collect_10 : decode cX10_collect 10 = .ok (.iload_n 2, 1) := by decide +kernel
theorem dX10_collect_11 : decode cX10_collect 11 = .ok (.aload_n 0, 1) := by decide +kernel
theorem dX10_collect_12 : decode cX10_collect 12 = .ok (.getfield 156, 3) := by decide +kernel
theorem dX10_collect_15 : decode cX10_collect 15 = .ok (.if_icmp .lt 13, 3) := by decide +kernel
theorem dX10_collect_18 : decode cX10_collect 18 = .ok (.new 162, 3) := by decide +kernel
theorem dX10_collect_21 : decode cX10_collect 21 = .ok (.dup, 1) := by decide +kernel
theorem dX10_collect_22 : decode cX10_collect 22 = .ok (.ldc 164, 2) := by decide +kernel
theorem dX10_collect_24 : decode cX10_collect 24 = .ok (.invokespecial 166, 3) := by decide +kernel
theorem dX10_collect_27 : decode cX10_collect 27 = .ok (.athrow, 1) := by decide +kernel
theorem dX10_collect_28 : decode cX10_collect 28 = .ok (.aload_n 3, 1) := by decide +kernel
theorem dX10_collect_29 : decode cX10_collect 29 = .ok (.getfield 167, 3) := by decide +kernel
theorem dX10_collect_32 : decode cX10_collect 32 = .ok (.ifnull 13, 3) := by decide +kernel
theorem dX10_collect_35 : decode cX10_collect 35 = .ok (.new 77, 3) := by decide +kernel
theorem dX10_collect_38 : decode cX10_collect 38 = .ok (.dup, 1) := by decide +kernel
theorem dX10_collect_39 : decode cX10_collect 39 = .ok (.ldc 171, 2) := by decide +kernel
theorem dX10_collect_41 : decode cX10_collect 41 = .ok (.invokespecial 81, 3) := by decide +kernel
theorem dX10_collect_44 : decode cX10_collect 44 = .ok (.athrow, 1) := by decide +kernel
theorem dX10_collect_45 : decode cX10_collect 45 = .ok (.aload_n 3, 1) := by decide +kernel
theorem dX10_collect_46 : decode cX10_collect 46 = .ok (.aload_n 0, 1) := by decide +kernel
theorem dX10_collect_47 : decode cX10_collect 47 = .ok (.getfield 27, 3) := by decide +kernel
theorem dX10_collect_50 : decode cX10_collect 50 = .ok (.iload_n 2, 1) := by decide +kernel
theorem dX10_collect_51 : decode cX10_collect 51 = .ok (.aaload, 1) := by decide +kernel
theorem dX10_collect_52 : decode cX10_collect 52 = .ok (.putfield 167, 3) := by decide +kernel
theorem dX10_collect_55 : decode cX10_collect 55 = .ok (.return_, 1) := by decide +kernel
theorem dL_collects_0 : decode cL_collects 0 = .ok (.aload_n 0, 1) := by decide +kernel
theorem dL_collects_1 : decode cL_collects 1 = .ok (.iload_n 1, 1) := by decide +kernel
theorem dL_collects_2 : decode cL_collects 2 = .ok (.iload_n 2, 1) := by decide +kernel
theorem dL_collects_3 : decode cL_collects 3 = .ok (.invokevirtual 148, 3) := by decide +kernel
theorem dL_collects_6 : decode cL_collects 6 = .ok (.iconst 0, 1) := by decide +kernel
theorem dL_collects_7 : decode cL_collects 7 = .ok (.ireturn, 1) := by decide +kernel
theorem dX10_checkPerson_0 : decode cX10_checkPerson 0 = .ok (.iload_n 0, 1) := by decide +kernel
theorem dX10_checkPerson_1 : decode cX10_checkPerson 1 = .ok (.ifCond .lt 9, 3) := by decide +kernel
theorem dX10_checkPerson_4 : decode cX10_checkPerson 4 = .ok (.iload_n 0, 1) := by decide +kernel
theorem dX10_checkPerson_5 : decode cX10_checkPerson 5 = .ok (.bipush 12, 2) := by decide +kernel
theorem dX10_checkPerson_7 : decode cX10_checkPerson 7 = .ok (.if_icmp .lt 14, 3) := by decide +kernel
theorem dX10_checkPerson_10 : decode cX10_checkPerson 10 = .ok (.new 162, 3) := by decide +kernel
theorem dX10_checkPerson_13 : decode cX10_checkPerson 13 = .ok (.dup, 1) := by decide +kernel
theorem dX10_checkPerson_14 : decode cX10_checkPerson 14 = .ok (.ldc_w 378, 3) := by decide +kernel
theorem dX10_checkPerson_17 : decode cX10_checkPerson 17 = .ok (.invokespecial 166, 3) := by decide +kernel
theorem dX10_checkPerson_20 : decode cX10_checkPerson 20 = .ok (.athrow, 1) := by decide +kernel
theorem dX10_checkPerson_21 : decode cX10_checkPerson 21 = .ok (.return_, 1) := by decide +kernel
theorem dX10_has_0 : decode cX10_has 0 = .ok (.iload_n 0, 1) := by decide +kernel
theorem dX10_has_1 : decode cX10_has 1 = .ok (.iload_n 1, 1) := by decide +kernel
theorem dX10_has_2 : decode cX10_has 2 = .ok (.iushr, 1) := by decide +kernel
theorem dX10_has_3 : decode cX10_has 3 = .ok (.iconst 1, 1) := by decide +kernel
theorem dX10_has_4 : decode cX10_has 4 = .ok (.iand, 1) := by decide +kernel
theorem dX10_has_5 : decode cX10_has 5 = .ok (.ifCond .eq 7, 3) := by decide +kernel
theorem dX10_has_8 : decode cX10_has 8 = .ok (.iconst 1, 1) := by decide +kernel
theorem dX10_has_9 : decode cX10_has 9 = .ok (.goto 4, 3) := by decide +kernel
theorem dX10_has_12 : decode cX10_has 12 = .ok (.iconst 0, 1) := by decide +kernel
theorem dX10_has_13 : decode cX10_has 13 = .ok (.ireturn, 1) := by decide +kernel
theorem dX10_with_0 : decode cX10_with 0 = .ok (.iload_n 2, 1) := by decide +kernel
theorem dX10_with_1 : decode cX10_with 1 = .ok (.ifCond .eq 11, 3) := by decide +kernel
theorem dX10_with_4 : decode cX10_with 4 = .ok (.iload_n 0, 1) := by decide +kernel
theorem dX10_with_5 : decode cX10_with 5 = .ok (.iconst 1, 1) := by decide +kernel
theorem dX10_with_6 : decode cX10_with 6 = .ok (.iload_n 1, 1) := by decide +kernel
theorem dX10_with_7 : decode cX10_with 7 = .ok (.ishl, 1) := by decide +kernel
theorem dX10_with_8 : decode cX10_with 8 = .ok (.ior, 1) := by decide +kernel
theorem dX10_with_9 : decode cX10_with 9 = .ok (.goto 10, 3) := by decide +kernel
theorem dX10_with_12 : decode cX10_with 12 = .ok (.iload_n 0, 1) := by decide +kernel
theorem dX10_with_13 : decode cX10_with 13 = .ok (.iconst 1, 1) := by decide +kernel
theorem dX10_with_14 : decode cX10_with 14 = .ok (.iload_n 1, 1) := by decide +kernel
theorem dX10_with_15 : decode cX10_with 15 = .ok (.ishl, 1) := by decide +kernel
theorem dX10_with_16 : decode cX10_with 16 = .ok (.iconst (-1), 1) := by decide +kernel
theorem dX10_with_17 : decode cX10_with 17 = .ok (.ixor, 1) := by decide +kernel
theorem dX10_with_18 : decode cX10_with 18 = .ok (.iand, 1) := by decide +kernel
theorem dX10_with_19 : decode cX10_with 19 = .ok (.ireturn, 1) := by decide +kernel
theorem dX10_block_0 : decode cX10_block 0 = .ok (.iload_n 1, 1) := by decide +kernel
theorem dX10_block_1 : decode cX10_block 1 = .ok (.invokestatic 82, 3) := by decide +kernel
theorem dX10_block_4 : decode cX10_block 4 = .ok (.iload_n 2, 1) := by decide +kernel
theorem dX10_block_5 : decode cX10_block 5 = .ok (.invokestatic 82, 3) := by decide +kernel
theorem dX10_block_8 : decode cX10_block 8 = .ok (.iload_n 1, 1) := by decide +kernel
theorem dX10_block_9 : decode cX10_block 9 = .ok (.iload_n 2, 1) := by decide +kernel
theorem dX10_block_10 : decode cX10_block 10 = .ok (.if_icmp .ne 13, 3) := by decide +kernel
theorem dX10_block_13 : decode cX10_block 13 = .ok (.new 66, 3) := by decide +kernel
theorem dX10_block_16 : decode cX10_block 16 = .ok (.dup, 1) := by decide +kernel
theorem dX10_block_17 : decode cX10_block 17 = .ok (.ldc 86, 2) := by decide +kernel
theorem dX10_block_19 : decode cX10_block 19 = .ok (.invokespecial 70, 3) := by decide +kernel
theorem dX10_block_22 : decode cX10_block 22 = .ok (.athrow, 1) := by decide +kernel
theorem dX10_block_23 : decode cX10_block 23 = .ok (.aload_n 0, 1) := by decide +kernel
theorem dX10_block_24 : decode cX10_block 24 = .ok (.getfield 15, 3) := by decide +kernel
theorem dX10_block_27 : decode cX10_block 27 = .ok (.iload_n 1, 1) := by decide +kernel
theorem dX10_block_28 : decode cX10_block 28 = .ok (.aaload, 1) := by decide +kernel
theorem dX10_block_29 : decode cX10_block 29 = .ok (.astore 4, 2) := by decide +kernel
theorem dX10_block_31 : decode cX10_block 31 = .ok (.aload 4, 2) := by decide +kernel
theorem dX10_block_33 : decode cX10_block 33 = .ok (.getfield 88, 3) := by decide +kernel
theorem dX10_block_36 : decode cX10_block 36 = .ok (.iload_n 2, 1) := by decide +kernel
theorem dX10_block_37 : decode cX10_block 37 = .ok (.invokestatic 91, 3) := by decide +kernel
theorem dX10_block_40 : decode cX10_block 40 = .ok (.istore 5, 2) := by decide +kernel
theorem dX10_block_42 : decode cX10_block 42 = .ok (.aload 4, 2) := by decide +kernel
theorem dX10_block_44 : decode cX10_block 44 = .ok (.aload 4, 2) := by decide +kernel
theorem dX10_block_46 : decode cX10_block 46 = .ok (.getfield 88, 3) := by decide +kernel
theorem dX10_block_49 : decode cX10_block 49 = .ok (.iload_n 2, 1) := by decide +kernel
theorem dX10_block_50 : decode cX10_block 50 = .ok (.iload_n 3, 1) := by decide +kernel
theorem dX10_block_51 : decode cX10_block 51 = .ok (.invokestatic 95, 3) := by decide +kernel
theorem dX10_block_54 : decode cX10_block 54 = .ok (.putfield 88, 3) := by decide +kernel
theorem dX10_block_57 : decode cX10_block 57 = .ok (.iload 5, 2) := by decide +kernel
theorem dX10_block_59 : decode cX10_block 59 = .ok (.ireturn, 1) := by decide +kernel
theorem dX10_chapter_0 : decode cX10_chapter 0 = .ok (.aload_n 0, 1) := by decide +kernel
theorem dX10_chapter_1 : decode cX10_chapter 1 = .ok (.iload_n 1, 1) := by decide +kernel
theorem dX10_chapter_2 : decode cX10_chapter 2 = .ok (.invokevirtual 112, 3) := by decide +kernel
theorem dX10_chapter_5 : decode cX10_chapter 5 = .ok (.astore_n 2, 1) := by decide +kernel
theorem dX10_chapter_6 : decode cX10_chapter 6 = .ok (.aload_n 2, 1) := by decide +kernel
theorem dX10_chapter_7 : decode cX10_chapter 7 = .ok (.getfield 133, 3) := by decide +kernel
theorem dX10_chapter_10 : decode cX10_chapter 10 = .ok (.bipush 8, 2) := by decide +kernel
theorem dX10_chapter_12 : decode cX10_chapter 12 = .ok (.if_icmp .lt 13, 3) := by decide +kernel
theorem dX10_chapter_15 : decode cX10_chapter 15 = .ok (.new 77, 3) := by decide +kernel
theorem dX10_chapter_18 : decode cX10_chapter 18 = .ok (.dup, 1) := by decide +kernel
theorem dX10_chapter_19 : decode cX10_chapter 19 = .ok (.ldc 136, 2) := by decide +kernel
theorem dX10_chapter_21 : decode cX10_chapter 21 = .ok (.invokespecial 81, 3) := by decide +kernel
theorem dX10_chapter_24 : decode cX10_chapter 24 = .ok (.athrow, 1) := by decide +kernel
theorem dX10_chapter_25 : decode cX10_chapter 25 = .ok (.aload_n 2, 1) := by decide +kernel
theorem dX10_chapter_26 : decode cX10_chapter 26 = .ok (.getfield 138, 3) := by decide +kernel
theorem dX10_chapter_29 : decode cX10_chapter 29 = .ok (.aload_n 2, 1) := by decide +kernel
theorem dX10_chapter_30 : decode cX10_chapter 30 = .ok (.getfield 133, 3) := by decide +kernel
theorem dX10_chapter_33 : decode cX10_chapter 33 = .ok (.aload_n 0, 1) := by decide +kernel
theorem dX10_chapter_34 : decode cX10_chapter 34 = .ok (.getfield 73, 3) := by decide +kernel
theorem dX10_chapter_37 : decode cX10_chapter 37 = .ok (.iastore, 1) := by decide +kernel
theorem dX10_chapter_38 : decode cX10_chapter 38 = .ok (.aload_n 2, 1) := by decide +kernel
theorem dX10_chapter_39 : decode cX10_chapter 39 = .ok (.dup, 1) := by decide +kernel
theorem dX10_chapter_40 : decode cX10_chapter 40 = .ok (.getfield 133, 3) := by decide +kernel
theorem dX10_chapter_43 : decode cX10_chapter 43 = .ok (.iconst 1, 1) := by decide +kernel
theorem dX10_chapter_44 : decode cX10_chapter 44 = .ok (.iadd, 1) := by decide +kernel
theorem dX10_chapter_45 : decode cX10_chapter 45 = .ok (.putfield 133, 3) := by decide +kernel
theorem dX10_chapter_48 : decode cX10_chapter 48 = .ok (.aload_n 2, 1) := by decide +kernel
theorem dX10_chapter_49 : decode cX10_chapter 49 = .ok (.getfield 133, 3) := by decide +kernel
theorem dX10_chapter_52 : decode cX10_chapter 52 = .ok (.iconst 1, 1) := by decide +kernel
theorem dX10_chapter_53 : decode cX10_chapter 53 = .ok (.isub, 1) := by decide +kernel
theorem dX10_chapter_54 : decode cX10_chapter 54 = .ok (.ireturn, 1) := by decide +kernel
theorem dX0_init_0 : decode cX0_init 0 = .ok (.aload_n 0, 1) := by decide +kernel
theorem dX0_init_1 : decode cX0_init 1 = .ok (.invokespecial 1, 3) := by decide +kernel
theorem dX0_init_4 : decode cX0_init 4 = .ok (.aload_n 0, 1) := by decide +kernel
theorem dX0_init_5 : decode cX0_init 5 = .ok (.iload_n 1, 1) := by decide +kernel
theorem dX0_init_6 : decode cX0_init 6 = .ok (.putfield 7, 3) := by decide +kernel
theorem dX0_init_9 : decode cX0_init 9 = .ok (.aload_n 0, 1) := by decide +kernel
theorem dX0_init_10 : decode cX0_init 10 = .ok (.iload_n 2, 1) := by decide +kernel
theorem dX0_init_11 : decode cX0_init 11 = .ok (.putfield 13, 3) := by decide +kernel
theorem dX0_init_14 : decode cX0_init 14 = .ok (.return_, 1) := by decide +kernel
theorem dX10_collection_0 : decode cX10_collection 0 = .ok (.iload_n 1, 1) := by decide +kernel
theorem dX10_collection_1 : decode cX10_collection 1 = .ok (.ifCond .lt 22, 3) := by decide +kernel
theorem dX10_collection_4 : decode cX10_collection 4 = .ok (.iload_n 1, 1) := by decide +kernel
theorem dX10_collection_5 : decode cX10_collection 5 = .ok (.sipush 2000, 3) := by decide +kernel
theorem dX10_collection_8 : decode cX10_collection 8 = .ok (.if_icmp .gt 15, 3) := by decide +kernel
theorem dX10_collection_11 : decode cX10_collection 11 = .ok (.iload_n 2, 1) := by decide +kernel
theorem dX10_collection_12 : decode cX10_collection 12 = .ok (.iload_n 1, 1) := by decide +kernel
theorem dX10_collection_13 : decode cX10_collection 13 = .ok (.if_icmp .lt 10, 3) := by decide +kernel
theorem dX10_collection_16 : decode cX10_collection 16 = .ok (.iload_n 2, 1) := by decide +kernel
theorem dX10_collection_17 : decode cX10_collection 17 = .ok (.sipush 2000, 3) := by decide +kernel
theorem dX10_collection_20 : decode cX10_collection 20 = .ok (.if_icmp .le 13, 3) := by decide +kernel
theorem dX10_collection_23 : decode cX10_collection 23 = .ok (.new 66, 3) := by decide +kernel
theorem dX10_collection_26 : decode cX10_collection 26 = .ok (.dup, 1) := by decide +kernel
theorem dX10_collection_27 : decode cX10_collection 27 = .ok (.ldc 154, 2) := by decide +kernel
theorem dX10_collection_29 : decode cX10_collection 29 = .ok (.invokespecial 70, 3) := by decide +kernel
theorem dX10_collection_32 : decode cX10_collection 32 = .ok (.athrow, 1) := by decide +kernel
theorem dX10_collection_33 : decode cX10_collection 33 = .ok (.aload_n 0, 1) := by decide +kernel
theorem dX10_collection_34 : decode cX10_collection 34 = .ok (.getfield 156, 3) := by decide +kernel
theorem dX10_collection_37 : decode cX10_collection 37 = .ok (.bipush 6, 2) := by decide +kernel
theorem dX10_collection_39 : decode cX10_collection 39 = .ok (.if_icmp .lt 13, 3) := by decide +kernel
theorem dX10_collection_42 : decode cX10_collection 42 = .ok (.new 77, 3) := by decide +kernel
theorem dX10_collection_45 : decode cX10_collection 45 = .ok (.dup, 1) := by decide +kernel
theorem dX10_collection_46 : decode cX10_collection 46 = .ok (.ldc 159, 2) := by decide +kernel
theorem dX10_collection_48 : decode cX10_collection 48 = .ok (.invokespecial 81, 3) := by decide +kernel
theorem dX10_collection_51 : decode cX10_collection 51 = .ok (.athrow, 1) := by decide +kernel
theorem dX10_collection_52 : decode cX10_collection 52 = .ok (.aload_n 0, 1) := by decide +kernel
theorem dX10_collection_53 : decode cX10_collection 53 = .ok (.getfield 27, 3) := by decide +kernel
theorem dX10_collection_56 : decode cX10_collection 56 = .ok (.aload_n 0, 1) := by decide +kernel
theorem dX10_collection_57 : decode cX10_collection 57 = .ok (.getfield 156, 3) := by decide +kernel
theorem dX10_collection_60 : decode cX10_collection 60 = .ok (.new 25, 3) := by decide +kernel
theorem dX10_collection_63 : decode cX10_collection 63 = .ok (.dup, 1) := by decide +kernel
theorem dX10_collection_64 : decode cX10_collection 64 = .ok (.iload_n 1, 1) := by decide +kernel
theorem dX10_collection_65 : decode cX10_collection 65 = .ok (.iload_n 2, 1) := by decide +kernel
theorem dX10_collection_66 : decode cX10_collection 66 = .ok (.invokespecial 161, 3) := by decide +kernel
theorem dX10_collection_69 : decode cX10_collection 69 = .ok (.aastore, 1) := by decide +kernel
theorem dX10_collection_70 : decode cX10_collection 70 = .ok (.aload_n 0, 1) := by decide +kernel
theorem dX10_collection_71 : decode cX10_collection 71 = .ok (.dup, 1) := by decide +kernel
theorem dX10_collection_72 : decode cX10_collection 72 = .ok (.getfield 156, 3) := by decide +kernel
theorem dX10_collection_75 : decode cX10_collection 75 = .ok (.iconst 1, 1) := by decide +kernel
theorem dX10_collection_76 : decode cX10_collection 76 = .ok (.iadd, 1) := by decide +kernel
theorem dX10_collection_77 : decode cX10_collection 77 = .ok (.putfield 156, 3) := by decide +kernel
theorem dX10_collection_80 : decode cX10_collection 80 = .ok (.aload_n 0, 1) := by decide +kernel
theorem dX10_collection_81 : decode cX10_collection 81 = .ok (.getfield 156, 3) := by decide +kernel
theorem dX10_collection_84 : decode cX10_collection 84 = .ok (.iconst 1, 1) := by decide +kernel
theorem dX10_collection_85 : decode cX10_collection 85 = .ok (.isub, 1) := by decide +kernel
theorem dX10_collection_86 : decode cX10_collection 86 = .ok (.ireturn, 1) := by decide +kernel
theorem dJ6_bitCount_0f7a4_0 : decode cJ6_bitCount_0f7a4 0 = .ok (.iload_n 0, 1) := by decide +kernel
theorem dJ6_bitCount_0f7a4_1 : decode cJ6_bitCount_0f7a4 1 = .ok (.iload_n 0, 1) := by decide +kernel
theorem dJ6_bitCount_0f7a4_2 : decode cJ6_bitCount_0f7a4 2 = .ok (.iconst 1, 1) := by decide +kernel
theorem dJ6_bitCount_0f7a4_3 : decode cJ6_bitCount_0f7a4 3 = .ok (.iushr, 1) := by decide +kernel
theorem dJ6_bitCount_0f7a4_4 : decode cJ6_bitCount_0f7a4 4 = .ok (.ldc_w 265, 3) := by decide +kernel
theorem dJ6_bitCount_0f7a4_7 : decode cJ6_bitCount_0f7a4 7 = .ok (.iand, 1) := by decide +kernel
theorem dJ6_bitCount_0f7a4_8 : decode cJ6_bitCount_0f7a4 8 = .ok (.isub, 1) := by decide +kernel
theorem dJ6_bitCount_0f7a4_9 : decode cJ6_bitCount_0f7a4 9 = .ok (.istore_n 0, 1) := by decide +kernel
theorem dJ6_bitCount_0f7a4_10 : decode cJ6_bitCount_0f7a4 10 = .ok (.iload_n 0, 1) := by decide +kernel
theorem dJ6_bitCount_0f7a4_11 : decode cJ6_bitCount_0f7a4 11 = .ok (.ldc_w 266, 3) := by decide +kernel
theorem dJ6_bitCount_0f7a4_14 : decode cJ6_bitCount_0f7a4 14 = .ok (.iand, 1) := by decide +kernel
theorem dJ6_bitCount_0f7a4_15 : decode cJ6_bitCount_0f7a4 15 = .ok (.iload_n 0, 1) := by decide +kernel
theorem dJ6_bitCount_0f7a4_16 : decode cJ6_bitCount_0f7a4 16 = .ok (.iconst 2, 1) := by decide +kernel
theorem dJ6_bitCount_0f7a4_17 : decode cJ6_bitCount_0f7a4 17 = .ok (.iushr, 1) := by decide +kernel
theorem dJ6_bitCount_0f7a4_18 : decode cJ6_bitCount_0f7a4 18 = .ok (.ldc_w 266, 3) := by decide +kernel
theorem dJ6_bitCount_0f7a4_21 : decode cJ6_bitCount_0f7a4 21 = .ok (.iand, 1) := by decide +kernel
theorem dJ6_bitCount_0f7a4_22 : decode cJ6_bitCount_0f7a4 22 = .ok (.iadd, 1) := by decide +kernel
theorem dJ6_bitCount_0f7a4_23 : decode cJ6_bitCount_0f7a4 23 = .ok (.istore_n 0, 1) := by decide +kernel
theorem dJ6_bitCount_0f7a4_24 : decode cJ6_bitCount_0f7a4 24 = .ok (.iload_n 0, 1) := by decide +kernel
theorem dJ6_bitCount_0f7a4_25 : decode cJ6_bitCount_0f7a4 25 = .ok (.iload_n 0, 1) := by decide +kernel
theorem dJ6_bitCount_0f7a4_26 : decode cJ6_bitCount_0f7a4 26 = .ok (.iconst 4, 1) := by decide +kernel
theorem dJ6_bitCount_0f7a4_27 : decode cJ6_bitCount_0f7a4 27 = .ok (.iushr, 1) := by decide +kernel
theorem dJ6_bitCount_0f7a4_28 : decode cJ6_bitCount_0f7a4 28 = .ok (.iadd, 1) := by decide +kernel
theorem dJ6_bitCount_0f7a4_29 : decode cJ6_bitCount_0f7a4 29 = .ok (.ldc_w 267, 3) := by decide +kernel
theorem dJ6_bitCount_0f7a4_32 : decode cJ6_bitCount_0f7a4 32 = .ok (.iand, 1) := by decide +kernel
theorem dJ6_bitCount_0f7a4_33 : decode cJ6_bitCount_0f7a4 33 = .ok (.istore_n 0, 1) := by decide +kernel
theorem dJ6_bitCount_0f7a4_34 : decode cJ6_bitCount_0f7a4 34 = .ok (.iload_n 0, 1) := by decide +kernel
theorem dJ6_bitCount_0f7a4_35 : decode cJ6_bitCount_0f7a4 35 = .ok (.iload_n 0, 1) := by decide +kernel
theorem dJ6_bitCount_0f7a4_36 : decode cJ6_bitCount_0f7a4 36 = .ok (.bipush 8, 2) := by decide +kernel
theorem dJ6_bitCount_0f7a4_38 : decode cJ6_bitCount_0f7a4 38 = .ok (.iushr, 1) := by decide +kernel
theorem dJ6_bitCount_0f7a4_39 : decode cJ6_bitCount_0f7a4 39 = .ok (.iadd, 1) := by decide +kernel
theorem dJ6_bitCount_0f7a4_40 : decode cJ6_bitCount_0f7a4 40 = .ok (.istore_n 0, 1) := by decide +kernel
theorem dJ6_bitCount_0f7a4_41 : decode cJ6_bitCount_0f7a4 41 = .ok (.iload_n 0, 1) := by decide +kernel
theorem dJ6_bitCount_0f7a4_42 : decode cJ6_bitCount_0f7a4 42 = .ok (.iload_n 0, 1) := by decide +kernel
theorem dJ6_bitCount_0f7a4_43 : decode cJ6_bitCount_0f7a4 43 = .ok (.bipush 16, 2) := by decide +kernel
theorem dJ6_bitCount_0f7a4_45 : decode cJ6_bitCount_0f7a4 45 = .ok (.iushr, 1) := by decide +kernel
theorem dJ6_bitCount_0f7a4_46 : decode cJ6_bitCount_0f7a4 46 = .ok (.iadd, 1) := by decide +kernel
theorem dJ6_bitCount_0f7a4_47 : decode cJ6_bitCount_0f7a4 47 = .ok (.istore_n 0, 1) := by decide +kernel
theorem dJ6_bitCount_0f7a4_48 : decode cJ6_bitCount_0f7a4 48 = .ok (.iload_n 0, 1) := by decide +kernel
theorem dJ6_bitCount_0f7a4_49 : decode cJ6_bitCount_0f7a4 49 = .ok (.bipush 63, 2) := by decide +kernel
theorem dJ6_bitCount_0f7a4_51 : decode cJ6_bitCount_0f7a4 51 = .ok (.iand, 1) := by decide +kernel
theorem dJ6_bitCount_0f7a4_52 : decode cJ6_bitCount_0f7a4 52 = .ok (.ireturn, 1) := by decide +kernel
theorem dX9_isOwnedBy_0 : decode cX9_isOwnedBy 0 = .ok (.aload_n 0, 1) := by decide +kernel
theorem dX9_isOwnedBy_1 : decode cX9_isOwnedBy 1 = .ok (.getfield 19, 3) := by decide +kernel
theorem dX9_isOwnedBy_4 : decode cX9_isOwnedBy 4 = .ok (.iload_n 1, 1) := by decide +kernel
theorem dX9_isOwnedBy_5 : decode cX9_isOwnedBy 5 = .ok (.invokestatic 25, 3) := by decide +kernel
theorem dX9_isOwnedBy_8 : decode cX9_isOwnedBy 8 = .ok (.ireturn, 1) := by decide +kernel
theorem dX10_join_0 : decode cX10_join 0 = .ok (.aload_n 0, 1) := by decide +kernel
theorem dX10_join_1 : decode cX10_join 1 = .ok (.iload_n 1, 1) := by decide +kernel
theorem dX10_join_2 : decode cX10_join 2 = .ok (.invokevirtual 112, 3) := by decide +kernel
theorem dX10_join_5 : decode cX10_join 5 = .ok (.astore_n 3, 1) := by decide +kernel
theorem dX10_join_6 : decode cX10_join 6 = .ok (.iload_n 2, 1) := by decide +kernel
theorem dX10_join_7 : decode cX10_join 7 = .ok (.invokestatic 82, 3) := by decide +kernel
theorem dX10_join_10 : decode cX10_join 10 = .ok (.aload_n 3, 1) := by decide +kernel
theorem dX10_join_11 : decode cX10_join 11 = .ok (.getfield 116, 3) := by decide +kernel
theorem dX10_join_14 : decode cX10_join 14 = .ok (.invokestatic 119, 3) := by decide +kernel
theorem dX10_join_17 : decode cX10_join 17 = .ok (.istore 4, 2) := by decide +kernel
theorem dX10_join_19 : decode cX10_join 19 = .ok (.aload_n 3, 1) := by decide +kernel
theorem dX10_join_20 : decode cX10_join 20 = .ok (.iload_n 2, 1) := by decide +kernel
theorem dX10_join_21 : decode cX10_join 21 = .ok (.invokevirtual 125, 3) := by decide +kernel
theorem dX10_join_24 : decode cX10_join 24 = .ok (.ifCond .ne 14, 3) := by decide +kernel
theorem dX10_join_27 : decode cX10_join 27 = .ok (.iload 4, 2) := by decide +kernel
theorem dX10_join_29 : decode cX10_join 29 = .ok (.iconst 3, 1) := by decide +kernel
theorem dX10_join_30 : decode cX10_join 30 = .ok (.if_icmp .ge 8, 3) := by decide +kernel
theorem dX10_join_33 : decode cX10_join 33 = .ok (.iload 4, 2) := by decide +kernel
theorem dX10_join_35 : decode cX10_join 35 = .ok (.ifCond .ne 13, 3) := by decide +kernel
theorem dX10_join_38 : decode cX10_join 38 = .ok (.new 77, 3) := by decide +kernel
theorem dX10_join_41 : decode cX10_join 41 = .ok (.dup, 1) := by decide +kernel
theorem dX10_join_42 : decode cX10_join 42 = .ok (.ldc 129, 2) := by decide +kernel
theorem dX10_join_44 : decode cX10_join 44 = .ok (.invokespecial 81, 3) := by decide +kernel
theorem dX10_join_47 : decode cX10_join 47 = .ok (.athrow, 1) := by decide +kernel
theorem dX10_join_48 : decode cX10_join 48 = .ok (.aload_n 3, 1) := by decide +kernel
theorem dX10_join_49 : decode cX10_join 49 = .ok (.aload_n 3, 1) := by decide +kernel
theorem dX10_join_50 : decode cX10_join 50 = .ok (.getfield 116, 3) := by decide +kernel
theorem dX10_join_53 : decode cX10_join 53 = .ok (.iload_n 2, 1) := by decide +kernel
theorem dX10_join_54 : decode cX10_join 54 = .ok (.iconst 1, 1) := by decide +kernel
theorem dX10_join_55 : decode cX10_join 55 = .ok (.invokestatic 95, 3) := by decide +kernel
theorem dX10_join_58 : decode cX10_join 58 = .ok (.putfield 116, 3) := by decide +kernel
theorem dX10_join_61 : decode cX10_join 61 = .ok (.iload 4, 2) := by decide +kernel
theorem dX10_join_63 : decode cX10_join 63 = .ok (.iconst 1, 1) := by decide +kernel
theorem dX10_join_64 : decode cX10_join 64 = .ok (.iadd, 1) := by decide +kernel
theorem dX10_join_65 : decode cX10_join 65 = .ok (.ireturn, 1) := by decide +kernel
theorem dX10_leave_0 : decode cX10_leave 0 = .ok (.aload_n 0, 1) := by decide +kernel
theorem dX10_leave_1 : decode cX10_leave 1 = .ok (.iload_n 1, 1) := by decide +kernel
theorem dX10_leave_2 : decode cX10_leave 2 = .ok (.invokevirtual 112, 3) := by decide +kernel
theorem dX10_leave_5 : decode cX10_leave 5 = .ok (.astore_n 3, 1) := by decide +kernel
theorem dX10_leave_6 : decode cX10_leave 6 = .ok (.iload_n 2, 1) := by decide +kernel
theorem dX10_leave_7 : decode cX10_leave 7 = .ok (.invokestatic 82, 3) := by decide +kernel
theorem dX10_leave_10 : decode cX10_leave 10 = .ok (.aload_n 3, 1) := by decide +kernel
theorem dX10_leave_11 : decode cX10_leave 11 = .ok (.iload_n 2, 1) := by decide +kernel
theorem dX10_leave_12 : decode cX10_leave 12 = .ok (.invokevirtual 125, 3) := by decide +kernel
theorem dX10_leave_15 : decode cX10_leave 15 = .ok (.ifCond .ne 13, 3) := by decide +kernel
theorem dX10_leave_18 : decode cX10_leave 18 = .ok (.new 77, 3) := by decide +kernel
theorem dX10_leave_21 : decode cX10_leave 21 = .ok (.dup, 1) := by decide +kernel
theorem dX10_leave_22 : decode cX10_leave 22 = .ok (.ldc 131, 2) := by decide +kernel
theorem dX10_leave_24 : decode cX10_leave 24 = .ok (.invokespecial 81, 3) := by decide +kernel
theorem dX10_leave_27 : decode cX10_leave 27 = .ok (.athrow, 1) := by decide +kernel
theorem dX10_leave_28 : decode cX10_leave 28 = .ok (.aload_n 3, 1) := by decide +kernel
theorem dX10_leave_29 : decode cX10_leave 29 = .ok (.aload_n 3, 1) := by decide +kernel
theorem dX10_leave_30 : decode cX10_leave 30 = .ok (.getfield 116, 3) := by decide +kernel
theorem dX10_leave_33 : decode cX10_leave 33 = .ok (.iload_n 2, 1) := by decide +kernel
theorem dX10_leave_34 : decode cX10_leave 34 = .ok (.iconst 0, 1) := by decide +kernel
theorem dX10_leave_35 : decode cX10_leave 35 = .ok (.invokestatic 95, 3) := by decide +kernel
theorem dX10_leave_38 : decode cX10_leave 38 = .ok (.putfield 116, 3) := by decide +kernel
theorem dX10_leave_41 : decode cX10_leave 41 = .ok (.aload_n 3, 1) := by decide +kernel
theorem dX10_leave_42 : decode cX10_leave 42 = .ok (.getfield 116, 3) := by decide +kernel
theorem dX10_leave_45 : decode cX10_leave 45 = .ok (.invokestatic 119, 3) := by decide +kernel
theorem dX10_leave_48 : decode cX10_leave 48 = .ok (.ireturn, 1) := by decide +kernel
theorem dX10_lock_0 : decode cX10_lock 0 = .ok (.aload_n 0, 1) := by decide +kernel
theorem dX10_lock_1 : decode cX10_lock 1 = .ok (.iload_n 1, 1) := by decide +kernel
theorem dX10_lock_2 : decode cX10_lock 2 = .ok (.invokevirtual 112, 3) := by decide +kernel
theorem dX10_lock_5 : decode cX10_lock 5 = .ok (.astore_n 3, 1) := by decide +kernel
theorem dX10_lock_6 : decode cX10_lock 6 = .ok (.aload_n 3, 1) := by decide +kernel
theorem dX10_lock_7 : decode cX10_lock 7 = .ok (.getfield 150, 3) := by decide +kernel
theorem dX10_lock_10 : decode cX10_lock 10 = .ok (.istore 4, 2) := by decide +kernel
theorem dX10_lock_12 : decode cX10_lock 12 = .ok (.aload_n 3, 1) := by decide +kernel
theorem dX10_lock_13 : decode cX10_lock 13 = .ok (.iload_n 2, 1) := by decide +kernel
theorem dX10_lock_14 : decode cX10_lock 14 = .ok (.putfield 150, 3) := by decide +kernel
theorem dX10_lock_17 : decode cX10_lock 17 = .ok (.iload 4, 2) := by decide +kernel
theorem dX10_lock_19 : decode cX10_lock 19 = .ok (.ireturn, 1) := by decide +kernel
theorem dX10_checkTag_0 : decode cX10_checkTag 0 = .ok (.iload_n 1, 1) := by decide +kernel
theorem dX10_checkTag_1 : decode cX10_checkTag 1 = .ok (.ifCond .lt 14, 3) := by decide +kernel
theorem dX10_checkTag_4 : decode cX10_checkTag 4 = .ok (.iload_n 1, 1) := by decide +kernel
theorem dX10_checkTag_5 : decode cX10_checkTag 5 = .ok (.aload_n 0, 1) := by decide +kernel
theorem dX10_checkTag_6 : decode cX10_checkTag 6 = .ok (.getfield 34, 3) := by decide +kernel
theorem dX10_checkTag_9 : decode cX10_checkTag 9 = .ok (.getfield 180, 3) := by decide +kernel
theorem dX10_checkTag_12 : decode cX10_checkTag 12 = .ok (.if_icmp .lt 14, 3) := by decide +kernel
theorem dX10_checkTag_15 : decode cX10_checkTag 15 = .ok (.new 162, 3) := by decide +kernel
theorem dX10_checkTag_18 : decode cX10_checkTag 18 = .ok (.dup, 1) := by decide +kernel
theorem dX10_checkTag_19 : decode cX10_checkTag 19 = .ok (.ldc_w 380, 3) := by decide +kernel
theorem dX10_checkTag_22 : decode cX10_checkTag 22 = .ok (.invokespecial 166, 3) := by decide +kernel
theorem dX10_checkTag_25 : decode cX10_checkTag 25 = .ok (.athrow, 1) := by decide +kernel
theorem dX10_checkTag_26 : decode cX10_checkTag 26 = .ok (.return_, 1) := by decide +kernel
theorem dX10_letTaggedWorksWait_0 : decode cX10_letTaggedWorksWait 0 = .ok (.iconst 0, 1) := by decide +kernel
theorem dX10_letTaggedWorksWait_1 : decode cX10_letTaggedWorksWait 1 = .ok (.istore_n 1, 1) := by decide +kernel
theorem dX10_letTaggedWorksWait_2 : decode cX10_letTaggedWorksWait 2 = .ok (.iload_n 1, 1) := by decide +kernel
theorem dX10_letTaggedWorksWait_3 : decode cX10_letTaggedWorksWait 3 = .ok (.aload_n 0, 1) := by decide +kernel
theorem dX10_letTaggedWorksWait_4 : decode cX10_letTaggedWorksWait 4 = .ok (.getfield 104, 3) := by decide +kernel
theorem dX10_letTaggedWorksWait_7 : decode cX10_letTaggedWorksWait 7 = .ok (.if_icmp .ge 39, 3) := by decide +kernel
theorem dX10_letTaggedWorksWait_10 : decode cX10_letTaggedWorksWait 10 = .ok (.aload_n 0, 1) := by decide +kernel
theorem dX10_letTaggedWorksWait_11 : decode cX10_letTaggedWorksWait 11 = .ok (.getfield 21, 3) := by decide +kernel
theorem dX10_letTaggedWorksWait_14 : decode cX10_letTaggedWorksWait 14 = .ok (.iload_n 1, 1) := by decide +kernel
theorem dX10_letTaggedWorksWait_15 : decode cX10_letTaggedWorksWait 15 = .ok (.aaload, 1) := by decide +kernel
theorem dX10_letTaggedWorksWait_16 : decode cX10_letTaggedWorksWait 16 = .ok (.astore_n 2, 1) := by decide +kernel
theorem dX10_letTaggedWorksWait_17 : decode cX10_letTaggedWorksWait 17 = .ok (.aload_n 2, 1) := by decide +kernel
theorem dX10_letTaggedWorksWait_18 : decode cX10_letTaggedWorksWait 18 = .ok (.aload_n 2, 1) := by decide +kernel
theorem dX10_letTaggedWorksWait_19 : decode cX10_letTaggedWorksWait 19 = .ok (.getfield 244, 3) := by decide +kernel
theorem dX10_letTaggedWorksWait_22 : decode cX10_letTaggedWorksWait 22 = .ok (.ifCond .ne 10, 3) := by decide +kernel
theorem dX10_letTaggedWorksWait_25 : decode cX10_letTaggedWorksWait 25 = .ok (.aload_n 2, 1) := by decide +kernel
theorem dX10_letTaggedWorksWait_26 : decode cX10_letTaggedWorksWait 26 = .ok (.getfield 234, 3) := by decide +kernel
theorem dX10_letTaggedWorksWait_29 : decode cX10_letTaggedWorksWait 29 = .ok (.ifCond .eq 7, 3) := by decide +kernel
theorem dX10_letTaggedWorksWait_32 : decode cX10_letTaggedWorksWait 32 = .ok (.iconst 1, 1) := by decide +kernel
theorem dX10_letTaggedWorksWait_33 : decode cX10_letTaggedWorksWait 33 = .ok (.goto 4, 3) := by decide +kernel
theorem dX10_letTaggedWorksWait_36 : decode cX10_letTaggedWorksWait 36 = .ok (.iconst 0, 1) := by decide +kernel
theorem dX10_letTaggedWorksWait_37 : decode cX10_letTaggedWorksWait 37 = .ok (.putfield 244, 3) := by decide +kernel
theorem dX10_letTaggedWorksWait_40 : decode cX10_letTaggedWorksWait 40 = .ok (.iinc 1 1, 3) := by decide +kernel
theorem dX10_letTaggedWorksWait_43 : decode cX10_letTaggedWorksWait 43 = .ok (.goto (-41), 3) := by decide +kernel
theorem dX10_letTaggedWorksWait_46 : decode cX10_letTaggedWorksWait 46 = .ok (.return_, 1) := by decide +kernel
theorem dX7_kindOf_0 : decode cX7_kindOf 0 = .ok (.aload_n 0, 1) := by decide +kernel
theorem dX7_kindOf_1 : decode cX7_kindOf 1 = .ok (.getfield 9, 3) := by decide +kernel
theorem dX7_kindOf_4 : decode cX7_kindOf 4 = .ok (.iload_n 1, 1) := by decide +kernel
theorem dX7_kindOf_5 : decode cX7_kindOf 5 = .ok (.iaload, 1) := by decide +kernel
theorem dX7_kindOf_6 : decode cX7_kindOf 6 = .ok (.iconst (-1), 1) := by decide +kernel
theorem dX7_kindOf_7 : decode cX7_kindOf 7 = .ok (.if_icmp .ne 5, 3) := by decide +kernel
theorem dX7_kindOf_10 : decode cX7_kindOf 10 = .ok (.iconst 0, 1) := by decide +kernel
theorem dX7_kindOf_11 : decode cX7_kindOf 11 = .ok (.ireturn, 1) := by decide +kernel
theorem dX7_kindOf_12 : decode cX7_kindOf 12 = .ok (.aload_n 0, 1) := by decide +kernel
theorem dX7_kindOf_13 : decode cX7_kindOf 13 = .ok (.getfield 9, 3) := by decide +kernel
theorem dX7_kindOf_16 : decode cX7_kindOf 16 = .ok (.iload_n 1, 1) := by decide +kernel
theorem dX7_kindOf_17 : decode cX7_kindOf 17 = .ok (.iaload, 1) := by decide +kernel
theorem dX7_kindOf_18 : decode cX7_kindOf 18 = .ok (.iload_n 1, 1) := by decide +kernel
theorem dX7_kindOf_19 : decode cX7_kindOf 19 = .ok (.if_icmp .ne 7, 3) := by decide +kernel
theorem dX7_kindOf_22 : decode cX7_kindOf 22 = .ok (.iconst 1, 1) := by decide +kernel
theorem dX7_kindOf_23 : decode cX7_kindOf 23 = .ok (.goto 4, 3) := by decide +kernel
theorem dX7_kindOf_26 : decode cX7_kindOf 26 = .ok (.iconst 2, 1) := by decide +kernel
theorem dX7_kindOf_27 : decode cX7_kindOf 27 = .ok (.ireturn, 1) := by decide +kernel
theorem dX7_makeMain_0 : decode cX7_makeMain 0 = .ok (.aload_n 0, 1) := by decide +kernel
theorem dX7_makeMain_1 : decode cX7_makeMain 1 = .ok (.getfield 9, 3) := by decide +kernel
theorem dX7_makeMain_4 : decode cX7_makeMain 4 = .ok (.iload_n 1, 1) := by decide +kernel
theorem dX7_makeMain_5 : decode cX7_makeMain 5 = .ok (.iload_n 1, 1) := by decide +kernel
theorem dX7_makeMain_6 : decode cX7_makeMain 6 = .ok (.iastore, 1) := by decide +kernel
theorem dX7_makeMain_7 : decode cX7_makeMain 7 = .ok (.return_, 1) := by decide +kernel
theorem dX10_make_0 : decode cX10_make 0 = .ok (.aload_n 0, 1) := by decide +kernel
theorem dX10_make_1 : decode cX10_make 1 = .ok (.iload_n 1, 1) := by decide +kernel
theorem dX10_make_2 : decode cX10_make 2 = .ok (.invokevirtual 189, 3) := by decide +kernel
theorem dX10_make_5 : decode cX10_make 5 = .ok (.aload_n 0, 1) := by decide +kernel
theorem dX10_make_6 : decode cX10_make 6 = .ok (.getfield 34, 3) := by decide +kernel
theorem dX10_make_9 : decode cX10_make 9 = .ok (.iload_n 1, 1) := by decide +kernel
theorem dX10_make_10 : decode cX10_make 10 = .ok (.invokevirtual 192, 3) := by decide +kernel
theorem dX10_make_13 : decode cX10_make 13 = .ok (.istore_n 2, 1) := by decide +kernel
theorem dX10_make_14 : decode cX10_make 14 = .ok (.iload_n 2, 1) := by decide +kernel
theorem dX10_make_15 : decode cX10_make 15 = .ok (.iconst 1, 1) := by decide +kernel
theorem dX10_make_16 : decode cX10_make 16 = .ok (.if_icmp .ne 13, 3) := by decide +kernel
theorem dX10_make_19 : decode cX10_make 19 = .ok (.new 77, 3) := by decide +kernel
theorem dX10_make_22 : decode cX10_make 22 = .ok (.dup, 1) := by decide +kernel
theorem dX10_make_23 : decode cX10_make 23 = .ok (.ldc 195, 2) := by decide +kernel
theorem dX10_make_25 : decode cX10_make 25 = .ok (.invokespecial 81, 3) := by decide +kernel
theorem dX10_make_28 : decode cX10_make 28 = .ok (.athrow, 1) := by decide +kernel
theorem dX10_make_29 : decode cX10_make 29 = .ok (.aload_n 0, 1) := by decide +kernel
theorem dX10_make_30 : decode cX10_make 30 = .ok (.getfield 34, 3) := by decide +kernel
theorem dX10_make_33 : decode cX10_make 33 = .ok (.iload_n 1, 1) := by decide +kernel
theorem dX10_make_34 : decode cX10_make 34 = .ok (.invokevirtual 197, 3) := by decide +kernel
theorem dX10_make_37 : decode cX10_make 37 = .ok (.aload_n 0, 1) := by decide +kernel
theorem dX10_make_38 : decode cX10_make 38 = .ok (.invokevirtual 200, 3) := by decide +kernel
theorem dX10_make_41 : decode cX10_make 41 = .ok (.iload_n 2, 1) := by decide +kernel
theorem dX10_make_42 : decode cX10_make 42 = .ok (.ireturn, 1) := by decide +kernel
theorem dX7_isAbove_0 : decode cX7_isAbove 0 = .ok (.aload_n 0, 1) := by decide +kernel
theorem dX7_isAbove_1 : decode cX7_isAbove 1 = .ok (.getfield 18, 3) := by decide +kernel
theorem dX7_isAbove_4 : decode cX7_isAbove 4 = .ok (.iload_n 2, 1) := by decide +kernel
theorem dX7_isAbove_5 : decode cX7_isAbove 5 = .ok (.iaload, 1) := by decide +kernel
theorem dX7_isAbove_6 : decode cX7_isAbove 6 = .ok (.iload_n 1, 1) := by decide +kernel
theorem dX7_isAbove_7 : decode cX7_isAbove 7 = .ok (.invokestatic 25, 3) := by decide +kernel
theorem dX7_isAbove_10 : decode cX7_isAbove 10 = .ok (.ireturn, 1) := by decide +kernel
theorem dX7_findAbove_0 : decode cX7_findAbove 0 = .ok (.aload_n 0, 1) := by decide +kernel
theorem dX7_findAbove_1 : decode cX7_findAbove 1 = .ok (.getfield 15, 3) := by decide +kernel
theorem dX7_findAbove_4 : decode cX7_findAbove 4 = .ok (.iconst 0, 1) := by decide +kernel
theorem dX7_findAbove_5 : decode cX7_findAbove 5 = .ok (.aload_n 0, 1) := by decide +kernel
theorem dX7_findAbove_6 : decode cX7_findAbove 6 = .ok (.getfield 18, 3) := by decide +kernel
theorem dX7_findAbove_9 : decode cX7_findAbove 9 = .ok (.iconst 0, 1) := by decide +kernel
theorem dX7_findAbove_10 : decode cX7_findAbove 10 = .ok (.bipush 30, 2) := by decide +kernel
theorem dX7_findAbove_12 : decode cX7_findAbove 12 = .ok (.invokestatic 36, 3) := by decide +kernel
theorem dX7_findAbove_15 : decode cX7_findAbove 15 = .ok (.iconst 0, 1) := by decide +kernel
theorem dX7_findAbove_16 : decode cX7_findAbove 16 = .ok (.istore_n 1, 1) := by decide +kernel
theorem dX7_findAbove_17 : decode cX7_findAbove 17 = .ok (.iload_n 1, 1) := by decide +kernel
theorem dX7_findAbove_18 : decode cX7_findAbove 18 = .ok (.aload_n 0, 1) := by decide +kernel
theorem dX7_findAbove_19 : decode cX7_findAbove 19 = .ok (.getfield 21, 3) := by decide +kernel
theorem dX7_findAbove_22 : decode cX7_findAbove 22 = .ok (.if_icmp .ge 53, 3) := by decide +kernel
theorem dX7_findAbove_25 : decode cX7_findAbove 25 = .ok (.iconst 0, 1) := by decide +kernel
theorem dX7_findAbove_26 : decode cX7_findAbove 26 = .ok (.istore_n 2, 1) := by decide +kernel
theorem dX7_findAbove_27 : decode cX7_findAbove 27 = .ok (.iload_n 2, 1) := by decide +kernel
theorem dX7_findAbove_28 : decode cX7_findAbove 28 = .ok (.aload_n 0, 1) := by decide +kernel
theorem dX7_findAbove_29 : decode cX7_findAbove 29 = .ok (.getfield 21, 3) := by decide +kernel
theorem dX7_findAbove_32 : decode cX7_findAbove 32 = .ok (.if_icmp .ge 37, 3) := by decide +kernel
theorem dX7_findAbove_35 : decode cX7_findAbove 35 = .ok (.aload_n 0, 1) := by decide +kernel
theorem dX7_findAbove_36 : decode cX7_findAbove 36 = .ok (.getfield 18, 3) := by decide +kernel
theorem dX7_findAbove_39 : decode cX7_findAbove 39 = .ok (.iload_n 2, 1) := by decide +kernel
theorem dX7_findAbove_40 : decode cX7_findAbove 40 = .ok (.iaload, 1) := by decide +kernel
theorem dX7_findAbove_41 : decode cX7_findAbove 41 = .ok (.iload_n 1, 1) := by decide +kernel
theorem dX7_findAbove_42 : decode cX7_findAbove 42 = .ok (.invokestatic 25, 3) := by decide +kernel
theorem dX7_findAbove_45 : decode cX7_findAbove 45 = .ok (.ifCond .eq 18, 3) := by decide +kernel
theorem dX7_findAbove_48 : decode cX7_findAbove 48 = .ok (.aload_n 0, 1) := by decide +kernel
theorem dX7_findAbove_49 : decode cX7_findAbove 49 = .ok (.getfield 18, 3) := by decide +kernel
theorem dX7_findAbove_52 : decode cX7_findAbove 52 = .ok (.iload_n 2, 1) := by decide +kernel
theorem dX7_findAbove_53 : decode cX7_findAbove 53 = .ok (.dup2, 1) := by decide +kernel
theorem dX7_findAbove_54 : decode cX7_findAbove 54 = .ok (.iaload, 1) := by decide +kernel
theorem dX7_findAbove_55 : decode cX7_findAbove 55 = .ok (.aload_n 0, 1) := by decide +kernel
theorem dX7_findAbove_56 : decode cX7_findAbove 56 = .ok (.getfield 18, 3) := by decide +kernel
theorem dX7_findAbove_59 : decode cX7_findAbove 59 = .ok (.iload_n 1, 1) := by decide +kernel
theorem dX7_findAbove_60 : decode cX7_findAbove 60 = .ok (.iaload, 1) := by decide +kernel
theorem dX7_findAbove_61 : decode cX7_findAbove 61 = .ok (.ior, 1) := by decide +kernel
theorem dX7_findAbove_62 : decode cX7_findAbove 62 = .ok (.iastore, 1) := by decide +kernel
theorem dX7_findAbove_63 : decode cX7_findAbove 63 = .ok (.iinc 2 1, 3) := by decide +kernel
theorem dX7_findAbove_66 : decode cX7_findAbove 66 = .ok (.goto (-39), 3) := by decide +kernel
theorem dX7_findAbove_69 : decode cX7_findAbove 69 = .ok (.iinc 1 1, 3) := by decide +kernel
theorem dX7_findAbove_72 : decode cX7_findAbove 72 = .ok (.goto (-55), 3) := by decide +kernel
theorem dX7_findAbove_75 : decode cX7_findAbove 75 = .ok (.return_, 1) := by decide +kernel
theorem dX7_makeAlias_0 : decode cX7_makeAlias 0 = .ok (.iconst 0, 1) := by decide +kernel
theorem dX7_makeAlias_1 : decode cX7_makeAlias 1 = .ok (.istore_n 3, 1) := by decide +kernel
theorem dX7_makeAlias_2 : decode cX7_makeAlias 2 = .ok (.iload_n 3, 1) := by decide +kernel
theorem dX7_makeAlias_3 : decode cX7_makeAlias 3 = .ok (.aload_n 0, 1) := by decide +kernel
theorem dX7_makeAlias_4 : decode cX7_makeAlias 4 = .ok (.getfield 21, 3) := by decide +kernel
theorem dX7_makeAlias_7 : decode cX7_makeAlias 7 = .ok (.if_icmp .ge 61, 3) := by decide +kernel
theorem dX7_makeAlias_10 : decode cX7_makeAlias 10 = .ok (.aload_n 0, 1) := by decide +kernel
theorem dX7_makeAlias_11 : decode cX7_makeAlias 11 = .ok (.getfield 9, 3) := by decide +kernel
theorem dX7_makeAlias_14 : decode cX7_makeAlias 14 = .ok (.iload_n 3, 1) := by decide +kernel
theorem dX7_makeAlias_15 : decode cX7_makeAlias 15 = .ok (.iaload, 1) := by decide +kernel
theorem dX7_makeAlias_16 : decode cX7_makeAlias 16 = .ok (.iload_n 1, 1) := by decide +kernel
theorem dX7_makeAlias_17 : decode cX7_makeAlias 17 = .ok (.if_icmp .ne 10, 3) := by decide +kernel
theorem dX7_makeAlias_20 : decode cX7_makeAlias 20 = .ok (.aload_n 0, 1) := by decide +kernel
theorem dX7_makeAlias_21 : decode cX7_makeAlias 21 = .ok (.getfield 9, 3) := by decide +kernel
theorem dX7_makeAlias_24 : decode cX7_makeAlias 24 = .ok (.iload_n 3, 1) := by decide +kernel
theorem dX7_makeAlias_25 : decode cX7_makeAlias 25 = .ok (.iload_n 2, 1) := by decide +kernel
theorem dX7_makeAlias_26 : decode cX7_makeAlias 26 = .ok (.iastore, 1) := by decide +kernel
theorem dX7_makeAlias_27 : decode cX7_makeAlias 27 = .ok (.aload_n 0, 1) := by decide +kernel
theorem dX7_makeAlias_28 : decode cX7_makeAlias 28 = .ok (.getfield 15, 3) := by decide +kernel
theorem dX7_makeAlias_31 : decode cX7_makeAlias 31 = .ok (.iload_n 3, 1) := by decide +kernel
theorem dX7_makeAlias_32 : decode cX7_makeAlias 32 = .ok (.iaload, 1) := by decide +kernel
theorem dX7_makeAlias_33 : decode cX7_makeAlias 33 = .ok (.iload_n 1, 1) := by decide +kernel
theorem dX7_makeAlias_34 : decode cX7_makeAlias 34 = .ok (.invokestatic 25, 3) := by decide +kernel
theorem dX7_makeAlias_37 : decode cX7_makeAlias 37 = .ok (.ifCond .eq 25, 3) := by decide +kernel
theorem dX7_makeAlias_40 : decode cX7_makeAlias 40 = .ok (.aload_n 0, 1) := by decide +kernel
theorem dX7_makeAlias_41 : decode cX7_makeAlias 41 = .ok (.getfield 15, 3) := by decide +kernel
theorem dX7_makeAlias_44 : decode cX7_makeAlias 44 = .ok (.iload_n 3, 1) := by decide +kernel
theorem dX7_makeAlias_45 : decode cX7_makeAlias 45 = .ok (.aload_n 0, 1) := by decide +kernel
theorem dX7_makeAlias_46 : decode cX7_makeAlias 46 = .ok (.getfield 15, 3) := by decide +kernel
theorem dX7_makeAlias_49 : decode cX7_makeAlias 49 = .ok (.iload_n 3, 1) := by decide +kernel
theorem dX7_makeAlias_50 : decode cX7_makeAlias 50 = .ok (.iaload, 1) := by decide +kernel
theorem dX7_makeAlias_51 : decode cX7_makeAlias 51 = .ok (.iload_n 1, 1) := by decide +kernel
theorem dX7_makeAlias_52 : decode cX7_makeAlias 52 = .ok (.iconst 0, 1) := by decide +kernel
theorem dX7_makeAlias_53 : decode cX7_makeAlias 53 = .ok (.invokestatic 29, 3) := by decide +kernel
theorem dX7_makeAlias_56 : decode cX7_makeAlias 56 = .ok (.iload_n 2, 1) := by decide +kernel
theorem dX7_makeAlias_57 : decode cX7_makeAlias 57 = .ok (.iconst 1, 1) := by decide +kernel
theorem dX7_makeAlias_58 : decode cX7_makeAlias 58 = .ok (.invokestatic 29, 3) := by decide +kernel
theorem dX7_makeAlias_61 : decode cX7_makeAlias 61 = .ok (.iastore, 1) := by decide +kernel
theorem dX7_makeAlias_62 : decode cX7_makeAlias 62 = .ok (.iinc 3 1, 3) := by decide +kernel
theorem dX7_makeAlias_65 : decode cX7_makeAlias 65 = .ok (.goto (-63), 3) := by decide +kernel
theorem dX7_makeAlias_68 : decode cX7_makeAlias 68 = .ok (.aload_n 0, 1) := by decide +kernel
theorem dX7_makeAlias_69 : decode cX7_makeAlias 69 = .ok (.getfield 9, 3) := by decide +kernel
theorem dX7_makeAlias_72 : decode cX7_makeAlias 72 = .ok (.iload_n 1, 1) := by decide +kernel
theorem dX7_makeAlias_73 : decode cX7_makeAlias 73 = .ok (.iload_n 2, 1) := by decide +kernel
theorem dX7_makeAlias_74 : decode cX7_makeAlias 74 = .ok (.iastore, 1) := by decide +kernel
theorem dX7_makeAlias_75 : decode cX7_makeAlias 75 = .ok (.aload_n 0, 1) := by decide +kernel
theorem dX7_makeAlias_76 : decode cX7_makeAlias 76 = .ok (.getfield 15, 3) := by decide +kernel
theorem dX7_makeAlias_79 : decode cX7_makeAlias 79 = .ok (.iload_n 1, 1) := by decide +kernel
theorem dX7_makeAlias_80 : decode cX7_makeAlias 80 = .ok (.iconst 0, 1) := by decide +kernel
theorem dX7_makeAlias_81 : decode cX7_makeAlias 81 = .ok (.iastore, 1) := by decide +kernel
theorem dX7_makeAlias_82 : decode cX7_makeAlias 82 = .ok (.aload_n 0, 1) := by decide +kernel
theorem dX7_makeAlias_83 : decode cX7_makeAlias 83 = .ok (.invokevirtual 33, 3) := by decide +kernel
theorem dX7_makeAlias_86 : decode cX7_makeAlias 86 = .ok (.return_, 1) := by decide +kernel
theorem dX10_merge_0 : decode cX10_merge 0 = .ok (.aload_n 0, 1) := by decide +kernel
theorem dX10_merge_1 : decode cX10_merge 1 = .ok (.iload_n 1, 1) := by decide +kernel
theorem dX10_merge_2 : decode cX10_merge 2 = .ok (.invokevirtual 189, 3) := by decide +kernel
theorem dX10_merge_5 : decode cX10_merge 5 = .ok (.aload_n 0, 1) := by decide +kernel
theorem dX10_merge_6 : decode cX10_merge 6 = .ok (.iload_n 2, 1) := by decide +kernel
theorem dX10_merge_7 : decode cX10_merge 7 = .ok (.invokevirtual 189, 3) := by decide +kernel
theorem dX10_merge_10 : decode cX10_merge 10 = .ok (.iload_n 1, 1) := by decide +kernel
theorem dX10_merge_11 : decode cX10_merge 11 = .ok (.iload_n 2, 1) := by decide +kernel
theorem dX10_merge_12 : decode cX10_merge 12 = .ok (.if_icmp .ne 13, 3) := by decide +kernel
theorem dX10_merge_15 : decode cX10_merge 15 = .ok (.new 66, 3) := by decide +kernel
theorem dX10_merge_18 : decode cX10_merge 18 = .ok (.dup, 1) := by decide +kernel
theorem dX10_merge_19 : decode cX10_merge 19 = .ok (.ldc 86, 2) := by decide +kernel
theorem dX10_merge_21 : decode cX10_merge 21 = .ok (.invokespecial 70, 3) := by decide +kernel
theorem dX10_merge_24 : decode cX10_merge 24 = .ok (.athrow, 1) := by decide +kernel
theorem dX10_merge_25 : decode cX10_merge 25 = .ok (.aload_n 0, 1) := by decide +kernel
theorem dX10_merge_26 : decode cX10_merge 26 = .ok (.getfield 34, 3) := by decide +kernel
theorem dX10_merge_29 : decode cX10_merge 29 = .ok (.iload_n 1, 1) := by decide +kernel
theorem dX10_merge_30 : decode cX10_merge 30 = .ok (.invokevirtual 192, 3) := by decide +kernel
theorem dX10_merge_33 : decode cX10_merge 33 = .ok (.istore_n 3, 1) := by decide +kernel
theorem dX10_merge_34 : decode cX10_merge 34 = .ok (.aload_n 0, 1) := by decide +kernel
theorem dX10_merge_35 : decode cX10_merge 35 = .ok (.getfield 34, 3) := by decide +kernel
theorem dX10_merge_38 : decode cX10_merge 38 = .ok (.iload_n 2, 1) := by decide +kernel
theorem dX10_merge_39 : decode cX10_merge 39 = .ok (.invokevirtual 192, 3) := by decide +kernel
theorem dX10_merge_42 : decode cX10_merge 42 = .ok (.iconst 1, 1) := by decide +kernel
theorem dX10_merge_43 : decode cX10_merge 43 = .ok (.if_icmp .ne 27, 3) := by decide +kernel
theorem dX10_merge_46 : decode cX10_merge 46 = .ok (.aload_n 0, 1) := by decide +kernel
theorem dX10_merge_47 : decode cX10_merge 47 = .ok (.getfield 34, 3) := by decide +kernel
theorem dX10_merge_50 : decode cX10_merge 50 = .ok (.iload_n 1, 1) := by decide +kernel
theorem dX10_merge_51 : decode cX10_merge 51 = .ok (.iload_n 2, 1) := by decide +kernel
theorem dX10_merge_52 : decode cX10_merge 52 = .ok (.invokevirtual 203, 3) := by decide +kernel
theorem dX10_merge_55 : decode cX10_merge 55 = .ok (.ifCond .ne 15, 3) := by decide +kernel
theorem dX10_merge_58 : decode cX10_merge 58 = .ok (.aload_n 0, 1) := by decide +kernel
theorem dX10_merge_59 : decode cX10_merge 59 = .ok (.getfield 34, 3) := by decide +kernel
theorem dX10_merge_62 : decode cX10_merge 62 = .ok (.iload_n 2, 1) := by decide +kernel
theorem dX10_merge_63 : decode cX10_merge 63 = .ok (.iload_n 1, 1) := by decide +kernel
theorem dX10_merge_64 : decode cX10_merge 64 = .ok (.invokevirtual 203, 3) := by decide +kernel
theorem dX10_merge_67 : decode cX10_merge 67 = .ok (.ifCond .eq 13, 3) := by decide +kernel
theorem dX10_merge_70 : decode cX10_merge 70 = .ok (.new 77, 3) := by decide +kernel
theorem dX10_merge_73 : decode cX10_merge 73 = .ok (.dup, 1) := by decide +kernel
theorem dX10_merge_74 : decode cX10_merge 74 = .ok (.ldc 206, 2) := by decide +kernel
theorem dX10_merge_76 : decode cX10_merge 76 = .ok (.invokespecial 81, 3) := by decide +kernel
theorem dX10_merge_79 : decode cX10_merge 79 = .ok (.athrow, 1) := by decide +kernel
theorem dX10_merge_80 : decode cX10_merge 80 = .ok (.aload_n 0, 1) := by decide +kernel
theorem dX10_merge_81 : decode cX10_merge 81 = .ok (.getfield 34, 3) := by decide +kernel
theorem dX10_merge_84 : decode cX10_merge 84 = .ok (.iload_n 1, 1) := by decide +kernel
theorem dX10_merge_85 : decode cX10_merge 85 = .ok (.iload_n 2, 1) := by decide +kernel
theorem dX10_merge_86 : decode cX10_merge 86 = .ok (.invokevirtual 208, 3) := by decide +kernel
theorem dX10_merge_89 : decode cX10_merge 89 = .ok (.aload_n 0, 1) := by decide +kernel
theorem dX10_merge_90 : decode cX10_merge 90 = .ok (.invokevirtual 200, 3) := by decide +kernel
theorem dX10_merge_93 : decode cX10_merge 93 = .ok (.iload_n 3, 1) := by decide +kernel
theorem dX10_merge_94 : decode cX10_merge 94 = .ok (.ireturn, 1) := by decide +kernel
theorem dX10_checkFace_0 : decode cX10_checkFace 0 = .ok (.iload_n 0, 1) := by decide +kernel
theorem dX10_checkFace_1 : decode cX10_checkFace 1 = .ok (.ifCond .lt 9, 3) := by decide +kernel
theorem dX10_checkFace_4 : decode cX10_checkFace 4 = .ok (.iload_n 0, 1) := by decide +kernel
theorem dX10_checkFace_5 : decode cX10_checkFace 5 = .ok (.bipush 32, 2) := by decide +kernel
theorem dX10_checkFace_7 : decode cX10_checkFace 7 = .ok (.if_icmp .lt 14, 3) := by decide +kernel
theorem dX10_checkFace_10 : decode cX10_checkFace 10 = .ok (.new 162, 3) := by decide +kernel
theorem dX10_checkFace_13 : decode cX10_checkFace 13 = .ok (.dup, 1) := by decide +kernel
theorem dX10_checkFace_14 : decode cX10_checkFace 14 = .ok (.ldc_w 376, 3) := by decide +kernel
theorem dX10_checkFace_17 : decode cX10_checkFace 17 = .ok (.invokespecial 166, 3) := by decide +kernel
theorem dX10_checkFace_20 : decode cX10_checkFace 20 = .ok (.athrow, 1) := by decide +kernel
theorem dX10_checkFace_21 : decode cX10_checkFace 21 = .ok (.return_, 1) := by decide +kernel
theorem dX9_isPosted_0 : decode cX9_isPosted 0 = .ok (.aload_n 0, 1) := by decide +kernel
theorem dX9_isPosted_1 : decode cX9_isPosted 1 = .ok (.getfield 15, 3) := by decide +kernel
theorem dX9_isPosted_4 : decode cX9_isPosted 4 = .ok (.iconst (-1), 1) := by decide +kernel
theorem dX9_isPosted_5 : decode cX9_isPosted 5 = .ok (.if_icmp .eq 7, 3) := by decide +kernel
theorem dX9_isPosted_8 : decode cX9_isPosted 8 = .ok (.iconst 1, 1) := by decide +kernel
theorem dX9_isPosted_9 : decode cX9_isPosted 9 = .ok (.goto 4, 3) := by decide +kernel
theorem dX9_isPosted_12 : decode cX9_isPosted 12 = .ok (.iconst 0, 1) := by decide +kernel
theorem dX9_isPosted_13 : decode cX9_isPosted 13 = .ok (.ireturn, 1) := by decide +kernel
theorem dX9_isSeenBy_0 : decode cX9_isSeenBy 0 = .ok (.aload_n 0, 1) := by decide +kernel
theorem dX9_isSeenBy_1 : decode cX9_isSeenBy 1 = .ok (.iload_n 1, 1) := by decide +kernel
theorem dX9_isSeenBy_2 : decode cX9_isSeenBy 2 = .ok (.invokevirtual 29, 3) := by decide +kernel
theorem dX9_isSeenBy_5 : decode cX9_isSeenBy 5 = .ok (.ifCond .eq 5, 3) := by decide +kernel
theorem dX9_isSeenBy_8 : decode cX9_isSeenBy 8 = .ok (.iconst 1, 1) := by decide +kernel
theorem dX9_isSeenBy_9 : decode cX9_isSeenBy 9 = .ok (.ireturn, 1) := by decide +kernel
theorem dX9_isSeenBy_10 : decode cX9_isSeenBy 10 = .ok (.aload_n 0, 1) := by decide +kernel
theorem dX9_isSeenBy_11 : decode cX9_isSeenBy 11 = .ok (.getfield 33, 3) := by decide +kernel
theorem dX9_isSeenBy_14 : decode cX9_isSeenBy 14 = .ok (.ifnull 14, 3) := by decide +kernel
theorem dX9_isSeenBy_17 : decode cX9_isSeenBy 17 = .ok (.aload_n 0, 1) := by decide +kernel
theorem dX9_isSeenBy_18 : decode cX9_isSeenBy 18 = .ok (.getfield 33, 3) := by decide +kernel
theorem dX9_isSeenBy_21 : decode cX9_isSeenBy 21 = .ok (.getfield 37, 3) := by decide +kernel
theorem dX9_isSeenBy_24 : decode cX9_isSeenBy 24 = .ok (.iload_n 2, 1) := by decide +kernel
theorem dX9_isSeenBy_25 : decode cX9_isSeenBy 25 = .ok (.if_icmp .gt 7, 3) := by decide +kernel
theorem dX9_isSeenBy_28 : decode cX9_isSeenBy 28 = .ok (.iconst 1, 1) := by decide +kernel
theorem dX9_isSeenBy_29 : decode cX9_isSeenBy 29 = .ok (.goto 4, 3) := by decide +kernel
theorem dX9_isSeenBy_32 : decode cX9_isSeenBy 32 = .ok (.iconst 0, 1) := by decide +kernel
theorem dX9_isSeenBy_33 : decode cX9_isSeenBy 33 = .ok (.istore_n 3, 1) := by decide +kernel
theorem dX9_isSeenBy_34 : decode cX9_isSeenBy 34 = .ok (.aload_n 0, 1) := by decide +kernel
theorem dX9_isSeenBy_35 : decode cX9_isSeenBy 35 = .ok (.invokevirtual 42, 3) := by decide +kernel
theorem dX9_isSeenBy_38 : decode cX9_isSeenBy 38 = .ok (.ifCond .eq 24, 3) := by decide +kernel
theorem dX9_isSeenBy_41 : decode cX9_isSeenBy 41 = .ok (.iload_n 3, 1) := by decide +kernel
theorem dX9_isSeenBy_42 : decode cX9_isSeenBy 42 = .ok (.ifCond .eq 20, 3) := by decide +kernel
theorem dX9_isSeenBy_45 : decode cX9_isSeenBy 45 = .ok (.aload_n 0, 1) := by decide +kernel
theorem dX9_isSeenBy_46 : decode cX9_isSeenBy 46 = .ok (.getfield 46, 3) := by decide +kernel
theorem dX9_isSeenBy_49 : decode cX9_isSeenBy 49 = .ok (.ifCond .eq 9, 3) := by decide +kernel
theorem dX9_isSeenBy_52 : decode cX9_isSeenBy 52 = .ok (.iload_n 1, 1) := by decide +kernel
theorem dX9_isSeenBy_53 : decode cX9_isSeenBy 53 = .ok (.bipush 12, 2) := by decide +kernel
theorem dX9_isSeenBy_55 : decode cX9_isSeenBy 55 = .ok (.if_icmp .ge 7, 3) := by decide +kernel
theorem dX9_isSeenBy_58 : decode cX9_isSeenBy 58 = .ok (.iconst 1, 1) := by decide +kernel
theorem dX9_isSeenBy_59 : decode cX9_isSeenBy 59 = .ok (.goto 4, 3) := by decide +kernel
theorem dX9_isSeenBy_62 : decode cX9_isSeenBy 62 = .ok (.iconst 0, 1) := by decide +kernel
theorem dX9_isSeenBy_63 : decode cX9_isSeenBy 63 = .ok (.ireturn, 1) := by decide +kernel
theorem dX9_ownersToldTo_0 : decode cX9_ownersToldTo 0 = .ok (.aload_n 0, 1) := by decide +kernel
theorem dX9_ownersToldTo_1 : decode cX9_ownersToldTo 1 = .ok (.getfield 33, 3) := by decide +kernel
theorem dX9_ownersToldTo_4 : decode cX9_ownersToldTo 4 = .ok (.ifnull 14, 3) := by decide +kernel
theorem dX9_ownersToldTo_7 : decode cX9_ownersToldTo 7 = .ok (.aload_n 0, 1) := by decide +kernel
theorem dX9_ownersToldTo_8 : decode cX9_ownersToldTo 8 = .ok (.getfield 33, 3) := by decide +kernel
theorem dX9_ownersToldTo_11 : decode cX9_ownersToldTo 11 = .ok (.getfield 50, 3) := by decide +kernel
theorem dX9_ownersToldTo_14 : decode cX9_ownersToldTo 14 = .ok (.iload_n 2, 1) := by decide +kernel
theorem dX9_ownersToldTo_15 : decode cX9_ownersToldTo 15 = .ok (.if_icmp .gt 7, 3) := by decide +kernel
theorem dX9_ownersToldTo_18 : decode cX9_ownersToldTo 18 = .ok (.iconst 1, 1) := by decide +kernel
theorem dX9_ownersToldTo_19 : decode cX9_ownersToldTo 19 = .ok (.goto 4, 3) := by decide +kernel
theorem dX9_ownersToldTo_22 : decode cX9_ownersToldTo 22 = .ok (.iconst 0, 1) := by decide +kernel
theorem dX9_ownersToldTo_23 : decode cX9_ownersToldTo 23 = .ok (.istore_n 3, 1) := by decide +kernel
theorem dX9_ownersToldTo_24 : decode cX9_ownersToldTo 24 = .ok (.aload_n 0, 1) := by decide +kernel
theorem dX9_ownersToldTo_25 : decode cX9_ownersToldTo 25 = .ok (.iload_n 1, 1) := by decide +kernel
theorem dX9_ownersToldTo_26 : decode cX9_ownersToldTo 26 = .ok (.iload_n 2, 1) := by decide +kernel
theorem dX9_ownersToldTo_27 : decode cX9_ownersToldTo 27 = .ok (.invokevirtual 53, 3) := by decide +kernel
theorem dX9_ownersToldTo_30 : decode cX9_ownersToldTo 30 = .ok (.ifCond .eq 22, 3) := by decide +kernel
theorem dX9_ownersToldTo_33 : decode cX9_ownersToldTo 33 = .ok (.aload_n 0, 1) := by decide +kernel
theorem dX9_ownersToldTo_34 : decode cX9_ownersToldTo 34 = .ok (.iload_n 1, 1) := by decide +kernel
theorem dX9_ownersToldTo_35 : decode cX9_ownersToldTo 35 = .ok (.invokevirtual 29, 3) := by decide +kernel
theorem dX9_ownersToldTo_38 : decode cX9_ownersToldTo 38 = .ok (.ifCond .ne 7, 3) := by decide +kernel
theorem dX9_ownersToldTo_41 : decode cX9_ownersToldTo 41 = .ok (.iload_n 3, 1) := by decide +kernel
theorem dX9_ownersToldTo_42 : decode cX9_ownersToldTo 42 = .ok (.ifCond .eq 10, 3) := by decide +kernel
theorem dX9_ownersToldTo_45 : decode cX9_ownersToldTo 45 = .ok (.aload_n 0, 1) := by decide +kernel
theorem dX9_ownersToldTo_46 : decode cX9_ownersToldTo 46 = .ok (.getfield 19, 3) := by decide +kernel
theorem dX9_ownersToldTo_49 : decode cX9_ownersToldTo 49 = .ok (.goto 4, 3) := by decide +kernel
theorem dX9_ownersToldTo_52 : decode cX9_ownersToldTo 52 = .ok (.iconst 0, 1) := by decide +kernel
theorem dX9_ownersToldTo_53 : decode cX9_ownersToldTo 53 = .ok (.ireturn, 1) := by decide +kernel
theorem dX10_owners_0 : decode cX10_owners 0 = .ok (.iload_n 1, 1) := by decide +kernel
theorem dX10_owners_1 : decode cX10_owners 1 = .ok (.invokestatic 99, 3) := by decide +kernel
theorem dX10_owners_4 : decode cX10_owners 4 = .ok (.aload_n 0, 1) := by decide +kernel
theorem dX10_owners_5 : decode cX10_owners 5 = .ok (.iload_n 2, 1) := by decide +kernel
theorem dX10_owners_6 : decode cX10_owners 6 = .ok (.invokevirtual 112, 3) := by decide +kernel
theorem dX10_owners_9 : decode cX10_owners 9 = .ok (.iload_n 1, 1) := by decide +kernel
theorem dX10_owners_10 : decode cX10_owners 10 = .ok (.aload_n 0, 1) := by decide +kernel
theorem dX10_owners_11 : decode cX10_owners 11 = .ok (.getfield 73, 3) := by decide +kernel
theorem dX10_owners_14 : decode cX10_owners 14 = .ok (.invokevirtual 176, 3) := by decide +kernel
theorem dX10_owners_17 : decode cX10_owners 17 = .ok (.ireturn, 1) := by decide +kernel
theorem dX7_isParent_0 : decode cX7_isParent 0 = .ok (.aload_n 0, 1) := by decide +kernel
theorem dX7_isParent_1 : decode cX7_isParent 1 = .ok (.getfield 15, 3) := by decide +kernel
theorem dX7_isParent_4 : decode cX7_isParent 4 = .ok (.iload_n 2, 1) := by decide +kernel
theorem dX7_isParent_5 : decode cX7_isParent 5 = .ok (.iaload, 1) := by decide +kernel
theorem dX7_isParent_6 : decode cX7_isParent 6 = .ok (.iload_n 1, 1) := by decide +kernel
theorem dX7_isParent_7 : decode cX7_isParent 7 = .ok (.invokestatic 25, 3) := by decide +kernel
theorem dX7_isParent_10 : decode cX7_isParent 10 = .ok (.ireturn, 1) := by decide +kernel
theorem dX7_setParent_0 : decode cX7_setParent 0 = .ok (.aload_n 0, 1) := by decide +kernel
theorem dX7_setParent_1 : decode cX7_setParent 1 = .ok (.getfield 15, 3) := by decide +kernel
theorem dX7_setParent_4 : decode cX7_setParent 4 = .ok (.iload_n 1, 1) := by decide +kernel
theorem dX7_setParent_5 : decode cX7_setParent 5 = .ok (.aload_n 0, 1) := by decide +kernel
theorem dX7_setParent_6 : decode cX7_setParent 6 = .ok (.getfield 15, 3) := by decide +kernel
theorem dX7_setParent_9 : decode cX7_setParent 9 = .ok (.iload_n 1, 1) := by decide +kernel
theorem dX7_setParent_10 : decode cX7_setParent 10 = .ok (.iaload, 1) := by decide +kernel
theorem dX7_setParent_11 : decode cX7_setParent 11 = .ok (.iload_n 2, 1) := by decide +kernel
theorem dX7_setParent_12 : decode cX7_setParent 12 = .ok (.iload_n 3, 1) := by decide +kernel
theorem dX7_setParent_13 : decode cX7_setParent 13 = .ok (.invokestatic 29, 3) := by decide +kernel
theorem dX7_setParent_16 : decode cX7_setParent 16 = .ok (.iastore, 1) := by decide +kernel
theorem dX7_setParent_17 : decode cX7_setParent 17 = .ok (.aload_n 0, 1) := by decide +kernel
theorem dX7_setParent_18 : decode cX7_setParent 18 = .ok (.invokevirtual 33, 3) := by decide +kernel
theorem dX7_setParent_21 : decode cX7_setParent 21 = .ok (.return_, 1) := by decide +kernel
theorem dX10_parent_0 : decode cX10_parent 0 = .ok (.aload_n 0, 1) := by decide +kernel
theorem dX10_parent_1 : decode cX10_parent 1 = .ok (.iload_n 1, 1) := by decide +kernel
theorem dX10_parent_2 : decode cX10_parent 2 = .ok (.invokevirtual 189, 3) := by decide +kernel
theorem dX10_parent_5 : decode cX10_parent 5 = .ok (.aload_n 0, 1) := by decide +kernel
theorem dX10_parent_6 : decode cX10_parent 6 = .ok (.iload_n 2, 1) := by decide +kernel
theorem dX10_parent_7 : decode cX10_parent 7 = .ok (.invokevirtual 189, 3) := by decide +kernel
theorem dX10_parent_10 : decode cX10_parent 10 = .ok (.iload_n 1, 1) := by decide +kernel
theorem dX10_parent_11 : decode cX10_parent 11 = .ok (.iload_n 2, 1) := by decide +kernel
theorem dX10_parent_12 : decode cX10_parent 12 = .ok (.if_icmp .ne 13, 3) := by decide +kernel
theorem dX10_parent_15 : decode cX10_parent 15 = .ok (.new 66, 3) := by decide +kernel
theorem dX10_parent_18 : decode cX10_parent 18 = .ok (.dup, 1) := by decide +kernel
theorem dX10_parent_19 : decode cX10_parent 19 = .ok (.ldc 86, 2) := by decide +kernel
theorem dX10_parent_21 : decode cX10_parent 21 = .ok (.invokespecial 70, 3) := by decide +kernel
theorem dX10_parent_24 : decode cX10_parent 24 = .ok (.athrow, 1) := by decide +kernel
theorem dX10_parent_25 : decode cX10_parent 25 = .ok (.aload_n 0, 1) := by decide +kernel
theorem dX10_parent_26 : decode cX10_parent 26 = .ok (.getfield 34, 3) := by decide +kernel
theorem dX10_parent_29 : decode cX10_parent 29 = .ok (.iload_n 1, 1) := by decide +kernel
theorem dX10_parent_30 : decode cX10_parent 30 = .ok (.invokevirtual 192, 3) := by decide +kernel
theorem dX10_parent_33 : decode cX10_parent 33 = .ok (.iconst 1, 1) := by decide +kernel
theorem dX10_parent_34 : decode cX10_parent 34 = .ok (.if_icmp .ne 31, 3) := by decide +kernel
theorem dX10_parent_37 : decode cX10_parent 37 = .ok (.aload_n 0, 1) := by decide +kernel
theorem dX10_parent_38 : decode cX10_parent 38 = .ok (.getfield 34, 3) := by decide +kernel
theorem dX10_parent_41 : decode cX10_parent 41 = .ok (.iload_n 2, 1) := by decide +kernel
theorem dX10_parent_42 : decode cX10_parent 42 = .ok (.invokevirtual 192, 3) := by decide +kernel
theorem dX10_parent_45 : decode cX10_parent 45 = .ok (.iconst 1, 1) := by decide +kernel
theorem dX10_parent_46 : decode cX10_parent 46 = .ok (.if_icmp .ne 19, 3) := by decide +kernel
theorem dX10_parent_49 : decode cX10_parent 49 = .ok (.iload_n 3, 1) := by decide +kernel
theorem dX10_parent_50 : decode cX10_parent 50 = .ok (.ifCond .eq 25, 3) := by decide +kernel
theorem dX10_parent_53 : decode cX10_parent 53 = .ok (.aload_n 0, 1) := by decide +kernel
theorem dX10_parent_54 : decode cX10_parent 54 = .ok (.getfield 34, 3) := by decide +kernel
theorem dX10_parent_57 : decode cX10_parent 57 = .ok (.iload_n 1, 1) := by decide +kernel
theorem dX10_parent_58 : decode cX10_parent 58 = .ok (.iload_n 2, 1) := by decide +kernel
theorem dX10_parent_59 : decode cX10_parent 59 = .ok (.invokevirtual 203, 3) := by decide +kernel
theorem dX10_parent_62 : decode cX10_parent 62 = .ok (.ifCond .eq 13, 3) := by decide +kernel
theorem dX10_parent_65 : decode cX10_parent 65 = .ok (.new 77, 3) := by decide +kernel
theorem dX10_parent_68 : decode cX10_parent 68 = .ok (.dup, 1) := by decide +kernel
theorem dX10_parent_69 : decode cX10_parent 69 = .ok (.ldc 211, 2) := by decide +kernel
theorem dX10_parent_71 : decode cX10_parent 71 = .ok (.invokespecial 81, 3) := by decide +kernel
theorem dX10_parent_74 : decode cX10_parent 74 = .ok (.athrow, 1) := by decide +kernel
theorem dX10_parent_75 : decode cX10_parent 75 = .ok (.aload_n 0, 1) := by decide +kernel
theorem dX10_parent_76 : decode cX10_parent 76 = .ok (.getfield 34, 3) := by decide +kernel
theorem dX10_parent_79 : decode cX10_parent 79 = .ok (.iload_n 2, 1) := by decide +kernel
theorem dX10_parent_80 : decode cX10_parent 80 = .ok (.iload_n 1, 1) := by decide +kernel
theorem dX10_parent_81 : decode cX10_parent 81 = .ok (.invokevirtual 213, 3) := by decide +kernel
theorem dX10_parent_84 : decode cX10_parent 84 = .ok (.istore 4, 2) := by decide +kernel
theorem dX10_parent_86 : decode cX10_parent 86 = .ok (.iload 4, 2) := by decide +kernel
theorem dX10_parent_88 : decode cX10_parent 88 = .ok (.iload_n 3, 1) := by decide +kernel
theorem dX10_parent_89 : decode cX10_parent 89 = .ok (.if_icmp .eq 17, 3) := by decide +kernel
theorem dX10_parent_92 : decode cX10_parent 92 = .ok (.aload_n 0, 1) := by decide +kernel
theorem dX10_parent_93 : decode cX10_parent 93 = .ok (.getfield 34, 3) := by decide +kernel
theorem dX10_parent_96 : decode cX10_parent 96 = .ok (.iload_n 1, 1) := by decide +kernel
theorem dX10_parent_97 : decode cX10_parent 97 = .ok (.iload_n 2, 1) := by decide +kernel
theorem dX10_parent_98 : decode cX10_parent 98 = .ok (.iload_n 3, 1) := by decide +kernel
theorem dX10_parent_99 : decode cX10_parent 99 = .ok (.invokevirtual 216, 3) := by decide +kernel
theorem dX10_parent_102 : decode cX10_parent 102 = .ok (.aload_n 0, 1) := by decide +kernel
theorem dX10_parent_103 : decode cX10_parent 103 = .ok (.invokevirtual 200, 3) := by decide +kernel
theorem dX10_parent_106 : decode cX10_parent 106 = .ok (.iload 4, 2) := by decide +kernel
theorem dX10_parent_108 : decode cX10_parent 108 = .ok (.ireturn, 1) := by decide +kernel
theorem dX10_pass_0 : decode cX10_pass 0 = .ok (.iload_n 1, 1) := by decide +kernel
theorem dX10_pass_1 : decode cX10_pass 1 = .ok (.iconst 1, 1) := by decide +kernel
theorem dX10_pass_2 : decode cX10_pass 2 = .ok (.if_icmp .lt 9, 3) := by decide +kernel
theorem dX10_pass_5 : decode cX10_pass 5 = .ok (.iload_n 1, 1) := by decide +kernel
theorem dX10_pass_6 : decode cX10_pass 6 = .ok (.bipush 100, 2) := by decide +kernel
theorem dX10_pass_8 : decode cX10_pass 8 = .ok (.if_icmp .le 13, 3) := by decide +kernel
theorem dX10_pass_11 : decode cX10_pass 11 = .ok (.new 66, 3) := by decide +kernel
theorem dX10_pass_14 : decode cX10_pass 14 = .ok (.dup, 1) := by decide +kernel
theorem dX10_pass_15 : decode cX10_pass 15 = .ok (.ldc 68, 2) := by decide +kernel
theorem dX10_pass_17 : decode cX10_pass 17 = .ok (.invokespecial 70, 3) := by decide +kernel
theorem dX10_pass_20 : decode cX10_pass 20 = .ok (.athrow, 1) := by decide +kernel
theorem dX10_pass_21 : decode cX10_pass 21 = .ok (.aload_n 0, 1) := by decide +kernel
theorem dX10_pass_22 : decode cX10_pass 22 = .ok (.getfield 73, 3) := by decide +kernel
theorem dX10_pass_25 : decode cX10_pass 25 = .ok (.iload_n 1, 1) := by decide +kernel
theorem dX10_pass_26 : decode cX10_pass 26 = .ok (.iadd, 1) := by decide +kernel
theorem dX10_pass_27 : decode cX10_pass 27 = .ok (.sipush 2000, 3) := by decide +kernel
theorem dX10_pass_30 : decode cX10_pass 30 = .ok (.if_icmp .le 13, 3) := by decide +kernel
theorem dX10_pass_33 : decode cX10_pass 33 = .ok (.new 77, 3) := by decide +kernel
theorem dX10_pass_36 : decode cX10_pass 36 = .ok (.dup, 1) := by decide +kernel
theorem dX10_pass_37 : decode cX10_pass 37 = .ok (.ldc 79, 2) := by decide +kernel
theorem dX10_pass_39 : decode cX10_pass 39 = .ok (.invokespecial 81, 3) := by decide +kernel
theorem dX10_pass_42 : decode cX10_pass 42 = .ok (.athrow, 1) := by decide +kernel
theorem dX10_pass_43 : decode cX10_pass 43 = .ok (.aload_n 0, 1) := by decide +kernel
theorem dX10_pass_44 : decode cX10_pass 44 = .ok (.dup, 1) := by decide +kernel
theorem dX10_pass_45 : decode cX10_pass 45 = .ok (.getfield 73, 3) := by decide +kernel
theorem dX10_pass_48 : decode cX10_pass 48 = .ok (.iload_n 1, 1) := by decide +kernel
theorem dX10_pass_49 : decode cX10_pass 49 = .ok (.iadd, 1) := by decide +kernel
theorem dX10_pass_50 : decode cX10_pass 50 = .ok (.putfield 73, 3) := by decide +kernel
theorem dX10_pass_53 : decode cX10_pass 53 = .ok (.aload_n 0, 1) := by decide +kernel
theorem dX10_pass_54 : decode cX10_pass 54 = .ok (.getfield 73, 3) := by decide +kernel
theorem dX10_pass_57 : decode cX10_pass 57 = .ok (.ireturn, 1) := by decide +kernel
theorem dX10_post_0 : decode cX10_post 0 = .ok (.aload_n 0, 1) := by decide +kernel
theorem dX10_post_1 : decode cX10_post 1 = .ok (.iload_n 1, 1) := by decide +kernel
theorem dX10_post_2 : decode cX10_post 2 = .ok (.invokevirtual 112, 3) := by decide +kernel
theorem dX10_post_5 : decode cX10_post 5 = .ok (.astore_n 2, 1) := by decide +kernel
theorem dX10_post_6 : decode cX10_post 6 = .ok (.aload_n 2, 1) := by decide +kernel
theorem dX10_post_7 : decode cX10_post 7 = .ok (.invokevirtual 141, 3) := by decide +kernel
theorem dX10_post_10 : decode cX10_post 10 = .ok (.ifCond .ne 10, 3) := by decide +kernel
theorem dX10_post_13 : decode cX10_post 13 = .ok (.aload_n 2, 1) := by decide +kernel
theorem dX10_post_14 : decode cX10_post 14 = .ok (.getfield 133, 3) := by decide +kernel
theorem dX10_post_17 : decode cX10_post 17 = .ok (.ifCond .ne 13, 3) := by decide +kernel
theorem dX10_post_20 : decode cX10_post 20 = .ok (.new 77, 3) := by decide +kernel
theorem dX10_post_23 : decode cX10_post 23 = .ok (.dup, 1) := by decide +kernel
theorem dX10_post_24 : decode cX10_post 24 = .ok (.ldc 145, 2) := by decide +kernel
theorem dX10_post_26 : decode cX10_post 26 = .ok (.invokespecial 81, 3) := by decide +kernel
theorem dX10_post_29 : decode cX10_post 29 = .ok (.athrow, 1) := by decide +kernel
theorem dX10_post_30 : decode cX10_post 30 = .ok (.aload_n 2, 1) := by decide +kernel
theorem dX10_post_31 : decode cX10_post 31 = .ok (.aload_n 0, 1) := by decide +kernel
theorem dX10_post_32 : decode cX10_post 32 = .ok (.getfield 73, 3) := by decide +kernel
theorem dX10_post_35 : decode cX10_post 35 = .ok (.putfield 147, 3) := by decide +kernel
theorem dX10_post_38 : decode cX10_post 38 = .ok (.aload_n 2, 1) := by decide +kernel
theorem dX10_post_39 : decode cX10_post 39 = .ok (.getfield 133, 3) := by decide +kernel
theorem dX10_post_42 : decode cX10_post 42 = .ok (.ireturn, 1) := by decide +kernel
theorem dX10_same_0 : decode cX10_same 0 = .ok (.iload_n 1, 1) := by decide +kernel
theorem dX10_same_1 : decode cX10_same 1 = .ok (.invokestatic 99, 3) := by decide +kernel
theorem dX10_same_4 : decode cX10_same 4 = .ok (.iload_n 2, 1) := by decide +kernel
theorem dX10_same_5 : decode cX10_same 5 = .ok (.invokestatic 99, 3) := by decide +kernel
theorem dX10_same_8 : decode cX10_same 8 = .ok (.aload_n 0, 1) := by decide +kernel
theorem dX10_same_9 : decode cX10_same 9 = .ok (.getfield 9, 3) := by decide +kernel
theorem dX10_same_12 : decode cX10_same 12 = .ok (.iload_n 1, 1) := by decide +kernel
theorem dX10_same_13 : decode cX10_same 13 = .ok (.iaload, 1) := by decide +kernel
theorem dX10_same_14 : decode cX10_same 14 = .ok (.iload_n 2, 1) := by decide +kernel
theorem dX10_same_15 : decode cX10_same 15 = .ok (.invokestatic 91, 3) := by decide +kernel
theorem dX10_same_18 : decode cX10_same 18 = .ok (.istore_n 3, 1) := by decide +kernel
theorem dX10_same_19 : decode cX10_same 19 = .ok (.aload_n 0, 1) := by decide +kernel
theorem dX10_same_20 : decode cX10_same 20 = .ok (.getfield 9, 3) := by decide +kernel
theorem dX10_same_23 : decode cX10_same 23 = .ok (.iload_n 1, 1) := by decide +kernel
theorem dX10_same_24 : decode cX10_same 24 = .ok (.iaload, 1) := by decide +kernel
theorem dX10_same_25 : decode cX10_same 25 = .ok (.aload_n 0, 1) := by decide +kernel
theorem dX10_same_26 : decode cX10_same 26 = .ok (.getfield 9, 3) := by decide +kernel
theorem dX10_same_29 : decode cX10_same 29 = .ok (.iload_n 2, 1) := by decide +kernel
theorem dX10_same_30 : decode cX10_same 30 = .ok (.iaload, 1) := by decide +kernel
theorem dX10_same_31 : decode cX10_same 31 = .ok (.ior, 1) := by decide +kernel
theorem dX10_same_32 : decode cX10_same 32 = .ok (.istore 4, 2) := by decide +kernel
theorem dX10_same_34 : decode cX10_same 34 = .ok (.iconst 0, 1) := by decide +kernel
theorem dX10_same_35 : decode cX10_same 35 = .ok (.istore 5, 2) := by decide +kernel
theorem dX10_same_37 : decode cX10_same 37 = .ok (.iload 5, 2) := by decide +kernel
theorem dX10_same_39 : decode cX10_same 39 = .ok (.bipush 32, 2) := by decide +kernel
theorem dX10_same_41 : decode cX10_same 41 = .ok (.if_icmp .ge 28, 3) := by decide +kernel
theorem dX10_same_44 : decode cX10_same 44 = .ok (.iload 4, 2) := by decide +kernel
theorem dX10_same_46 : decode cX10_same 46 = .ok (.iload 5, 2) := by decide +kernel
theorem dX10_same_48 : decode cX10_same 48 = .ok (.invokestatic 91, 3) := by decide +kernel
theorem dX10_same_51 : decode cX10_same 51 = .ok (.ifCond .eq 12, 3) := by decide +kernel
theorem dX10_same_54 : decode cX10_same 54 = .ok (.aload_n 0, 1) := by decide +kernel
theorem dX10_same_55 : decode cX10_same 55 = .ok (.getfield 9, 3) := by decide +kernel
theorem dX10_same_58 : decode cX10_same 58 = .ok (.iload 5, 2) := by decide +kernel
theorem dX10_same_60 : decode cX10_same 60 = .ok (.iload 4, 2) := by decide +kernel
theorem dX10_same_62 : decode cX10_same 62 = .ok (.iastore, 1) := by decide +kernel
theorem dX10_same_63 : decode cX10_same 63 = .ok (.iinc 5 1, 3) := by decide +kernel
theorem dX10_same_66 : decode cX10_same 66 = .ok (.goto (-29), 3) := by decide +kernel
theorem dX10_same_69 : decode cX10_same 69 = .ok (.iload_n 3, 1) := by decide +kernel
theorem dX10_same_70 : decode cX10_same 70 = .ok (.ifCond .ne 7, 3) := by decide +kernel
theorem dX10_same_73 : decode cX10_same 73 = .ok (.iconst 1, 1) := by decide +kernel
theorem dX10_same_74 : decode cX10_same 74 = .ok (.goto 4, 3) := by decide +kernel
theorem dX10_same_77 : decode cX10_same 77 = .ok (.iconst 0, 1) := by decide +kernel
theorem dX10_same_78 : decode cX10_same 78 = .ok (.ireturn, 1) := by decide +kernel
theorem dX10_sees_0 : decode cX10_sees 0 = .ok (.iload_n 1, 1) := by decide +kernel
theorem dX10_sees_1 : decode cX10_sees 1 = .ok (.invokestatic 99, 3) := by decide +kernel
theorem dX10_sees_4 : decode cX10_sees 4 = .ok (.aload_n 0, 1) := by decide +kernel
theorem dX10_sees_5 : decode cX10_sees 5 = .ok (.iload_n 2, 1) := by decide +kernel
theorem dX10_sees_6 : decode cX10_sees 6 = .ok (.invokevirtual 112, 3) := by decide +kernel
theorem dX10_sees_9 : decode cX10_sees 9 = .ok (.iload_n 1, 1) := by decide +kernel
theorem dX10_sees_10 : decode cX10_sees 10 = .ok (.aload_n 0, 1) := by decide +kernel
theorem dX10_sees_11 : decode cX10_sees 11 = .ok (.getfield 73, 3) := by decide +kernel
theorem dX10_sees_14 : decode cX10_sees 14 = .ok (.invokevirtual 173, 3) := by decide +kernel
theorem dX10_sees_17 : decode cX10_sees 17 = .ok (.ireturn, 1) := by decide +kernel
theorem dX7_add_0 : decode cX7_add 0 = .ok (.aload_n 0, 1) := by decide +kernel
theorem dX7_add_1 : decode cX7_add 1 = .ok (.getfield 9, 3) := by decide +kernel
theorem dX7_add_4 : decode cX7_add 4 = .ok (.aload_n 0, 1) := by decide +kernel
theorem dX7_add_5 : decode cX7_add 5 = .ok (.getfield 21, 3) := by decide +kernel
theorem dX7_add_8 : decode cX7_add 8 = .ok (.iconst (-1), 1) := by decide +kernel
theorem dX7_add_9 : decode cX7_add 9 = .ok (.iastore, 1) := by decide +kernel
theorem dX7_add_10 : decode cX7_add 10 = .ok (.aload_n 0, 1) := by decide +kernel
theorem dX7_add_11 : decode cX7_add 11 = .ok (.dup, 1) := by decide +kernel
theorem dX7_add_12 : decode cX7_add 12 = .ok (.getfield 21, 3) := by decide +kernel
theorem dX7_add_15 : decode cX7_add 15 = .ok (.iconst 1, 1) := by decide +kernel
theorem dX7_add_16 : decode cX7_add 16 = .ok (.iadd, 1) := by decide +kernel
theorem dX7_add_17 : decode cX7_add 17 = .ok (.putfield 21, 3) := by decide +kernel
theorem dX7_add_20 : decode cX7_add 20 = .ok (.aload_n 0, 1) := by decide +kernel
theorem dX7_add_21 : decode cX7_add 21 = .ok (.getfield 21, 3) := by decide +kernel
theorem dX7_add_24 : decode cX7_add 24 = .ok (.iconst 1, 1) := by decide +kernel
theorem dX7_add_25 : decode cX7_add 25 = .ok (.isub, 1) := by decide +kernel
theorem dX7_add_26 : decode cX7_add 26 = .ok (.ireturn, 1) := by decide +kernel
theorem dX10_tag_0 : decode cX10_tag 0 = .ok (.aload_n 0, 1) := by decide +kernel
theorem dX10_tag_1 : decode cX10_tag 1 = .ok (.getfield 34, 3) := by decide +kernel
theorem dX10_tag_4 : decode cX10_tag 4 = .ok (.getfield 180, 3) := by decide +kernel
theorem dX10_tag_7 : decode cX10_tag 7 = .ok (.bipush 30, 2) := by decide +kernel
theorem dX10_tag_9 : decode cX10_tag 9 = .ok (.if_icmp .lt 13, 3) := by decide +kernel
theorem dX10_tag_12 : decode cX10_tag 12 = .ok (.new 77, 3) := by decide +kernel
theorem dX10_tag_15 : decode cX10_tag 15 = .ok (.dup, 1) := by decide +kernel
theorem dX10_tag_16 : decode cX10_tag 16 = .ok (.ldc 183, 2) := by decide +kernel
theorem dX10_tag_18 : decode cX10_tag 18 = .ok (.invokespecial 81, 3) := by decide +kernel
theorem dX10_tag_21 : decode cX10_tag 21 = .ok (.athrow, 1) := by decide +kernel
theorem dX10_tag_22 : decode cX10_tag 22 = .ok (.aload_n 0, 1) := by decide +kernel
theorem dX10_tag_23 : decode cX10_tag 23 = .ok (.getfield 34, 3) := by decide +kernel
theorem dX10_tag_26 : decode cX10_tag 26 = .ok (.invokevirtual 185, 3) := by decide +kernel
theorem dX10_tag_29 : decode cX10_tag 29 = .ok (.ireturn, 1) := by decide +kernel
theorem dX9_init_0 : decode cX9_init 0 = .ok (.aload_n 0, 1) := by decide +kernel
theorem dX9_init_1 : decode cX9_init 1 = .ok (.invokespecial 3, 3) := by decide +kernel
theorem dX9_init_4 : decode cX9_init 4 = .ok (.aload_n 0, 1) := by decide +kernel
theorem dX9_init_5 : decode cX9_init 5 = .ok (.bipush 8, 2) := by decide +kernel
theorem dX9_init_7 : decode cX9_init 7 = .ok (.newarray .int, 2) := by decide +kernel
theorem dX9_init_9 : decode cX9_init 9 = .ok (.putfield 9, 3) := by decide +kernel
theorem dX9_init_12 : decode cX9_init 12 = .ok (.aload_n 0, 1) := by decide +kernel
theorem dX9_init_13 : decode cX9_init 13 = .ok (.iconst (-1), 1) := by decide +kernel
theorem dX9_init_14 : decode cX9_init 14 = .ok (.putfield 15, 3) := by decide +kernel
theorem dX9_init_17 : decode cX9_init 17 = .ok (.aload_n 0, 1) := by decide +kernel
theorem dX9_init_18 : decode cX9_init 18 = .ok (.iconst 1, 1) := by decide +kernel
theorem dX9_init_19 : decode cX9_init 19 = .ok (.iload_n 1, 1) := by decide +kernel
theorem dX9_init_20 : decode cX9_init 20 = .ok (.ishl, 1) := by decide +kernel
theorem dX9_init_21 : decode cX9_init 21 = .ok (.putfield 19, 3) := by decide +kernel
theorem dX9_init_24 : decode cX9_init 24 = .ok (.aload_n 0, 1) := by decide +kernel
theorem dX9_init_25 : decode cX9_init 25 = .ok (.iload_n 2, 1) := by decide +kernel
theorem dX9_init_26 : decode cX9_init 26 = .ok (.putfield 22, 3) := by decide +kernel
theorem dX9_init_29 : decode cX9_init 29 = .ok (.return_, 1) := by decide +kernel
theorem dX10_work_0 : decode cX10_work 0 = .ok (.iload_n 1, 1) := by decide +kernel
theorem dX10_work_1 : decode cX10_work 1 = .ok (.invokestatic 82, 3) := by decide +kernel
theorem dX10_work_4 : decode cX10_work 4 = .ok (.iload_n 2, 1) := by decide +kernel
theorem dX10_work_5 : decode cX10_work 5 = .ok (.ifCond .lt 8, 3) := by decide +kernel
theorem dX10_work_8 : decode cX10_work 8 = .ok (.iload_n 2, 1) := by decide +kernel
theorem dX10_work_9 : decode cX10_work 9 = .ok (.iconst 3, 1) := by decide +kernel
theorem dX10_work_10 : decode cX10_work 10 = .ok (.if_icmp .le 13, 3) := by decide +kernel
theorem dX10_work_13 : decode cX10_work 13 = .ok (.new 66, 3) := by decide +kernel
theorem dX10_work_16 : decode cX10_work 16 = .ok (.dup, 1) := by decide +kernel
theorem dX10_work_17 : decode cX10_work 17 = .ok (.ldc 102, 2) := by decide +kernel
theorem dX10_work_19 : decode cX10_work 19 = .ok (.invokespecial 70, 3) := by decide +kernel
theorem dX10_work_22 : decode cX10_work 22 = .ok (.athrow, 1) := by decide +kernel
theorem dX10_work_23 : decode cX10_work 23 = .ok (.aload_n 0, 1) := by decide +kernel
theorem dX10_work_24 : decode cX10_work 24 = .ok (.getfield 104, 3) := by decide +kernel
theorem dX10_work_27 : decode cX10_work 27 = .ok (.bipush 20, 2) := by decide +kernel
theorem dX10_work_29 : decode cX10_work 29 = .ok (.if_icmp .lt 13, 3) := by decide +kernel
theorem dX10_work_32 : decode cX10_work 32 = .ok (.new 77, 3) := by decide +kernel
theorem dX10_work_35 : decode cX10_work 35 = .ok (.dup, 1) := by decide +kernel
theorem dX10_work_36 : decode cX10_work 36 = .ok (.ldc 107, 2) := by decide +kernel
theorem dX10_work_38 : decode cX10_work 38 = .ok (.invokespecial 81, 3) := by decide +kernel
theorem dX10_work_41 : decode cX10_work 41 = .ok (.athrow, 1) := by decide +kernel
theorem dX10_work_42 : decode cX10_work 42 = .ok (.aload_n 0, 1) := by decide +kernel
theorem dX10_work_43 : decode cX10_work 43 = .ok (.getfield 21, 3) := by decide +kernel
theorem dX10_work_46 : decode cX10_work 46 = .ok (.aload_n 0, 1) := by decide +kernel
theorem dX10_work_47 : decode cX10_work 47 = .ok (.getfield 104, 3) := by decide +kernel
theorem dX10_work_50 : decode cX10_work 50 = .ok (.new 19, 3) := by decide +kernel
theorem dX10_work_53 : decode cX10_work 53 = .ok (.dup, 1) := by decide +kernel
theorem dX10_work_54 : decode cX10_work 54 = .ok (.iload_n 1, 1) := by decide +kernel
theorem dX10_work_55 : decode cX10_work 55 = .ok (.iload_n 2, 1) := by decide +kernel
theorem dX10_work_56 : decode cX10_work 56 = .ok (.invokespecial 109, 3) := by decide +kernel
theorem dX10_work_59 : decode cX10_work 59 = .ok (.aastore, 1) := by decide +kernel
theorem dX10_work_60 : decode cX10_work 60 = .ok (.aload_n 0, 1) := by decide +kernel
theorem dX10_work_61 : decode cX10_work 61 = .ok (.dup, 1) := by decide +kernel
theorem dX10_work_62 : decode cX10_work 62 = .ok (.getfield 104, 3) := by decide +kernel
theorem dX10_work_65 : decode cX10_work 65 = .ok (.iconst 1, 1) := by decide +kernel
theorem dX10_work_66 : decode cX10_work 66 = .ok (.iadd, 1) := by decide +kernel
theorem dX10_work_67 : decode cX10_work 67 = .ok (.putfield 104, 3) := by decide +kernel
theorem dX10_work_70 : decode cX10_work 70 = .ok (.aload_n 0, 1) := by decide +kernel
theorem dX10_work_71 : decode cX10_work 71 = .ok (.getfield 104, 3) := by decide +kernel
theorem dX10_work_74 : decode cX10_work 74 = .ok (.iconst 1, 1) := by decide +kernel
theorem dX10_work_75 : decode cX10_work 75 = .ok (.isub, 1) := by decide +kernel
theorem dX10_work_76 : decode cX10_work 76 = .ok (.ireturn, 1) := by decide +kernel
theorem dL_early_0 : decode cL_early 0 = .ok (.iload_n 1, 1) := by decide +kernel
theorem dL_early_1 : decode cL_early 1 = .ok (.ifCond .ne 11, 3) := by decide +kernel
theorem dL_early_4 : decode cL_early 4 = .ok (.aload_n 0, 1) := by decide +kernel
theorem dL_early_5 : decode cL_early 5 = .ok (.iload_n 2, 1) := by decide +kernel
theorem dL_early_6 : decode cL_early 6 = .ok (.invokevirtual 64, 3) := by decide +kernel
theorem dL_early_9 : decode cL_early 9 = .ok (.goto 270, 3) := by decide +kernel
theorem dL_early_12 : decode cL_early 12 = .ok (.iload_n 1, 1) := by decide +kernel
theorem dL_early_13 : decode cL_early 13 = .ok (.iconst 1, 1) := by decide +kernel
theorem dL_early_14 : decode cL_early 14 = .ok (.if_icmp .ne 26, 3) := by decide +kernel
theorem dL_early_17 : decode cL_early 17 = .ok (.aload_n 0, 1) := by decide +kernel
theorem dL_early_18 : decode cL_early 18 = .ok (.iload_n 2, 1) := by decide +kernel
theorem dL_early_19 : decode cL_early 19 = .ok (.iload_n 3, 1) := by decide +kernel
theorem dL_early_20 : decode cL_early 20 = .ok (.iload 4, 2) := by decide +kernel
theorem dL_early_22 : decode cL_early 22 = .ok (.iconst 1, 1) := by decide +kernel
theorem dL_early_23 : decode cL_early 23 = .ok (.if_icmp .ne 7, 3) := by decide +kernel
theorem dL_early_26 : decode cL_early 26 = .ok (.iconst 1, 1) := by decide +kernel
theorem dL_early_27 : decode cL_early 27 = .ok (.goto 4, 3) := by decide +kernel
theorem dL_early_30 : decode cL_early 30 = .ok (.iconst 0, 1) := by decide +kernel
theorem dL_early_31 : decode cL_early 31 = .ok (.invokevirtual 67, 3) := by decide +kernel
theorem dL_early_34 : decode cL_early 34 = .ok (.invokestatic 24, 3) := by decide +kernel
theorem dL_early_37 : decode cL_early 37 = .ok (.goto 242, 3) := by decide +kernel
theorem dL_early_40 : decode cL_early 40 = .ok (.iload_n 1, 1) := by decide +kernel
theorem dL_early_41 : decode cL_early 41 = .ok (.iconst 2, 1) := by decide +kernel
theorem dL_early_42 : decode cL_early 42 = .ok (.if_icmp .ne 15, 3) := by decide +kernel
theorem dL_early_45 : decode cL_early 45 = .ok (.aload_n 0, 1) := by decide +kernel
theorem dL_early_46 : decode cL_early 46 = .ok (.iload_n 2, 1) := by decide +kernel
theorem dL_early_47 : decode cL_early 47 = .ok (.iload_n 3, 1) := by decide +kernel
theorem dL_early_48 : decode cL_early 48 = .ok (.invokevirtual 71, 3) := by decide +kernel
theorem dL_early_51 : decode cL_early 51 = .ok (.invokestatic 24, 3) := by decide +kernel
theorem dL_early_54 : decode cL_early 54 = .ok (.goto 225, 3) := by decide +kernel
theorem dL_early_57 : decode cL_early 57 = .ok (.iload_n 1, 1) := by decide +kernel
theorem dL_early_58 : decode cL_early 58 = .ok (.iconst 3, 1) := by decide +kernel
theorem dL_early_59 : decode cL_early 59 = .ok (.if_icmp .ne 12, 3) := by decide +kernel
theorem dL_early_62 : decode cL_early 62 = .ok (.aload_n 0, 1) := by decide +kernel
theorem dL_early_63 : decode cL_early 63 = .ok (.iload_n 2, 1) := by decide +kernel
theorem dL_early_64 : decode cL_early 64 = .ok (.iload_n 3, 1) := by decide +kernel
theorem dL_early_65 : decode cL_early 65 = .ok (.invokevirtual 74, 3) := by decide +kernel
theorem dL_early_68 : decode cL_early 68 = .ok (.goto 211, 3) := by decide +kernel
theorem dL_early_71 : decode cL_early 71 = .ok (.iload_n 1, 1) := by decide +kernel
theorem dL_early_72 : decode cL_early 72 = .ok (.iconst 4, 1) := by decide +kernel
theorem dL_early_73 : decode cL_early 73 = .ok (.if_icmp .ne 12, 3) := by decide +kernel
theorem dL_early_76 : decode cL_early 76 = .ok (.aload_n 0, 1) := by decide +kernel
theorem dL_early_77 : decode cL_early 77 = .ok (.iload_n 2, 1) := by decide +kernel
theorem dL_early_78 : decode cL_early 78 = .ok (.iload_n 3, 1) := by decide +kernel
theorem dL_early_79 : decode cL_early 79 = .ok (.invokevirtual 77, 3) := by decide +kernel
theorem dL_early_82 : decode cL_early 82 = .ok (.goto 197, 3) := by decide +kernel
theorem dL_early_85 : decode cL_early 85 = .ok (.iload_n 1, 1) := by decide +kernel
theorem dL_early_86 : decode cL_early 86 = .ok (.iconst 5, 1) := by decide +kernel
theorem dL_early_87 : decode cL_early 87 = .ok (.if_icmp .ne 12, 3) := by decide +kernel
theorem dL_early_90 : decode cL_early 90 = .ok (.aload_n 0, 1) := by decide +kernel
theorem dL_early_91 : decode cL_early 91 = .ok (.iload_n 2, 1) := by decide +kernel
theorem dL_early_92 : decode cL_early 92 = .ok (.iload_n 3, 1) := by decide +kernel
theorem dL_early_93 : decode cL_early 93 = .ok (.invokevirtual 80, 3) := by decide +kernel
theorem dL_early_96 : decode cL_early 96 = .ok (.goto 183, 3) := by decide +kernel
theorem dL_early_99 : decode cL_early 99 = .ok (.iload_n 1, 1) := by decide +kernel
theorem dL_early_100 : decode cL_early 100 = .ok (.bipush 6, 2) := by decide +kernel
theorem dL_early_102 : decode cL_early 102 = .ok (.if_icmp .ne 11, 3) := by decide +kernel
theorem dL_early_105 : decode cL_early 105 = .ok (.aload_n 0, 1) := by decide +kernel
theorem dL_early_106 : decode cL_early 106 = .ok (.iload_n 2, 1) := by decide +kernel
theorem dL_early_107 : decode cL_early 107 = .ok (.invokevirtual 83, 3) := by decide +kernel
theorem dL_early_110 : decode cL_early 110 = .ok (.goto 169, 3) := by decide +kernel
theorem dL_early_113 : decode cL_early 113 = .ok (.iload_n 1, 1) := by decide +kernel
theorem dL_early_114 : decode cL_early 114 = .ok (.bipush 7, 2) := by decide +kernel
theorem dL_early_116 : decode cL_early 116 = .ok (.if_icmp .ne 11, 3) := by decide +kernel
theorem dL_early_119 : decode cL_early 119 = .ok (.aload_n 0, 1) := by decide +kernel
theorem dL_early_120 : decode cL_early 120 = .ok (.iload_n 2, 1) := by decide +kernel
theorem dL_early_121 : decode cL_early 121 = .ok (.invokevirtual 86, 3) := by decide +kernel
theorem dL_early_124 : decode cL_early 124 = .ok (.goto 155, 3) := by decide +kernel
theorem dL_early_127 : decode cL_early 127 = .ok (.iload_n 1, 1) := by decide +kernel
theorem dL_early_128 : decode cL_early 128 = .ok (.bipush 8, 2) := by decide +kernel
theorem dL_early_130 : decode cL_early 130 = .ok (.if_icmp .ne 24, 3) := by decide +kernel
theorem dL_early_133 : decode cL_early 133 = .ok (.aload_n 0, 1) := by decide +kernel
theorem dL_early_134 : decode cL_early 134 = .ok (.iload_n 2, 1) := by decide +kernel
theorem dL_early_135 : decode cL_early 135 = .ok (.iload_n 3, 1) := by decide +kernel
theorem dL_early_136 : decode cL_early 136 = .ok (.iconst 1, 1) := by decide +kernel
theorem dL_early_137 : decode cL_early 137 = .ok (.if_icmp .ne 7, 3) := by decide +kernel
theorem dL_early_140 : decode cL_early 140 = .ok (.iconst 1, 1) := by decide +kernel
theorem dL_early_141 : decode cL_early 141 = .ok (.goto 4, 3) := by decide +kernel
theorem dL_early_144 : decode cL_early 144 = .ok (.iconst 0, 1) := by decide +kernel
theorem dL_early_145 : decode cL_early 145 = .ok (.invokevirtual 89, 3) := by decide +kernel
theorem dL_early_148 : decode cL_early 148 = .ok (.invokestatic 24, 3) := by decide +kernel
theorem dL_early_151 : decode cL_early 151 = .ok (.goto 128, 3) := by decide +kernel
theorem dL_early_154 : decode cL_early 154 = .ok (.iload_n 1, 1) := by decide +kernel
theorem dL_early_155 : decode cL_early 155 = .ok (.bipush 9, 2) := by decide +kernel
theorem dL_early_157 : decode cL_early 157 = .ok (.if_icmp .ne 12, 3) := by decide +kernel
theorem dL_early_160 : decode cL_early 160 = .ok (.aload_n 0, 1) := by decide +kernel
theorem dL_early_161 : decode cL_early 161 = .ok (.iload_n 2, 1) := by decide +kernel
theorem dL_early_162 : decode cL_early 162 = .ok (.iload_n 3, 1) := by decide +kernel
theorem dL_early_163 : decode cL_early 163 = .ok (.invokevirtual 92, 3) := by decide +kernel
theorem dL_early_166 : decode cL_early 166 = .ok (.goto 113, 3) := by decide +kernel
theorem dL_early_169 : decode cL_early 169 = .ok (.iload_n 1, 1) := by decide +kernel
theorem dL_early_170 : decode cL_early 170 = .ok (.bipush 10, 2) := by decide +kernel
theorem dL_early_172 : decode cL_early 172 = .ok (.if_icmp .ne 12, 3) := by decide +kernel
theorem dL_early_175 : decode cL_early 175 = .ok (.aload_n 0, 1) := by decide +kernel
theorem dL_early_176 : decode cL_early 176 = .ok (.iload_n 2, 1) := by decide +kernel
theorem dL_early_177 : decode cL_early 177 = .ok (.iload_n 3, 1) := by decide +kernel
theorem dL_early_178 : decode cL_early 178 = .ok (.invokestatic 95, 3) := by decide +kernel
theorem dL_early_181 : decode cL_early 181 = .ok (.goto 98, 3) := by decide +kernel
theorem dL_early_184 : decode cL_early 184 = .ok (.iload_n 1, 1) := by decide +kernel
theorem dL_early_185 : decode cL_early 185 = .ok (.bipush 11, 2) := by decide +kernel
theorem dL_early_187 : decode cL_early 187 = .ok (.if_icmp .ne 15, 3) := by decide +kernel
theorem dL_early_190 : decode cL_early 190 = .ok (.aload_n 0, 1) := by decide +kernel
theorem dL_early_191 : decode cL_early 191 = .ok (.iload_n 2, 1) := by decide +kernel
theorem dL_early_192 : decode cL_early 192 = .ok (.iload_n 3, 1) := by decide +kernel
theorem dL_early_193 : decode cL_early 193 = .ok (.invokevirtual 99, 3) := by decide +kernel
theorem dL_early_196 : decode cL_early 196 = .ok (.invokestatic 24, 3) := by decide +kernel
theorem dL_early_199 : decode cL_early 199 = .ok (.goto 80, 3) := by decide +kernel
theorem dL_early_202 : decode cL_early 202 = .ok (.iload_n 1, 1) := by decide +kernel
theorem dL_early_203 : decode cL_early 203 = .ok (.bipush 12, 2) := by decide +kernel
theorem dL_early_205 : decode cL_early 205 = .ok (.if_icmp .ne 12, 3) := by decide +kernel
theorem dL_early_208 : decode cL_early 208 = .ok (.aload_n 0, 1) := by decide +kernel
theorem dL_early_209 : decode cL_early 209 = .ok (.iload_n 2, 1) := by decide +kernel
theorem dL_early_210 : decode cL_early 210 = .ok (.iload_n 3, 1) := by decide +kernel
theorem dL_early_211 : decode cL_early 211 = .ok (.invokevirtual 102, 3) := by decide +kernel
theorem dL_early_214 : decode cL_early 214 = .ok (.goto 65, 3) := by decide +kernel
theorem dL_early_217 : decode cL_early 217 = .ok (.iload_n 1, 1) := by decide +kernel
theorem dL_early_218 : decode cL_early 218 = .ok (.bipush 13, 2) := by decide +kernel
theorem dL_early_220 : decode cL_early 220 = .ok (.if_icmp .ne 10, 3) := by decide +kernel
theorem dL_early_223 : decode cL_early 223 = .ok (.aload_n 0, 1) := by decide +kernel
theorem dL_early_224 : decode cL_early 224 = .ok (.invokevirtual 105, 3) := by decide +kernel
theorem dL_early_227 : decode cL_early 227 = .ok (.goto 52, 3) := by decide +kernel
theorem dL_early_230 : decode cL_early 230 = .ok (.iload_n 1, 1) := by decide +kernel
theorem dL_early_231 : decode cL_early 231 = .ok (.bipush 14, 2) := by decide +kernel
theorem dL_early_233 : decode cL_early 233 = .ok (.if_icmp .ne 11, 3) := by decide +kernel
theorem dL_early_236 : decode cL_early 236 = .ok (.aload_n 0, 1) := by decide +kernel
theorem dL_early_237 : decode cL_early 237 = .ok (.iload_n 2, 1) := by decide +kernel
theorem dL_early_238 : decode cL_early 238 = .ok (.invokevirtual 109, 3) := by decide +kernel
theorem dL_early_241 : decode cL_early 241 = .ok (.goto 38, 3) := by decide +kernel
theorem dL_early_244 : decode cL_early 244 = .ok (.iload_n 1, 1) := by decide +kernel
theorem dL_early_245 : decode cL_early 245 = .ok (.bipush 15, 2) := by decide +kernel
theorem dL_early_247 : decode cL_early 247 = .ok (.if_icmp .ne 12, 3) := by decide +kernel
theorem dL_early_250 : decode cL_early 250 = .ok (.aload_n 0, 1) := by decide +kernel
theorem dL_early_251 : decode cL_early 251 = .ok (.iload_n 2, 1) := by decide +kernel
theorem dL_early_252 : decode cL_early 252 = .ok (.iload_n 3, 1) := by decide +kernel
theorem dL_early_253 : decode cL_early 253 = .ok (.invokevirtual 112, 3) := by decide +kernel
theorem dL_early_256 : decode cL_early 256 = .ok (.goto 23, 3) := by decide +kernel
theorem dL_early_259 : decode cL_early 259 = .ok (.aload_n 0, 1) := by decide +kernel
theorem dL_early_260 : decode cL_early 260 = .ok (.iload_n 2, 1) := by decide +kernel
theorem dL_early_261 : decode cL_early 261 = .ok (.iload_n 3, 1) := by decide +kernel
theorem dL_early_262 : decode cL_early 262 = .ok (.iload 4, 2) := by decide +kernel
theorem dL_early_264 : decode cL_early 264 = .ok (.iconst 1, 1) := by decide +kernel
theorem dL_early_265 : decode cL_early 265 = .ok (.if_icmp .ne 7, 3) := by decide +kernel
theorem dL_early_268 : decode cL_early 268 = .ok (.iconst 1, 1) := by decide +kernel
theorem dL_early_269 : decode cL_early 269 = .ok (.goto 4, 3) := by decide +kernel
theorem dL_early_272 : decode cL_early 272 = .ok (.iconst 0, 1) := by decide +kernel
theorem dL_early_273 : decode cL_early 273 = .ok (.invokevirtual 115, 3) := by decide +kernel
theorem dL_early_276 : decode cL_early 276 = .ok (.invokestatic 24, 3) := by decide +kernel
theorem dL_early_279 : decode cL_early 279 = .ok (.ireturn, 1) := by decide +kernel
theorem dX7_belongUnder_0 : decode cX7_belongUnder 0 = .ok (.iconst 0, 1) := by decide +kernel
theorem dX7_belongUnder_1 : decode cX7_belongUnder 1 = .ok (.istore_n 2, 1) := by decide +kernel
theorem dX7_belongUnder_2 : decode cX7_belongUnder 2 = .ok (.iconst 0, 1) := by decide +kernel
theorem dX7_belongUnder_3 : decode cX7_belongUnder 3 = .ok (.istore_n 3, 1) := by decide +kernel
theorem dX7_belongUnder_4 : decode cX7_belongUnder 4 = .ok (.iload_n 3, 1) := by decide +kernel
theorem dX7_belongUnder_5 : decode cX7_belongUnder 5 = .ok (.aload_n 0, 1) := by decide +kernel
theorem dX7_belongUnder_6 : decode cX7_belongUnder 6 = .ok (.getfield 21, 3) := by decide +kernel
theorem dX7_belongUnder_9 : decode cX7_belongUnder 9 = .ok (.if_icmp .ge 50, 3) := by decide +kernel
theorem dX7_belongUnder_12 : decode cX7_belongUnder 12 = .ok (.iload_n 1, 1) := by decide +kernel
theorem dX7_belongUnder_13 : decode cX7_belongUnder 13 = .ok (.iload_n 3, 1) := by decide +kernel
theorem dX7_belongUnder_14 : decode cX7_belongUnder 14 = .ok (.invokestatic 25, 3) := by decide +kernel
theorem dX7_belongUnder_17 : decode cX7_belongUnder 17 = .ok (.ifCond .eq 36, 3) := by decide +kernel
theorem dX7_belongUnder_20 : decode cX7_belongUnder 20 = .ok (.aload_n 0, 1) := by decide +kernel
theorem dX7_belongUnder_21 : decode cX7_belongUnder 21 = .ok (.getfield 9, 3) := by decide +kernel
theorem dX7_belongUnder_24 : decode cX7_belongUnder 24 = .ok (.iload_n 3, 1) := by decide +kernel
theorem dX7_belongUnder_25 : decode cX7_belongUnder 25 = .ok (.iaload, 1) := by decide +kernel
theorem dX7_belongUnder_26 : decode cX7_belongUnder 26 = .ok (.iconst (-1), 1) := by decide +kernel
theorem dX7_belongUnder_27 : decode cX7_belongUnder 27 = .ok (.if_icmp .eq 26, 3) := by decide +kernel
theorem dX7_belongUnder_30 : decode cX7_belongUnder 30 = .ok (.iload_n 2, 1) := by decide +kernel
theorem dX7_belongUnder_31 : decode cX7_belongUnder 31 = .ok (.iconst 1, 1) := by decide +kernel
theorem dX7_belongUnder_32 : decode cX7_belongUnder 32 = .ok (.aload_n 0, 1) := by decide +kernel
theorem dX7_belongUnder_33 : decode cX7_belongUnder 33 = .ok (.getfield 9, 3) := by decide +kernel
theorem dX7_belongUnder_36 : decode cX7_belongUnder 36 = .ok (.iload_n 3, 1) := by decide +kernel
theorem dX7_belongUnder_37 : decode cX7_belongUnder 37 = .ok (.iaload, 1) := by decide +kernel
theorem dX7_belongUnder_38 : decode cX7_belongUnder 38 = .ok (.ishl, 1) := by decide +kernel
theorem dX7_belongUnder_39 : decode cX7_belongUnder 39 = .ok (.aload_n 0, 1) := by decide +kernel
theorem dX7_belongUnder_40 : decode cX7_belongUnder 40 = .ok (.getfield 18, 3) := by decide +kernel
theorem dX7_belongUnder_43 : decode cX7_belongUnder 43 = .ok (.aload_n 0, 1) := by decide +kernel
theorem dX7_belongUnder_44 : decode cX7_belongUnder 44 = .ok (.getfield 9, 3) := by decide +kernel
theorem dX7_belongUnder_47 : decode cX7_belongUnder 47 = .ok (.iload_n 3, 1) := by decide +kernel
theorem dX7_belongUnder_48 : decode cX7_belongUnder 48 = .ok (.iaload, 1) := by decide +kernel
theorem dX7_belongUnder_49 : decode cX7_belongUnder 49 = .ok (.iaload, 1) := by decide +kernel
theorem dX7_belongUnder_50 : decode cX7_belongUnder 50 = .ok (.ior, 1) := by decide +kernel
theorem dX7_belongUnder_51 : decode cX7_belongUnder 51 = .ok (.ior, 1) := by decide +kernel
theorem dX7_belongUnder_52 : decode cX7_belongUnder 52 = .ok (.istore_n 2, 1) := by decide +kernel
theorem dX7_belongUnder_53 : decode cX7_belongUnder 53 = .ok (.iinc 3 1, 3) := by decide +kernel
theorem dX7_belongUnder_56 : decode cX7_belongUnder 56 = .ok (.goto (-52), 3) := by decide +kernel
theorem dX7_belongUnder_59 : decode cX7_belongUnder 59 = .ok (.iload_n 2, 1) := by decide +kernel
theorem dX7_belongUnder_60 : decode cX7_belongUnder 60 = .ok (.ireturn, 1) := by decide +kernel
theorem dX7_meaningsOf_0 : decode cX7_meaningsOf 0 = .ok (.iconst 0, 1) := by decide +kernel
theorem dX7_meaningsOf_1 : decode cX7_meaningsOf 1 = .ok (.istore_n 2, 1) := by decide +kernel
theorem dX7_meaningsOf_2 : decode cX7_meaningsOf 2 = .ok (.iconst 0, 1) := by decide +kernel
theorem dX7_meaningsOf_3 : decode cX7_meaningsOf 3 = .ok (.istore_n 3, 1) := by decide +kernel
theorem dX7_meaningsOf_4 : decode cX7_meaningsOf 4 = .ok (.iload_n 3, 1) := by decide +kernel
theorem dX7_meaningsOf_5 : decode cX7_meaningsOf 5 = .ok (.aload_n 0, 1) := by decide +kernel
theorem dX7_meaningsOf_6 : decode cX7_meaningsOf 6 = .ok (.getfield 21, 3) := by decide +kernel
theorem dX7_meaningsOf_9 : decode cX7_meaningsOf 9 = .ok (.if_icmp .ge 38, 3) := by decide +kernel
theorem dX7_meaningsOf_12 : decode cX7_meaningsOf 12 = .ok (.iload_n 1, 1) := by decide +kernel
theorem dX7_meaningsOf_13 : decode cX7_meaningsOf 13 = .ok (.iload_n 3, 1) := by decide +kernel
theorem dX7_meaningsOf_14 : decode cX7_meaningsOf 14 = .ok (.invokestatic 25, 3) := by decide +kernel
theorem dX7_meaningsOf_17 : decode cX7_meaningsOf 17 = .ok (.ifCond .eq 24, 3) := by decide +kernel
theorem dX7_meaningsOf_20 : decode cX7_meaningsOf 20 = .ok (.aload_n 0, 1) := by decide +kernel
theorem dX7_meaningsOf_21 : decode cX7_meaningsOf 21 = .ok (.getfield 9, 3) := by decide +kernel
theorem dX7_meaningsOf_24 : decode cX7_meaningsOf 24 = .ok (.iload_n 3, 1) := by decide +kernel
theorem dX7_meaningsOf_25 : decode cX7_meaningsOf 25 = .ok (.iaload, 1) := by decide +kernel
theorem dX7_meaningsOf_26 : decode cX7_meaningsOf 26 = .ok (.iconst (-1), 1) := by decide +kernel
theorem dX7_meaningsOf_27 : decode cX7_meaningsOf 27 = .ok (.if_icmp .eq 14, 3) := by decide +kernel
theorem dX7_meaningsOf_30 : decode cX7_meaningsOf 30 = .ok (.iload_n 2, 1) := by decide +kernel
theorem dX7_meaningsOf_31 : decode cX7_meaningsOf 31 = .ok (.iconst 1, 1) := by decide +kernel
theorem dX7_meaningsOf_32 : decode cX7_meaningsOf 32 = .ok (.aload_n 0, 1) := by decide +kernel
theorem dX7_meaningsOf_33 : decode cX7_meaningsOf 33 = .ok (.getfield 9, 3) := by decide +kernel
theorem dX7_meaningsOf_36 : decode cX7_meaningsOf 36 = .ok (.iload_n 3, 1) := by decide +kernel
theorem dX7_meaningsOf_37 : decode cX7_meaningsOf 37 = .ok (.iaload, 1) := by decide +kernel
theorem dX7_meaningsOf_38 : decode cX7_meaningsOf 38 = .ok (.ishl, 1) := by decide +kernel
theorem dX7_meaningsOf_39 : decode cX7_meaningsOf 39 = .ok (.ior, 1) := by decide +kernel
theorem dX7_meaningsOf_40 : decode cX7_meaningsOf 40 = .ok (.istore_n 2, 1) := by decide +kernel
theorem dX7_meaningsOf_41 : decode cX7_meaningsOf 41 = .ok (.iinc 3 1, 3) := by decide +kernel
theorem dX7_meaningsOf_44 : decode cX7_meaningsOf 44 = .ok (.goto (-40), 3) := by decide +kernel
theorem dX7_meaningsOf_47 : decode cX7_meaningsOf 47 = .ok (.iload_n 2, 1) := by decide +kernel
theorem dX7_meaningsOf_48 : decode cX7_meaningsOf 48 = .ok (.ireturn, 1) := by decide +kernel
theorem dX6_suits_0 : decode cX6_suits 0 = .ok (.aload_n 0, 1) := by decide +kernel
theorem dX6_suits_1 : decode cX6_suits 1 = .ok (.getfield 19, 3) := by decide +kernel
theorem dX6_suits_4 : decode cX6_suits 4 = .ok (.aload_n 1, 1) := by decide +kernel
theorem dX6_suits_5 : decode cX6_suits 5 = .ok (.getfield 7, 3) := by decide +kernel
theorem dX6_suits_8 : decode cX6_suits 8 = .ok (.invokestatic 22, 3) := by decide +kernel
theorem dX6_suits_11 : decode cX6_suits 11 = .ok (.ifCond .ne 17, 3) := by decide +kernel
theorem dX6_suits_14 : decode cX6_suits 14 = .ok (.aload_n 1, 1) := by decide +kernel
theorem dX6_suits_15 : decode cX6_suits 15 = .ok (.getfield 19, 3) := by decide +kernel
theorem dX6_suits_18 : decode cX6_suits 18 = .ok (.aload_n 0, 1) := by decide +kernel
theorem dX6_suits_19 : decode cX6_suits 19 = .ok (.getfield 7, 3) := by decide +kernel
theorem dX6_suits_22 : decode cX6_suits 22 = .ok (.invokestatic 22, 3) := by decide +kernel
theorem dX6_suits_25 : decode cX6_suits 25 = .ok (.ifCond .eq 5, 3) := by decide +kernel
theorem dX6_suits_28 : decode cX6_suits 28 = .ok (.iconst 0, 1) := by decide +kernel
theorem dX6_suits_29 : decode cX6_suits 29 = .ok (.ireturn, 1) := by decide +kernel
theorem dX6_suits_30 : decode cX6_suits 30 = .ok (.aload_n 2, 1) := by decide +kernel
theorem dX6_suits_31 : decode cX6_suits 31 = .ok (.aload_n 1, 1) := by decide +kernel
theorem dX6_suits_32 : decode cX6_suits 32 = .ok (.getfield 13, 3) := by decide +kernel
theorem dX6_suits_35 : decode cX6_suits 35 = .ok (.invokevirtual 28, 3) := by decide +kernel
theorem dX6_suits_38 : decode cX6_suits 38 = .ok (.aload_n 2, 1) := by decide +kernel
theorem dX6_suits_39 : decode cX6_suits 39 = .ok (.aload_n 0, 1) := by decide +kernel
theorem dX6_suits_40 : decode cX6_suits 40 = .ok (.getfield 16, 3) := by decide +kernel
theorem dX6_suits_43 : decode cX6_suits 43 = .ok (.invokevirtual 34, 3) := by decide +kernel
theorem dX6_suits_46 : decode cX6_suits 46 = .ok (.iand, 1) := by decide +kernel
theorem dX6_suits_47 : decode cX6_suits 47 = .ok (.ifCond .eq 7, 3) := by decide +kernel
theorem dX6_suits_50 : decode cX6_suits 50 = .ok (.iconst 1, 1) := by decide +kernel
theorem dX6_suits_51 : decode cX6_suits 51 = .ok (.goto 4, 3) := by decide +kernel
theorem dX6_suits_54 : decode cX6_suits 54 = .ok (.iconst 0, 1) := by decide +kernel
theorem dX6_suits_55 : decode cX6_suits 55 = .ok (.ireturn, 1) := by decide +kernel
theorem dX2_findReceivers_0 : decode cX2_findReceivers 0 = .ok (.iconst 0, 1) := by decide +kernel
theorem dX2_findReceivers_1 : decode cX2_findReceivers 1 = .ok (.istore_n 2, 1) := by decide +kernel
theorem dX2_findReceivers_2 : decode cX2_findReceivers 2 = .ok (.iload_n 2, 1) := by decide +kernel
theorem dX2_findReceivers_3 : decode cX2_findReceivers 3 = .ok (.aload_n 0, 1) := by decide +kernel
theorem dX2_findReceivers_4 : decode cX2_findReceivers 4 = .ok (.getfield 24, 3) := by decide +kernel
theorem dX2_findReceivers_7 : decode cX2_findReceivers 7 = .ok (.if_icmp .ge 78, 3) := by decide +kernel
theorem dX2_findReceivers_10 : decode cX2_findReceivers 10 = .ok (.iconst 0, 1) := by decide +kernel
theorem dX2_findReceivers_11 : decode cX2_findReceivers 11 = .ok (.istore_n 3, 1) := by decide +kernel
theorem dX2_findReceivers_12 : decode cX2_findReceivers 12 = .ok (.iconst 0, 1) := by decide +kernel
theorem dX2_findReceivers_13 : decode cX2_findReceivers 13 = .ok (.istore 4, 2) := by decide +kernel
theorem dX2_findReceivers_15 : decode cX2_findReceivers 15 = .ok (.iload 4, 2) := by decide +kernel
theorem dX2_findReceivers_17 : decode cX2_findReceivers 17 = .ok (.aload_n 0, 1) := by decide +kernel
theorem dX2_findReceivers_18 : decode cX2_findReceivers 18 = .ok (.getfield 24, 3) := by decide +kernel
theorem dX2_findReceivers_21 : decode cX2_findReceivers 21 = .ok (.if_icmp .ge 51, 3) := by decide +kernel
theorem dX2_findReceivers_24 : decode cX2_findReceivers 24 = .ok (.iload_n 2, 1) := by decide +kernel
theorem dX2_findReceivers_25 : decode cX2_findReceivers 25 = .ok (.iload 4, 2) := by decide +kernel
theorem dX2_findReceivers_27 : decode cX2_findReceivers 27 = .ok (.if_icmp .eq 27, 3) := by decide +kernel
theorem dX2_findReceivers_30 : decode cX2_findReceivers 30 = .ok (.aload_n 0, 1) := by decide +kernel
theorem dX2_findReceivers_31 : decode cX2_findReceivers 31 = .ok (.getfield 11, 3) := by decide +kernel
theorem dX2_findReceivers_34 : decode cX2_findReceivers 34 = .ok (.iload_n 2, 1) := by decide +kernel
theorem dX2_findReceivers_35 : decode cX2_findReceivers 35 = .ok (.aaload, 1) := by decide +kernel
theorem dX2_findReceivers_36 : decode cX2_findReceivers 36 = .ok (.aload_n 0, 1) := by decide +kernel
theorem dX2_findReceivers_37 : decode cX2_findReceivers 37 = .ok (.getfield 11, 3) := by decide +kernel
theorem dX2_findReceivers_40 : decode cX2_findReceivers 40 = .ok (.iload 4, 2) := by decide +kernel
theorem dX2_findReceivers_42 : decode cX2_findReceivers 42 = .ok (.aaload, 1) := by decide +kernel
theorem dX2_findReceivers_43 : decode cX2_findReceivers 43 = .ok (.aload_n 1, 1) := by decide +kernel
theorem dX2_findReceivers_44 : decode cX2_findReceivers 44 = .ok (.invokevirtual 56, 3) := by decide +kernel
theorem dX2_findReceivers_47 : decode cX2_findReceivers 47 = .ok (.ifCond .eq 7, 3) := by decide +kernel
theorem dX2_findReceivers_50 : decode cX2_findReceivers 50 = .ok (.iconst 1, 1) := by decide +kernel
theorem dX2_findReceivers_51 : decode cX2_findReceivers 51 = .ok (.goto 4, 3) := by decide +kernel
theorem dX2_findReceivers_54 : decode cX2_findReceivers 54 = .ok (.iconst 0, 1) := by decide +kernel
theorem dX2_findReceivers_55 : decode cX2_findReceivers 55 = .ok (.istore 5, 2) := by decide +kernel
theorem dX2_findReceivers_57 : decode cX2_findReceivers 57 = .ok (.iload_n 3, 1) := by decide +kernel
theorem dX2_findReceivers_58 : decode cX2_findReceivers 58 = .ok (.iload 4, 2) := by decide +kernel
theorem dX2_findReceivers_60 : decode cX2_findReceivers 60 = .ok (.iload 5, 2) := by decide +kernel
theorem dX2_findReceivers_62 : decode cX2_findReceivers 62 = .ok (.invokestatic 39, 3) := by decide +kernel
theorem dX2_findReceivers_65 : decode cX2_findReceivers 65 = .ok (.istore_n 3, 1) := by decide +kernel
theorem dX2_findReceivers_66 : decode cX2_findReceivers 66 = .ok (.iinc 4 1, 3) := by decide +kernel
theorem dX2_findReceivers_69 : decode cX2_findReceivers 69 = .ok (.goto (-54), 3) := by decide +kernel
theorem dX2_findReceivers_72 : decode cX2_findReceivers 72 = .ok (.aload_n 0, 1) := by decide +kernel
theorem dX2_findReceivers_73 : decode cX2_findReceivers 73 = .ok (.getfield 17, 3) := by decide +kernel
theorem dX2_findReceivers_76 : decode cX2_findReceivers 76 = .ok (.iload_n 2, 1) := by decide +kernel
theorem dX2_findReceivers_77 : decode cX2_findReceivers 77 = .ok (.iload_n 3, 1) := by decide +kernel
theorem dX2_findReceivers_78 : decode cX2_findReceivers 78 = .ok (.iastore, 1) := by decide +kernel
theorem dX2_findReceivers_79 : decode cX2_findReceivers 79 = .ok (.iinc 2 1, 3) := by decide +kernel
theorem dX2_findReceivers_82 : decode cX2_findReceivers 82 = .ok (.goto (-80), 3) := by decide +kernel
theorem dX2_findReceivers_85 : decode cX2_findReceivers 85 = .ok (.return_, 1) := by decide +kernel
theorem dX2_findWays_0 : decode cX2_findWays 0 = .ok (.aload_n 0, 1) := by decide +kernel
theorem dX2_findWays_1 : decode cX2_findWays 1 = .ok (.aload_n 1, 1) := by decide +kernel
theorem dX2_findWays_2 : decode cX2_findWays 2 = .ok (.invokevirtual 47, 3) := by decide +kernel
theorem dX2_findWays_5 : decode cX2_findWays 5 = .ok (.iconst 1, 1) := by decide +kernel
theorem dX2_findWays_6 : decode cX2_findWays 6 = .ok (.aload_n 0, 1) := by decide +kernel
theorem dX2_findWays_7 : decode cX2_findWays 7 = .ok (.getfield 24, 3) := by decide +kernel
theorem dX2_findWays_10 : decode cX2_findWays 10 = .ok (.ishl, 1) := by decide +kernel
theorem dX2_findWays_11 : decode cX2_findWays 11 = .ok (.iconst 1, 1) := by decide +kernel
theorem dX2_findWays_12 : decode cX2_findWays 12 = .ok (.isub, 1) := by decide +kernel
theorem dX2_findWays_13 : decode cX2_findWays 13 = .ok (.istore_n 2, 1) := by decide +kernel
theorem dX2_findWays_14 : decode cX2_findWays 14 = .ok (.aload_n 0, 1) := by decide +kernel
theorem dX2_findWays_15 : decode cX2_findWays 15 = .ok (.getfield 21, 3) := by decide +kernel
theorem dX2_findWays_18 : decode cX2_findWays 18 = .ok (.iload_n 2, 1) := by decide +kernel
theorem dX2_findWays_19 : decode cX2_findWays 19 = .ok (.iconst 1, 1) := by decide +kernel
theorem dX2_findWays_20 : decode cX2_findWays 20 = .ok (.iastore, 1) := by decide +kernel
theorem dX2_findWays_21 : decode cX2_findWays 21 = .ok (.iload_n 2, 1) := by decide +kernel
theorem dX2_findWays_22 : decode cX2_findWays 22 = .ok (.iconst 1, 1) := by decide +kernel
theorem dX2_findWays_23 : decode cX2_findWays 23 = .ok (.isub, 1) := by decide +kernel
theorem dX2_findWays_24 : decode cX2_findWays 24 = .ok (.istore_n 3, 1) := by decide +kernel
theorem dX2_findWays_25 : decode cX2_findWays 25 = .ok (.iload_n 3, 1) := by decide +kernel
theorem dX2_findWays_26 : decode cX2_findWays 26 = .ok (.ifCond .lt 84, 3) := by decide +kernel
theorem dX2_findWays_29 : decode cX2_findWays 29 = .ok (.aload_n 0, 1) := by decide +kernel
theorem dX2_findWays_30 : decode cX2_findWays 30 = .ok (.getfield 17, 3) := by decide +kernel
theorem dX2_findWays_33 : decode cX2_findWays 33 = .ok (.iload_n 3, 1) := by decide +kernel
theorem dX2_findWays_34 : decode cX2_findWays 34 = .ok (.invokestatic 50, 3) := by decide +kernel
theorem dX2_findWays_37 : decode cX2_findWays 37 = .ok (.iaload, 1) := by decide +kernel
theorem dX2_findWays_38 : decode cX2_findWays 38 = .ok (.iload_n 3, 1) := by decide +kernel
theorem dX2_findWays_39 : decode cX2_findWays 39 = .ok (.iconst (-1), 1) := by decide +kernel
theorem dX2_findWays_40 : decode cX2_findWays 40 = .ok (.ixor, 1) := by decide +kernel
theorem dX2_findWays_41 : decode cX2_findWays 41 = .ok (.iand, 1) := by decide +kernel
theorem dX2_findWays_42 : decode cX2_findWays 42 = .ok (.istore 4, 2) := by decide +kernel
theorem dX2_findWays_44 : decode cX2_findWays 44 = .ok (.iconst 0, 1) := by decide +kernel
theorem dX2_findWays_45 : decode cX2_findWays 45 = .ok (.istore 5, 2) := by decide +kernel
theorem dX2_findWays_47 : decode cX2_findWays 47 = .ok (.iconst 0, 1) := by decide +kernel
theorem dX2_findWays_48 : decode cX2_findWays 48 = .ok (.istore 6, 2) := by decide +kernel
theorem dX2_findWays_50 : decode cX2_findWays 50 = .ok (.iload 6, 2) := by decide +kernel
theorem dX2_findWays_52 : decode cX2_findWays 52 = .ok (.aload_n 0, 1) := by decide +kernel
theorem dX2_findWays_53 : decode cX2_findWays 53 = .ok (.getfield 24, 3) := by decide +kernel
theorem dX2_findWays_56 : decode cX2_findWays 56 = .ok (.if_icmp .ge 40, 3) := by decide +kernel
theorem dX2_findWays_59 : decode cX2_findWays 59 = .ok (.iload 5, 2) := by decide +kernel
theorem dX2_findWays_61 : decode cX2_findWays 61 = .ok (.iload 4, 2) := by decide +kernel
theorem dX2_findWays_63 : decode cX2_findWays 63 = .ok (.iload 6, 2) := by decide +kernel
theorem dX2_findWays_65 : decode cX2_findWays 65 = .ok (.invokestatic 43, 3) := by decide +kernel
theorem dX2_findWays_68 : decode cX2_findWays 68 = .ok (.ifCond .eq 18, 3) := by decide +kernel
theorem dX2_findWays_71 : decode cX2_findWays 71 = .ok (.aload_n 0, 1) := by decide +kernel
theorem dX2_findWays_72 : decode cX2_findWays 72 = .ok (.getfield 21, 3) := by decide +kernel
theorem dX2_findWays_75 : decode cX2_findWays 75 = .ok (.iload_n 3, 1) := by decide +kernel
theorem dX2_findWays_76 : decode cX2_findWays 76 = .ok (.iload 6, 2) := by decide +kernel
theorem dX2_findWays_78 : decode cX2_findWays 78 = .ok (.iconst 1, 1) := by decide +kernel
theorem dX2_findWays_79 : decode cX2_findWays 79 = .ok (.invokestatic 39, 3) := by decide +kernel
theorem dX2_findWays_82 : decode cX2_findWays 82 = .ok (.iaload, 1) := by decide +kernel
theorem dX2_findWays_83 : decode cX2_findWays 83 = .ok (.goto 4, 3) := by decide +kernel
theorem dX2_findWays_86 : decode cX2_findWays 86 = .ok (.iconst 0, 1) := by decide +kernel
theorem dX2_findWays_87 : decode cX2_findWays 87 = .ok (.iadd, 1) := by decide +kernel
theorem dX2_findWays_88 : decode cX2_findWays 88 = .ok (.istore 5, 2) := by decide +kernel
theorem dX2_findWays_90 : decode cX2_findWays 90 = .ok (.iinc 6 1, 3) := by decide +kernel
theorem dX2_findWays_93 : decode cX2_findWays 93 = .ok (.goto (-43), 3) := by decide +kernel
theorem dX2_findWays_96 : decode cX2_findWays 96 = .ok (.aload_n 0, 1) := by decide +kernel
theorem dX2_findWays_97 : decode cX2_findWays 97 = .ok (.getfield 21, 3) := by decide +kernel
theorem dX2_findWays_100 : decode cX2_findWays 100 = .ok (.iload_n 3, 1) := by decide +kernel
theorem dX2_findWays_101 : decode cX2_findWays 101 = .ok (.iload 5, 2) := by decide +kernel
theorem dX2_findWays_103 : decode cX2_findWays 103 = .ok (.iastore, 1) := by decide +kernel
theorem dX2_findWays_104 : decode cX2_findWays 104 = .ok (.iinc 3 (-1), 3) := by decide +kernel
theorem dX2_findWays_107 : decode cX2_findWays 107 = .ok (.goto (-82), 3) := by decide +kernel
theorem dX2_findWays_110 : decode cX2_findWays 110 = .ok (.return_, 1) := by decide +kernel
theorem dX2_lowestReceiver_0 : decode cX2_lowestReceiver 0 = .ok (.aload_n 0, 1) := by decide +kernel
theorem dX2_lowestReceiver_1 : decode cX2_lowestReceiver 1 = .ok (.getfield 17, 3) := by decide +kernel
theorem dX2_lowestReceiver_4 : decode cX2_lowestReceiver 4 = .ok (.iload_n 1, 1) := by decide +kernel
theorem dX2_lowestReceiver_5 : decode cX2_lowestReceiver 5 = .ok (.iaload, 1) := by decide +kernel
theorem dX2_lowestReceiver_6 : decode cX2_lowestReceiver 6 = .ok (.iload_n 2, 1) := by decide +kernel
theorem dX2_lowestReceiver_7 : decode cX2_lowestReceiver 7 = .ok (.iconst (-1), 1) := by decide +kernel
theorem dX2_lowestReceiver_8 : decode cX2_lowestReceiver 8 = .ok (.ixor, 1) := by decide +kernel
theorem dX2_lowestReceiver_9 : decode cX2_lowestReceiver 9 = .ok (.iand, 1) := by decide +kernel
theorem dX2_lowestReceiver_10 : decode cX2_lowestReceiver 10 = .ok (.istore_n 3, 1) := by decide +kernel
theorem dX2_lowestReceiver_11 : decode cX2_lowestReceiver 11 = .ok (.iconst 0, 1) := by decide +kernel
theorem dX2_lowestReceiver_12 : decode cX2_lowestReceiver 12 = .ok (.istore 4, 2) := by decide +kernel
theorem dX2_lowestReceiver_14 : decode cX2_lowestReceiver 14 = .ok (.iload 4, 2) := by decide +kernel
theorem dX2_lowestReceiver_16 : decode cX2_lowestReceiver 16 = .ok (.aload_n 0, 1) := by decide +kernel
theorem dX2_lowestReceiver_17 : decode cX2_lowestReceiver 17 = .ok (.getfield 24, 3) := by decide +kernel
theorem dX2_lowestReceiver_20 : decode cX2_lowestReceiver 20 = .ok (.if_icmp .ge 36, 3) := by decide +kernel
theorem dX2_lowestReceiver_23 : decode cX2_lowestReceiver 23 = .ok (.iload_n 3, 1) := by decide +kernel
theorem dX2_lowestReceiver_24 : decode cX2_lowestReceiver 24 = .ok (.iload 4, 2) := by decide +kernel
theorem dX2_lowestReceiver_26 : decode cX2_lowestReceiver 26 = .ok (.invokestatic 43, 3) := by decide +kernel
theorem dX2_lowestReceiver_29 : decode cX2_lowestReceiver 29 = .ok (.ifCond .eq 21, 3) := by decide +kernel
theorem dX2_lowestReceiver_32 : decode cX2_lowestReceiver 32 = .ok (.aload_n 0, 1) := by decide +kernel
theorem dX2_lowestReceiver_33 : decode cX2_lowestReceiver 33 = .ok (.getfield 21, 3) := by decide +kernel
theorem dX2_lowestReceiver_36 : decode cX2_lowestReceiver 36 = .ok (.iload_n 2, 1) := by decide +kernel
theorem dX2_lowestReceiver_37 : decode cX2_lowestReceiver 37 = .ok (.iload 4, 2) := by decide +kernel
theorem dX2_lowestReceiver_39 : decode cX2_lowestReceiver 39 = .ok (.iconst 1, 1) := by decide +kernel
theorem dX2_lowestReceiver_40 : decode cX2_lowestReceiver 40 = .ok (.invokestatic 39, 3) := by decide +kernel
theorem dX2_lowestReceiver_43 : decode cX2_lowestReceiver 43 = .ok (.iaload, 1) := by decide +kernel
theorem dX2_lowestReceiver_44 : decode cX2_lowestReceiver 44 = .ok (.ifCond .le 6, 3) := by decide +kernel
theorem dX2_lowestReceiver_47 : decode cX2_lowestReceiver 47 = .ok (.iload 4, 2) := by decide +kernel
theorem dX2_lowestReceiver_49 : decode cX2_lowestReceiver 49 = .ok (.ireturn, 1) := by decide +kernel
theorem dX2_lowestReceiver_50 : decode cX2_lowestReceiver 50 = .ok (.iinc 4 1, 3) := by decide +kernel
theorem dX2_lowestReceiver_53 : decode cX2_lowestReceiver 53 = .ok (.goto (-39), 3) := by decide +kernel
theorem dX2_lowestReceiver_56 : decode cX2_lowestReceiver 56 = .ok (.iconst (-1), 1) := by decide +kernel
theorem dX2_lowestReceiver_57 : decode cX2_lowestReceiver 57 = .ok (.ireturn, 1) := by decide +kernel
theorem dX2_receiverOf_0 : decode cX2_receiverOf 0 = .ok (.aload_n 0, 1) := by decide +kernel
theorem dX2_receiverOf_1 : decode cX2_receiverOf 1 = .ok (.aload_n 2, 1) := by decide +kernel
theorem dX2_receiverOf_2 : decode cX2_receiverOf 2 = .ok (.invokevirtual 31, 3) := by decide +kernel
theorem dX2_receiverOf_5 : decode cX2_receiverOf 5 = .ok (.iconst (-1), 1) := by decide +kernel
theorem dX2_receiverOf_6 : decode cX2_receiverOf 6 = .ok (.istore_n 3, 1) := by decide +kernel
theorem dX2_receiverOf_7 : decode cX2_receiverOf 7 = .ok (.iconst 0, 1) := by decide +kernel
theorem dX2_receiverOf_8 : decode cX2_receiverOf 8 = .ok (.istore 4, 2) := by decide +kernel
theorem dX2_receiverOf_10 : decode cX2_receiverOf 10 = .ok (.iconst 0, 1) := by decide +kernel
theorem dX2_receiverOf_11 : decode cX2_receiverOf 11 = .ok (.istore 5, 2) := by decide +kernel
theorem dX2_receiverOf_13 : decode cX2_receiverOf 13 = .ok (.iload 5, 2) := by decide +kernel
theorem dX2_receiverOf_15 : decode cX2_receiverOf 15 = .ok (.iload_n 1, 1) := by decide +kernel
theorem dX2_receiverOf_16 : decode cX2_receiverOf 16 = .ok (.if_icmp .gt 47, 3) := by decide +kernel
theorem dX2_receiverOf_19 : decode cX2_receiverOf 19 = .ok (.aload_n 0, 1) := by decide +kernel
theorem dX2_receiverOf_20 : decode cX2_receiverOf 20 = .ok (.getfield 21, 3) := by decide +kernel
theorem dX2_receiverOf_23 : decode cX2_receiverOf 23 = .ok (.iload 4, 2) := by decide +kernel
theorem dX2_receiverOf_25 : decode cX2_receiverOf 25 = .ok (.iaload, 1) := by decide +kernel
theorem dX2_receiverOf_26 : decode cX2_receiverOf 26 = .ok (.ifCond .le 37, 3) := by decide +kernel
theorem dX2_receiverOf_29 : decode cX2_receiverOf 29 = .ok (.aload_n 0, 1) := by decide +kernel
theorem dX2_receiverOf_30 : decode cX2_receiverOf 30 = .ok (.iload 5, 2) := by decide +kernel
theorem dX2_receiverOf_32 : decode cX2_receiverOf 32 = .ok (.iload 4, 2) := by decide +kernel
theorem dX2_receiverOf_34 : decode cX2_receiverOf 34 = .ok (.invokevirtual 35, 3) := by decide +kernel
theorem dX2_receiverOf_37 : decode cX2_receiverOf 37 = .ok (.istore_n 3, 1) := by decide +kernel
theorem dX2_receiverOf_38 : decode cX2_receiverOf 38 = .ok (.iload_n 3, 1) := by decide +kernel
theorem dX2_receiverOf_39 : decode cX2_receiverOf 39 = .ok (.iconst (-1), 1) := by decide +kernel
theorem dX2_receiverOf_40 : decode cX2_receiverOf 40 = .ok (.if_icmp .ne 8, 3) := by decide +kernel
theorem dX2_receiverOf_43 : decode cX2_receiverOf 43 = .ok (.iload 4, 2) := by decide +kernel
theorem dX2_receiverOf_45 : decode cX2_receiverOf 45 = .ok (.goto 10, 3) := by decide +kernel
theorem dX2_receiverOf_48 : decode cX2_receiverOf 48 = .ok (.iload 4, 2) := by decide +kernel
theorem dX2_receiverOf_50 : decode cX2_receiverOf 50 = .ok (.iload_n 3, 1) := by decide +kernel
theorem dX2_receiverOf_51 : decode cX2_receiverOf 51 = .ok (.iconst 1, 1) := by decide +kernel
theorem dX2_receiverOf_52 : decode cX2_receiverOf 52 = .ok (.invokestatic 39, 3) := by decide +kernel
theorem dX2_receiverOf_55 : decode cX2_receiverOf 55 = .ok (.istore 4, 2) := by decide +kernel
theorem dX2_receiverOf_57 : decode cX2_receiverOf 57 = .ok (.iinc 5 1, 3) := by decide +kernel
theorem dX2_receiverOf_60 : decode cX2_receiverOf 60 = .ok (.goto (-47), 3) := by decide +kernel
theorem dX2_receiverOf_63 : decode cX2_receiverOf 63 = .ok (.iload_n 3, 1) := by decide +kernel
theorem dX2_receiverOf_64 : decode cX2_receiverOf 64 = .ok (.ireturn, 1) := by decide +kernel
theorem dX10_match_0 : decode cX10_match 0 = .ok (.iload_n 1, 1) := by decide +kernel
theorem dX10_match_1 : decode cX10_match 1 = .ok (.ifCond .lt 14, 3) := by decide +kernel
theorem dX10_match_4 : decode cX10_match 4 = .ok (.iload_n 1, 1) := by decide +kernel
theorem dX10_match_5 : decode cX10_match 5 = .ok (.aload_n 0, 1) := by decide +kernel
theorem dX10_match_6 : decode cX10_match 6 = .ok (.getfield 55, 3) := by decide +kernel
theorem dX10_match_9 : decode cX10_match 9 = .ok (.getfield 294, 3) := by decide +kernel
theorem dX10_match_12 : decode cX10_match 12 = .ok (.if_icmp .lt 14, 3) := by decide +kernel
theorem dX10_match_15 : decode cX10_match 15 = .ok (.new 162, 3) := by decide +kernel
theorem dX10_match_18 : decode cX10_match 18 = .ok (.dup, 1) := by decide +kernel
theorem dX10_match_19 : decode cX10_match 19 = .ok (.ldc_w 305, 3) := by decide +kernel
theorem dX10_match_22 : decode cX10_match 22 = .ok (.invokespecial 166, 3) := by decide +kernel
theorem dX10_match_25 : decode cX10_match 25 = .ok (.athrow, 1) := by decide +kernel
theorem dX10_match_26 : decode cX10_match 26 = .ok (.aload_n 0, 1) := by decide +kernel
theorem dX10_match_27 : decode cX10_match 27 = .ok (.getfield 55, 3) := by decide +kernel
theorem dX10_match_30 : decode cX10_match 30 = .ok (.iload_n 1, 1) := by decide +kernel
theorem dX10_match_31 : decode cX10_match 31 = .ok (.aload_n 0, 1) := by decide +kernel
theorem dX10_match_32 : decode cX10_match 32 = .ok (.getfield 34, 3) := by decide +kernel
theorem dX10_match_35 : decode cX10_match 35 = .ok (.invokevirtual 307, 3) := by decide +kernel
theorem dX10_match_38 : decode cX10_match 38 = .ok (.ireturn, 1) := by decide +kernel
theorem dX10_countFiledUnder_0 : decode cX10_countFiledUnder 0 = .ok (.iconst 0, 1) := by decide +kernel
theorem dX10_countFiledUnder_1 : decode cX10_countFiledUnder 1 = .ok (.istore_n 2, 1) := by decide +kernel
theorem dX10_countFiledUnder_2 : decode cX10_countFiledUnder 2 = .ok (.iconst 0, 1) := by decide +kernel
theorem dX10_countFiledUnder_3 : decode cX10_countFiledUnder 3 = .ok (.istore_n 3, 1) := by decide +kernel
theorem dX10_countFiledUnder_4 : decode cX10_countFiledUnder 4 = .ok (.iload_n 3, 1) := by decide +kernel
theorem dX10_countFiledUnder_5 : decode cX10_countFiledUnder 5 = .ok (.aload_n 0, 1) := by decide +kernel
theorem dX10_countFiledUnder_6 : decode cX10_countFiledUnder 6 = .ok (.getfield 104, 3) := by decide +kernel
theorem dX10_countFiledUnder_9 : decode cX10_countFiledUnder 9 = .ok (.if_icmp .ge 33, 3) := by decide +kernel
theorem dX10_countFiledUnder_12 : decode cX10_countFiledUnder 12 = .ok (.iload_n 2, 1) := by decide +kernel
theorem dX10_countFiledUnder_13 : decode cX10_countFiledUnder 13 = .ok (.aload_n 0, 1) := by decide +kernel
theorem dX10_countFiledUnder_14 : decode cX10_countFiledUnder 14 = .ok (.getfield 21, 3) := by decide +kernel
theorem dX10_countFiledUnder_17 : decode cX10_countFiledUnder 17 = .ok (.iload_n 3, 1) := by decide +kernel
theorem dX10_countFiledUnder_18 : decode cX10_countFiledUnder 18 = .ok (.aaload, 1) := by decide +kernel
theorem dX10_countFiledUnder_19 : decode cX10_countFiledUnder 19 = .ok (.getfield 388, 3) := by decide +kernel
theorem dX10_countFiledUnder_22 : decode cX10_countFiledUnder 22 = .ok (.iload_n 1, 1) := by decide +kernel
theorem dX10_countFiledUnder_23 : decode cX10_countFiledUnder 23 = .ok (.invokestatic 91, 3) := by decide +kernel
theorem dX10_countFiledUnder_26 : decode cX10_countFiledUnder 26 = .ok (.ifCond .eq 7, 3) := by decide +kernel
theorem dX10_countFiledUnder_29 : decode cX10_countFiledUnder 29 = .ok (.iconst 1, 1) := by decide +kernel
theorem dX10_countFiledUnder_30 : decode cX10_countFiledUnder 30 = .ok (.goto 4, 3) := by decide +kernel
theorem dX10_countFiledUnder_33 : decode cX10_countFiledUnder 33 = .ok (.iconst 0, 1) := by decide +kernel
theorem dX10_countFiledUnder_34 : decode cX10_countFiledUnder 34 = .ok (.iadd, 1) := by decide +kernel
theorem dX10_countFiledUnder_35 : decode cX10_countFiledUnder 35 = .ok (.istore_n 2, 1) := by decide +kernel
theorem dX10_countFiledUnder_36 : decode cX10_countFiledUnder 36 = .ok (.iinc 3 1, 3) := by decide +kernel
theorem dX10_countFiledUnder_39 : decode cX10_countFiledUnder 39 = .ok (.goto (-35), 3) := by decide +kernel
theorem dX10_countFiledUnder_42 : decode cX10_countFiledUnder 42 = .ok (.iload_n 2, 1) := by decide +kernel
theorem dX10_countFiledUnder_43 : decode cX10_countFiledUnder 43 = .ok (.ireturn, 1) := by decide +kernel
theorem dX10_countWith_0 : decode cX10_countWith 0 = .ok (.iconst 0, 1) := by decide +kernel
theorem dX10_countWith_1 : decode cX10_countWith 1 = .ok (.istore_n 2, 1) := by decide +kernel
theorem dX10_countWith_2 : decode cX10_countWith 2 = .ok (.iconst 0, 1) := by decide +kernel
theorem dX10_countWith_3 : decode cX10_countWith 3 = .ok (.istore_n 3, 1) := by decide +kernel
theorem dX10_countWith_4 : decode cX10_countWith 4 = .ok (.iload_n 3, 1) := by decide +kernel
theorem dX10_countWith_5 : decode cX10_countWith 5 = .ok (.aload_n 0, 1) := by decide +kernel
theorem dX10_countWith_6 : decode cX10_countWith 6 = .ok (.getfield 104, 3) := by decide +kernel
theorem dX10_countWith_9 : decode cX10_countWith 9 = .ok (.if_icmp .ge 33, 3) := by decide +kernel
theorem dX10_countWith_12 : decode cX10_countWith 12 = .ok (.iload_n 2, 1) := by decide +kernel
theorem dX10_countWith_13 : decode cX10_countWith 13 = .ok (.aload_n 0, 1) := by decide +kernel
theorem dX10_countWith_14 : decode cX10_countWith 14 = .ok (.getfield 21, 3) := by decide +kernel
theorem dX10_countWith_17 : decode cX10_countWith 17 = .ok (.iload_n 3, 1) := by decide +kernel
theorem dX10_countWith_18 : decode cX10_countWith 18 = .ok (.aaload, 1) := by decide +kernel
theorem dX10_countWith_19 : decode cX10_countWith 19 = .ok (.getfield 234, 3) := by decide +kernel
theorem dX10_countWith_22 : decode cX10_countWith 22 = .ok (.iload_n 1, 1) := by decide +kernel
theorem dX10_countWith_23 : decode cX10_countWith 23 = .ok (.invokestatic 91, 3) := by decide +kernel
theorem dX10_countWith_26 : decode cX10_countWith 26 = .ok (.ifCond .eq 7, 3) := by decide +kernel
theorem dX10_countWith_29 : decode cX10_countWith 29 = .ok (.iconst 1, 1) := by decide +kernel
theorem dX10_countWith_30 : decode cX10_countWith 30 = .ok (.goto 4, 3) := by decide +kernel
theorem dX10_countWith_33 : decode cX10_countWith 33 = .ok (.iconst 0, 1) := by decide +kernel
theorem dX10_countWith_34 : decode cX10_countWith 34 = .ok (.iadd, 1) := by decide +kernel
theorem dX10_countWith_35 : decode cX10_countWith 35 = .ok (.istore_n 2, 1) := by decide +kernel
theorem dX10_countWith_36 : decode cX10_countWith 36 = .ok (.iinc 3 1, 3) := by decide +kernel
theorem dX10_countWith_39 : decode cX10_countWith 39 = .ok (.goto (-35), 3) := by decide +kernel
theorem dX10_countWith_42 : decode cX10_countWith 42 = .ok (.iload_n 2, 1) := by decide +kernel
theorem dX10_countWith_43 : decode cX10_countWith 43 = .ok (.ireturn, 1) := by decide +kernel
theorem dX7_aboveOf_0 : decode cX7_aboveOf 0 = .ok (.aload_n 0, 1) := by decide +kernel
theorem dX7_aboveOf_1 : decode cX7_aboveOf 1 = .ok (.getfield 18, 3) := by decide +kernel
theorem dX7_aboveOf_4 : decode cX7_aboveOf 4 = .ok (.iload_n 1, 1) := by decide +kernel
theorem dX7_aboveOf_5 : decode cX7_aboveOf 5 = .ok (.iaload, 1) := by decide +kernel
theorem dX7_aboveOf_6 : decode cX7_aboveOf 6 = .ok (.ireturn, 1) := by decide +kernel
theorem dX7_meaningOf_0 : decode cX7_meaningOf 0 = .ok (.aload_n 0, 1) := by decide +kernel
theorem dX7_meaningOf_1 : decode cX7_meaningOf 1 = .ok (.getfield 9, 3) := by decide +kernel
theorem dX7_meaningOf_4 : decode cX7_meaningOf 4 = .ok (.iload_n 1, 1) := by decide +kernel
theorem dX7_meaningOf_5 : decode cX7_meaningOf 5 = .ok (.iaload, 1) := by decide +kernel
theorem dX7_meaningOf_6 : decode cX7_meaningOf 6 = .ok (.ireturn, 1) := by decide +kernel
theorem dX10_ofTag_0 : decode cX10_ofTag 0 = .ok (.aload_n 0, 1) := by decide +kernel
theorem dX10_ofTag_1 : decode cX10_ofTag 1 = .ok (.iload_n 1, 1) := by decide +kernel
theorem dX10_ofTag_2 : decode cX10_ofTag 2 = .ok (.invokevirtual 189, 3) := by decide +kernel
theorem dX10_ofTag_5 : decode cX10_ofTag 5 = .ok (.iload_n 2, 1) := by decide +kernel
theorem dX10_ofTag_6 : decode cX10_ofTag 6 = .ok (.tableswitch 73 0 4 #[34, 43, 52, 61, 67], 34) := by decide +kernel
theorem dX10_ofTag_40 : decode cX10_ofTag 40 = .ok (.aload_n 0, 1) := by decide +kernel
theorem dX10_ofTag_41 : decode cX10_ofTag 41 = .ok (.getfield 34, 3) := by decide +kernel
theorem dX10_ofTag_44 : decode cX10_ofTag 44 = .ok (.iload_n 1, 1) := by decide +kernel
theorem dX10_ofTag_45 : decode cX10_ofTag 45 = .ok (.invokevirtual 192, 3) := by decide +kernel
theorem dX10_ofTag_48 : decode cX10_ofTag 48 = .ok (.ireturn, 1) := by decide +kernel
theorem dX10_ofTag_49 : decode cX10_ofTag 49 = .ok (.aload_n 0, 1) := by decide +kernel
theorem dX10_ofTag_50 : decode cX10_ofTag 50 = .ok (.getfield 34, 3) := by decide +kernel
theorem dX10_ofTag_53 : decode cX10_ofTag 53 = .ok (.iload_n 1, 1) := by decide +kernel
theorem dX10_ofTag_54 : decode cX10_ofTag 54 = .ok (.invokevirtual 220, 3) := by decide +kernel
theorem dX10_ofTag_57 : decode cX10_ofTag 57 = .ok (.ireturn, 1) := by decide +kernel
theorem dX10_ofTag_58 : decode cX10_ofTag 58 = .ok (.aload_n 0, 1) := by decide +kernel
theorem dX10_ofTag_59 : decode cX10_ofTag 59 = .ok (.getfield 34, 3) := by decide +kernel
theorem dX10_ofTag_62 : decode cX10_ofTag 62 = .ok (.iload_n 1, 1) := by decide +kernel
theorem dX10_ofTag_63 : decode cX10_ofTag 63 = .ok (.invokevirtual 223, 3) := by decide +kernel
theorem dX10_ofTag_66 : decode cX10_ofTag 66 = .ok (.ireturn, 1) := by decide +kernel
theorem dX10_ofTag_67 : decode cX10_ofTag 67 = .ok (.aload_n 0, 1) := by decide +kernel
theorem dX10_ofTag_68 : decode cX10_ofTag 68 = .ok (.iload_n 1, 1) := by decide +kernel
theorem dX10_ofTag_69 : decode cX10_ofTag 69 = .ok (.invokevirtual 226, 3) := by decide +kernel
theorem dX10_ofTag_72 : decode cX10_ofTag 72 = .ok (.ireturn, 1) := by decide +kernel
theorem dX10_ofTag_73 : decode cX10_ofTag 73 = .ok (.aload_n 0, 1) := by decide +kernel
theorem dX10_ofTag_74 : decode cX10_ofTag 74 = .ok (.iload_n 1, 1) := by decide +kernel
theorem dX10_ofTag_75 : decode cX10_ofTag 75 = .ok (.invokevirtual 229, 3) := by decide +kernel
theorem dX10_ofTag_78 : decode cX10_ofTag 78 = .ok (.ireturn, 1) := by decide +kernel
theorem dX10_ofTag_79 : decode cX10_ofTag 79 = .ok (.new 66, 3) := by decide +kernel
theorem dX10_ofTag_82 : decode cX10_ofTag 82 = .ok (.dup, 1) := by decide +kernel
theorem dX10_ofTag_83 : decode cX10_ofTag 83 = .ok (.ldc 232, 2) := by decide +kernel
theorem dX10_ofTag_85 : decode cX10_ofTag 85 = .ok (.invokespecial 70, 3) := by decide +kernel
theorem dX10_ofTag_88 : decode cX10_ofTag 88 = .ok (.athrow, 1) := by decide +kernel
theorem dX9_fileUnder_0 : decode cX9_fileUnder 0 = .ok (.aload_n 0, 1) := by decide +kernel
theorem dX9_fileUnder_1 : decode cX9_fileUnder 1 = .ok (.iload_n 1, 1) := by decide +kernel
theorem dX9_fileUnder_2 : decode cX9_fileUnder 2 = .ok (.putfield 73, 3) := by decide +kernel
theorem dX9_fileUnder_5 : decode cX9_fileUnder 5 = .ok (.aload_n 0, 1) := by decide +kernel
theorem dX9_fileUnder_6 : decode cX9_fileUnder 6 = .ok (.iconst 0, 1) := by decide +kernel
theorem dX9_fileUnder_7 : decode cX9_fileUnder 7 = .ok (.putfield 76, 3) := by decide +kernel
theorem dX9_fileUnder_10 : decode cX9_fileUnder 10 = .ok (.return_, 1) := by decide +kernel
theorem dX10_put_0 : decode cX10_put 0 = .ok (.aload_n 0, 1) := by decide +kernel
theorem dX10_put_1 : decode cX10_put 1 = .ok (.iload_n 1, 1) := by decide +kernel
theorem dX10_put_2 : decode cX10_put 2 = .ok (.invokevirtual 112, 3) := by decide +kernel
theorem dX10_put_5 : decode cX10_put 5 = .ok (.astore 4, 2) := by decide +kernel
theorem dX10_put_7 : decode cX10_put 7 = .ok (.aload_n 0, 1) := by decide +kernel
theorem dX10_put_8 : decode cX10_put 8 = .ok (.iload_n 2, 1) := by decide +kernel
theorem dX10_put_9 : decode cX10_put 9 = .ok (.invokevirtual 189, 3) := by decide +kernel
theorem dX10_put_12 : decode cX10_put 12 = .ok (.aload 4, 2) := by decide +kernel
theorem dX10_put_14 : decode cX10_put 14 = .ok (.getfield 234, 3) := by decide +kernel
theorem dX10_put_17 : decode cX10_put 17 = .ok (.iload_n 2, 1) := by decide +kernel
