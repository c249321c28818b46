theorem dL_match_3 : decode cL_match 3 = .ok (.iload_n 1, 1) := by decide +kernel
theorem dL_match_4 : decode cL_match 4 = .ok (.invokevirtual 100, 3) := by decide +kernel
theorem dL_match_7 : decode cL_match 7 = .ok (.i2l, 1) := by decide +kernel
theorem dL_match_8 : decode cL_match 8 = .ok (.lastore, 1) := by decide +kernel
theorem dL_match_9 : decode cL_match 9 = .ok (.goto 6, 3) := by decide +kernel
theorem dL_match_12 : decode cL_match 12 = .ok (.astore_n 3, 1) := by decide +kernel
theorem dL_match_13 : decode cL_match 13 = .ok (.iconst 1, 1) := by decide +kernel
theorem dL_match_14 : decode cL_match 14 = .ok (.ireturn, 1) := by decide +kernel
theorem dL_match_15 : decode cL_match 15 = .ok (.iconst 0, 1) := by decide +kernel
theorem dL_match_16 : decode cL_match 16 = .ok (.ireturn, 1) := by decide +kernel
theorem dX7_isAbove_0 : decode cX7_isAbove 0 = .ok (.aload_n 0, 1) := by decide +kernel
theorem dX7_isAbove_1 : decode cX7_isAbove 1 = .ok (.getfield 18, 3) := by decide +kernel
theorem dX7_isAbove_4 : decode cX7_isAbove 4 = .ok (.iload_n 2, 1) := by decide +kernel
theorem dX7_isAbove_5 : decode cX7_isAbove 5 = .ok (.iaload, 1) := by decide +kernel
theorem dX7_isAbove_6 : decode cX7_isAbove 6 = .ok (.iload_n 1, 1) := by decide +kernel
theorem dX7_isAbove_7 : decode cX7_isAbove 7 = .ok (.invokestatic 25, 3) := by decide +kernel
theorem dX7_isAbove_10 : decode cX7_isAbove 10 = .ok (.ireturn, 1) := by decide +kernel
theorem dX7_findAbove_0 : decode cX7_findAbove 0 = .ok (.aload_n 0, 1) := by decide +kernel
theorem dX7_findAbove_1 : decode cX7_findAbove 1 = .ok (.getfield 15, 3) := by decide +kernel
theorem dX7_findAbove_4 : decode cX7_findAbove 4 = .ok (.iconst 0, 1) := by decide +kernel
theorem dX7_findAbove_5 : decode cX7_findAbove 5 = .ok (.aload_n 0, 1) := by decide +kernel
theorem dX7_findAbove_6 : decode cX7_findAbove 6 = .ok (.getfield 18, 3) := by decide +kernel
theorem dX7_findAbove_9 : decode cX7_findAbove 9 = .ok (.iconst 0, 1) := by decide +kernel
theorem dX7_findAbove_10 : decode cX7_findAbove 10 = .ok (.bipush 30, 2) := by decide +kernel
theorem dX7_findAbove_12 : decode cX7_findAbove 12 = .ok (.invokestatic 36, 3) := by decide +kernel
theorem dX7_findAbove_15 : decode cX7_findAbove 15 = .ok (.iconst 0, 1) := by decide +kernel
theorem dX7_findAbove_16 : decode cX7_findAbove 16 = .ok (.istore_n 1, 1) := by decide +kernel
theorem dX7_findAbove_17 : decode cX7_findAbove 17 = .ok (.iload_n 1, 1) := by decide +kernel
theorem dX7_findAbove_18 : decode cX7_findAbove 18 = .ok (.aload_n 0, 1) := by decide +kernel
theorem dX7_findAbove_19 : decode cX7_findAbove 19 = .ok (.getfield 21, 3) := by decide +kernel
theorem dX7_findAbove_22 : decode cX7_findAbove 22 = .ok (.if_icmp .ge 53, 3) := by decide +kernel
theorem dX7_findAbove_25 : decode cX7_findAbove 25 = .ok (.iconst 0, 1) := by decide +kernel
theorem dX7_findAbove_26 : decode cX7_findAbove 26 = .ok (.istore_n 2, 1) := by decide +kernel
theorem dX7_findAbove_27 : decode cX7_findAbove 27 = .ok (.iload_n 2, 1) := by decide +kernel
theorem dX7_findAbove_28 : decode cX7_findAbove 28 = .ok (.aload_n 0, 1) := by decide +kernel
theorem dX7_findAbove_29 : decode cX7_findAbove 29 = .ok (.getfield 21, 3) := by decide +kernel
theorem dX7_findAbove_32 : decode cX7_findAbove 32 = .ok (.if_icmp .ge 37, 3) := by decide +kernel
theorem dX7_findAbove_35 : decode cX7_findAbove 35 = .ok (.aload_n 0, 1) := by decide +kernel
theorem dX7_findAbove_36 : decode cX7_findAbove 36 = .ok (.getfield 18, 3) := by decide +kernel
theorem dX7_findAbove_39 : decode cX7_findAbove 39 = .ok (.iload_n 2, 1) := by decide +kernel
theorem dX7_findAbove_40 : decode cX7_findAbove 40 = .ok (.iaload, 1) := by decide +kernel
theorem dX7_findAbove_41 : decode cX7_findAbove 41 = .ok (.iload_n 1, 1) := by decide +kernel
theorem dX7_findAbove_42 : decode cX7_findAbove 42 = .ok (.invokestatic 25, 3) := by decide +kernel
theorem dX7_findAbove_45 : decode cX7_findAbove 45 = .ok (.ifCond .eq 18, 3) := by decide +kernel
theorem dX7_findAbove_48 : decode cX7_findAbove 48 = .ok (.aload_n 0, 1) := by decide +kernel
theorem dX7_findAbove_49 : decode cX7_findAbove 49 = .ok (.getfield 18, 3) := by decide +kernel
theorem dX7_findAbove_52 : decode cX7_findAbove 52 = .ok (.iload_n 2, 1) := by decide +kernel
theorem dX7_findAbove_53 : decode cX7_findAbove 53 = .ok (.dup2, 1) := by decide +kernel
theorem dX7_findAbove_54 : decode cX7_findAbove 54 = .ok (.iaload, 1) := by decide +kernel
theorem dX7_findAbove_55 : decode cX7_findAbove 55 = .ok (.aload_n 0, 1) := by decide +kernel
theorem dX7_findAbove_56 : decode cX7_findAbove 56 = .ok (.getfield 18, 3) := by decide +kernel
theorem dX7_findAbove_59 : decode cX7_findAbove 59 = .ok (.iload_n 1, 1) := by decide +kernel
theorem dX7_findAbove_60 : decode cX7_findAbove 60 = .ok (.iaload, 1) := by decide +kernel
theorem dX7_findAbove_61 : decode cX7_findAbove 61 = .ok (.ior, 1) := by decide +kernel
theorem dX7_findAbove_62 : decode cX7_findAbove 62 = .ok (.iastore, 1) := by decide +kernel
theorem dX7_findAbove_63 : decode cX7_findAbove 63 = .ok (.iinc 2 1, 3) := by decide +kernel
theorem dX7_findAbove_66 : decode cX7_findAbove 66 = .ok (.goto (-39), 3) := by decide +kernel
theorem dX7_findAbove_69 : decode cX7_findAbove 69 = .ok (.iinc 1 1, 3) := by decide +kernel
theorem dX7_findAbove_72 : decode cX7_findAbove 72 = .ok (.goto (-55), 3) := by decide +kernel
theorem dX7_findAbove_75 : decode cX7_findAbove 75 = .ok (.return_, 1) := by decide +kernel
theorem dX7_makeAlias_0 : decode cX7_makeAlias 0 = .ok (.iconst 0, 1) := by decide +kernel
theorem dX7_makeAlias_1 : decode cX7_makeAlias 1 = .ok (.istore_n 3, 1) := by decide +kernel
theorem dX7_makeAlias_2 : decode cX7_makeAlias 2 = .ok (.iload_n 3, 1) := by decide +kernel
theorem dX7_makeAlias_3 : decode cX7_makeAlias 3 = .ok (.aload_n 0, 1) := by decide +kernel
theorem dX7_makeAlias_4 : decode cX7_makeAlias 4 = .ok (.getfield 21, 3) := by decide +kernel
theorem dX7_makeAlias_7 : decode cX7_makeAlias 7 = .ok (.if_icmp .ge 61, 3) := by decide +kernel
theorem dX7_makeAlias_10 : decode cX7_makeAlias 10 = .ok (.aload_n 0, 1) := by decide +kernel
theorem dX7_makeAlias_11 : decode cX7_makeAlias 11 = .ok (.getfield 9, 3) := by decide +kernel
theorem dX7_makeAlias_14 : decode cX7_makeAlias 14 = .ok (.iload_n 3, 1) := by decide +kernel
theorem dX7_makeAlias_15 : decode cX7_makeAlias 15 = .ok (.iaload, 1) := by decide +kernel
theorem dX7_makeAlias_16 : decode cX7_makeAlias 16 = .ok (.iload_n 1, 1) := by decide +kernel
theorem dX7_makeAlias_17 : decode cX7_makeAlias 17 = .ok (.if_icmp .ne 10, 3) := by decide +kernel
theorem dX7_makeAlias_20 : decode cX7_makeAlias 20 = .ok (.aload_n 0, 1) := by decide +kernel
theorem dX7_makeAlias_21 : decode cX7_makeAlias 21 = .ok (.getfield 9, 3) := by decide +kernel
theorem dX7_makeAlias_24 : decode cX7_makeAlias 24 = .ok (.iload_n 3, 1) := by decide +kernel
theorem dX7_makeAlias_25 : decode cX7_makeAlias 25 = .ok (.iload_n 2, 1) := by decide +kernel
theorem dX7_makeAlias_26 : decode cX7_makeAlias 26 = .ok (.iastore, 1) := by decide +kernel
theorem dX7_makeAlias_27 : decode cX7_makeAlias 27 = .ok (.aload_n 0, 1) := by decide +kernel
theorem dX7_makeAlias_28 : decode cX7_makeAlias 28 = .ok (.getfield 15, 3) := by decide +kernel
theorem dX7_makeAlias_31 : decode cX7_makeAlias 31 = .ok (.iload_n 3, 1) := by decide +kernel
theorem dX7_makeAlias_32 : decode cX7_makeAlias 32 = .ok (.iaload, 1) := by decide +kernel
theorem dX7_makeAlias_33 : decode cX7_makeAlias 33 = .ok (.iload_n 1, 1) := by decide +kernel
theorem dX7_makeAlias_34 : decode cX7_makeAlias 34 = .ok (.invokestatic 25, 3) := by decide +kernel
theorem dX7_makeAlias_37 : decode cX7_makeAlias 37 = .ok (.ifCond .eq 25, 3) := by decide +kernel
theorem dX7_makeAlias_40 : decode cX7_makeAlias 40 = .ok (.aload_n 0, 1) := by decide +kernel
theorem dX7_makeAlias_41 : decode cX7_makeAlias 41 = .ok (.getfield 15, 3) := by decide +kernel
theorem dX7_makeAlias_44 : decode cX7_makeAlias 44 = .ok (.iload_n 3, 1) := by decide +kernel
theorem dX7_makeAlias_45 : decode cX7_makeAlias 45 = .ok (.aload_n 0, 1) := by decide +kernel
theorem dX7_makeAlias_46 : decode cX7_makeAlias 46 = .ok (.getfield 15, 3) := by decide +kernel
theorem dX7_makeAlias_49 : decode cX7_makeAlias 49 = .ok (.iload_n 3, 1) := by decide +kernel
theorem dX7_makeAlias_50 : decode cX7_makeAlias 50 = .ok (.iaload, 1) := by decide +kernel
theorem dX7_makeAlias_51 : decode cX7_makeAlias 51 = .ok (.iload_n 1, 1) := by decide +kernel
theorem dX7_makeAlias_52 : decode cX7_makeAlias 52 = .ok (.iconst 0, 1) := by decide +kernel
theorem dX7_makeAlias_53 : decode cX7_makeAlias 53 = .ok (.invokestatic 29, 3) := by decide +kernel
theorem dX7_makeAlias_56 : decode cX7_makeAlias 56 = .ok (.iload_n 2, 1) := by decide +kernel
theorem dX7_makeAlias_57 : decode cX7_makeAlias 57 = .ok (.iconst 1, 1) := by decide +kernel
theorem dX7_makeAlias_58 : decode cX7_makeAlias 58 = .ok (.invokestatic 29, 3) := by decide +kernel
theorem dX7_makeAlias_61 : decode cX7_makeAlias 61 = .ok (.iastore, 1) := by decide +kernel
theorem dX7_makeAlias_62 : decode cX7_makeAlias 62 = .ok (.iinc 3 1, 3) := by decide +kernel
theorem dX7_makeAlias_65 : decode cX7_makeAlias 65 = .ok (.goto (-63), 3) := by decide +kernel
theorem dX7_makeAlias_68 : decode cX7_makeAlias 68 = .ok (.aload_n 0, 1) := by decide +kernel
theorem dX7_makeAlias_69 : decode cX7_makeAlias 69 = .ok (.getfield 9, 3) := by decide +kernel
theorem dX7_makeAlias_72 : decode cX7_makeAlias 72 = .ok (.iload_n 1, 1) := by decide +kernel
theorem dX7_makeAlias_73 : decode cX7_makeAlias 73 = .ok (.iload_n 2, 1) := by decide +kernel
theorem dX7_makeAlias_74 : decode cX7_makeAlias 74 = .ok (.iastore, 1) := by decide +kernel
theorem dX7_makeAlias_75 : decode cX7_makeAlias 75 = .ok (.aload_n 0, 1) := by decide +kernel
theorem dX7_makeAlias_76 : decode cX7_makeAlias 76 = .ok (.getfield 15, 3) := by decide +kernel
theorem dX7_makeAlias_79 : decode cX7_makeAlias 79 = .ok (.iload_n 1, 1) := by decide +kernel
theorem dX7_makeAlias_80 : decode cX7_makeAlias 80 = .ok (.iconst 0, 1) := by decide +kernel
theorem dX7_makeAlias_81 : decode cX7_makeAlias 81 = .ok (.iastore, 1) := by decide +kernel
theorem dX7_makeAlias_82 : decode cX7_makeAlias 82 = .ok (.aload_n 0, 1) := by decide +kernel
theorem dX7_makeAlias_83 : decode cX7_makeAlias 83 = .ok (.invokevirtual 33, 3) := by decide +kernel
theorem dX7_makeAlias_86 : decode cX7_makeAlias 86 = .ok (.return_, 1) := by decide +kernel
theorem dX10_merge_0 : decode cX10_merge 0 = .ok (.aload_n 0, 1) := by decide +kernel
theorem dX10_merge_1 : decode cX10_merge 1 = .ok (.iload_n 1, 1) := by decide +kernel
theorem dX10_merge_2 : decode cX10_merge 2 = .ok (.invokevirtual 189, 3) := by decide +kernel
theorem dX10_merge_5 : decode cX10_merge 5 = .ok (.aload_n 0, 1) := by decide +kernel
theorem dX10_merge_6 : decode cX10_merge 6 = .ok (.iload_n 2, 1) := by decide +kernel
theorem dX10_merge_7 : decode cX10_merge 7 = .ok (.invokevirtual 189, 3) := by decide +kernel
theorem dX10_merge_10 : decode cX10_merge 10 = .ok (.iload_n 1, 1) := by decide +kernel
theorem dX10_merge_11 : decode cX10_merge 11 = .ok (.iload_n 2, 1) := by decide +kernel
theorem dX10_merge_12 : decode cX10_merge 12 = .ok (.if_icmp .ne 13, 3) := by decide +kernel
theorem dX10_merge_15 : decode cX10_merge 15 = .ok (.new 66, 3) := by decide +kernel
theorem dX10_merge_18 : decode cX10_merge 18 = .ok (.dup, 1) := by decide +kernel
theorem dX10_merge_19 : decode cX10_merge 19 = .ok (.ldc 86, 2) := by decide +kernel
theorem dX10_merge_21 : decode cX10_merge 21 = .ok (.invokespecial 70, 3) := by decide +kernel
theorem dX10_merge_24 : decode cX10_merge 24 = .ok (.athrow, 1) := by decide +kernel
theorem dX10_merge_25 : decode cX10_merge 25 = .ok (.aload_n 0, 1) := by decide +kernel
theorem dX10_merge_26 : decode cX10_merge 26 = .ok (.getfield 34, 3) := by decide +kernel
theorem dX10_merge_29 : decode cX10_merge 29 = .ok (.iload_n 1, 1) := by decide +kernel
theorem dX10_merge_30 : decode cX10_merge 30 = .ok (.invokevirtual 192, 3) := by decide +kernel
theorem dX10_merge_33 : decode cX10_merge 33 = .ok (.istore_n 3, 1) := by decide +kernel
theorem dX10_merge_34 : decode cX10_merge 34 = .ok (.aload_n 0, 1) := by decide +kernel
theorem dX10_merge_35 : decode cX10_merge 35 = .ok (.getfield 34, 3) := by decide +kernel
theorem dX10_merge_38 : decode cX10_merge 38 = .ok (.iload_n 2, 1) := by decide +kernel
theorem dX10_merge_39 : decode cX10_merge 39 = .ok (.invokevirtual 192, 3) := by decide +kernel
theorem dX10_merge_42 : decode cX10_merge 42 = .ok (.iconst 1, 1) := by decide +kernel
theorem dX10_merge_43 : decode cX10_merge 43 = .ok (.if_icmp .ne 27, 3) := by decide +kernel
theorem dX10_merge_46 : decode cX10_merge 46 = .ok (.aload_n 0, 1) := by decide +kernel
theorem dX10_merge_47 : decode cX10_merge 47 = .ok (.getfield 34, 3) := by decide +kernel
theorem dX10_merge_50 : decode cX10_merge 50 = .ok (.iload_n 1, 1) := by decide +kernel
theorem dX10_merge_51 : decode cX10_merge 51 = .ok (.iload_n 2, 1) := by decide +kernel
theorem dX10_merge_52 : decode cX10_merge 52 = .ok (.invokevirtual 203, 3) := by decide +kernel
theorem dX10_merge_55 : decode cX10_merge 55 = .ok (.ifCond .ne 15, 3) := by decide +kernel
theorem dX10_merge_58 : decode cX10_merge 58 = .ok (.aload_n 0, 1) := by decide +kernel
theorem dX10_merge_59 : decode cX10_merge 59 = .ok (.getfield 34, 3) := by decide +kernel
theorem dX10_merge_62 : decode cX10_merge 62 = .ok (.iload_n 2, 1) := by decide +kernel
theorem dX10_merge_63 : decode cX10_merge 63 = .ok (.iload_n 1, 1) := by decide +kernel
theorem dX10_merge_64 : decode cX10_merge 64 = .ok (.invokevirtual 203, 3) := by decide +kernel
theorem dX10_merge_67 : decode cX10_merge 67 = .ok (.ifCond .eq 13, 3) := by decide +kernel
theorem dX10_merge_70 : decode cX10_merge 70 = .ok (.new 77, 3) := by decide +kernel
theorem dX10_merge_73 : decode cX10_merge 73 = .ok (.dup, 1) := by decide +kernel
theorem dX10_merge_74 : decode cX10_merge 74 = .ok (.ldc 206, 2) := by decide +kernel
theorem dX10_merge_76 : decode cX10_merge 76 = .ok (.invokespecial 81, 3) := by decide +kernel
theorem dX10_merge_79 : decode cX10_merge 79 = .ok (.athrow, 1) := by decide +kernel
theorem dX10_merge_80 : decode cX10_merge 80 = .ok (.aload_n 0, 1) := by decide +kernel
theorem dX10_merge_81 : decode cX10_merge 81 = .ok (.getfield 34, 3) := by decide +kernel
theorem dX10_merge_84 : decode cX10_merge 84 = .ok (.iload_n 1, 1) := by decide +kernel
theorem dX10_merge_85 : decode cX10_merge 85 = .ok (.iload_n 2, 1) := by decide +kernel
theorem dX10_merge_86 : decode cX10_merge 86 = .ok (.invokevirtual 208, 3) := by decide +kernel
theorem dX10_merge_89 : decode cX10_merge 89 = .ok (.aload_n 0, 1) := by decide +kernel
theorem dX10_merge_90 : decode cX10_merge 90 = .ok (.invokevirtual 200, 3) := by decide +kernel
theorem dX10_merge_93 : decode cX10_merge 93 = .ok (.iload_n 3, 1) := by decide +kernel
theorem dX10_merge_94 : decode cX10_merge 94 = .ok (.ireturn, 1) := by decide +kernel
theorem dL_merge_0 : decode cL_merge 0 = .ok (.aload_n 3, 1) := by decide +kernel
theorem dL_merge_1 : decode cL_merge 1 = .ok (.iconst 0, 1) := by decide +kernel
theorem dL_merge_2 : decode cL_merge 2 = .ok (.aload_n 0, 1) := by decide +kernel
theorem dL_merge_3 : decode cL_merge 3 = .ok (.iload_n 1, 1) := by decide +kernel
theorem dL_merge_4 : decode cL_merge 4 = .ok (.iload_n 2, 1) := by decide +kernel
theorem dL_merge_5 : decode cL_merge 5 = .ok (.invokevirtual 67, 3) := by decide +kernel
theorem dL_merge_8 : decode cL_merge 8 = .ok (.i2l, 1) := by decide +kernel
theorem dL_merge_9 : decode cL_merge 9 = .ok (.lastore, 1) := by decide +kernel
theorem dL_merge_10 : decode cL_merge 10 = .ok (.goto 15, 3) := by decide +kernel
theorem dL_merge_13 : decode cL_merge 13 = .ok (.astore 4, 2) := by decide +kernel
theorem dL_merge_15 : decode cL_merge 15 = .ok (.iconst 1, 1) := by decide +kernel
theorem dL_merge_16 : decode cL_merge 16 = .ok (.ireturn, 1) := by decide +kernel
theorem dL_merge_17 : decode cL_merge 17 = .ok (.astore 4, 2) := by decide +kernel
theorem dL_merge_19 : decode cL_merge 19 = .ok (.iconst 2, 1) := by decide +kernel
theorem dL_merge_20 : decode cL_merge 20 = .ok (.ireturn, 1) := by decide +kernel
theorem dL_merge_21 : decode cL_merge 21 = .ok (.astore 4, 2) := by decide +kernel
theorem dL_merge_23 : decode cL_merge 23 = .ok (.iconst 3, 1) := by decide +kernel
theorem dL_merge_24 : decode cL_merge 24 = .ok (.ireturn, 1) := by decide +kernel
theorem dL_merge_25 : decode cL_merge 25 = .ok (.iconst 0, 1) := by decide +kernel
theorem dL_merge_26 : decode cL_merge 26 = .ok (.ireturn, 1) := by decide +kernel
theorem dX10_news_0 : decode cX10_news 0 = .ok (.iload_n 1, 1) := by decide +kernel
theorem dX10_news_1 : decode cX10_news 1 = .ok (.invokestatic 82, 3) := by decide +kernel
theorem dX10_news_4 : decode cX10_news 4 = .ok (.iconst 0, 1) := by decide +kernel
theorem dX10_news_5 : decode cX10_news 5 = .ok (.istore_n 2, 1) := by decide +kernel
theorem dX10_news_6 : decode cX10_news 6 = .ok (.iconst 0, 1) := by decide +kernel
theorem dX10_news_7 : decode cX10_news 7 = .ok (.istore_n 3, 1) := by decide +kernel
theorem dX10_news_8 : decode cX10_news 8 = .ok (.iload_n 3, 1) := by decide +kernel
theorem dX10_news_9 : decode cX10_news 9 = .ok (.aload_n 0, 1) := by decide +kernel
theorem dX10_news_10 : decode cX10_news 10 = .ok (.getfield 104, 3) := by decide +kernel
theorem dX10_news_13 : decode cX10_news 13 = .ok (.if_icmp .ge 29, 3) := by decide +kernel
theorem dX10_news_16 : decode cX10_news 16 = .ok (.iload_n 2, 1) := by decide +kernel
theorem dX10_news_17 : decode cX10_news 17 = .ok (.iload_n 3, 1) := by decide +kernel
theorem dX10_news_18 : decode cX10_news 18 = .ok (.aload_n 0, 1) := by decide +kernel
theorem dX10_news_19 : decode cX10_news 19 = .ok (.iload_n 1, 1) := by decide +kernel
theorem dX10_news_20 : decode cX10_news 20 = .ok (.iload_n 3, 1) := by decide +kernel
theorem dX10_news_21 : decode cX10_news 21 = .ok (.invokevirtual 370, 3) := by decide +kernel
theorem dX10_news_24 : decode cX10_news 24 = .ok (.ifCond .eq 7, 3) := by decide +kernel
theorem dX10_news_27 : decode cX10_news 27 = .ok (.iconst 1, 1) := by decide +kernel
theorem dX10_news_28 : decode cX10_news 28 = .ok (.goto 4, 3) := by decide +kernel
theorem dX10_news_31 : decode cX10_news 31 = .ok (.iconst 0, 1) := by decide +kernel
theorem dX10_news_32 : decode cX10_news 32 = .ok (.invokestatic 95, 3) := by decide +kernel
theorem dX10_news_35 : decode cX10_news 35 = .ok (.istore_n 2, 1) := by decide +kernel
theorem dX10_news_36 : decode cX10_news 36 = .ok (.iinc 3 1, 3) := by decide +kernel
theorem dX10_news_39 : decode cX10_news 39 = .ok (.goto (-31), 3) := by decide +kernel
theorem dX10_news_42 : decode cX10_news 42 = .ok (.iload_n 2, 1) := by decide +kernel
theorem dX10_news_43 : decode cX10_news 43 = .ok (.ireturn, 1) := by decide +kernel
theorem dL_news_0 : decode cL_news 0 = .ok (.aload_n 2, 1) := by decide +kernel
theorem dL_news_1 : decode cL_news 1 = .ok (.iconst 0, 1) := by decide +kernel
theorem dL_news_2 : decode cL_news 2 = .ok (.aload_n 0, 1) := by decide +kernel
theorem dL_news_3 : decode cL_news 3 = .ok (.iload_n 1, 1) := by decide +kernel
theorem dL_news_4 : decode cL_news 4 = .ok (.invokevirtual 126, 3) := by decide +kernel
theorem dL_news_7 : decode cL_news 7 = .ok (.i2l, 1) := by decide +kernel
theorem dL_news_8 : decode cL_news 8 = .ok (.lastore, 1) := by decide +kernel
theorem dL_news_9 : decode cL_news 9 = .ok (.goto 6, 3) := by decide +kernel
theorem dL_news_12 : decode cL_news 12 = .ok (.astore_n 3, 1) := by decide +kernel
theorem dL_news_13 : decode cL_news 13 = .ok (.iconst 1, 1) := by decide +kernel
theorem dL_news_14 : decode cL_news 14 = .ok (.ireturn, 1) := by decide +kernel
theorem dL_news_15 : decode cL_news 15 = .ok (.iconst 0, 1) := by decide +kernel
theorem dL_news_16 : decode cL_news 16 = .ok (.ireturn, 1) := by decide +kernel
theorem dX10_countFiledUnder_0 : decode cX10_countFiledUnder 0 = .ok (.iconst 0, 1) := by decide +kernel
theorem dX10_countFiledUnder_1 : decode cX10_countFiledUnder 1 = .ok (.istore_n 2, 1) := by decide +kernel
theorem dX10_countFiledUnder_2 : decode cX10_countFiledUnder 2 = .ok (.iconst 0, 1) := by decide +kernel
theorem dX10_countFiledUnder_3 : decode cX10_countFiledUnder 3 = .ok (.istore_n 3, 1) := by decide +kernel
theorem dX10_countFiledUnder_4 : decode cX10_countFiledUnder 4 = .ok (.iload_n 3, 1) := by decide +kernel
theorem dX10_countFiledUnder_5 : decode cX10_countFiledUnder 5 = .ok (.aload_n 0, 1) := by decide +kernel
theorem dX10_countFiledUnder_6 : decode cX10_countFiledUnder 6 = .ok (.getfield 104, 3) := by decide +kernel
theorem dX10_countFiledUnder_9 : decode cX10_countFiledUnder 9 = .ok (.if_icmp .ge 33, 3) := by decide +kernel
theorem dX10_countFiledUnder_12 : decode cX10_countFiledUnder 12 = .ok (.iload_n 2, 1) := by decide +kernel
theorem dX10_countFiledUnder_13 : decode cX10_countFiledUnder 13 = .ok (.aload_n 0, 1) := by decide +kernel
theorem dX10_countFiledUnder_14 : decode cX10_countFiledUnder 14 = .ok (.getfield 21, 3) := by decide +kernel
theorem dX10_countFiledUnder_17 : decode cX10_countFiledUnder 17 = .ok (.iload_n 3, 1) := by decide +kernel
theorem dX10_countFiledUnder_18 : decode cX10_countFiledUnder 18 = .ok (.aaload, 1) := by decide +kernel
theorem dX10_countFiledUnder_19 : decode cX10_countFiledUnder 19 = .ok (.getfield 388, 3) := by decide +kernel
theorem dX10_countFiledUnder_22 : decode cX10_countFiledUnder 22 = .ok (.iload_n 1, 1) := by decide +kernel
theorem dX10_countFiledUnder_23 : decode cX10_countFiledUnder 23 = .ok (.invokestatic 91, 3) := by decide +kernel
theorem dX10_countFiledUnder_26 : decode cX10_countFiledUnder 26 = .ok (.ifCond .eq 7, 3) := by decide +kernel
theorem dX10_countFiledUnder_29 : decode cX10_countFiledUnder 29 = .ok (.iconst 1, 1) := by decide +kernel
theorem dX10_countFiledUnder_30 : decode cX10_countFiledUnder 30 = .ok (.goto 4, 3) := by decide +kernel
theorem dX10_countFiledUnder_33 : decode cX10_countFiledUnder 33 = .ok (.iconst 0, 1) := by decide +kernel
theorem dX10_countFiledUnder_34 : decode cX10_countFiledUnder 34 = .ok (.iadd, 1) := by decide +kernel
theorem dX10_countFiledUnder_35 : decode cX10_countFiledUnder 35 = .ok (.istore_n 2, 1) := by decide +kernel
theorem dX10_countFiledUnder_36 : decode cX10_countFiledUnder 36 = .ok (.iinc 3 1, 3) := by decide +kernel
theorem dX10_countFiledUnder_39 : decode cX10_countFiledUnder 39 = .ok (.goto (-35), 3) := by decide +kernel
theorem dX10_countFiledUnder_42 : decode cX10_countFiledUnder 42 = .ok (.iload_n 2, 1) := by decide +kernel
theorem dX10_countFiledUnder_43 : decode cX10_countFiledUnder 43 = .ok (.ireturn, 1) := by decide +kernel
theorem dX10_countWith_0 : decode cX10_countWith 0 = .ok (.iconst 0, 1) := by decide +kernel
theorem dX10_countWith_1 : decode cX10_countWith 1 = .ok (.istore_n 2, 1) := by decide +kernel
theorem dX10_countWith_2 : decode cX10_countWith 2 = .ok (.iconst 0, 1) := by decide +kernel
theorem dX10_countWith_3 : decode cX10_countWith 3 = .ok (.istore_n 3, 1) := by decide +kernel
theorem dX10_countWith_4 : decode cX10_countWith 4 = .ok (.iload_n 3, 1) := by decide +kernel
theorem dX10_countWith_5 : decode cX10_countWith 5 = .ok (.aload_n 0, 1) := by decide +kernel
theorem dX10_countWith_6 : decode cX10_countWith 6 = .ok (.getfield 104, 3) := by decide +kernel
theorem dX10_countWith_9 : decode cX10_countWith 9 = .ok (.if_icmp .ge 33, 3) := by decide +kernel
theorem dX10_countWith_12 : decode cX10_countWith 12 = .ok (.iload_n 2, 1) := by decide +kernel
theorem dX10_countWith_13 : decode cX10_countWith 13 = .ok (.aload_n 0, 1) := by decide +kernel
theorem dX10_countWith_14 : decode cX10_countWith 14 = .ok (.getfield 21, 3) := by decide +kernel
theorem dX10_countWith_17 : decode cX10_countWith 17 = .ok (.iload_n 3, 1) := by decide +kernel
theorem dX10_countWith_18 : decode cX10_countWith 18 = .ok (.aaload, 1) := by decide +kernel
theorem dX10_countWith_19 : decode cX10_countWith 19 = .ok (.getfield 234, 3) := by decide +kernel
theorem dX10_countWith_22 : decode cX10_countWith 22 = .ok (.iload_n 1, 1) := by decide +kernel
theorem dX10_countWith_23 : decode cX10_countWith 23 = .ok (.invokestatic 91, 3) := by decide +kernel
theorem dX10_countWith_26 : decode cX10_countWith 26 = .ok (.ifCond .eq 7, 3) := by decide +kernel
theorem dX10_countWith_29 : decode cX10_countWith 29 = .ok (.iconst 1, 1) := by decide +kernel
theorem dX10_countWith_30 : decode cX10_countWith 30 = .ok (.goto 4, 3) := by decide +kernel
theorem dX10_countWith_33 : decode cX10_countWith 33 = .ok (.iconst 0, 1) := by decide +kernel
theorem dX10_countWith_34 : decode cX10_countWith 34 = .ok (.iadd, 1) := by decide +kernel
theorem dX10_countWith_35 : decode cX10_countWith 35 = .ok (.istore_n 2, 1) := by decide +kernel
theorem dX10_countWith_36 : decode cX10_countWith 36 = .ok (.iinc 3 1, 3) := by decide +kernel
theorem dX10_countWith_39 : decode cX10_countWith 39 = .ok (.goto (-35), 3) := by decide +kernel
theorem dX10_countWith_42 : decode cX10_countWith 42 = .ok (.iload_n 2, 1) := by decide +kernel
theorem dX10_countWith_43 : decode cX10_countWith 43 = .ok (.ireturn, 1) := by decide +kernel
theorem dX7_aboveOf_0 : decode cX7_aboveOf 0 = .ok (.aload_n 0, 1) := by decide +kernel
theorem dX7_aboveOf_1 : decode cX7_aboveOf 1 = .ok (.getfield 18, 3) := by decide +kernel
theorem dX7_aboveOf_4 : decode cX7_aboveOf 4 = .ok (.iload_n 1, 1) := by decide +kernel
theorem dX7_aboveOf_5 : decode cX7_aboveOf 5 = .ok (.iaload, 1) := by decide +kernel
theorem dX7_aboveOf_6 : decode cX7_aboveOf 6 = .ok (.ireturn, 1) := by decide +kernel
theorem dX7_meaningOf_0 : decode cX7_meaningOf 0 = .ok (.aload_n 0, 1) := by decide +kernel
theorem dX7_meaningOf_1 : decode cX7_meaningOf 1 = .ok (.getfield 9, 3) := by decide +kernel
theorem dX7_meaningOf_4 : decode cX7_meaningOf 4 = .ok (.iload_n 1, 1) := by decide +kernel
theorem dX7_meaningOf_5 : decode cX7_meaningOf 5 = .ok (.iaload, 1) := by decide +kernel
theorem dX7_meaningOf_6 : decode cX7_meaningOf 6 = .ok (.ireturn, 1) := by decide +kernel
theorem dX10_ofTag_0 : decode cX10_ofTag 0 = .ok (.aload_n 0, 1) := by decide +kernel
theorem dX10_ofTag_1 : decode cX10_ofTag 1 = .ok (.iload_n 1, 1) := by decide +kernel
theorem dX10_ofTag_2 : decode cX10_ofTag 2 = .ok (.invokevirtual 189, 3) := by decide +kernel
theorem dX10_ofTag_5 : decode cX10_ofTag 5 = .ok (.iload_n 2, 1) := by decide +kernel
theorem dX10_ofTag_6 : decode cX10_ofTag 6 = .ok (.tableswitch 73 0 4 #[34, 43, 52, 61, 67], 34) := by decide +kernel
theorem dX10_ofTag_40 : decode cX10_ofTag 40 = .ok (.aload_n 0, 1) := by decide +kernel
theorem dX10_ofTag_41 : decode cX10_ofTag 41 = .ok (.getfield 34, 3) := by decide +kernel
theorem dX10_ofTag_44 : decode cX10_ofTag 44 = .ok (.iload_n 1, 1) := by decide +kernel
theorem dX10_ofTag_45 : decode cX10_ofTag 45 = .ok (.invokevirtual 192, 3) := by decide +kernel
theorem dX10_ofTag_48 : decode cX10_ofTag 48 = .ok (.ireturn, 1) := by decide +kernel
theorem dX10_ofTag_49 : decode cX10_ofTag 49 = .ok (.aload_n 0, 1) := by decide +kernel
theorem dX10_ofTag_50 : decode cX10_ofTag 50 = .ok (.getfield 34, 3) := by decide +kernel
theorem dX10_ofTag_53 : decode cX10_ofTag 53 = .ok (.iload_n 1, 1) := by decide +kernel
theorem dX10_ofTag_54 : decode cX10_ofTag 54 = .ok (.invokevirtual 220, 3) := by decide +kernel
theorem dX10_ofTag_57 : decode cX10_ofTag 57 = .ok (.ireturn, 1) := by decide +kernel
theorem dX10_ofTag_58 : decode cX10_ofTag 58 = .ok (.aload_n 0, 1) := by decide +kernel
theorem dX10_ofTag_59 : decode cX10_ofTag 59 = .ok (.getfield 34, 3) := by decide +kernel
theorem dX10_ofTag_62 : decode cX10_ofTag 62 = .ok (.iload_n 1, 1) := by decide +kernel
theorem dX10_ofTag_63 : decode cX10_ofTag 63 = .ok (.invokevirtual 223, 3) := by decide +kernel
theorem dX10_ofTag_66 : decode cX10_ofTag 66 = .ok (.ireturn, 1) := by decide +kernel
theorem dX10_ofTag_67 : decode cX10_ofTag 67 = .ok (.aload_n 0, 1) := by decide +kernel
theorem dX10_ofTag_68 : decode cX10_ofTag 68 = .ok (.iload_n 1, 1) := by decide +kernel
theorem dX10_ofTag_69 : decode cX10_ofTag 69 = .ok (.invokevirtual 226, 3) := by decide +kernel
theorem dX10_ofTag_72 : decode cX10_ofTag 72 = .ok (.ireturn, 1) := by decide +kernel
theorem dX10_ofTag_73 : decode cX10_ofTag 73 = .ok (.aload_n 0, 1) := by decide +kernel
theorem dX10_ofTag_74 : decode cX10_ofTag 74 = .ok (.iload_n 1, 1) := by decide +kernel
theorem dX10_ofTag_75 : decode cX10_ofTag 75 = .ok (.invokevirtual 229, 3) := by decide +kernel
theorem dX10_ofTag_78 : decode cX10_ofTag 78 = .ok (.ireturn, 1) := by decide +kernel
theorem dX10_ofTag_79 : decode cX10_ofTag 79 = .ok (.new 66, 3) := by decide +kernel
theorem dX10_ofTag_82 : decode cX10_ofTag 82 = .ok (.dup, 1) := by decide +kernel
theorem dX10_ofTag_83 : decode cX10_ofTag 83 = .ok (.ldc 232, 2) := by decide +kernel
theorem dX10_ofTag_85 : decode cX10_ofTag 85 = .ok (.invokespecial 70, 3) := by decide +kernel
theorem dX10_ofTag_88 : decode cX10_ofTag 88 = .ok (.athrow, 1) := by decide +kernel
theorem dL_ofTag_0 : decode cL_ofTag 0 = .ok (.aload_n 3, 1) := by decide +kernel
theorem dL_ofTag_1 : decode cL_ofTag 1 = .ok (.iconst 0, 1) := by decide +kernel
theorem dL_ofTag_2 : decode cL_ofTag 2 = .ok (.aload_n 0, 1) := by decide +kernel
theorem dL_ofTag_3 : decode cL_ofTag 3 = .ok (.iload_n 1, 1) := by decide +kernel
theorem dL_ofTag_4 : decode cL_ofTag 4 = .ok (.iload_n 2, 1) := by decide +kernel
theorem dL_ofTag_5 : decode cL_ofTag 5 = .ok (.invokevirtual 73, 3) := by decide +kernel
theorem dL_ofTag_8 : decode cL_ofTag 8 = .ok (.i2l, 1) := by decide +kernel
theorem dL_ofTag_9 : decode cL_ofTag 9 = .ok (.lastore, 1) := by decide +kernel
theorem dL_ofTag_10 : decode cL_ofTag 10 = .ok (.goto 11, 3) := by decide +kernel
theorem dL_ofTag_13 : decode cL_ofTag 13 = .ok (.astore 4, 2) := by decide +kernel
theorem dL_ofTag_15 : decode cL_ofTag 15 = .ok (.iconst 1, 1) := by decide +kernel
theorem dL_ofTag_16 : decode cL_ofTag 16 = .ok (.ireturn, 1) := by decide +kernel
theorem dL_ofTag_17 : decode cL_ofTag 17 = .ok (.astore 4, 2) := by decide +kernel
theorem dL_ofTag_19 : decode cL_ofTag 19 = .ok (.iconst 2, 1) := by decide +kernel
theorem dL_ofTag_20 : decode cL_ofTag 20 = .ok (.ireturn, 1) := by decide +kernel
theorem dL_ofTag_21 : decode cL_ofTag 21 = .ok (.iconst 0, 1) := by decide +kernel
theorem dL_ofTag_22 : decode cL_ofTag 22 = .ok (.ireturn, 1) := by decide +kernel
theorem dX10_owners_0 : decode cX10_owners 0 = .ok (.iload_n 1, 1) := by decide +kernel
theorem dX10_owners_1 : decode cX10_owners 1 = .ok (.invokestatic 99, 3) := by decide +kernel
theorem dX10_owners_4 : decode cX10_owners 4 = .ok (.aload_n 0, 1) := by decide +kernel
theorem dX10_owners_5 : decode cX10_owners 5 = .ok (.iload_n 2, 1) := by decide +kernel
theorem dX10_owners_6 : decode cX10_owners 6 = .ok (.invokevirtual 112, 3) := by decide +kernel
theorem dX10_owners_9 : decode cX10_owners 9 = .ok (.iload_n 1, 1) := by decide +kernel
theorem dX10_owners_10 : decode cX10_owners 10 = .ok (.aload_n 0, 1) := by decide +kernel
theorem dX10_owners_11 : decode cX10_owners 11 = .ok (.getfield 73, 3) := by decide +kernel
theorem dX10_owners_14 : decode cX10_owners 14 = .ok (.invokevirtual 176, 3) := by decide +kernel
theorem dX10_owners_17 : decode cX10_owners 17 = .ok (.ireturn, 1) := by decide +kernel
theorem dL_owners_0 : decode cL_owners 0 = .ok (.aload_n 3, 1) := by decide +kernel
theorem dL_owners_1 : decode cL_owners 1 = .ok (.iconst 0, 1) := by decide +kernel
theorem dL_owners_2 : decode cL_owners 2 = .ok (.aload_n 0, 1) := by decide +kernel
theorem dL_owners_3 : decode cL_owners 3 = .ok (.iload_n 1, 1) := by decide +kernel
theorem dL_owners_4 : decode cL_owners 4 = .ok (.iload_n 2, 1) := by decide +kernel
theorem dL_owners_5 : decode cL_owners 5 = .ok (.invokevirtual 57, 3) := by decide +kernel
theorem dL_owners_8 : decode cL_owners 8 = .ok (.i2l, 1) := by decide +kernel
theorem dL_owners_9 : decode cL_owners 9 = .ok (.lastore, 1) := by decide +kernel
theorem dL_owners_10 : decode cL_owners 10 = .ok (.goto 7, 3) := by decide +kernel
theorem dL_owners_13 : decode cL_owners 13 = .ok (.astore 4, 2) := by decide +kernel
theorem dL_owners_15 : decode cL_owners 15 = .ok (.iconst 1, 1) := by decide +kernel
theorem dL_owners_16 : decode cL_owners 16 = .ok (.ireturn, 1) := by decide +kernel
theorem dL_owners_17 : decode cL_owners 17 = .ok (.iconst 0, 1) := by decide +kernel
theorem dL_owners_18 : decode cL_owners 18 = .ok (.ireturn, 1) := by decide +kernel
theorem dX7_isParent_0 : decode cX7_isParent 0 = .ok (.aload_n 0, 1) := by decide +kernel
theorem dX7_isParent_1 : decode cX7_isParent 1 = .ok (.getfield 15, 3) := by decide +kernel
theorem dX7_isParent_4 : decode cX7_isParent 4 = .ok (.iload_n 2, 1) := by decide +kernel
theorem dX7_isParent_5 : decode cX7_isParent 5 = .ok (.iaload, 1) := by decide +kernel
theorem dX7_isParent_6 : decode cX7_isParent 6 = .ok (.iload_n 1, 1) := by decide +kernel
theorem dX7_isParent_7 : decode cX7_isParent 7 = .ok (.invokestatic 25, 3) := by decide +kernel
theorem dX7_isParent_10 : decode cX7_isParent 10 = .ok (.ireturn, 1) := by decide +kernel
theorem dX7_setParent_0 : decode cX7_setParent 0 = .ok (.aload_n 0, 1) := by decide +kernel
theorem dX7_setParent_1 : decode cX7_setParent 1 = .ok (.getfield 15, 3) := by decide +kernel
theorem dX7_setParent_4 : decode cX7_setParent 4 = .ok (.iload_n 1, 1) := by decide +kernel
theorem dX7_setParent_5 : decode cX7_setParent 5 = .ok (.aload_n 0, 1) := by decide +kernel
theorem dX7_setParent_6 : decode cX7_setParent 6 = .ok (.getfield 15, 3) := by decide +kernel
theorem dX7_setParent_9 : decode cX7_setParent 9 = .ok (.iload_n 1, 1) := by decide +kernel
theorem dX7_setParent_10 : decode cX7_setParent 10 = .ok (.iaload, 1) := by decide +kernel
theorem dX7_setParent_11 : decode cX7_setParent 11 = .ok (.iload_n 2, 1) := by decide +kernel
theorem dX7_setParent_12 : decode cX7_setParent 12 = .ok (.iload_n 3, 1) := by decide +kernel
theorem dX7_setParent_13 : decode cX7_setParent 13 = .ok (.invokestatic 29, 3) := by decide +kernel
theorem dX7_setParent_16 : decode cX7_setParent 16 = .ok (.iastore, 1) := by decide +kernel
theorem dX7_setParent_17 : decode cX7_setParent 17 = .ok (.aload_n 0, 1) := by decide +kernel
theorem dX7_setParent_18 : decode cX7_setParent 18 = .ok (.invokevirtual 33, 3) := by decide +kernel
theorem dX7_setParent_21 : decode cX7_setParent 21 = .ok (.return_, 1) := by decide +kernel
theorem dX10_parent_0 : decode cX10_parent 0 = .ok (.aload_n 0, 1) := by decide +kernel
theorem dX10_parent_1 : decode cX10_parent 1 = .ok (.iload_n 1, 1) := by decide +kernel
theorem dX10_parent_2 : decode cX10_parent 2 = .ok (.invokevirtual 189, 3) := by decide +kernel
theorem dX10_parent_5 : decode cX10_parent 5 = .ok (.aload_n 0, 1) := by decide +kernel
theorem dX10_parent_6 : decode cX10_parent 6 = .ok (.iload_n 2, 1) := by decide +kernel
theorem dX10_parent_7 : decode cX10_parent 7 = .ok (.invokevirtual 189, 3) := by decide +kernel
theorem dX10_parent_10 : decode cX10_parent 10 = .ok (.iload_n 1, 1) := by decide +kernel
theorem dX10_parent_11 : decode cX10_parent 11 = .ok (.iload_n 2, 1) := by decide +kernel
theorem dX10_parent_12 : decode cX10_parent 12 = .ok (.if_icmp .ne 13, 3) := by decide +kernel
theorem dX10_parent_15 : decode cX10_parent 15 = .ok (.new 66, 3) := by decide +kernel
theorem dX10_parent_18 : decode cX10_parent 18 = .ok (.dup, 1) := by decide +kernel
theorem dX10_parent_19 : decode cX10_parent 19 = .ok (.ldc 86, 2) := by decide +kernel
theorem dX10_parent_21 : decode cX10_parent 21 = .ok (.invokespecial 70, 3) := by decide +kernel
theorem dX10_parent_24 : decode cX10_parent 24 = .ok (.athrow, 1) := by decide +kernel
theorem dX10_parent_25 : decode cX10_parent 25 = .ok (.aload_n 0, 1) := by decide +kernel
theorem dX10_parent_26 : decode cX10_parent 26 = .ok (.getfield 34, 3) := by decide +kernel
theorem dX10_parent_29 : decode cX10_parent 29 = .ok (.iload_n 1, 1) := by decide +kernel
theorem dX10_parent_30 : decode cX10_parent 30 = .ok (.invokevirtual 192, 3) := by decide +kernel
theorem dX10_parent_33 : decode cX10_parent 33 = .ok (.iconst 1, 1) := by decide +kernel
theorem dX10_parent_34 : decode cX10_parent 34 = .ok (.if_icmp .ne 31, 3) := by decide +kernel
theorem dX10_parent_37 : decode cX10_parent 37 = .ok (.aload_n 0, 1) := by decide +kernel
theorem dX10_parent_38 : decode cX10_parent 38 = .ok (.getfield 34, 3) := by decide +kernel
theorem dX10_parent_41 : decode cX10_parent 41 = .ok (.iload_n 2, 1) := by decide +kernel
theorem dX10_parent_42 : decode cX10_parent 42 = .ok (.invokevirtual 192, 3) := by decide +kernel
theorem dX10_parent_45 : decode cX10_parent 45 = .ok (.iconst 1, 1) := by decide +kernel
theorem dX10_parent_46 : decode cX10_parent 46 = .ok (.if_icmp .ne 19, 3) := by decide +kernel
theorem dX10_parent_49 : decode cX10_parent 49 = .ok (.iload_n 3, 1) := by decide +kernel
theorem dX10_parent_50 : decode cX10_parent 50 = .ok (.ifCond .eq 25, 3) := by decide +kernel
theorem dX10_parent_53 : decode cX10_parent 53 = .ok (.aload_n 0, 1) := by decide +kernel
theorem dX10_parent_54 : decode cX10_parent 54 = .ok (.getfield 34, 3) := by decide +kernel
theorem dX10_parent_57 : decode cX10_parent 57 = .ok (.iload_n 1, 1) := by decide +kernel
theorem dX10_parent_58 : decode cX10_parent 58 = .ok (.iload_n 2, 1) := by decide +kernel
theorem dX10_parent_59 : decode cX10_parent 59 = .ok (.invokevirtual 203, 3) := by decide +kernel
theorem dX10_parent_62 : decode cX10_parent 62 = .ok (.ifCond .eq 13, 3) := by decide +kernel
theorem dX10_parent_65 : decode cX10_parent 65 = .ok (.new 77, 3) := by decide +kernel
theorem dX10_parent_68 : decode cX10_parent 68 = .ok (.dup, 1) := by decide +kernel
theorem dX10_parent_69 : decode cX10_parent 69 = .ok (.ldc 211, 2) := by decide +kernel
theorem dX10_parent_71 : decode cX10_parent 71 = .ok (.invokespecial 81, 3) := by decide +kernel
theorem dX10_parent_74 : decode cX10_parent 74 = .ok (.athrow, 1) := by decide +kernel
theorem dX10_parent_75 : decode cX10_parent 75 = .ok (.aload_n 0, 1) := by decide +kernel
theorem dX10_parent_76 : decode cX10_parent 76 = .ok (.getfield 34, 3) := by decide +kernel
theorem dX10_parent_79 : decode cX10_parent 79 = .ok (.iload_n 2, 1) := by decide +kernel
theorem dX10_parent_80 : decode cX10_parent 80 = .ok (.iload_n 1, 1) := by decide +kernel
theorem dX10_parent_81 : decode cX10_parent 81 = .ok (.invokevirtual 213, 3) := by decide +kernel
theorem dX10_parent_84 : decode cX10_parent 84 = .ok (.istore 4, 2) := by decide +kernel
theorem dX10_parent_86 : decode cX10_parent 86 = .ok (.iload 4, 2) := by decide +kernel
theorem dX10_parent_88 : decode cX10_parent 88 = .ok (.iload_n 3, 1) := by decide +kernel
theorem dX10_parent_89 : decode cX10_parent 89 = .ok (.if_icmp .eq 17, 3) := by decide +kernel
theorem dX10_parent_92 : decode cX10_parent 92 = .ok (.aload_n 0, 1) := by decide +kernel
theorem dX10_parent_93 : decode cX10_parent 93 = .ok (.getfield 34, 3) := by decide +kernel
theorem dX10_parent_96 : decode cX10_parent 96 = .ok (.iload_n 1, 1) := by decide +kernel
theorem dX10_parent_97 : decode cX10_parent 97 = .ok (.iload_n 2, 1) := by decide +kernel
theorem dX10_parent_98 : decode cX10_parent 98 = .ok (.iload_n 3, 1) := by decide +kernel
theorem dX10_parent_99 : decode cX10_parent 99 = .ok (.invokevirtual 216, 3) := by decide +kernel
theorem dX10_parent_102 : decode cX10_parent 102 = .ok (.aload_n 0, 1) := by decide +kernel
theorem dX10_parent_103 : decode cX10_parent 103 = .ok (.invokevirtual 200, 3) := by decide +kernel
theorem dX10_parent_106 : decode cX10_parent 106 = .ok (.iload 4, 2) := by decide +kernel
theorem dX10_parent_108 : decode cX10_parent 108 = .ok (.ireturn, 1) := by decide +kernel
theorem dL_parent_0 : decode cL_parent 0 = .ok (.aload 4, 2) := by decide +kernel
theorem dL_parent_2 : decode cL_parent 2 = .ok (.iconst 0, 1) := by decide +kernel
theorem dL_parent_3 : decode cL_parent 3 = .ok (.aload_n 0, 1) := by decide +kernel
theorem dL_parent_4 : decode cL_parent 4 = .ok (.iload_n 1, 1) := by decide +kernel
theorem dL_parent_5 : decode cL_parent 5 = .ok (.iload_n 2, 1) := by decide +kernel
theorem dL_parent_6 : decode cL_parent 6 = .ok (.iload_n 3, 1) := by decide +kernel
theorem dL_parent_7 : decode cL_parent 7 = .ok (.invokevirtual 70, 3) := by decide +kernel
theorem dL_parent_10 : decode cL_parent 10 = .ok (.ifCond .eq 7, 3) := by decide +kernel
theorem dL_parent_13 : decode cL_parent 13 = .ok (.lconst 1, 1) := by decide +kernel
theorem dL_parent_14 : decode cL_parent 14 = .ok (.goto 4, 3) := by decide +kernel
theorem dL_parent_17 : decode cL_parent 17 = .ok (.lconst 0, 1) := by decide +kernel
theorem dL_parent_18 : decode cL_parent 18 = .ok (.lastore, 1) := by decide +kernel
theorem dL_parent_19 : decode cL_parent 19 = .ok (.goto 15, 3) := by decide +kernel
theorem dL_parent_22 : decode cL_parent 22 = .ok (.astore 5, 2) := by decide +kernel
theorem dL_parent_24 : decode cL_parent 24 = .ok (.iconst 1, 1) := by decide +kernel
theorem dL_parent_25 : decode cL_parent 25 = .ok (.ireturn, 1) := by decide +kernel
theorem dL_parent_26 : decode cL_parent 26 = .ok (.astore 5, 2) := by decide +kernel
theorem dL_parent_28 : decode cL_parent 28 = .ok (.iconst 2, 1) := by decide +kernel
theorem dL_parent_29 : decode cL_parent 29 = .ok (.ireturn, 1) := by decide +kernel
theorem dL_parent_30 : decode cL_parent 30 = .ok (.astore 5, 2) := by decide +kernel
theorem dL_parent_32 : decode cL_parent 32 = .ok (.iconst 3, 1) := by decide +kernel
theorem dL_parent_33 : decode cL_parent 33 = .ok (.ireturn, 1) := by decide +kernel
theorem dL_parent_34 : decode cL_parent 34 = .ok (.iconst 0, 1) := by decide +kernel
theorem dL_parent_35 : decode cL_parent 35 = .ok (.ireturn, 1) := by decide +kernel
theorem dX10_pass_0 : decode cX10_pass 0 = .ok (.iload_n 1, 1) := by decide +kernel
theorem dX10_pass_1 : decode cX10_pass 1 = .ok (.iconst 1, 1) := by decide +kernel
theorem dX10_pass_2 : decode cX10_pass 2 = .ok (.if_icmp .lt 9, 3) := by decide +kernel
theorem dX10_pass_5 : decode cX10_pass 5 = .ok (.iload_n 1, 1) := by decide +kernel
theorem dX10_pass_6 : decode cX10_pass 6 = .ok (.bipush 100, 2) := by decide +kernel
theorem dX10_pass_8 : decode cX10_pass 8 = .ok (.if_icmp .le 13, 3) := by decide +kernel
theorem dX10_pass_11 : decode cX10_pass 11 = .ok (.new 66, 3) := by decide +kernel
theorem dX10_pass_14 : decode cX10_pass 14 = .ok (.dup, 1) := by decide +kernel
theorem dX10_pass_15 : decode cX10_pass 15 = .ok (.ldc 68, 2) := by decide +kernel
theorem dX10_pass_17 : decode cX10_pass 17 = .ok (.invokespecial 70, 3) := by decide +kernel
theorem dX10_pass_20 : decode cX10_pass 20 = .ok (.athrow, 1) := by decide +kernel
theorem dX10_pass_21 : decode cX10_pass 21 = .ok (.aload_n 0, 1) := by decide +kernel
theorem dX10_pass_22 : decode cX10_pass 22 = .ok (.getfield 73, 3) := by decide +kernel
theorem dX10_pass_25 : decode cX10_pass 25 = .ok (.iload_n 1, 1) := by decide +kernel
theorem dX10_pass_26 : decode cX10_pass 26 = .ok (.iadd, 1) := by decide +kernel
theorem dX10_pass_27 : decode cX10_pass 27 = .ok (.sipush 2000, 3) := by decide +kernel
theorem dX10_pass_30 : decode cX10_pass 30 = .ok (.if_icmp .le 13, 3) := by decide +kernel
theorem dX10_pass_33 : decode cX10_pass 33 = .ok (.new 77, 3) := by decide +kernel
theorem dX10_pass_36 : decode cX10_pass 36 = .ok (.dup, 1) := by decide +kernel
theorem dX10_pass_37 : decode cX10_pass 37 = .ok (.ldc 79, 2) := by decide +kernel
theorem dX10_pass_39 : decode cX10_pass 39 = .ok (.invokespecial 81, 3) := by decide +kernel
theorem dX10_pass_42 : decode cX10_pass 42 = .ok (.athrow, 1) := by decide +kernel
theorem dX10_pass_43 : decode cX10_pass 43 = .ok (.aload_n 0, 1) := by decide +kernel
theorem dX10_pass_44 : decode cX10_pass 44 = .ok (.dup, 1) := by decide +kernel
theorem dX10_pass_45 : decode cX10_pass 45 = .ok (.getfield 73, 3) := by decide +kernel
theorem dX10_pass_48 : decode cX10_pass 48 = .ok (.iload_n 1, 1) := by decide +kernel
theorem dX10_pass_49 : decode cX10_pass 49 = .ok (.iadd, 1) := by decide +kernel
theorem dX10_pass_50 : decode cX10_pass 50 = .ok (.putfield 73, 3) := by decide +kernel
theorem dX10_pass_53 : decode cX10_pass 53 = .ok (.aload_n 0, 1) := by decide +kernel
theorem dX10_pass_54 : decode cX10_pass 54 = .ok (.getfield 73, 3) := by decide +kernel
theorem dX10_pass_57 : decode cX10_pass 57 = .ok (.ireturn, 1) := by decide +kernel
theorem dL_pass_0 : decode cL_pass 0 = .ok (.aload_n 2, 1) := by decide +kernel
theorem dL_pass_1 : decode cL_pass 1 = .ok (.iconst 0, 1) := by decide +kernel
theorem dL_pass_2 : decode cL_pass 2 = .ok (.aload_n 0, 1) := by decide +kernel
theorem dL_pass_3 : decode cL_pass 3 = .ok (.iload_n 1, 1) := by decide +kernel
theorem dL_pass_4 : decode cL_pass 4 = .ok (.invokevirtual 7, 3) := by decide +kernel
theorem dL_pass_7 : decode cL_pass 7 = .ok (.i2l, 1) := by decide +kernel
theorem dL_pass_8 : decode cL_pass 8 = .ok (.lastore, 1) := by decide +kernel
theorem dL_pass_9 : decode cL_pass 9 = .ok (.goto 9, 3) := by decide +kernel
theorem dL_pass_12 : decode cL_pass 12 = .ok (.astore_n 3, 1) := by decide +kernel
theorem dL_pass_13 : decode cL_pass 13 = .ok (.iconst 1, 1) := by decide +kernel
theorem dL_pass_14 : decode cL_pass 14 = .ok (.ireturn, 1) := by decide +kernel
theorem dL_pass_15 : decode cL_pass 15 = .ok (.astore_n 3, 1) := by decide +kernel
theorem dL_pass_16 : decode cL_pass 16 = .ok (.iconst 2, 1) := by decide +kernel
theorem dL_pass_17 : decode cL_pass 17 = .ok (.ireturn, 1) := by decide +kernel
theorem dL_pass_18 : decode cL_pass 18 = .ok (.iconst 0, 1) := by decide +kernel
theorem dL_pass_19 : decode cL_pass 19 = .ok (.ireturn, 1) := by decide +kernel
theorem dX10_post_0 : decode cX10_post 0 = .ok (.aload_n 0, 1) := by decide +kernel
theorem dX10_post_1 : decode cX10_post 1 = .ok (.iload_n 1, 1) := by decide +kernel
theorem dX10_post_2 : decode cX10_post 2 = .ok (.invokevirtual 112, 3) := by decide +kernel
theorem dX10_post_5 : decode cX10_post 5 = .ok (.astore_n 2, 1) := by decide +kernel
theorem dX10_post_6 : decode cX10_post 6 = .ok (.aload_n 2, 1) := by decide +kernel
theorem dX10_post_7 : decode cX10_post 7 = .ok (.invokevirtual 141, 3) := by decide +kernel
theorem dX10_post_10 : decode cX10_post 10 = .ok (.ifCond .ne 10, 3) := by decide +kernel
theorem dX10_post_13 : decode cX10_post 13 = .ok (.aload_n 2, 1) := by decide +kernel
theorem dX10_post_14 : decode cX10_post 14 = .ok (.getfield 133, 3) := by decide +kernel
theorem dX10_post_17 : decode cX10_post 17 = .ok (.ifCond .ne 13, 3) := by decide +kernel
theorem dX10_post_20 : decode cX10_post 20 = .ok (.new 77, 3) := by decide +kernel
theorem dX10_post_23 : decode cX10_post 23 = .ok (.dup, 1) := by decide +kernel
theorem dX10_post_24 : decode cX10_post 24 = .ok (.ldc 145, 2) := by decide +kernel
theorem dX10_post_26 : decode cX10_post 26 = .ok (.invokespecial 81, 3) := by decide +kernel
theorem dX10_post_29 : decode cX10_post 29 = .ok (.athrow, 1) := by decide +kernel
theorem dX10_post_30 : decode cX10_post 30 = .ok (.aload_n 2, 1) := by decide +kernel
theorem dX10_post_31 : decode cX10_post 31 = .ok (.aload_n 0, 1) := by decide +kernel
theorem dX10_post_32 : decode cX10_post 32 = .ok (.getfield 73, 3) := by decide +kernel
theorem dX10_post_35 : decode cX10_post 35 = .ok (.putfield 147, 3) := by decide +kernel
theorem dX10_post_38 : decode cX10_post 38 = .ok (.aload_n 2, 1) := by decide +kernel
theorem dX10_post_39 : decode cX10_post 39 = .ok (.getfield 133, 3) := by decide +kernel
theorem dX10_post_42 : decode cX10_post 42 = .ok (.ireturn, 1) := by decide +kernel
theorem dL_post_0 : decode cL_post 0 = .ok (.aload_n 2, 1) := by decide +kernel
theorem dL_post_1 : decode cL_post 1 = .ok (.iconst 0, 1) := by decide +kernel
theorem dL_post_2 : decode cL_post 2 = .ok (.aload_n 0, 1) := by decide +kernel
theorem dL_post_3 : decode cL_post 3 = .ok (.iload_n 1, 1) := by decide +kernel
theorem dL_post_4 : decode cL_post 4 = .ok (.invokevirtual 40, 3) := by decide +kernel
theorem dL_post_7 : decode cL_post 7 = .ok (.i2l, 1) := by decide +kernel
theorem dL_post_8 : decode cL_post 8 = .ok (.lastore, 1) := by decide +kernel
theorem dL_post_9 : decode cL_post 9 = .ok (.goto 9, 3) := by decide +kernel
theorem dL_post_12 : decode cL_post 12 = .ok (.astore_n 3, 1) := by decide +kernel
theorem dL_post_13 : decode cL_post 13 = .ok (.iconst 1, 1) := by decide +kernel
theorem dL_post_14 : decode cL_post 14 = .ok (.ireturn, 1) := by decide +kernel
theorem dL_post_15 : decode cL_post 15 = .ok (.astore_n 3, 1) := by decide +kernel
theorem dL_post_16 : decode cL_post 16 = .ok (.iconst 2, 1) := by decide +kernel
theorem dL_post_17 : decode cL_post 17 = .ok (.ireturn, 1) := by decide +kernel
theorem dL_post_18 : decode cL_post 18 = .ok (.iconst 0, 1) := by decide +kernel
theorem dL_post_19 : decode cL_post 19 = .ok (.ireturn, 1) := by decide +kernel
theorem dX9_fileUnder_0 : decode cX9_fileUnder 0 = .ok (.aload_n 0, 1) := by decide +kernel
theorem dX9_fileUnder_1 : decode cX9_fileUnder 1 = .ok (.iload_n 1, 1) := by decide +kernel
theorem dX9_fileUnder_2 : decode cX9_fileUnder 2 = .ok (.putfield 73, 3) := by decide +kernel
theorem dX9_fileUnder_5 : decode cX9_fileUnder 5 = .ok (.aload_n 0, 1) := by decide +kernel
theorem dX9_fileUnder_6 : decode cX9_fileUnder 6 = .ok (.iconst 0, 1) := by decide +kernel
theorem dX9_fileUnder_7 : decode cX9_fileUnder 7 = .ok (.putfield 76, 3) := by decide +kernel
theorem dX9_fileUnder_10 : decode cX9_fileUnder 10 = .ok (.return_, 1) := by decide +kernel
theorem dX10_put_0 : decode cX10_put 0 = .ok (.aload_n 0, 1) := by decide +kernel
theorem dX10_put_1 : decode cX10_put 1 = .ok (.iload_n 1, 1) := by decide +kernel
theorem dX10_put_2 : decode cX10_put 2 = .ok (.invokevirtual 112, 3) := by decide +kernel
theorem dX10_put_5 : decode cX10_put 5 = .ok (.astore 4, 2) := by decide +kernel
theorem dX10_put_7 : decode cX10_put 7 = .ok (.aload_n 0, 1) := by decide +kernel
theorem dX10_put_8 : decode cX10_put 8 = .ok (.iload_n 2, 1) := by decide +kernel
theorem dX10_put_9 : decode cX10_put 9 = .ok (.invokevirtual 189, 3) := by decide +kernel
theorem dX10_put_12 : decode cX10_put 12 = .ok (.aload 4, 2) := by decide +kernel
theorem dX10_put_14 : decode cX10_put 14 = .ok (.getfield 234, 3) := by decide +kernel
theorem dX10_put_17 : decode cX10_put 17 = .ok (.iload_n 2, 1) := by decide +kernel
theorem dX10_put_18 : decode cX10_put 18 = .ok (.invokestatic 91, 3) := by decide +kernel
theorem dX10_put_21 : decode cX10_put 21 = .ok (.istore 5, 2) := by decide +kernel
theorem dX10_put_23 : decode cX10_put 23 = .ok (.aload 4, 2) := by decide +kernel
theorem dX10_put_25 : decode cX10_put 25 = .ok (.aload 4, 2) := by decide +kernel
theorem dX10_put_27 : decode cX10_put 27 = .ok (.getfield 234, 3) := by decide +kernel
theorem dX10_put_30 : decode cX10_put 30 = .ok (.iload_n 2, 1) := by decide +kernel
theorem dX10_put_31 : decode cX10_put 31 = .ok (.iload_n 3, 1) := by decide +kernel
theorem dX10_put_32 : decode cX10_put 32 = .ok (.invokestatic 95, 3) := by decide +kernel
theorem dX10_put_35 : decode cX10_put 35 = .ok (.putfield 234, 3) := by decide +kernel
theorem dX10_put_38 : decode cX10_put 38 = .ok (.aload 4, 2) := by decide +kernel
theorem dX10_put_40 : decode cX10_put 40 = .ok (.aload_n 0, 1) := by decide +kernel
theorem dX10_put_41 : decode cX10_put 41 = .ok (.getfield 34, 3) := by decide +kernel
theorem dX10_put_44 : decode cX10_put 44 = .ok (.aload 4, 2) := by decide +kernel
theorem dX10_put_46 : decode cX10_put 46 = .ok (.getfield 234, 3) := by decide +kernel
theorem dX10_put_49 : decode cX10_put 49 = .ok (.invokevirtual 236, 3) := by decide +kernel
theorem dX10_put_52 : decode cX10_put 52 = .ok (.invokevirtual 239, 3) := by decide +kernel
theorem dX10_put_55 : decode cX10_put 55 = .ok (.iload 5, 2) := by decide +kernel
theorem dX10_put_57 : decode cX10_put 57 = .ok (.ireturn, 1) := by decide +kernel
theorem dL_put_0 : decode cL_put 0 = .ok (.aload 4, 2) := by decide +kernel
theorem dL_put_2 : decode cL_put 2 = .ok (.iconst 0, 1) := by decide +kernel
theorem dL_put_3 : decode cL_put 3 = .ok (.aload_n 0, 1) := by decide +kernel
theorem dL_put_4 : decode cL_put 4 = .ok (.iload_n 1, 1) := by decide +kernel
theorem dL_put_5 : decode cL_put 5 = .ok (.iload_n 2, 1) := by decide +kernel
theorem dL_put_6 : decode cL_put 6 = .ok (.iload_n 3, 1) := by decide +kernel
theorem dL_put_7 : decode cL_put 7 = .ok (.invokevirtual 76, 3) := by decide +kernel
theorem dL_put_10 : decode cL_put 10 = .ok (.ifCond .eq 7, 3) := by decide +kernel
theorem dL_put_13 : decode cL_put 13 = .ok (.lconst 1, 1) := by decide +kernel
theorem dL_put_14 : decode cL_put 14 = .ok (.goto 4, 3) := by decide +kernel
theorem dL_put_17 : decode cL_put 17 = .ok (.lconst 0, 1) := by decide +kernel
theorem dL_put_18 : decode cL_put 18 = .ok (.lastore, 1) := by decide +kernel
theorem dL_put_19 : decode cL_put 19 = .ok (.goto 7, 3) := by decide +kernel
theorem dL_put_22 : decode cL_put 22 = .ok (.astore 5, 2) := by decide +kernel
theorem dL_put_24 : decode cL_put 24 = .ok (.iconst 1, 1) := by decide +kernel
theorem dL_put_25 : decode cL_put 25 = .ok (.ireturn, 1) := by decide +kernel
theorem dL_put_26 : decode cL_put 26 = .ok (.iconst 0, 1) := by decide +kernel
theorem dL_put_27 : decode cL_put 27 = .ok (.ireturn, 1) := by decide +kernel
theorem dX10_reads_0 : decode cX10_reads 0 = .ok (.aload_n 0, 1) := by decide +kernel
theorem dX10_reads_1 : decode cX10_reads 1 = .ok (.iload_n 1, 1) := by decide +kernel
theorem dX10_reads_2 : decode cX10_reads 2 = .ok (.invokevirtual 112, 3) := by decide +kernel
theorem dX10_reads_5 : decode cX10_reads 5 = .ok (.astore_n 3, 1) := by decide +kernel
theorem dX10_reads_6 : decode cX10_reads 6 = .ok (.iload_n 2, 1) := by decide +kernel
theorem dX10_reads_7 : decode cX10_reads 7 = .ok (.invokestatic 99, 3) := by decide +kernel
theorem dX10_reads_10 : decode cX10_reads 10 = .ok (.iconst 0, 1) := by decide +kernel
theorem dX10_reads_11 : decode cX10_reads 11 = .ok (.istore 4, 2) := by decide +kernel
theorem dX10_reads_13 : decode cX10_reads 13 = .ok (.iconst 0, 1) := by decide +kernel
theorem dX10_reads_14 : decode cX10_reads 14 = .ok (.istore 5, 2) := by decide +kernel
theorem dX10_reads_16 : decode cX10_reads 16 = .ok (.iload 5, 2) := by decide +kernel
theorem dX10_reads_18 : decode cX10_reads 18 = .ok (.aload_n 0, 1) := by decide +kernel
theorem dX10_reads_19 : decode cX10_reads 19 = .ok (.getfield 327, 3) := by decide +kernel
theorem dX10_reads_22 : decode cX10_reads 22 = .ok (.if_icmp .ge 41, 3) := by decide +kernel
theorem dX10_reads_25 : decode cX10_reads 25 = .ok (.aload_n 0, 1) := by decide +kernel
theorem dX10_reads_26 : decode cX10_reads 26 = .ok (.getfield 61, 3) := by decide +kernel
theorem dX10_reads_29 : decode cX10_reads 29 = .ok (.iload 5, 2) := by decide +kernel
theorem dX10_reads_31 : decode cX10_reads 31 = .ok (.aaload, 1) := by decide +kernel
theorem dX10_reads_32 : decode cX10_reads 32 = .ok (.astore 6, 2) := by decide +kernel
theorem dX10_reads_34 : decode cX10_reads 34 = .ok (.aload 6, 2) := by decide +kernel
theorem dX10_reads_36 : decode cX10_reads 36 = .ok (.getfield 322, 3) := by decide +kernel
theorem dX10_reads_39 : decode cX10_reads 39 = .ok (.iload_n 1, 1) := by decide +kernel
theorem dX10_reads_40 : decode cX10_reads 40 = .ok (.if_icmp .ne 17, 3) := by decide +kernel
theorem dX10_reads_43 : decode cX10_reads 43 = .ok (.aload_n 0, 1) := by decide +kernel
theorem dX10_reads_44 : decode cX10_reads 44 = .ok (.iload_n 2, 1) := by decide +kernel
theorem dX10_reads_45 : decode cX10_reads 45 = .ok (.aload 6, 2) := by decide +kernel
theorem dX10_reads_47 : decode cX10_reads 47 = .ok (.aload_n 3, 1) := by decide +kernel
theorem dX10_reads_48 : decode cX10_reads 48 = .ok (.invokevirtual 348, 3) := by decide +kernel
theorem dX10_reads_51 : decode cX10_reads 51 = .ok (.ifCond .eq 6, 3) := by decide +kernel
theorem dX10_reads_54 : decode cX10_reads 54 = .ok (.iinc 4 1, 3) := by decide +kernel
theorem dX10_reads_57 : decode cX10_reads 57 = .ok (.iinc 5 1, 3) := by decide +kernel
theorem dX10_reads_60 : decode cX10_reads 60 = .ok (.goto (-44), 3) := by decide +kernel
theorem dX10_reads_63 : decode cX10_reads 63 = .ok (.iload 4, 2) := by decide +kernel
theorem dX10_reads_65 : decode cX10_reads 65 = .ok (.ireturn, 1) := by decide +kernel
theorem dL_reads_0 : decode cL_reads 0 = .ok (.aload_n 3, 1) := by decide +kernel
theorem dL_reads_1 : decode cL_reads 1 = .ok (.iconst 0, 1) := by decide +kernel
theorem dL_reads_2 : decode cL_reads 2 = .ok (.aload_n 0, 1) := by decide +kernel
theorem dL_reads_3 : decode cL_reads 3 = .ok (.iload_n 1, 1) := by decide +kernel
theorem dL_reads_4 : decode cL_reads 4 = .ok (.iload_n 2, 1) := by decide +kernel
theorem dL_reads_5 : decode cL_reads 5 = .ok (.invokevirtual 113, 3) := by decide +kernel
theorem dL_reads_8 : decode cL_reads 8 = .ok (.i2l, 1) := by decide +kernel
theorem dL_reads_9 : decode cL_reads 9 = .ok (.lastore, 1) := by decide +kernel
theorem dL_reads_10 : decode cL_reads 10 = .ok (.goto 7, 3) := by decide +kernel
theorem dL_reads_13 : decode cL_reads 13 = .ok (.astore 4, 2) := by decide +kernel
theorem dL_reads_15 : decode cL_reads 15 = .ok (.iconst 1, 1) := by decide +kernel
theorem dL_reads_16 : decode cL_reads 16 = .ok (.ireturn, 1) := by decide +kernel
theorem dL_reads_17 : decode cL_reads 17 = .ok (.iconst 0, 1) := by decide +kernel
theorem dL_reads_18 : decode cL_reads 18 = .ok (.ireturn, 1) := by decide +kernel
theorem dX4_isAtEnd_0 : decode cX4_isAtEnd 0 = .ok (.aload_n 0, 1) := by decide +kernel
theorem dX4_isAtEnd_1 : decode cX4_isAtEnd 1 = .ok (.getfield 9, 3) := by decide +kernel
theorem dX4_isAtEnd_4 : decode cX4_isAtEnd 4 = .ok (.ifCond .ne 21, 3) := by decide +kernel
theorem dX4_isAtEnd_7 : decode cX4_isAtEnd 7 = .ok (.aload_n 0, 1) := by decide +kernel
theorem dX4_isAtEnd_8 : decode cX4_isAtEnd 8 = .ok (.getfield 15, 3) := by decide +kernel
theorem dX4_isAtEnd_11 : decode cX4_isAtEnd 11 = .ok (.ifCond .ne 14, 3) := by decide +kernel
theorem dX4_isAtEnd_14 : decode cX4_isAtEnd 14 = .ok (.aload_n 0, 1) := by decide +kernel
theorem dX4_isAtEnd_15 : decode cX4_isAtEnd 15 = .ok (.getfield 19, 3) := by decide +kernel
theorem dX4_isAtEnd_18 : decode cX4_isAtEnd 18 = .ok (.ifCond .ne 7, 3) := by decide +kernel
theorem dX4_isAtEnd_21 : decode cX4_isAtEnd 21 = .ok (.iconst 1, 1) := by decide +kernel
theorem dX4_isAtEnd_22 : decode cX4_isAtEnd 22 = .ok (.goto 4, 3) := by decide +kernel
theorem dX4_isAtEnd_25 : decode cX4_isAtEnd 25 = .ok (.iconst 0, 1) := by decide +kernel
theorem dX4_isAtEnd_26 : decode cX4_isAtEnd 26 = .ok (.ireturn, 1) := by decide +kernel
theorem dX4_start_0 : decode cX4_start 0 = .ok (.aload_n 0, 1) := by decide +kernel
theorem dX4_start_1 : decode cX4_start 1 = .ok (.iconst 0, 1) := by decide +kernel
theorem dX4_start_2 : decode cX4_start 2 = .ok (.putfield 9, 3) := by decide +kernel
theorem dX4_start_5 : decode cX4_start 5 = .ok (.aload_n 0, 1) := by decide +kernel
theorem dX4_start_6 : decode cX4_start 6 = .ok (.iconst 1, 1) := by decide +kernel
theorem dX4_start_7 : decode cX4_start 7 = .ok (.putfield 15, 3) := by decide +kernel
theorem dX4_start_10 : decode cX4_start 10 = .ok (.aload_n 0, 1) := by decide +kernel
theorem dX4_start_11 : decode cX4_start 11 = .ok (.iconst 0, 1) := by decide +kernel
theorem dX4_start_12 : decode cX4_start 12 = .ok (.putfield 19, 3) := by decide +kernel
theorem dX4_start_15 : decode cX4_start 15 = .ok (.return_, 1) := by decide +kernel
theorem dX4_greatestOf_0 : decode cX4_greatestOf 0 = .ok (.iload_n 0, 1) := by decide +kernel
theorem dX4_greatestOf_1 : decode cX4_greatestOf 1 = .ok (.bipush 116, 2) := by decide +kernel
theorem dX4_greatestOf_3 : decode cX4_greatestOf 3 = .ok (.if_icmp .ne 6, 3) := by decide +kernel
theorem dX4_greatestOf_6 : decode cX4_greatestOf 6 = .ok (.bipush 29, 2) := by decide +kernel
theorem dX4_greatestOf_8 : decode cX4_greatestOf 8 = .ok (.ireturn, 1) := by decide +kernel
theorem dX4_greatestOf_9 : decode cX4_greatestOf 9 = .ok (.iload_n 0, 1) := by decide +kernel
theorem dX4_greatestOf_10 : decode cX4_greatestOf 10 = .ok (.bipush 97, 2) := by decide +kernel
theorem dX4_greatestOf_12 : decode cX4_greatestOf 12 = .ok (.if_icmp .ne 8, 3) := by decide +kernel
theorem dX4_greatestOf_15 : decode cX4_greatestOf 15 = .ok (.bipush 11, 2) := by decide +kernel
theorem dX4_greatestOf_17 : decode cX4_greatestOf 17 = .ok (.goto 4, 3) := by decide +kernel
theorem dX4_greatestOf_20 : decode cX4_greatestOf 20 = .ok (.iconst 3, 1) := by decide +kernel
theorem dX4_greatestOf_21 : decode cX4_greatestOf 21 = .ok (.ireturn, 1) := by decide +kernel
theorem dX4_isFigure_0 : decode cX4_isFigure 0 = .ok (.iload_n 0, 1) := by decide +kernel
theorem dX4_isFigure_1 : decode cX4_isFigure 1 = .ok (.bipush 48, 2) := by decide +kernel
theorem dX4_isFigure_3 : decode cX4_isFigure 3 = .ok (.if_icmp .lt 13, 3) := by decide +kernel
theorem dX4_isFigure_6 : decode cX4_isFigure 6 = .ok (.iload_n 0, 1) := by decide +kernel
theorem dX4_isFigure_7 : decode cX4_isFigure 7 = .ok (.bipush 57, 2) := by decide +kernel
theorem dX4_isFigure_9 : decode cX4_isFigure 9 = .ok (.if_icmp .gt 7, 3) := by decide +kernel
theorem dX4_isFigure_12 : decode cX4_isFigure 12 = .ok (.iconst 1, 1) := by decide +kernel
theorem dX4_isFigure_13 : decode cX4_isFigure 13 = .ok (.goto 4, 3) := by decide +kernel
theorem dX4_isFigure_16 : decode cX4_isFigure 16 = .ok (.iconst 0, 1) := by decide +kernel
theorem dX4_isFigure_17 : decode cX4_isFigure 17 = .ok (.ireturn, 1) := by decide +kernel
theorem dX4_takesFigure_0 : decode cX4_takesFigure 0 = .ok (.iload_n 1, 1) := by decide +kernel
theorem dX4_takesFigure_1 : decode cX4_takesFigure 1 = .ok (.invokestatic 32, 3) := by decide +kernel
theorem dX4_takesFigure_4 : decode cX4_takesFigure 4 = .ok (.ifCond .ne 5, 3) := by decide +kernel
theorem dX4_takesFigure_7 : decode cX4_takesFigure 7 = .ok (.iconst 0, 1) := by decide +kernel
theorem dX4_takesFigure_8 : decode cX4_takesFigure 8 = .ok (.ireturn, 1) := by decide +kernel
theorem dX4_takesFigure_9 : decode cX4_takesFigure 9 = .ok (.aload_n 0, 1) := by decide +kernel
theorem dX4_takesFigure_10 : decode cX4_takesFigure 10 = .ok (.aload_n 0, 1) := by decide +kernel
theorem dX4_takesFigure_11 : decode cX4_takesFigure 11 = .ok (.getfield 39, 3) := by decide +kernel
theorem dX4_takesFigure_14 : decode cX4_takesFigure 14 = .ok (.bipush 10, 2) := by decide +kernel
theorem dX4_takesFigure_16 : decode cX4_takesFigure 16 = .ok (.imul, 1) := by decide +kernel
theorem dX4_takesFigure_17 : decode cX4_takesFigure 17 = .ok (.iload_n 1, 1) := by decide +kernel
theorem dX4_takesFigure_18 : decode cX4_takesFigure 18 = .ok (.bipush 48, 2) := by decide +kernel
theorem dX4_takesFigure_20 : decode cX4_takesFigure 20 = .ok (.isub, 1) := by decide +kernel
theorem dX4_takesFigure_21 : decode cX4_takesFigure 21 = .ok (.iadd, 1) := by decide +kernel
theorem dX4_takesFigure_22 : decode cX4_takesFigure 22 = .ok (.putfield 39, 3) := by decide +kernel
theorem dX4_takesFigure_25 : decode cX4_takesFigure 25 = .ok (.aload_n 0, 1) := by decide +kernel
theorem dX4_takesFigure_26 : decode cX4_takesFigure 26 = .ok (.dup, 1) := by decide +kernel
theorem dX4_takesFigure_27 : decode cX4_takesFigure 27 = .ok (.getfield 19, 3) := by decide +kernel
theorem dX4_takesFigure_30 : decode cX4_takesFigure 30 = .ok (.iconst 1, 1) := by decide +kernel
theorem dX4_takesFigure_31 : decode cX4_takesFigure 31 = .ok (.isub, 1) := by decide +kernel
theorem dX4_takesFigure_32 : decode cX4_takesFigure 32 = .ok (.putfield 19, 3) := by decide +kernel
theorem dX4_takesFigure_35 : decode cX4_takesFigure 35 = .ok (.aload_n 0, 1) := by decide +kernel
theorem dX4_takesFigure_36 : decode cX4_takesFigure 36 = .ok (.getfield 19, 3) := by decide +kernel
theorem dX4_takesFigure_39 : decode cX4_takesFigure 39 = .ok (.ifCond .le 13, 3) := by decide +kernel
theorem dX4_takesFigure_42 : decode cX4_takesFigure 42 = .ok (.aload_n 0, 1) := by decide +kernel
theorem dX4_takesFigure_43 : decode cX4_takesFigure 43 = .ok (.getfield 39, 3) := by decide +kernel
theorem dX4_takesFigure_46 : decode cX4_takesFigure 46 = .ok (.bipush 10, 2) := by decide +kernel
theorem dX4_takesFigure_48 : decode cX4_takesFigure 48 = .ok (.imul, 1) := by decide +kernel
theorem dX4_takesFigure_49 : decode cX4_takesFigure 49 = .ok (.goto 7, 3) := by decide +kernel
theorem dX4_takesFigure_52 : decode cX4_takesFigure 52 = .ok (.aload_n 0, 1) := by decide +kernel
theorem dX4_takesFigure_53 : decode cX4_takesFigure 53 = .ok (.getfield 39, 3) := by decide +kernel
theorem dX4_takesFigure_56 : decode cX4_takesFigure 56 = .ok (.istore_n 2, 1) := by decide +kernel
theorem dX4_takesFigure_57 : decode cX4_takesFigure 57 = .ok (.iload_n 2, 1) := by decide +kernel
theorem dX4_takesFigure_58 : decode cX4_takesFigure 58 = .ok (.aload_n 0, 1) := by decide +kernel
theorem dX4_takesFigure_59 : decode cX4_takesFigure 59 = .ok (.getfield 35, 3) := by decide +kernel
theorem dX4_takesFigure_62 : decode cX4_takesFigure 62 = .ok (.invokestatic 46, 3) := by decide +kernel
theorem dX4_takesFigure_65 : decode cX4_takesFigure 65 = .ok (.if_icmp .gt 7, 3) := by decide +kernel
theorem dX4_takesFigure_68 : decode cX4_takesFigure 68 = .ok (.iconst 1, 1) := by decide +kernel
theorem dX4_takesFigure_69 : decode cX4_takesFigure 69 = .ok (.goto 4, 3) := by decide +kernel
theorem dX4_takesFigure_72 : decode cX4_takesFigure 72 = .ok (.iconst 0, 1) := by decide +kernel
theorem dX4_takesFigure_73 : decode cX4_takesFigure 73 = .ok (.ireturn, 1) := by decide +kernel
theorem dX4_figuresOf_0 : decode cX4_figuresOf 0 = .ok (.iload_n 0, 1) := by decide +kernel
theorem dX4_figuresOf_1 : decode cX4_figuresOf 1 = .ok (.bipush 116, 2) := by decide +kernel
theorem dX4_figuresOf_3 : decode cX4_figuresOf 3 = .ok (.if_icmp .eq 9, 3) := by decide +kernel
theorem dX4_figuresOf_6 : decode cX4_figuresOf 6 = .ok (.iload_n 0, 1) := by decide +kernel
theorem dX4_figuresOf_7 : decode cX4_figuresOf 7 = .ok (.bipush 97, 2) := by decide +kernel
theorem dX4_figuresOf_9 : decode cX4_figuresOf 9 = .ok (.if_icmp .ne 5, 3) := by decide +kernel
theorem dX4_figuresOf_12 : decode cX4_figuresOf 12 = .ok (.iconst 2, 1) := by decide +kernel
theorem dX4_figuresOf_13 : decode cX4_figuresOf 13 = .ok (.ireturn, 1) := by decide +kernel
theorem dX4_figuresOf_14 : decode cX4_figuresOf 14 = .ok (.iload_n 0, 1) := by decide +kernel
theorem dX4_figuresOf_15 : decode cX4_figuresOf 15 = .ok (.bipush 114, 2) := by decide +kernel
theorem dX4_figuresOf_17 : decode cX4_figuresOf 17 = .ok (.if_icmp .ne 7, 3) := by decide +kernel
theorem dX4_figuresOf_20 : decode cX4_figuresOf 20 = .ok (.iconst 1, 1) := by decide +kernel
theorem dX4_figuresOf_21 : decode cX4_figuresOf 21 = .ok (.goto 4, 3) := by decide +kernel
theorem dX4_figuresOf_24 : decode cX4_figuresOf 24 = .ok (.iconst 0, 1) := by decide +kernel
theorem dX4_figuresOf_25 : decode cX4_figuresOf 25 = .ok (.ireturn, 1) := by decide +kernel
theorem dX4_takesItem_0 : decode cX4_takesItem 0 = .ok (.iload_n 1, 1) := by decide +kernel
theorem dX4_takesItem_1 : decode cX4_takesItem 1 = .ok (.bipush 33, 2) := by decide +kernel
theorem dX4_takesItem_3 : decode cX4_takesItem 3 = .ok (.if_icmp .ne 5, 3) := by decide +kernel
theorem dX4_takesItem_6 : decode cX4_takesItem 6 = .ok (.iconst 1, 1) := by decide +kernel
theorem dX4_takesItem_7 : decode cX4_takesItem 7 = .ok (.ireturn, 1) := by decide +kernel
theorem dX4_takesItem_8 : decode cX4_takesItem 8 = .ok (.iload_n 1, 1) := by decide +kernel
theorem dX4_takesItem_9 : decode cX4_takesItem 9 = .ok (.bipush 40, 2) := by decide +kernel
theorem dX4_takesItem_11 : decode cX4_takesItem 11 = .ok (.if_icmp .ne 15, 3) := by decide +kernel
theorem dX4_takesItem_14 : decode cX4_takesItem 14 = .ok (.aload_n 0, 1) := by decide +kernel
theorem dX4_takesItem_15 : decode cX4_takesItem 15 = .ok (.dup, 1) := by decide +kernel
theorem dX4_takesItem_16 : decode cX4_takesItem 16 = .ok (.getfield 9, 3) := by decide +kernel
theorem dX4_takesItem_19 : decode cX4_takesItem 19 = .ok (.iconst 1, 1) := by decide +kernel
theorem dX4_takesItem_20 : decode cX4_takesItem 20 = .ok (.iadd, 1) := by decide +kernel
theorem dX4_takesItem_21 : decode cX4_takesItem 21 = .ok (.putfield 9, 3) := by decide +kernel
theorem dX4_takesItem_24 : decode cX4_takesItem 24 = .ok (.iconst 1, 1) := by decide +kernel
theorem dX4_takesItem_25 : decode cX4_takesItem 25 = .ok (.ireturn, 1) := by decide +kernel
theorem dX4_takesItem_26 : decode cX4_takesItem 26 = .ok (.aload_n 0, 1) := by decide +kernel
theorem dX4_takesItem_27 : decode cX4_takesItem 27 = .ok (.iload_n 1, 1) := by decide +kernel
theorem dX4_takesItem_28 : decode cX4_takesItem 28 = .ok (.putfield 35, 3) := by decide +kernel
theorem dX4_takesItem_31 : decode cX4_takesItem 31 = .ok (.aload_n 0, 1) := by decide +kernel
theorem dX4_takesItem_32 : decode cX4_takesItem 32 = .ok (.iconst 0, 1) := by decide +kernel
theorem dX4_takesItem_33 : decode cX4_takesItem 33 = .ok (.putfield 39, 3) := by decide +kernel
theorem dX4_takesItem_36 : decode cX4_takesItem 36 = .ok (.aload_n 0, 1) := by decide +kernel
theorem dX4_takesItem_37 : decode cX4_takesItem 37 = .ok (.iload_n 1, 1) := by decide +kernel
theorem dX4_takesItem_38 : decode cX4_takesItem 38 = .ok (.invokestatic 42, 3) := by decide +kernel
theorem dX4_takesItem_41 : decode cX4_takesItem 41 = .ok (.putfield 19, 3) := by decide +kernel
theorem dX4_takesItem_44 : decode cX4_takesItem 44 = .ok (.aload_n 0, 1) := by decide +kernel
theorem dX4_takesItem_45 : decode cX4_takesItem 45 = .ok (.iconst 0, 1) := by decide +kernel
theorem dX4_takesItem_46 : decode cX4_takesItem 46 = .ok (.putfield 15, 3) := by decide +kernel
theorem dX4_takesItem_49 : decode cX4_takesItem 49 = .ok (.aload_n 0, 1) := by decide +kernel
theorem dX4_takesItem_50 : decode cX4_takesItem 50 = .ok (.getfield 19, 3) := by decide +kernel
theorem dX4_takesItem_53 : decode cX4_takesItem 53 = .ok (.ifCond .le 7, 3) := by decide +kernel
theorem dX4_takesItem_56 : decode cX4_takesItem 56 = .ok (.iconst 1, 1) := by decide +kernel
theorem dX4_takesItem_57 : decode cX4_takesItem 57 = .ok (.goto 4, 3) := by decide +kernel
theorem dX4_takesItem_60 : decode cX4_takesItem 60 = .ok (.iconst 0, 1) := by decide +kernel
theorem dX4_takesItem_61 : decode cX4_takesItem 61 = .ok (.ireturn, 1) := by decide +kernel
theorem dX4_takesLink_0 : decode cX4_takesLink 0 = .ok (.iload_n 1, 1) := by decide +kernel
theorem dX4_takesLink_1 : decode cX4_takesLink 1 = .ok (.bipush 41, 2) := by decide +kernel
theorem dX4_takesLink_3 : decode cX4_takesLink 3 = .ok (.if_icmp .ne 26, 3) := by decide +kernel
theorem dX4_takesLink_6 : decode cX4_takesLink 6 = .ok (.aload_n 0, 1) := by decide +kernel
theorem dX4_takesLink_7 : decode cX4_takesLink 7 = .ok (.dup, 1) := by decide +kernel
theorem dX4_takesLink_8 : decode cX4_takesLink 8 = .ok (.getfield 9, 3) := by decide +kernel
theorem dX4_takesLink_11 : decode cX4_takesLink 11 = .ok (.iconst 1, 1) := by decide +kernel
theorem dX4_takesLink_12 : decode cX4_takesLink 12 = .ok (.isub, 1) := by decide +kernel
theorem dX4_takesLink_13 : decode cX4_takesLink 13 = .ok (.putfield 9, 3) := by decide +kernel
theorem dX4_takesLink_16 : decode cX4_takesLink 16 = .ok (.aload_n 0, 1) := by decide +kernel
theorem dX4_takesLink_17 : decode cX4_takesLink 17 = .ok (.getfield 9, 3) := by decide +kernel
theorem dX4_takesLink_20 : decode cX4_takesLink 20 = .ok (.ifCond .lt 7, 3) := by decide +kernel
theorem dX4_takesLink_23 : decode cX4_takesLink 23 = .ok (.iconst 1, 1) := by decide +kernel
theorem dX4_takesLink_24 : decode cX4_takesLink 24 = .ok (.goto 4, 3) := by decide +kernel
theorem dX4_takesLink_27 : decode cX4_takesLink 27 = .ok (.iconst 0, 1) := by decide +kernel
theorem dX4_takesLink_28 : decode cX4_takesLink 28 = .ok (.ireturn, 1) := by decide +kernel
theorem dX4_takesLink_29 : decode cX4_takesLink 29 = .ok (.aload_n 0, 1) := by decide +kernel
theorem dX4_takesLink_30 : decode cX4_takesLink 30 = .ok (.iconst 1, 1) := by decide +kernel
theorem dX4_takesLink_31 : decode cX4_takesLink 31 = .ok (.putfield 15, 3) := by decide +kernel
theorem dX4_takesLink_34 : decode cX4_takesLink 34 = .ok (.iload_n 1, 1) := by decide +kernel
theorem dX4_takesLink_35 : decode cX4_takesLink 35 = .ok (.bipush 38, 2) := by decide +kernel
theorem dX4_takesLink_37 : decode cX4_takesLink 37 = .ok (.if_icmp .eq 9, 3) := by decide +kernel
theorem dX4_takesLink_40 : decode cX4_takesLink 40 = .ok (.iload_n 1, 1) := by decide +kernel
theorem dX4_takesLink_41 : decode cX4_takesLink 41 = .ok (.bipush 124, 2) := by decide +kernel
theorem dX4_takesLink_43 : decode cX4_takesLink 43 = .ok (.if_icmp .ne 7, 3) := by decide +kernel
theorem dX4_takesLink_46 : decode cX4_takesLink 46 = .ok (.iconst 1, 1) := by decide +kernel
theorem dX4_takesLink_47 : decode cX4_takesLink 47 = .ok (.goto 4, 3) := by decide +kernel
theorem dX4_takesLink_50 : decode cX4_takesLink 50 = .ok (.iconst 0, 1) := by decide +kernel
theorem dX4_takesLink_51 : decode cX4_takesLink 51 = .ok (.ireturn, 1) := by decide +kernel
theorem dX4_takes_0 : decode cX4_takes 0 = .ok (.aload_n 0, 1) := by decide +kernel
theorem dX4_takes_1 : decode cX4_takes 1 = .ok (.getfield 19, 3) := by decide +kernel
theorem dX4_takes_4 : decode cX4_takes 4 = .ok (.ifCond .le 9, 3) := by decide +kernel
theorem dX4_takes_7 : decode cX4_takes 7 = .ok (.aload_n 0, 1) := by decide +kernel
theorem dX4_takes_8 : decode cX4_takes 8 = .ok (.iload_n 1, 1) := by decide +kernel
theorem dX4_takes_9 : decode cX4_takes 9 = .ok (.invokevirtual 22, 3) := by decide +kernel
theorem dX4_takes_12 : decode cX4_takes 12 = .ok (.ireturn, 1) := by decide +kernel
theorem dX4_takes_13 : decode cX4_takes 13 = .ok (.aload_n 0, 1) := by decide +kernel
theorem dX4_takes_14 : decode cX4_takes 14 = .ok (.getfield 15, 3) := by decide +kernel
theorem dX4_takes_17 : decode cX4_takes 17 = .ok (.ifCond .eq 11, 3) := by decide +kernel
theorem dX4_takes_20 : decode cX4_takes 20 = .ok (.aload_n 0, 1) := by decide +kernel
theorem dX4_takes_21 : decode cX4_takes 21 = .ok (.iload_n 1, 1) := by decide +kernel
theorem dX4_takes_22 : decode cX4_takes 22 = .ok (.invokevirtual 26, 3) := by decide +kernel
theorem dX4_takes_25 : decode cX4_takes 25 = .ok (.goto 8, 3) := by decide +kernel
theorem dX4_takes_28 : decode cX4_takes 28 = .ok (.aload_n 0, 1) := by decide +kernel
theorem dX4_takes_29 : decode cX4_takes 29 = .ok (.iload_n 1, 1) := by decide +kernel
theorem dX4_takes_30 : decode cX4_takes 30 = .ok (.invokevirtual 29, 3) := by decide +kernel
theorem dX4_takes_33 : decode cX4_takes 33 = .ok (.ireturn, 1) := by decide +kernel
theorem dX8_firstFault_0 : decode cX8_firstFault 0 = .ok (.aload_n 0, 1) := by decide +kernel
theorem dX8_firstFault_1 : decode cX8_firstFault 1 = .ok (.getfield 18, 3) := by decide +kernel
theorem dX8_firstFault_4 : decode cX8_firstFault 4 = .ok (.invokevirtual 34, 3) := by decide +kernel
theorem dX8_firstFault_7 : decode cX8_firstFault 7 = .ok (.iconst 0, 1) := by decide +kernel
theorem dX8_firstFault_8 : decode cX8_firstFault 8 = .ok (.istore_n 1, 1) := by decide +kernel
theorem dX8_firstFault_9 : decode cX8_firstFault 9 = .ok (.iload_n 1, 1) := by decide +kernel
theorem dX8_firstFault_10 : decode cX8_firstFault 10 = .ok (.aload_n 0, 1) := by decide +kernel
theorem dX8_firstFault_11 : decode cX8_firstFault 11 = .ok (.getfield 30, 3) := by decide +kernel
theorem dX8_firstFault_14 : decode cX8_firstFault 14 = .ok (.if_icmp .ge 27, 3) := by decide +kernel
theorem dX8_firstFault_17 : decode cX8_firstFault 17 = .ok (.aload_n 0, 1) := by decide +kernel
theorem dX8_firstFault_18 : decode cX8_firstFault 18 = .ok (.getfield 18, 3) := by decide +kernel
theorem dX8_firstFault_21 : decode cX8_firstFault 21 = .ok (.aload_n 0, 1) := by decide +kernel
theorem dX8_firstFault_22 : decode cX8_firstFault 22 = .ok (.getfield 9, 3) := by decide +kernel
theorem dX8_firstFault_25 : decode cX8_firstFault 25 = .ok (.iload_n 1, 1) := by decide +kernel
theorem dX8_firstFault_26 : decode cX8_firstFault 26 = .ok (.caload, 1) := by decide +kernel
theorem dX8_firstFault_27 : decode cX8_firstFault 27 = .ok (.invokevirtual 37, 3) := by decide +kernel
theorem dX8_firstFault_30 : decode cX8_firstFault 30 = .ok (.ifCond .ne 5, 3) := by decide +kernel
theorem dX8_firstFault_33 : decode cX8_firstFault 33 = .ok (.iload_n 1, 1) := by decide +kernel
theorem dX8_firstFault_34 : decode cX8_firstFault 34 = .ok (.ireturn, 1) := by decide +kernel
theorem dX8_firstFault_35 : decode cX8_firstFault 35 = .ok (.iinc 1 1, 3) := by decide +kernel
theorem dX8_firstFault_38 : decode cX8_firstFault 38 = .ok (.goto (-29), 3) := by decide +kernel
theorem dX8_firstFault_41 : decode cX8_firstFault 41 = .ok (.aload_n 0, 1) := by decide +kernel
theorem dX8_firstFault_42 : decode cX8_firstFault 42 = .ok (.getfield 18, 3) := by decide +kernel
theorem dX8_firstFault_45 : decode cX8_firstFault 45 = .ok (.invokevirtual 40, 3) := by decide +kernel
theorem dX8_firstFault_48 : decode cX8_firstFault 48 = .ok (.ifCond .eq 7, 3) := by decide +kernel
theorem dX8_firstFault_51 : decode cX8_firstFault 51 = .ok (.iconst (-1), 1) := by decide +kernel
theorem dX8_firstFault_52 : decode cX8_firstFault 52 = .ok (.goto 7, 3) := by decide +kernel
theorem dX8_firstFault_55 : decode cX8_firstFault 55 = .ok (.aload_n 0, 1) := by decide +kernel
theorem dX8_firstFault_56 : decode cX8_firstFault 56 = .ok (.getfield 30, 3) := by decide +kernel
theorem dX8_firstFault_59 : decode cX8_firstFault 59 = .ok (.ireturn, 1) := by decide +kernel
theorem dX10_checkQuery_0 : decode cX10_checkQuery 0 = .ok (.aload_n 0, 1) := by decide +kernel
theorem dX10_checkQuery_1 : decode cX10_checkQuery 1 = .ok (.getfield 41, 3) := by decide +kernel
theorem dX10_checkQuery_4 : decode cX10_checkQuery 4 = .ok (.invokevirtual 271, 3) := by decide +kernel
theorem dX10_checkQuery_7 : decode cX10_checkQuery 7 = .ok (.iconst (-1), 1) := by decide +kernel
theorem dX10_checkQuery_8 : decode cX10_checkQuery 8 = .ok (.if_icmp .eq 14, 3) := by decide +kernel
theorem dX10_checkQuery_11 : decode cX10_checkQuery 11 = .ok (.new 66, 3) := by decide +kernel
theorem dX10_checkQuery_14 : decode cX10_checkQuery 14 = .ok (.dup, 1) := by decide +kernel
theorem dX10_checkQuery_15 : decode cX10_checkQuery 15 = .ok (.ldc_w 382, 3) := by decide +kernel
theorem dX10_checkQuery_18 : decode cX10_checkQuery 18 = .ok (.invokespecial 70, 3) := by decide +kernel
theorem dX10_checkQuery_21 : decode cX10_checkQuery 21 = .ok (.athrow, 1) := by decide +kernel
theorem dX10_checkQuery_22 : decode cX10_checkQuery 22 = .ok (.return_, 1) := by decide +kernel
theorem dX9_latest_0 : decode cX9_latest 0 = .ok (.aload_n 0, 1) := by decide +kernel
theorem dX9_latest_1 : decode cX9_latest 1 = .ok (.invokevirtual 42, 3) := by decide +kernel
theorem dX9_latest_4 : decode cX9_latest 4 = .ok (.ifCond .eq 23, 3) := by decide +kernel
theorem dX9_latest_7 : decode cX9_latest 7 = .ok (.aload_n 0, 1) := by decide +kernel
theorem dX9_latest_8 : decode cX9_latest 8 = .ok (.getfield 62, 3) := by decide +kernel
theorem dX9_latest_11 : decode cX9_latest 11 = .ok (.ifCond .le 16, 3) := by decide +kernel
theorem dX9_latest_14 : decode cX9_latest 14 = .ok (.aload_n 0, 1) := by decide +kernel
theorem dX9_latest_15 : decode cX9_latest 15 = .ok (.aload_n 0, 1) := by decide +kernel
theorem dX9_latest_16 : decode cX9_latest 16 = .ok (.getfield 62, 3) := by decide +kernel
theorem dX9_latest_19 : decode cX9_latest 19 = .ok (.iconst 1, 1) := by decide +kernel
theorem dX9_latest_20 : decode cX9_latest 20 = .ok (.isub, 1) := by decide +kernel
theorem dX9_latest_21 : decode cX9_latest 21 = .ok (.invokevirtual 65, 3) := by decide +kernel
theorem dX9_latest_24 : decode cX9_latest 24 = .ok (.goto 4, 3) := by decide +kernel
theorem dX9_latest_27 : decode cX9_latest 27 = .ok (.iconst (-1), 1) := by decide +kernel
theorem dX9_latest_28 : decode cX9_latest 28 = .ok (.ireturn, 1) := by decide +kernel
theorem dX10_countAheadOf_0 : decode cX10_countAheadOf 0 = .ok (.aload_n 0, 1) := by decide +kernel
theorem dX10_countAheadOf_1 : decode cX10_countAheadOf 1 = .ok (.getfield 21, 3) := by decide +kernel
theorem dX10_countAheadOf_4 : decode cX10_countAheadOf 4 = .ok (.iload_n 1, 1) := by decide +kernel
theorem dX10_countAheadOf_5 : decode cX10_countAheadOf 5 = .ok (.aaload, 1) := by decide +kernel
theorem dX10_countAheadOf_6 : decode cX10_countAheadOf 6 = .ok (.invokevirtual 443, 3) := by decide +kernel
theorem dX10_countAheadOf_9 : decode cX10_countAheadOf 9 = .ok (.istore_n 3, 1) := by decide +kernel
theorem dX10_countAheadOf_10 : decode cX10_countAheadOf 10 = .ok (.iconst 0, 1) := by decide +kernel
theorem dX10_countAheadOf_11 : decode cX10_countAheadOf 11 = .ok (.istore 4, 2) := by decide +kernel
theorem dX10_countAheadOf_13 : decode cX10_countAheadOf 13 = .ok (.iconst 0, 1) := by decide +kernel
theorem dX10_countAheadOf_14 : decode cX10_countAheadOf 14 = .ok (.istore 5, 2) := by decide +kernel
theorem dX10_countAheadOf_16 : decode cX10_countAheadOf 16 = .ok (.iload 5, 2) := by decide +kernel
theorem dX10_countAheadOf_18 : decode cX10_countAheadOf 18 = .ok (.aload_n 0, 1) := by decide +kernel
theorem dX10_countAheadOf_19 : decode cX10_countAheadOf 19 = .ok (.getfield 104, 3) := by decide +kernel
theorem dX10_countAheadOf_22 : decode cX10_countAheadOf 22 = .ok (.if_icmp .ge 63, 3) := by decide +kernel
theorem dX10_countAheadOf_25 : decode cX10_countAheadOf 25 = .ok (.aload_n 0, 1) := by decide +kernel
theorem dX10_countAheadOf_26 : decode cX10_countAheadOf 26 = .ok (.getfield 21, 3) := by decide +kernel
theorem dX10_countAheadOf_29 : decode cX10_countAheadOf 29 = .ok (.iload 5, 2) := by decide +kernel
theorem dX10_countAheadOf_31 : decode cX10_countAheadOf 31 = .ok (.aaload, 1) := by decide +kernel
theorem dX10_countAheadOf_32 : decode cX10_countAheadOf 32 = .ok (.invokevirtual 443, 3) := by decide +kernel
theorem dX10_countAheadOf_35 : decode cX10_countAheadOf 35 = .ok (.istore 6, 2) := by decide +kernel
theorem dX10_countAheadOf_37 : decode cX10_countAheadOf 37 = .ok (.iload 6, 2) := by decide +kernel
theorem dX10_countAheadOf_39 : decode cX10_countAheadOf 39 = .ok (.iload_n 3, 1) := by decide +kernel
theorem dX10_countAheadOf_40 : decode cX10_countAheadOf 40 = .ok (.if_icmp .gt 15, 3) := by decide +kernel
theorem dX10_countAheadOf_43 : decode cX10_countAheadOf 43 = .ok (.iload 6, 2) := by decide +kernel
theorem dX10_countAheadOf_45 : decode cX10_countAheadOf 45 = .ok (.iload_n 3, 1) := by decide +kernel
theorem dX10_countAheadOf_46 : decode cX10_countAheadOf 46 = .ok (.if_icmp .ne 13, 3) := by decide +kernel
theorem dX10_countAheadOf_49 : decode cX10_countAheadOf 49 = .ok (.iload 5, 2) := by decide +kernel
theorem dX10_countAheadOf_51 : decode cX10_countAheadOf 51 = .ok (.iload_n 1, 1) := by decide +kernel
theorem dX10_countAheadOf_52 : decode cX10_countAheadOf 52 = .ok (.if_icmp .ge 7, 3) := by decide +kernel
theorem dX10_countAheadOf_55 : decode cX10_countAheadOf 55 = .ok (.iconst 1, 1) := by decide +kernel
theorem dX10_countAheadOf_56 : decode cX10_countAheadOf 56 = .ok (.goto 4, 3) := by decide +kernel
theorem dX10_countAheadOf_59 : decode cX10_countAheadOf 59 = .ok (.iconst 0, 1) := by decide +kernel
theorem dX10_countAheadOf_60 : decode cX10_countAheadOf 60 = .ok (.istore 7, 2) := by decide +kernel
theorem dX10_countAheadOf_62 : decode cX10_countAheadOf 62 = .ok (.iload 7, 2) := by decide +kernel
theorem dX10_countAheadOf_64 : decode cX10_countAheadOf 64 = .ok (.ifCond .eq 15, 3) := by decide +kernel
theorem dX10_countAheadOf_67 : decode cX10_countAheadOf 67 = .ok (.iload_n 2, 1) := by decide +kernel
theorem dX10_countAheadOf_68 : decode cX10_countAheadOf 68 = .ok (.iload 5, 2) := by decide +kernel
theorem dX10_countAheadOf_70 : decode cX10_countAheadOf 70 = .ok (.invokestatic 91, 3) := by decide +kernel
theorem dX10_countAheadOf_73 : decode cX10_countAheadOf 73 = .ok (.ifCond .eq 6, 3) := by decide +kernel
theorem dX10_countAheadOf_76 : decode cX10_countAheadOf 76 = .ok (.iinc 4 1, 3) := by decide +kernel
theorem dX10_countAheadOf_79 : decode cX10_countAheadOf 79 = .ok (.iinc 5 1, 3) := by decide +kernel
theorem dX10_countAheadOf_82 : decode cX10_countAheadOf 82 = .ok (.goto (-66), 3) := by decide +kernel
theorem dX10_countAheadOf_85 : decode cX10_countAheadOf 85 = .ok (.iload 4, 2) := by decide +kernel
theorem dX10_countAheadOf_87 : decode cX10_countAheadOf 87 = .ok (.ireturn, 1) := by decide +kernel
theorem dX10_placesOf_0 : decode cX10_placesOf 0 = .ok (.iload_n 2, 1) := by decide +kernel
theorem dX10_placesOf_1 : decode cX10_placesOf 1 = .ok (.ifCond .eq 17, 3) := by decide +kernel
theorem dX10_placesOf_4 : decode cX10_placesOf 4 = .ok (.aload_n 0, 1) := by decide +kernel
theorem dX10_placesOf_5 : decode cX10_placesOf 5 = .ok (.getfield 34, 3) := by decide +kernel
theorem dX10_placesOf_8 : decode cX10_placesOf 8 = .ok (.aload_n 1, 1) := by decide +kernel
theorem dX10_placesOf_9 : decode cX10_placesOf 9 = .ok (.getfield 234, 3) := by decide +kernel
theorem dX10_placesOf_12 : decode cX10_placesOf 12 = .ok (.invokevirtual 236, 3) := by decide +kernel
theorem dX10_placesOf_15 : decode cX10_placesOf 15 = .ok (.goto 7, 3) := by decide +kernel
theorem dX10_placesOf_18 : decode cX10_placesOf 18 = .ok (.aload_n 1, 1) := by decide +kernel
theorem dX10_placesOf_19 : decode cX10_placesOf 19 = .ok (.getfield 388, 3) := by decide +kernel
theorem dX10_placesOf_22 : decode cX10_placesOf 22 = .ok (.ireturn, 1) := by decide +kernel
theorem dX10_isTagSo_0 : decode cX10_isTagSo 0 = .ok (.iload_n 2, 1) := by decide +kernel
theorem dX10_isTagSo_1 : decode cX10_isTagSo 1 = .ok (.aload_n 0, 1) := by decide +kernel
theorem dX10_isTagSo_2 : decode cX10_isTagSo 2 = .ok (.getfield 34, 3) := by decide +kernel
theorem dX10_isTagSo_5 : decode cX10_isTagSo 5 = .ok (.getfield 180, 3) := by decide +kernel
theorem dX10_isTagSo_8 : decode cX10_isTagSo 8 = .ok (.if_icmp .lt 5, 3) := by decide +kernel
theorem dX10_isTagSo_11 : decode cX10_isTagSo 11 = .ok (.iconst 0, 1) := by decide +kernel
theorem dX10_isTagSo_12 : decode cX10_isTagSo 12 = .ok (.ireturn, 1) := by decide +kernel
theorem dX10_isTagSo_13 : decode cX10_isTagSo 13 = .ok (.aload_n 0, 1) := by decide +kernel
theorem dX10_isTagSo_14 : decode cX10_isTagSo 14 = .ok (.getfield 34, 3) := by decide +kernel
theorem dX10_isTagSo_17 : decode cX10_isTagSo 17 = .ok (.iload_n 2, 1) := by decide +kernel
theorem dX10_isTagSo_18 : decode cX10_isTagSo 18 = .ok (.invokevirtual 220, 3) := by decide +kernel
theorem dX10_isTagSo_21 : decode cX10_isTagSo 21 = .ok (.istore 4, 2) := by decide +kernel
theorem dX10_isTagSo_23 : decode cX10_isTagSo 23 = .ok (.iload 4, 2) := by decide +kernel
theorem dX10_isTagSo_25 : decode cX10_isTagSo 25 = .ok (.iconst (-1), 1) := by decide +kernel
theorem dX10_isTagSo_26 : decode cX10_isTagSo 26 = .ok (.if_icmp .ne 14, 3) := by decide +kernel
theorem dX10_isTagSo_29 : decode cX10_isTagSo 29 = .ok (.aload_n 1, 1) := by decide +kernel
theorem dX10_isTagSo_30 : decode cX10_isTagSo 30 = .ok (.getfield 234, 3) := by decide +kernel
theorem dX10_isTagSo_33 : decode cX10_isTagSo 33 = .ok (.iload_n 2, 1) := by decide +kernel
theorem dX10_isTagSo_34 : decode cX10_isTagSo 34 = .ok (.invokestatic 91, 3) := by decide +kernel
theorem dX10_isTagSo_37 : decode cX10_isTagSo 37 = .ok (.goto 14, 3) := by decide +kernel
theorem dX10_isTagSo_40 : decode cX10_isTagSo 40 = .ok (.aload_n 0, 1) := by decide +kernel
theorem dX10_isTagSo_41 : decode cX10_isTagSo 41 = .ok (.aload_n 1, 1) := by decide +kernel
theorem dX10_isTagSo_42 : decode cX10_isTagSo 42 = .ok (.iload_n 3, 1) := by decide +kernel
theorem dX10_isTagSo_43 : decode cX10_isTagSo 43 = .ok (.invokevirtual 247, 3) := by decide +kernel
theorem dX10_isTagSo_46 : decode cX10_isTagSo 46 = .ok (.iload 4, 2) := by decide +kernel
theorem dX10_isTagSo_48 : decode cX10_isTagSo 48 = .ok (.invokestatic 91, 3) := by decide +kernel
theorem dX10_isTagSo_51 : decode cX10_isTagSo 51 = .ok (.ireturn, 1) := by decide +kernel
theorem dX10_worksOfItem_0 : decode cX10_worksOfItem 0 = .ok (.iconst 0, 1) := by decide +kernel
theorem dX10_worksOfItem_1 : decode cX10_worksOfItem 1 = .ok (.istore 5, 2) := by decide +kernel
theorem dX10_worksOfItem_3 : decode cX10_worksOfItem 3 = .ok (.iconst 0, 1) := by decide +kernel
theorem dX10_worksOfItem_4 : decode cX10_worksOfItem 4 = .ok (.istore 6, 2) := by decide +kernel
theorem dX10_worksOfItem_6 : decode cX10_worksOfItem 6 = .ok (.iload 6, 2) := by decide +kernel
theorem dX10_worksOfItem_8 : decode cX10_worksOfItem 8 = .ok (.aload_n 0, 1) := by decide +kernel
theorem dX10_worksOfItem_9 : decode cX10_worksOfItem 9 = .ok (.getfield 104, 3) := by decide +kernel
theorem dX10_worksOfItem_12 : decode cX10_worksOfItem 12 = .ok (.if_icmp .ge 86, 3) := by decide +kernel
theorem dX10_worksOfItem_15 : decode cX10_worksOfItem 15 = .ok (.aload_n 0, 1) := by decide +kernel
theorem dX10_worksOfItem_16 : decode cX10_worksOfItem 16 = .ok (.getfield 21, 3) := by decide +kernel
theorem dX10_worksOfItem_19 : decode cX10_worksOfItem 19 = .ok (.iload 6, 2) := by decide +kernel
theorem dX10_worksOfItem_21 : decode cX10_worksOfItem 21 = .ok (.aaload, 1) := by decide +kernel
theorem dX10_worksOfItem_22 : decode cX10_worksOfItem 22 = .ok (.astore 7, 2) := by decide +kernel
theorem dX10_worksOfItem_24 : decode cX10_worksOfItem 24 = .ok (.iload_n 1, 1) := by decide +kernel
theorem dX10_worksOfItem_25 : decode cX10_worksOfItem 25 = .ok (.bipush 116, 2) := by decide +kernel
theorem dX10_worksOfItem_27 : decode cX10_worksOfItem 27 = .ok (.if_icmp .ne 15, 3) := by decide +kernel
theorem dX10_worksOfItem_30 : decode cX10_worksOfItem 30 = .ok (.aload_n 0, 1) := by decide +kernel
theorem dX10_worksOfItem_31 : decode cX10_worksOfItem 31 = .ok (.aload 7, 2) := by decide +kernel
theorem dX10_worksOfItem_33 : decode cX10_worksOfItem 33 = .ok (.iload_n 2, 1) := by decide +kernel
theorem dX10_worksOfItem_34 : decode cX10_worksOfItem 34 = .ok (.iload 4, 2) := by decide +kernel
theorem dX10_worksOfItem_36 : decode cX10_worksOfItem 36 = .ok (.invokevirtual 436, 3) := by decide +kernel
theorem dX10_worksOfItem_39 : decode cX10_worksOfItem 39 = .ok (.goto 40, 3) := by decide +kernel
theorem dX10_worksOfItem_42 : decode cX10_worksOfItem 42 = .ok (.iload_n 1, 1) := by decide +kernel
theorem dX10_worksOfItem_43 : decode cX10_worksOfItem 43 = .ok (.bipush 97, 2) := by decide +kernel
theorem dX10_worksOfItem_45 : decode cX10_worksOfItem 45 = .ok (.if_icmp .ne 20, 3) := by decide +kernel
theorem dX10_worksOfItem_48 : decode cX10_worksOfItem 48 = .ok (.aload 7, 2) := by decide +kernel
theorem dX10_worksOfItem_50 : decode cX10_worksOfItem 50 = .ok (.iload_n 3, 1) := by decide +kernel
theorem dX10_worksOfItem_51 : decode cX10_worksOfItem 51 = .ok (.aload_n 0, 1) := by decide +kernel
theorem dX10_worksOfItem_52 : decode cX10_worksOfItem 52 = .ok (.getfield 73, 3) := by decide +kernel
theorem dX10_worksOfItem_55 : decode cX10_worksOfItem 55 = .ok (.invokevirtual 176, 3) := by decide +kernel
theorem dX10_worksOfItem_58 : decode cX10_worksOfItem 58 = .ok (.iload_n 2, 1) := by decide +kernel
theorem dX10_worksOfItem_59 : decode cX10_worksOfItem 59 = .ok (.invokestatic 91, 3) := by decide +kernel
theorem dX10_worksOfItem_62 : decode cX10_worksOfItem 62 = .ok (.goto 17, 3) := by decide +kernel
theorem dX10_worksOfItem_65 : decode cX10_worksOfItem 65 = .ok (.aload 7, 2) := by decide +kernel
theorem dX10_worksOfItem_67 : decode cX10_worksOfItem 67 = .ok (.getfield 440, 3) := by decide +kernel
theorem dX10_worksOfItem_70 : decode cX10_worksOfItem 70 = .ok (.iload_n 2, 1) := by decide +kernel
theorem dX10_worksOfItem_71 : decode cX10_worksOfItem 71 = .ok (.if_icmp .gt 7, 3) := by decide +kernel
theorem dX10_worksOfItem_74 : decode cX10_worksOfItem 74 = .ok (.iconst 1, 1) := by decide +kernel
theorem dX10_worksOfItem_75 : decode cX10_worksOfItem 75 = .ok (.goto 4, 3) := by decide +kernel
theorem dX10_worksOfItem_78 : decode cX10_worksOfItem 78 = .ok (.iconst 0, 1) := by decide +kernel
theorem dX10_worksOfItem_79 : decode cX10_worksOfItem 79 = .ok (.istore 8, 2) := by decide +kernel
theorem dX10_worksOfItem_81 : decode cX10_worksOfItem 81 = .ok (.iload 5, 2) := by decide +kernel
theorem dX10_worksOfItem_83 : decode cX10_worksOfItem 83 = .ok (.iload 6, 2) := by decide +kernel
theorem dX10_worksOfItem_85 : decode cX10_worksOfItem 85 = .ok (.iload 8, 2) := by decide +kernel
theorem dX10_worksOfItem_87 : decode cX10_worksOfItem 87 = .ok (.invokestatic 95, 3) := by decide +kernel
theorem dX10_worksOfItem_90 : decode cX10_worksOfItem 90 = .ok (.istore 5, 2) := by decide +kernel
theorem dX10_worksOfItem_92 : decode cX10_worksOfItem 92 = .ok (.iinc 6 1, 3) := by decide +kernel
theorem dX10_worksOfItem_95 : decode cX10_worksOfItem 95 = .ok (.goto (-89), 3) := by decide +kernel
theorem dX10_worksOfItem_98 : decode cX10_worksOfItem 98 = .ok (.iload 5, 2) := by decide +kernel
theorem dX10_worksOfItem_100 : decode cX10_worksOfItem 100 = .ok (.ireturn, 1) := by decide +kernel
theorem dX10_worksSeenBy_0 : decode cX10_worksSeenBy 0 = .ok (.iconst 0, 1) := by decide +kernel
theorem dX10_worksSeenBy_1 : decode cX10_worksSeenBy 1 = .ok (.istore_n 2, 1) := by decide +kernel
theorem dX10_worksSeenBy_2 : decode cX10_worksSeenBy 2 = .ok (.iconst 0, 1) := by decide +kernel
theorem dX10_worksSeenBy_3 : decode cX10_worksSeenBy 3 = .ok (.istore_n 3, 1) := by decide +kernel
theorem dX10_worksSeenBy_4 : decode cX10_worksSeenBy 4 = .ok (.iload_n 3, 1) := by decide +kernel
theorem dX10_worksSeenBy_5 : decode cX10_worksSeenBy 5 = .ok (.aload_n 0, 1) := by decide +kernel
theorem dX10_worksSeenBy_6 : decode cX10_worksSeenBy 6 = .ok (.getfield 104, 3) := by decide +kernel
theorem dX10_worksSeenBy_9 : decode cX10_worksSeenBy 9 = .ok (.if_icmp .ge 29, 3) := by decide +kernel
theorem dX10_worksSeenBy_12 : decode cX10_worksSeenBy 12 = .ok (.iload_n 2, 1) := by decide +kernel
theorem dX10_worksSeenBy_13 : decode cX10_worksSeenBy 13 = .ok (.iload_n 3, 1) := by decide +kernel
theorem dX10_worksSeenBy_14 : decode cX10_worksSeenBy 14 = .ok (.aload_n 0, 1) := by decide +kernel
theorem dX10_worksSeenBy_15 : decode cX10_worksSeenBy 15 = .ok (.getfield 21, 3) := by decide +kernel
theorem dX10_worksSeenBy_18 : decode cX10_worksSeenBy 18 = .ok (.iload_n 3, 1) := by decide +kernel
theorem dX10_worksSeenBy_19 : decode cX10_worksSeenBy 19 = .ok (.aaload, 1) := by decide +kernel
theorem dX10_worksSeenBy_20 : decode cX10_worksSeenBy 20 = .ok (.iload_n 1, 1) := by decide +kernel
theorem dX10_worksSeenBy_21 : decode cX10_worksSeenBy 21 = .ok (.aload_n 0, 1) := by decide +kernel
theorem dX10_worksSeenBy_22 : decode cX10_worksSeenBy 22 = .ok (.getfield 73, 3) := by decide +kernel
theorem dX10_worksSeenBy_25 : decode cX10_worksSeenBy 25 = .ok (.invokevirtual 173, 3) := by decide +kernel
theorem dX10_worksSeenBy_28 : decode cX10_worksSeenBy 28 = .ok (.invokestatic 95, 3) := by decide +kernel
theorem dX10_worksSeenBy_31 : decode cX10_worksSeenBy 31 = .ok (.istore_n 2, 1) := by decide +kernel
theorem dX10_worksSeenBy_32 : decode cX10_worksSeenBy 32 = .ok (.iinc 3 1, 3) := by decide +kernel
theorem dX10_worksSeenBy_35 : decode cX10_worksSeenBy 35 = .ok (.goto (-31), 3) := by decide +kernel
theorem dX10_worksSeenBy_38 : decode cX10_worksSeenBy 38 = .ok (.iload_n 2, 1) := by decide +kernel
theorem dX10_worksSeenBy_39 : decode cX10_worksSeenBy 39 = .ok (.ireturn, 1) := by decide +kernel
theorem dX4_hasItem_0 : decode cX4_hasItem 0 = .ok (.aload_n 0, 1) := by decide +kernel
theorem dX4_hasItem_1 : decode cX4_hasItem 1 = .ok (.getfield 19, 3) := by decide +kernel
theorem dX4_hasItem_4 : decode cX4_hasItem 4 = .ok (.ifCond .ne 14, 3) := by decide +kernel
theorem dX4_hasItem_7 : decode cX4_hasItem 7 = .ok (.iload_n 1, 1) := by decide +kernel
theorem dX4_hasItem_8 : decode cX4_hasItem 8 = .ok (.invokestatic 32, 3) := by decide +kernel
theorem dX4_hasItem_11 : decode cX4_hasItem 11 = .ok (.ifCond .eq 7, 3) := by decide +kernel
theorem dX4_hasItem_14 : decode cX4_hasItem 14 = .ok (.iconst 1, 1) := by decide +kernel
theorem dX4_hasItem_15 : decode cX4_hasItem 15 = .ok (.goto 4, 3) := by decide +kernel
theorem dX4_hasItem_18 : decode cX4_hasItem 18 = .ok (.iconst 0, 1) := by decide +kernel
theorem dX4_hasItem_19 : decode cX4_hasItem 19 = .ok (.ireturn, 1) := by decide +kernel
theorem dX5_end_0 : decode cX5_end 0 = .ok (.aload_n 0, 1) := by decide +kernel
theorem dX5_end_1 : decode cX5_end 1 = .ok (.getfield 9, 3) := by decide +kernel
theorem dX5_end_4 : decode cX5_end 4 = .ok (.aload_n 0, 1) := by decide +kernel
theorem dX5_end_5 : decode cX5_end 5 = .ok (.getfield 22, 3) := by decide +kernel
theorem dX5_end_8 : decode cX5_end 8 = .ok (.iaload, 1) := by decide +kernel
theorem dX5_end_9 : decode cX5_end 9 = .ok (.aload_n 0, 1) := by decide +kernel
theorem dX5_end_10 : decode cX5_end 10 = .ok (.getfield 15, 3) := by decide +kernel
theorem dX5_end_13 : decode cX5_end 13 = .ok (.aload_n 0, 1) := by decide +kernel
theorem dX5_end_14 : decode cX5_end 14 = .ok (.getfield 22, 3) := by decide +kernel
theorem dX5_end_17 : decode cX5_end 17 = .ok (.iaload, 1) := by decide +kernel
theorem dX5_end_18 : decode cX5_end 18 = .ok (.ior, 1) := by decide +kernel
theorem dX5_end_19 : decode cX5_end 19 = .ok (.ireturn, 1) := by decide +kernel
theorem dX5_item_0 : decode cX5_item 0 = .ok (.aload_n 0, 1) := by decide +kernel
theorem dX5_item_1 : decode cX5_item 1 = .ok (.getfield 15, 3) := by decide +kernel
theorem dX5_item_4 : decode cX5_item 4 = .ok (.aload_n 0, 1) := by decide +kernel
theorem dX5_item_5 : decode cX5_item 5 = .ok (.getfield 22, 3) := by decide +kernel
theorem dX5_item_8 : decode cX5_item 8 = .ok (.dup2, 1) := by decide +kernel
theorem dX5_item_9 : decode cX5_item 9 = .ok (.iaload, 1) := by decide +kernel
theorem dX5_item_10 : decode cX5_item 10 = .ok (.aload_n 0, 1) := by decide +kernel
theorem dX5_item_11 : decode cX5_item 11 = .ok (.getfield 18, 3) := by decide +kernel
theorem dX5_item_14 : decode cX5_item 14 = .ok (.aload_n 0, 1) := by decide +kernel
theorem dX5_item_15 : decode cX5_item 15 = .ok (.getfield 22, 3) := by decide +kernel
theorem dX5_item_18 : decode cX5_item 18 = .ok (.baload, 1) := by decide +kernel
theorem dX5_item_19 : decode cX5_item 19 = .ok (.ifCond .eq 9, 3) := by decide +kernel
theorem dX5_item_22 : decode cX5_item 22 = .ok (.iload_n 1, 1) := by decide +kernel
theorem dX5_item_23 : decode cX5_item 23 = .ok (.iconst (-1), 1) := by decide +kernel
theorem dX5_item_24 : decode cX5_item 24 = .ok (.ixor, 1) := by decide +kernel
theorem dX5_item_25 : decode cX5_item 25 = .ok (.goto 4, 3) := by decide +kernel
theorem dX5_item_28 : decode cX5_item 28 = .ok (.iload_n 1, 1) := by decide +kernel
theorem dX5_item_29 : decode cX5_item 29 = .ok (.iand, 1) := by decide +kernel
theorem dX5_item_30 : decode cX5_item 30 = .ok (.iastore, 1) := by decide +kernel
theorem dX5_item_31 : decode cX5_item 31 = .ok (.aload_n 0, 1) := by decide +kernel
theorem dX5_item_32 : decode cX5_item 32 = .ok (.getfield 18, 3) := by decide +kernel
theorem dX5_item_35 : decode cX5_item 35 = .ok (.aload_n 0, 1) := by decide +kernel
theorem dX5_item_36 : decode cX5_item 36 = .ok (.getfield 22, 3) := by decide +kernel
theorem dX5_item_39 : decode cX5_item 39 = .ok (.iconst 0, 1) := by decide +kernel
theorem dX5_item_40 : decode cX5_item 40 = .ok (.bastore, 1) := by decide +kernel
theorem dX5_item_41 : decode cX5_item 41 = .ok (.return_, 1) := by decide +kernel
theorem dX5_clear_0 : decode cX5_clear 0 = .ok (.aload_n 0, 1) := by decide +kernel
theorem dX5_clear_1 : decode cX5_clear 1 = .ok (.getfield 9, 3) := by decide +kernel
theorem dX5_clear_4 : decode cX5_clear 4 = .ok (.aload_n 0, 1) := by decide +kernel
theorem dX5_clear_5 : decode cX5_clear 5 = .ok (.getfield 22, 3) := by decide +kernel
theorem dX5_clear_8 : decode cX5_clear 8 = .ok (.iconst 0, 1) := by decide +kernel
theorem dX5_clear_9 : decode cX5_clear 9 = .ok (.iastore, 1) := by decide +kernel
theorem dX5_clear_10 : decode cX5_clear 10 = .ok (.aload_n 0, 1) := by decide +kernel
theorem dX5_clear_11 : decode cX5_clear 11 = .ok (.getfield 15, 3) := by decide +kernel
theorem dX5_clear_14 : decode cX5_clear 14 = .ok (.aload_n 0, 1) := by decide +kernel
theorem dX5_clear_15 : decode cX5_clear 15 = .ok (.getfield 22, 3) := by decide +kernel
theorem dX5_clear_18 : decode cX5_clear 18 = .ok (.iconst (-1), 1) := by decide +kernel
theorem dX5_clear_19 : decode cX5_clear 19 = .ok (.iastore, 1) := by decide +kernel
theorem dX5_clear_20 : decode cX5_clear 20 = .ok (.aload_n 0, 1) := by decide +kernel
theorem dX5_clear_21 : decode cX5_clear 21 = .ok (.getfield 18, 3) := by decide +kernel
theorem dX5_clear_24 : decode cX5_clear 24 = .ok (.aload_n 0, 1) := by decide +kernel
theorem dX5_clear_25 : decode cX5_clear 25 = .ok (.getfield 22, 3) := by decide +kernel
theorem dX5_clear_28 : decode cX5_clear 28 = .ok (.iconst 0, 1) := by decide +kernel
theorem dX5_clear_29 : decode cX5_clear 29 = .ok (.bastore, 1) := by decide +kernel
theorem dX5_clear_30 : decode cX5_clear 30 = .ok (.return_, 1) := by decide +kernel
theorem dX5_mark_0 : decode cX5_mark 0 = .ok (.iload_n 1, 1) := by decide +kernel
theorem dX5_mark_1 : decode cX5_mark 1 = .ok (.bipush 33, 2) := by decide +kernel
theorem dX5_mark_3 : decode cX5_mark 3 = .ok (.if_icmp .ne 32, 3) := by decide +kernel
theorem dX5_mark_6 : decode cX5_mark 6 = .ok (.aload_n 0, 1) := by decide +kernel
theorem dX5_mark_7 : decode cX5_mark 7 = .ok (.getfield 18, 3) := by decide +kernel
theorem dX5_mark_10 : decode cX5_mark 10 = .ok (.aload_n 0, 1) := by decide +kernel
theorem dX5_mark_11 : decode cX5_mark 11 = .ok (.getfield 22, 3) := by decide +kernel
theorem dX5_mark_14 : decode cX5_mark 14 = .ok (.aload_n 0, 1) := by decide +kernel
theorem dX5_mark_15 : decode cX5_mark 15 = .ok (.getfield 18, 3) := by decide +kernel
theorem dX5_mark_18 : decode cX5_mark 18 = .ok (.aload_n 0, 1) := by decide +kernel
theorem dX5_mark_19 : decode cX5_mark 19 = .ok (.getfield 22, 3) := by decide +kernel
theorem dX5_mark_22 : decode cX5_mark 22 = .ok (.baload, 1) := by decide +kernel
theorem dX5_mark_23 : decode cX5_mark 23 = .ok (.ifCond .ne 7, 3) := by decide +kernel
theorem dX5_mark_26 : decode cX5_mark 26 = .ok (.iconst 1, 1) := by decide +kernel
theorem dX5_mark_27 : decode cX5_mark 27 = .ok (.goto 4, 3) := by decide +kernel
theorem dX5_mark_30 : decode cX5_mark 30 = .ok (.iconst 0, 1) := by decide +kernel
theorem dX5_mark_31 : decode cX5_mark 31 = .ok (.bastore, 1) := by decide +kernel
theorem dX5_mark_32 : decode cX5_mark 32 = .ok (.goto 108, 3) := by decide +kernel
theorem dX5_mark_35 : decode cX5_mark 35 = .ok (.iload_n 1, 1) := by decide +kernel
theorem dX5_mark_36 : decode cX5_mark 36 = .ok (.bipush 40, 2) := by decide +kernel
theorem dX5_mark_38 : decode cX5_mark 38 = .ok (.if_icmp .ne 29, 3) := by decide +kernel
theorem dX5_mark_41 : decode cX5_mark 41 = .ok (.aload_n 0, 1) := by decide +kernel
theorem dX5_mark_42 : decode cX5_mark 42 = .ok (.getfield 22, 3) := by decide +kernel
theorem dX5_mark_45 : decode cX5_mark 45 = .ok (.bipush 60, 2) := by decide +kernel
theorem dX5_mark_47 : decode cX5_mark 47 = .ok (.if_icmp .ge 20, 3) := by decide +kernel
theorem dX5_mark_50 : decode cX5_mark 50 = .ok (.aload_n 0, 1) := by decide +kernel
theorem dX5_mark_51 : decode cX5_mark 51 = .ok (.dup, 1) := by decide +kernel
theorem dX5_mark_52 : decode cX5_mark 52 = .ok (.getfield 22, 3) := by decide +kernel
theorem dX5_mark_55 : decode cX5_mark 55 = .ok (.iconst 1, 1) := by decide +kernel
theorem dX5_mark_56 : decode cX5_mark 56 = .ok (.iadd, 1) := by decide +kernel
theorem dX5_mark_57 : decode cX5_mark 57 = .ok (.putfield 22, 3) := by decide +kernel
theorem dX5_mark_60 : decode cX5_mark 60 = .ok (.aload_n 0, 1) := by decide +kernel
theorem dX5_mark_61 : decode cX5_mark 61 = .ok (.invokevirtual 26, 3) := by decide +kernel
theorem dX5_mark_64 : decode cX5_mark 64 = .ok (.goto 76, 3) := by decide +kernel
theorem dX5_mark_67 : decode cX5_mark 67 = .ok (.iload_n 1, 1) := by decide +kernel
theorem dX5_mark_68 : decode cX5_mark 68 = .ok (.bipush 41, 2) := by decide +kernel
theorem dX5_mark_70 : decode cX5_mark 70 = .ok (.if_icmp .ne 33, 3) := by decide +kernel
theorem dX5_mark_73 : decode cX5_mark 73 = .ok (.aload_n 0, 1) := by decide +kernel
theorem dX5_mark_74 : decode cX5_mark 74 = .ok (.getfield 22, 3) := by decide +kernel
theorem dX5_mark_77 : decode cX5_mark 77 = .ok (.ifCond .le 26, 3) := by decide +kernel
theorem dX5_mark_80 : decode cX5_mark 80 = .ok (.aload_n 0, 1) := by decide +kernel
theorem dX5_mark_81 : decode cX5_mark 81 = .ok (.invokevirtual 29, 3) := by decide +kernel
theorem dX5_mark_84 : decode cX5_mark 84 = .ok (.istore_n 2, 1) := by decide +kernel
theorem dX5_mark_85 : decode cX5_mark 85 = .ok (.aload_n 0, 1) := by decide +kernel
theorem dX5_mark_86 : decode cX5_mark 86 = .ok (.dup, 1) := by decide +kernel
theorem dX5_mark_87 : decode cX5_mark 87 = .ok (.getfield 22, 3) := by decide +kernel
theorem dX5_mark_90 : decode cX5_mark 90 = .ok (.iconst 1, 1) := by decide +kernel
theorem dX5_mark_91 : decode cX5_mark 91 = .ok (.isub, 1) := by decide +kernel
theorem dX5_mark_92 : decode cX5_mark 92 = .ok (.putfield 22, 3) := by decide +kernel
theorem dX5_mark_95 : decode cX5_mark 95 = .ok (.aload_n 0, 1) := by decide +kernel
theorem dX5_mark_96 : decode cX5_mark 96 = .ok (.iload_n 2, 1) := by decide +kernel
theorem dX5_mark_97 : decode cX5_mark 97 = .ok (.invokevirtual 33, 3) := by decide +kernel
theorem dX5_mark_100 : decode cX5_mark 100 = .ok (.goto 40, 3) := by decide +kernel
theorem dX5_mark_103 : decode cX5_mark 103 = .ok (.iload_n 1, 1) := by decide +kernel
theorem dX5_mark_104 : decode cX5_mark 104 = .ok (.bipush 124, 2) := by decide +kernel
theorem dX5_mark_106 : decode cX5_mark 106 = .ok (.if_icmp .ne 34, 3) := by decide +kernel
theorem dX5_mark_109 : decode cX5_mark 109 = .ok (.aload_n 0, 1) := by decide +kernel
theorem dX5_mark_110 : decode cX5_mark 110 = .ok (.getfield 9, 3) := by decide +kernel
theorem dX5_mark_113 : decode cX5_mark 113 = .ok (.aload_n 0, 1) := by decide +kernel
theorem dX5_mark_114 : decode cX5_mark 114 = .ok (.getfield 22, 3) := by decide +kernel
theorem dX5_mark_117 : decode cX5_mark 117 = .ok (.dup2, 1) := by decide +kernel
theorem dX5_mark_118 : decode cX5_mark 118 = .ok (.iaload, 1) := by decide +kernel
theorem dX5_mark_119 : decode cX5_mark 119 = .ok (.aload_n 0, 1) := by decide +kernel
theorem dX5_mark_120 : decode cX5_mark 120 = .ok (.getfield 15, 3) := by decide +kernel
theorem dX5_mark_123 : decode cX5_mark 123 = .ok (.aload_n 0, 1) := by decide +kernel
theorem dX5_mark_124 : decode cX5_mark 124 = .ok (.getfield 22, 3) := by decide +kernel
theorem dX5_mark_127 : decode cX5_mark 127 = .ok (.iaload, 1) := by decide +kernel
theorem dX5_mark_128 : decode cX5_mark 128 = .ok (.ior, 1) := by decide +kernel
theorem dX5_mark_129 : decode cX5_mark 129 = .ok (.iastore, 1) := by decide +kernel
theorem dX5_mark_130 : decode cX5_mark 130 = .ok (.aload_n 0, 1) := by decide +kernel
theorem dX5_mark_131 : decode cX5_mark 131 = .ok (.getfield 15, 3) := by decide +kernel
theorem dX5_mark_134 : decode cX5_mark 134 = .ok (.aload_n 0, 1) := by decide +kernel
theorem dX5_mark_135 : decode cX5_mark 135 = .ok (.getfield 22, 3) := by decide +kernel
theorem dX5_mark_138 : decode cX5_mark 138 = .ok (.iconst (-1), 1) := by decide +kernel
theorem dX5_mark_139 : decode cX5_mark 139 = .ok (.iastore, 1) := by decide +kernel
theorem dX5_mark_140 : decode cX5_mark 140 = .ok (.return_, 1) := by decide +kernel
theorem dX5_start_0 : decode cX5_start 0 = .ok (.aload_n 0, 1) := by decide +kernel
theorem dX5_start_1 : decode cX5_start 1 = .ok (.iconst 0, 1) := by decide +kernel
theorem dX5_start_2 : decode cX5_start 2 = .ok (.putfield 22, 3) := by decide +kernel
theorem dX5_start_5 : decode cX5_start 5 = .ok (.aload_n 0, 1) := by decide +kernel
theorem dX5_start_6 : decode cX5_start 6 = .ok (.invokevirtual 26, 3) := by decide +kernel
theorem dX5_start_9 : decode cX5_start 9 = .ok (.return_, 1) := by decide +kernel
theorem dX10_found_0 : decode cX10_found 0 = .ok (.aload_n 0, 1) := by decide +kernel
theorem dX10_found_1 : decode cX10_found 1 = .ok (.getfield 41, 3) := by decide +kernel
theorem dX10_found_4 : decode cX10_found 4 = .ok (.getfield 393, 3) := by decide +kernel
theorem dX10_found_7 : decode cX10_found 7 = .ok (.astore_n 3, 1) := by decide +kernel
theorem dX10_found_8 : decode cX10_found 8 = .ok (.aload_n 3, 1) := by decide +kernel
theorem dX10_found_9 : decode cX10_found 9 = .ok (.invokevirtual 397, 3) := by decide +kernel
theorem dX10_found_12 : decode cX10_found 12 = .ok (.aload_n 0, 1) := by decide +kernel
theorem dX10_found_13 : decode cX10_found 13 = .ok (.getfield 48, 3) := by decide +kernel
theorem dX10_found_16 : decode cX10_found 16 = .ok (.invokevirtual 402, 3) := by decide +kernel
theorem dX10_found_19 : decode cX10_found 19 = .ok (.iconst 0, 1) := by decide +kernel
theorem dX10_found_20 : decode cX10_found 20 = .ok (.istore 4, 2) := by decide +kernel
theorem dX10_found_22 : decode cX10_found 22 = .ok (.iload 4, 2) := by decide +kernel
theorem dX10_found_24 : decode cX10_found 24 = .ok (.aload_n 0, 1) := by decide +kernel
theorem dX10_found_25 : decode cX10_found 25 = .ok (.getfield 41, 3) := by decide +kernel
theorem dX10_found_28 : decode cX10_found 28 = .ok (.getfield 263, 3) := by decide +kernel
theorem dX10_found_31 : decode cX10_found 31 = .ok (.if_icmp .ge 67, 3) := by decide +kernel
theorem dX10_found_34 : decode cX10_found 34 = .ok (.aload_n 0, 1) := by decide +kernel
theorem dX10_found_35 : decode cX10_found 35 = .ok (.getfield 41, 3) := by decide +kernel
theorem dX10_found_38 : decode cX10_found 38 = .ok (.getfield 403, 3) := by decide +kernel
theorem dX10_found_41 : decode cX10_found 41 = .ok (.iload 4, 2) := by decide +kernel
theorem dX10_found_43 : decode cX10_found 43 = .ok (.caload, 1) := by decide +kernel
theorem dX10_found_44 : decode cX10_found 44 = .ok (.istore 5, 2) := by decide +kernel
theorem dX10_found_46 : decode cX10_found 46 = .ok (.aload_n 3, 1) := by decide +kernel
theorem dX10_found_47 : decode cX10_found 47 = .ok (.iload 5, 2) := by decide +kernel
theorem dX10_found_49 : decode cX10_found 49 = .ok (.invokevirtual 407, 3) := by decide +kernel
theorem dX10_found_52 : decode cX10_found 52 = .ok (.pop, 1) := by decide +kernel
theorem dX10_found_53 : decode cX10_found 53 = .ok (.aload_n 0, 1) := by decide +kernel
theorem dX10_found_54 : decode cX10_found 54 = .ok (.getfield 48, 3) := by decide +kernel
theorem dX10_found_57 : decode cX10_found 57 = .ok (.iload 5, 2) := by decide +kernel
theorem dX10_found_59 : decode cX10_found 59 = .ok (.invokevirtual 410, 3) := by decide +kernel
theorem dX10_found_62 : decode cX10_found 62 = .ok (.aload_n 3, 1) := by decide +kernel
theorem dX10_found_63 : decode cX10_found 63 = .ok (.iload 5, 2) := by decide +kernel
theorem dX10_found_65 : decode cX10_found 65 = .ok (.invokevirtual 413, 3) := by decide +kernel
theorem dX10_found_68 : decode cX10_found 68 = .ok (.ifCond .eq 24, 3) := by decide +kernel
theorem dX10_found_71 : decode cX10_found 71 = .ok (.aload_n 0, 1) := by decide +kernel
theorem dX10_found_72 : decode cX10_found 72 = .ok (.getfield 48, 3) := by decide +kernel
theorem dX10_found_75 : decode cX10_found 75 = .ok (.aload_n 0, 1) := by decide +kernel
theorem dX10_found_76 : decode cX10_found 76 = .ok (.aload_n 3, 1) := by decide +kernel
theorem dX10_found_77 : decode cX10_found 77 = .ok (.getfield 416, 3) := by decide +kernel
theorem dX10_found_80 : decode cX10_found 80 = .ok (.aload_n 3, 1) := by decide +kernel
theorem dX10_found_81 : decode cX10_found 81 = .ok (.getfield 420, 3) := by decide +kernel
theorem dX10_found_84 : decode cX10_found 84 = .ok (.iload_n 1, 1) := by decide +kernel
theorem dX10_found_85 : decode cX10_found 85 = .ok (.iload_n 2, 1) := by decide +kernel
theorem dX10_found_86 : decode cX10_found 86 = .ok (.invokevirtual 423, 3) := by decide +kernel
theorem dX10_found_89 : decode cX10_found 89 = .ok (.invokevirtual 427, 3) := by decide +kernel
theorem dX10_found_92 : decode cX10_found 92 = .ok (.iinc 4 1, 3) := by decide +kernel
theorem dX10_found_95 : decode cX10_found 95 = .ok (.goto (-73), 3) := by decide +kernel
theorem dX10_found_98 : decode cX10_found 98 = .ok (.aload_n 0, 1) := by decide +kernel
theorem dX10_found_99 : decode cX10_found 99 = .ok (.getfield 48, 3) := by decide +kernel
theorem dX10_found_102 : decode cX10_found 102 = .ok (.invokevirtual 430, 3) := by decide +kernel
theorem dX10_found_105 : decode cX10_found 105 = .ok (.aload_n 0, 1) := by decide +kernel
theorem dX10_found_106 : decode cX10_found 106 = .ok (.iload_n 1, 1) := by decide +kernel
theorem dX10_found_107 : decode cX10_found 107 = .ok (.invokevirtual 433, 3) := by decide +kernel
theorem dX10_found_110 : decode cX10_found 110 = .ok (.iand, 1) := by decide +kernel
theorem dX10_found_111 : decode cX10_found 111 = .ok (.ireturn, 1) := by decide +kernel
theorem dX10_result_0 : decode cX10_result 0 = .ok (.iload_n 1, 1) := by decide +kernel
theorem dX10_result_1 : decode cX10_result 1 = .ok (.invokestatic 99, 3) := by decide +kernel
theorem dX10_result_4 : decode cX10_result 4 = .ok (.iload_n 2, 1) := by decide +kernel
theorem dX10_result_5 : decode cX10_result 5 = .ok (.ifCond .ge 14, 3) := by decide +kernel
theorem dX10_result_8 : decode cX10_result 8 = .ok (.new 162, 3) := by decide +kernel
theorem dX10_result_11 : decode cX10_result 11 = .ok (.dup, 1) := by decide +kernel
theorem dX10_result_12 : decode cX10_result 12 = .ok (.ldc_w 281, 3) := by decide +kernel
theorem dX10_result_15 : decode cX10_result 15 = .ok (.invokespecial 166, 3) := by decide +kernel
theorem dX10_result_18 : decode cX10_result 18 = .ok (.athrow, 1) := by decide +kernel
theorem dX10_result_19 : decode cX10_result 19 = .ok (.aload_n 0, 1) := by decide +kernel
theorem dX10_result_20 : decode cX10_result 20 = .ok (.invokevirtual 274, 3) := by decide +kernel
theorem dX10_result_23 : decode cX10_result 23 = .ok (.aload_n 0, 1) := by decide +kernel
theorem dX10_result_24 : decode cX10_result 24 = .ok (.iload_n 1, 1) := by decide +kernel
theorem dX10_result_25 : decode cX10_result 25 = .ok (.iconst 0, 1) := by decide +kernel
theorem dX10_result_26 : decode cX10_result 26 = .ok (.invokevirtual 277, 3) := by decide +kernel
theorem dX10_result_29 : decode cX10_result 29 = .ok (.istore_n 3, 1) := by decide +kernel
theorem dX10_result_30 : decode cX10_result 30 = .ok (.iconst 0, 1) := by decide +kernel
theorem dX10_result_31 : decode cX10_result 31 = .ok (.istore 4, 2) := by decide +kernel
theorem dX10_result_33 : decode cX10_result 33 = .ok (.iload 4, 2) := by decide +kernel
theorem dX10_result_35 : decode cX10_result 35 = .ok (.aload_n 0, 1) := by decide +kernel
theorem dX10_result_36 : decode cX10_result 36 = .ok (.getfield 104, 3) := by decide +kernel
theorem dX10_result_39 : decode cX10_result 39 = .ok (.if_icmp .ge 32, 3) := by decide +kernel
theorem dX10_result_42 : decode cX10_result 42 = .ok (.iload_n 3, 1) := by decide +kernel
theorem dX10_result_43 : decode cX10_result 43 = .ok (.iload 4, 2) := by decide +kernel
theorem dX10_result_45 : decode cX10_result 45 = .ok (.invokestatic 91, 3) := by decide +kernel
theorem dX10_result_48 : decode cX10_result 48 = .ok (.ifCond .eq 17, 3) := by decide +kernel
theorem dX10_result_51 : decode cX10_result 51 = .ok (.aload_n 0, 1) := by decide +kernel
theorem dX10_result_52 : decode cX10_result 52 = .ok (.iload 4, 2) := by decide +kernel
theorem dX10_result_54 : decode cX10_result 54 = .ok (.iload_n 3, 1) := by decide +kernel
theorem dX10_result_55 : decode cX10_result 55 = .ok (.invokevirtual 283, 3) := by decide +kernel
theorem dX10_result_58 : decode cX10_result 58 = .ok (.iload_n 2, 1) := by decide +kernel
theorem dX10_result_59 : decode cX10_result 59 = .ok (.if_icmp .ne 6, 3) := by decide +kernel
theorem dX10_result_62 : decode cX10_result 62 = .ok (.iload 4, 2) := by decide +kernel
theorem dX10_result_64 : decode cX10_result 64 = .ok (.ireturn, 1) := by decide +kernel
theorem dX10_result_65 : decode cX10_result 65 = .ok (.iinc 4 1, 3) := by decide +kernel
theorem dX10_result_68 : decode cX10_result 68 = .ok (.goto (-35), 3) := by decide +kernel
theorem dX10_result_71 : decode cX10_result 71 = .ok (.iconst (-1), 1) := by decide +kernel
theorem dX10_result_72 : decode cX10_result 72 = .ok (.ireturn, 1) := by decide +kernel
theorem dL_result_0 : decode cL_result 0 = .ok (.aload_n 3, 1) := by decide +kernel
theorem dL_result_1 : decode cL_result 1 = .ok (.iconst 0, 1) := by decide +kernel
theorem dL_result_2 : decode cL_result 2 = .ok (.aload_n 0, 1) := by decide +kernel
theorem dL_result_3 : decode cL_result 3 = .ok (.iload_n 1, 1) := by decide +kernel
theorem dL_result_4 : decode cL_result 4 = .ok (.iload_n 2, 1) := by decide +kernel
theorem dL_result_5 : decode cL_result 5 = .ok (.invokevirtual 93, 3) := by decide +kernel
theorem dL_result_8 : decode cL_result 8 = .ok (.i2l, 1) := by decide +kernel
theorem dL_result_9 : decode cL_result 9 = .ok (.lastore, 1) := by decide +kernel
theorem dL_result_10 : decode cL_result 10 = .ok (.goto 11, 3) := by decide +kernel
theorem dL_result_13 : decode cL_result 13 = .ok (.astore 4, 2) := by decide +kernel
theorem dL_result_15 : decode cL_result 15 = .ok (.iconst 1, 1) := by decide +kernel
theorem dL_result_16 : decode cL_result 16 = .ok (.ireturn, 1) := by decide +kernel
theorem dL_result_17 : decode cL_result 17 = .ok (.astore 4, 2) := by decide +kernel
theorem dL_result_19 : decode cL_result 19 = .ok (.iconst 2, 1) := by decide +kernel
theorem dL_result_20 : decode cL_result 20 = .ok (.ireturn, 1) := by decide +kernel
theorem dL_result_21 : decode cL_result 21 = .ok (.iconst 0, 1) := by decide +kernel
theorem dL_result_22 : decode cL_result 22 = .ok (.ireturn, 1) := by decide +kernel
theorem dX10_same_0 : decode cX10_same 0 = .ok (.iload_n 1, 1) := by decide +kernel
theorem dX10_same_1 : decode cX10_same 1 = .ok (.invokestatic 99, 3) := by decide +kernel
theorem dX10_same_4 : decode cX10_same 4 = .ok (.iload_n 2, 1) := by decide +kernel
theorem dX10_same_5 : decode cX10_same 5 = .ok (.invokestatic 99, 3) := by decide +kernel
theorem dX10_same_8 : decode cX10_same 8 = .ok (.aload_n 0, 1) := by decide +kernel
theorem dX10_same_9 : decode cX10_same 9 = .ok (.getfield 9, 3) := by decide +kernel
theorem dX10_same_12 : decode cX10_same 12 = .ok (.iload_n 1, 1) := by decide +kernel
theorem dX10_same_13 : decode cX10_same 13 = .ok (.iaload, 1) := by decide +kernel
theorem dX10_same_14 : decode cX10_same 14 = .ok (.iload_n 2, 1) := by decide +kernel
theorem dX10_same_15 : decode cX10_same 15 = .ok (.invokestatic 91, 3) := by decide +kernel
theorem dX10_same_18 : decode cX10_same 18 = .ok (.istore_n 3, 1) := by decide +kernel
theorem dX10_same_19 : decode cX10_same 19 = .ok (.aload_n 0, 1) := by decide +kernel
theorem dX10_same_20 : decode cX10_same 20 = .ok (.getfield 9, 3) := by decide +kernel
theorem dX10_same_23 : decode cX10_same 23 = .ok (.iload_n 1, 1) := by decide +kernel
theorem dX10_same_24 : decode cX10_same 24 = .ok (.iaload, 1) := by decide +kernel
theorem dX10_same_25 : decode cX10_same 25 = .ok (.aload_n 0, 1) := by decide +kernel
theorem dX10_same_26 : decode cX10_same 26 = .ok (.getfield 9, 3) := by decide +kernel
theorem dX10_same_29 : decode cX10_same 29 = .ok (.iload_n 2, 1) := by decide +kernel
theorem dX10_same_30 : decode cX10_same 30 = .ok (.iaload, 1) := by decide +kernel
theorem dX10_same_31 : decode cX10_same 31 = .ok (.ior, 1) := by decide +kernel
theorem dX10_same_32 : decode cX10_same 32 = .ok (.istore 4, 2) := by decide +kernel
theorem dX10_same_34 : decode cX10_same 34 = .ok (.iconst 0, 1) := by decide +kernel
theorem dX10_same_35 : decode cX10_same 35 = .ok (.istore 5, 2) := by decide +kernel
theorem dX10_same_37 : decode cX10_same 37 = .ok (.iload 5, 2) := by decide +kernel
theorem dX10_same_39 : decode cX10_same 39 = .ok (.bipush 32, 2) := by decide +kernel
theorem dX10_same_41 : decode cX10_same 41 = .ok (.if_icmp .ge 28, 3) := by decide +kernel
theorem dX10_same_44 : decode cX10_same 44 = .ok (.iload 4, 2) := by decide +kernel
theorem dX10_same_46 : decode cX10_same 46 = .ok (.iload 5, 2) := by decide +kernel
theorem dX10_same_48 : decode cX10_same 48 = .ok (.invokestatic 91, 3) := by decide +kernel
theorem dX10_same_51 : decode cX10_same 51 = .ok (.ifCond .eq 12, 3) := by decide +kernel
theorem dX10_same_54 : decode cX10_same 54 = .ok (.aload_n 0, 1) := by decide +kernel
theorem dX10_same_55 : decode cX10_same 55 = .ok (.getfield 9, 3) := by decide +kernel
theorem dX10_same_58 : decode cX10_same 58 = .ok (.iload 5, 2) := by decide +kernel
theorem dX10_same_60 : decode cX10_same 60 = .ok (.iload 4, 2) := by decide +kernel
theorem dX10_same_62 : decode cX10_same 62 = .ok (.iastore, 1) := by decide +kernel
theorem dX10_same_63 : decode cX10_same 63 = .ok (.iinc 5 1, 3) := by decide +kernel
theorem dX10_same_66 : decode cX10_same 66 = .ok (.goto (-29), 3) := by decide +kernel
theorem dX10_same_69 : decode cX10_same 69 = .ok (.iload_n 3, 1) := by decide +kernel
theorem dX10_same_70 : decode cX10_same 70 = .ok (.ifCond .ne 7, 3) := by decide +kernel
theorem dX10_same_73 : decode cX10_same 73 = .ok (.iconst 1, 1) := by decide +kernel
theorem dX10_same_74 : decode cX10_same 74 = .ok (.goto 4, 3) := by decide +kernel
theorem dX10_same_77 : decode cX10_same 77 = .ok (.iconst 0, 1) := by decide +kernel
theorem dX10_same_78 : decode cX10_same 78 = .ok (.ireturn, 1) := by decide +kernel
theorem dL_same_0 : decode cL_same 0 = .ok (.aload_n 3, 1) := by decide +kernel
theorem dL_same_1 : decode cL_same 1 = .ok (.iconst 0, 1) := by decide +kernel
theorem dL_same_2 : decode cL_same 2 = .ok (.aload_n 0, 1) := by decide +kernel
theorem dL_same_3 : decode cL_same 3 = .ok (.iload_n 1, 1) := by decide +kernel
theorem dL_same_4 : decode cL_same 4 = .ok (.iload_n 2, 1) := by decide +kernel
theorem dL_same_5 : decode cL_same 5 = .ok (.invokevirtual 23, 3) := by decide +kernel
theorem dL_same_8 : decode cL_same 8 = .ok (.ifCond .eq 7, 3) := by decide +kernel
theorem dL_same_11 : decode cL_same 11 = .ok (.lconst 1, 1) := by decide +kernel
theorem dL_same_12 : decode cL_same 12 = .ok (.goto 4, 3) := by decide +kernel
theorem dL_same_15 : decode cL_same 15 = .ok (.lconst 0, 1) := by decide +kernel
theorem dL_same_16 : decode cL_same 16 = .ok (.lastore, 1) := by decide +kernel
theorem dL_same_17 : decode cL_same 17 = .ok (.goto 7, 3) := by decide +kernel
theorem dL_same_20 : decode cL_same 20 = .ok (.astore 4, 2) := by decide +kernel
theorem dL_same_22 : decode cL_same 22 = .ok (.iconst 1, 1) := by decide +kernel
theorem dL_same_23 : decode cL_same 23 = .ok (.ireturn, 1) := by decide +kernel
theorem dL_same_24 : decode cL_same 24 = .ok (.iconst 0, 1) := by decide +kernel
theorem dL_same_25 : decode cL_same 25 = .ok (.ireturn, 1) := by decide +kernel
theorem dX10_screen_0 : decode cX10_screen 0 = .ok (.aload_n 0, 1) := by decide +kernel
theorem dX10_screen_1 : decode cX10_screen 1 = .ok (.iload_n 1, 1) := by decide +kernel
theorem dX10_screen_2 : decode cX10_screen 2 = .ok (.invokevirtual 112, 3) := by decide +kernel
theorem dX10_screen_5 : decode cX10_screen 5 = .ok (.astore_n 3, 1) := by decide +kernel
theorem dX10_screen_6 : decode cX10_screen 6 = .ok (.aload_n 3, 1) := by decide +kernel
theorem dX10_screen_7 : decode cX10_screen 7 = .ok (.getfield 315, 3) := by decide +kernel
theorem dX10_screen_10 : decode cX10_screen 10 = .ok (.istore 4, 2) := by decide +kernel
theorem dX10_screen_12 : decode cX10_screen 12 = .ok (.aload_n 3, 1) := by decide +kernel
theorem dX10_screen_13 : decode cX10_screen 13 = .ok (.iload_n 2, 1) := by decide +kernel
theorem dX10_screen_14 : decode cX10_screen 14 = .ok (.putfield 315, 3) := by decide +kernel
theorem dX10_screen_17 : decode cX10_screen 17 = .ok (.iload 4, 2) := by decide +kernel
theorem dX10_screen_19 : decode cX10_screen 19 = .ok (.ireturn, 1) := by decide +kernel
theorem dL_screen_0 : decode cL_screen 0 = .ok (.aload_n 3, 1) := by decide +kernel
theorem dL_screen_1 : decode cL_screen 1 = .ok (.iconst 0, 1) := by decide +kernel
theorem dL_screen_2 : decode cL_screen 2 = .ok (.aload_n 0, 1) := by decide +kernel
theorem dL_screen_3 : decode cL_screen 3 = .ok (.iload_n 1, 1) := by decide +kernel
theorem dL_screen_4 : decode cL_screen 4 = .ok (.iload_n 2, 1) := by decide +kernel
theorem dL_screen_5 : decode cL_screen 5 = .ok (.invokevirtual 103, 3) := by decide +kernel
theorem dL_screen_8 : decode cL_screen 8 = .ok (.ifCond .eq 7, 3) := by decide +kernel
theorem dL_screen_11 : decode cL_screen 11 = .ok (.lconst 1, 1) := by decide +kernel
theorem dL_screen_12 : decode cL_screen 12 = .ok (.goto 4, 3) := by decide +kernel
theorem dL_screen_15 : decode cL_screen 15 = .ok (.lconst 0, 1) := by decide +kernel
theorem dL_screen_16 : decode cL_screen 16 = .ok (.lastore, 1) := by decide +kernel
theorem dL_screen_17 : decode cL_screen 17 = .ok (.goto 7, 3) := by decide +kernel
theorem dL_screen_20 : decode cL_screen 20 = .ok (.astore 4, 2) := by decide +kernel
theorem dL_screen_22 : decode cL_screen 22 = .ok (.iconst 1, 1) := by decide +kernel
theorem dL_screen_23 : decode cL_screen 23 = .ok (.ireturn, 1) := by decide +kernel
theorem dL_screen_24 : decode cL_screen 24 = .ok (.iconst 0, 1) := by decide +kernel
theorem dL_screen_25 : decode cL_screen 25 = .ok (.ireturn, 1) := by decide +kernel
theorem dX10_search_0 : decode cX10_search 0 = .ok (.iload_n 1, 1) := by decide +kernel
theorem dX10_search_1 : decode cX10_search 1 = .ok (.invokestatic 99, 3) := by decide +kernel
theorem dX10_search_4 : decode cX10_search 4 = .ok (.aload_n 0, 1) := by decide +kernel
theorem dX10_search_5 : decode cX10_search 5 = .ok (.invokevirtual 274, 3) := by decide +kernel
theorem dX10_search_8 : decode cX10_search 8 = .ok (.aload_n 0, 1) := by decide +kernel
theorem dX10_search_9 : decode cX10_search 9 = .ok (.iload_n 1, 1) := by decide +kernel
theorem dX10_search_10 : decode cX10_search 10 = .ok (.iload_n 2, 1) := by decide +kernel
theorem dX10_search_11 : decode cX10_search 11 = .ok (.invokevirtual 277, 3) := by decide +kernel
theorem dX10_search_14 : decode cX10_search 14 = .ok (.ireturn, 1) := by decide +kernel
theorem dL_search_0 : decode cL_search 0 = .ok (.aload_n 3, 1) := by decide +kernel
theorem dL_search_1 : decode cL_search 1 = .ok (.iconst 0, 1) := by decide +kernel
theorem dL_search_2 : decode cL_search 2 = .ok (.aload_n 0, 1) := by decide +kernel
theorem dL_search_3 : decode cL_search 3 = .ok (.iload_n 1, 1) := by decide +kernel
theorem dL_search_4 : decode cL_search 4 = .ok (.iload_n 2, 1) := by decide +kernel
theorem dL_search_5 : decode cL_search 5 = .ok (.invokevirtual 90, 3) := by decide +kernel
theorem dL_search_8 : decode cL_search 8 = .ok (.i2l, 1) := by decide +kernel
theorem dL_search_9 : decode cL_search 9 = .ok (.lastore, 1) := by decide +kernel
theorem dL_search_10 : decode cL_search 10 = .ok (.goto 11, 3) := by decide +kernel
theorem dL_search_13 : decode cL_search 13 = .ok (.astore 4, 2) := by decide +kernel
theorem dL_search_15 : decode cL_search 15 = .ok (.iconst 1, 1) := by decide +kernel
theorem dL_search_16 : decode cL_search 16 = .ok (.ireturn, 1) := by decide +kernel
theorem dL_search_17 : decode cL_search 17 = .ok (.astore 4, 2) := by decide +kernel
theorem dL_search_19 : decode cL_search 19 = .ok (.iconst 2, 1) := by decide +kernel
theorem dL_search_20 : decode cL_search 20 = .ok (.ireturn, 1) := by decide +kernel
theorem dL_search_21 : decode cL_search 21 = .ok (.iconst 0, 1) := by decide +kernel
theorem dL_search_22 : decode cL_search 22 = .ok (.ireturn, 1) := by decide +kernel
theorem dX10_sees_0 : decode cX10_sees 0 = .ok (.iload_n 1, 1) := by decide +kernel
theorem dX10_sees_1 : decode cX10_sees 1 = .ok (.invokestatic 99, 3) := by decide +kernel
theorem dX10_sees_4 : decode cX10_sees 4 = .ok (.aload_n 0, 1) := by decide +kernel
theorem dX10_sees_5 : decode cX10_sees 5 = .ok (.iload_n 2, 1) := by decide +kernel
theorem dX10_sees_6 : decode cX10_sees 6 = .ok (.invokevirtual 112, 3) := by decide +kernel
theorem dX10_sees_9 : decode cX10_sees 9 = .ok (.iload_n 1, 1) := by decide +kernel
theorem dX10_sees_10 : decode cX10_sees 10 = .ok (.aload_n 0, 1) := by decide +kernel
theorem dX10_sees_11 : decode cX10_sees 11 = .ok (.getfield 73, 3) := by decide +kernel
theorem dX10_sees_14 : decode cX10_sees 14 = .ok (.invokevirtual 173, 3) := by decide +kernel
theorem dX10_sees_17 : decode cX10_sees 17 = .ok (.ireturn, 1) := by decide +kernel
theorem dL_sees_0 : decode cL_sees 0 = .ok (.aload_n 3, 1) := by decide +kernel
theorem dL_sees_1 : decode cL_sees 1 = .ok (.iconst 0, 1) := by decide +kernel
theorem dL_sees_2 : decode cL_sees 2 = .ok (.aload_n 0, 1) := by decide +kernel
theorem dL_sees_3 : decode cL_sees 3 = .ok (.iload_n 1, 1) := by decide +kernel
theorem dL_sees_4 : decode cL_sees 4 = .ok (.iload_n 2, 1) := by decide +kernel
theorem dL_sees_5 : decode cL_sees 5 = .ok (.invokevirtual 54, 3) := by decide +kernel
theorem dL_sees_8 : decode cL_sees 8 = .ok (.ifCond .eq 7, 3) := by decide +kernel
theorem dL_sees_11 : decode cL_sees 11 = .ok (.lconst 1, 1) := by decide +kernel
theorem dL_sees_12 : decode cL_sees 12 = .ok (.goto 4, 3) := by decide +kernel
theorem dL_sees_15 : decode cL_sees 15 = .ok (.lconst 0, 1) := by decide +kernel
theorem dL_sees_16 : decode cL_sees 16 = .ok (.lastore, 1) := by decide +kernel
theorem dL_sees_17 : decode cL_sees 17 = .ok (.goto 7, 3) := by decide +kernel
theorem dL_sees_20 : decode cL_sees 20 = .ok (.astore 4, 2) := by decide +kernel
theorem dL_sees_22 : decode cL_sees 22 = .ok (.iconst 1, 1) := by decide +kernel
theorem dL_sees_23 : decode cL_sees 23 = .ok (.ireturn, 1) := by decide +kernel
theorem dL_sees_24 : decode cL_sees 24 = .ok (.iconst 0, 1) := by decide +kernel
theorem dL_sees_25 : decode cL_sees 25 = .ok (.ireturn, 1) := by decide +kernel
theorem dX10_isWithin_0 : decode cX10_isWithin 0 = .ok (.iload_n 0, 1) := by decide +kernel
theorem dX10_isWithin_1 : decode cX10_isWithin 1 = .ok (.iload_n 1, 1) := by decide +kernel
theorem dX10_isWithin_2 : decode cX10_isWithin 2 = .ok (.iushr, 1) := by decide +kernel
theorem dX10_isWithin_3 : decode cX10_isWithin 3 = .ok (.ifCond .ne 7, 3) := by decide +kernel
theorem dX10_isWithin_6 : decode cX10_isWithin 6 = .ok (.iconst 1, 1) := by decide +kernel
theorem dX10_isWithin_7 : decode cX10_isWithin 7 = .ok (.goto 4, 3) := by decide +kernel
theorem dX10_isWithin_10 : decode cX10_isWithin 10 = .ok (.iconst 0, 1) := by decide +kernel
theorem dX10_isWithin_11 : decode cX10_isWithin 11 = .ok (.ireturn, 1) := by decide +kernel
theorem dX2_add_0 : decode cX2_add 0 = .ok (.aload_n 0, 1) := by decide +kernel
theorem dX2_add_1 : decode cX2_add 1 = .ok (.getfield 11, 3) := by decide +kernel
theorem dX2_add_4 : decode cX2_add 4 = .ok (.aload_n 0, 1) := by decide +kernel
theorem dX2_add_5 : decode cX2_add 5 = .ok (.getfield 24, 3) := by decide +kernel
theorem dX2_add_8 : decode cX2_add 8 = .ok (.aload_n 1, 1) := by decide +kernel
theorem dX2_add_9 : decode cX2_add 9 = .ok (.aastore, 1) := by decide +kernel
theorem dX2_add_10 : decode cX2_add 10 = .ok (.aload_n 0, 1) := by decide +kernel
theorem dX2_add_11 : decode cX2_add 11 = .ok (.dup, 1) := by decide +kernel
theorem dX2_add_12 : decode cX2_add 12 = .ok (.getfield 24, 3) := by decide +kernel
theorem dX2_add_15 : decode cX2_add 15 = .ok (.iconst 1, 1) := by decide +kernel
theorem dX2_add_16 : decode cX2_add 16 = .ok (.iadd, 1) := by decide +kernel
theorem dX2_add_17 : decode cX2_add 17 = .ok (.putfield 24, 3) := by decide +kernel
theorem dX2_add_20 : decode cX2_add 20 = .ok (.aload_n 0, 1) := by decide +kernel
theorem dX2_add_21 : decode cX2_add 21 = .ok (.getfield 24, 3) := by decide +kernel
theorem dX2_add_24 : decode cX2_add 24 = .ok (.iconst 1, 1) := by decide +kernel
theorem dX2_add_25 : decode cX2_add 25 = .ok (.isub, 1) := by decide +kernel
theorem dX2_add_26 : decode cX2_add 26 = .ok (.ireturn, 1) := by decide +kernel
theorem dX2_hasSignOf_0 : decode cX2_hasSignOf 0 = .ok (.iconst 0, 1) := by decide +kernel
theorem dX2_hasSignOf_1 : decode cX2_hasSignOf 1 = .ok (.istore_n 2, 1) := by decide +kernel
theorem dX2_hasSignOf_2 : decode cX2_hasSignOf 2 = .ok (.iload_n 2, 1) := by decide +kernel
theorem dX2_hasSignOf_3 : decode cX2_hasSignOf 3 = .ok (.aload_n 0, 1) := by decide +kernel
theorem dX2_hasSignOf_4 : decode cX2_hasSignOf 4 = .ok (.getfield 24, 3) := by decide +kernel
theorem dX2_hasSignOf_7 : decode cX2_hasSignOf 7 = .ok (.if_icmp .ge 24, 3) := by decide +kernel
theorem dX2_hasSignOf_10 : decode cX2_hasSignOf 10 = .ok (.aload_n 0, 1) := by decide +kernel
theorem dX2_hasSignOf_11 : decode cX2_hasSignOf 11 = .ok (.getfield 11, 3) := by decide +kernel
theorem dX2_hasSignOf_14 : decode cX2_hasSignOf 14 = .ok (.iload_n 2, 1) := by decide +kernel
theorem dX2_hasSignOf_15 : decode cX2_hasSignOf 15 = .ok (.aaload, 1) := by decide +kernel
theorem dX2_hasSignOf_16 : decode cX2_hasSignOf 16 = .ok (.getfield 28, 3) := by decide +kernel
theorem dX2_hasSignOf_19 : decode cX2_hasSignOf 19 = .ok (.iload_n 1, 1) := by decide +kernel
theorem dX2_hasSignOf_20 : decode cX2_hasSignOf 20 = .ok (.if_icmp .ne 5, 3) := by decide +kernel
theorem dX2_hasSignOf_23 : decode cX2_hasSignOf 23 = .ok (.iconst 1, 1) := by decide +kernel
theorem dX2_hasSignOf_24 : decode cX2_hasSignOf 24 = .ok (.ireturn, 1) := by decide +kernel
theorem dX2_hasSignOf_25 : decode cX2_hasSignOf 25 = .ok (.iinc 2 1, 3) := by decide +kernel
theorem dX2_hasSignOf_28 : decode cX2_hasSignOf 28 = .ok (.goto (-26), 3) := by decide +kernel
theorem dX2_hasSignOf_31 : decode cX2_hasSignOf 31 = .ok (.iconst 0, 1) := by decide +kernel
theorem dX2_hasSignOf_32 : decode cX2_hasSignOf 32 = .ok (.ireturn, 1) := by decide +kernel
theorem dX6_init_0 : decode cX6_init 0 = .ok (.aload_n 0, 1) := by decide +kernel
theorem dX6_init_1 : decode cX6_init 1 = .ok (.invokespecial 1, 3) := by decide +kernel
theorem dX6_init_4 : decode cX6_init 4 = .ok (.aload_n 0, 1) := by decide +kernel
theorem dX6_init_5 : decode cX6_init 5 = .ok (.iload_n 1, 1) := by decide +kernel
theorem dX6_init_6 : decode cX6_init 6 = .ok (.putfield 7, 3) := by decide +kernel
theorem dX6_init_9 : decode cX6_init 9 = .ok (.aload_n 0, 1) := by decide +kernel
theorem dX6_init_10 : decode cX6_init 10 = .ok (.iload_n 2, 1) := by decide +kernel
theorem dX6_init_11 : decode cX6_init 11 = .ok (.putfield 13, 3) := by decide +kernel
theorem dX6_init_14 : decode cX6_init 14 = .ok (.aload_n 0, 1) := by decide +kernel
theorem dX6_init_15 : decode cX6_init 15 = .ok (.iload_n 3, 1) := by decide +kernel
theorem dX6_init_16 : decode cX6_init 16 = .ok (.putfield 16, 3) := by decide +kernel
