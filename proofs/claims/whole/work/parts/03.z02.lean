theorem dX6_init_19 : decode cX6_init 19 = .ok (.aload_n 0, 1) := by decide +kernel
theorem dX6_init_20 : decode cX6_init 20 = .ok (.iload 4, 2) := by decide +kernel
theorem dX6_init_22 : decode cX6_init 22 = .ok (.putfield 19, 3) := by decide +kernel
theorem dX6_init_25 : decode cX6_init 25 = .ok (.return_, 1) := by decide +kernel
theorem dX10_sign_0 : decode cX10_sign 0 = .ok (.iload_n 1, 1) := by decide +kernel
theorem dX10_sign_1 : decode cX10_sign 1 = .ok (.invokestatic 82, 3) := by decide +kernel
theorem dX10_sign_4 : decode cX10_sign 4 = .ok (.iload_n 2, 1) := by decide +kernel
theorem dX10_sign_5 : decode cX10_sign 5 = .ok (.aload_n 0, 1) := by decide +kernel
theorem dX10_sign_6 : decode cX10_sign 6 = .ok (.getfield 34, 3) := by decide +kernel
theorem dX10_sign_9 : decode cX10_sign 9 = .ok (.getfield 180, 3) := by decide +kernel
theorem dX10_sign_12 : decode cX10_sign 12 = .ok (.invokestatic 286, 3) := by decide +kernel
theorem dX10_sign_15 : decode cX10_sign 15 = .ok (.ifCond .eq 27, 3) := by decide +kernel
theorem dX10_sign_18 : decode cX10_sign 18 = .ok (.iload_n 3, 1) := by decide +kernel
theorem dX10_sign_19 : decode cX10_sign 19 = .ok (.aload_n 0, 1) := by decide +kernel
theorem dX10_sign_20 : decode cX10_sign 20 = .ok (.getfield 34, 3) := by decide +kernel
theorem dX10_sign_23 : decode cX10_sign 23 = .ok (.getfield 180, 3) := by decide +kernel
theorem dX10_sign_26 : decode cX10_sign 26 = .ok (.invokestatic 286, 3) := by decide +kernel
theorem dX10_sign_29 : decode cX10_sign 29 = .ok (.ifCond .eq 13, 3) := by decide +kernel
theorem dX10_sign_32 : decode cX10_sign 32 = .ok (.iload 4, 2) := by decide +kernel
theorem dX10_sign_34 : decode cX10_sign 34 = .ok (.bipush 12, 2) := by decide +kernel
theorem dX10_sign_36 : decode cX10_sign 36 = .ok (.invokestatic 286, 3) := by decide +kernel
theorem dX10_sign_39 : decode cX10_sign 39 = .ok (.ifCond .ne 14, 3) := by decide +kernel
theorem dX10_sign_42 : decode cX10_sign 42 = .ok (.new 66, 3) := by decide +kernel
theorem dX10_sign_45 : decode cX10_sign 45 = .ok (.dup, 1) := by decide +kernel
theorem dX10_sign_46 : decode cX10_sign 46 = .ok (.ldc_w 289, 3) := by decide +kernel
theorem dX10_sign_49 : decode cX10_sign 49 = .ok (.invokespecial 70, 3) := by decide +kernel
theorem dX10_sign_52 : decode cX10_sign 52 = .ok (.athrow, 1) := by decide +kernel
theorem dX10_sign_53 : decode cX10_sign 53 = .ok (.aload_n 0, 1) := by decide +kernel
theorem dX10_sign_54 : decode cX10_sign 54 = .ok (.getfield 55, 3) := by decide +kernel
theorem dX10_sign_57 : decode cX10_sign 57 = .ok (.iload_n 1, 1) := by decide +kernel
theorem dX10_sign_58 : decode cX10_sign 58 = .ok (.invokevirtual 291, 3) := by decide +kernel
theorem dX10_sign_61 : decode cX10_sign 61 = .ok (.ifCond .ne 15, 3) := by decide +kernel
theorem dX10_sign_64 : decode cX10_sign 64 = .ok (.aload_n 0, 1) := by decide +kernel
theorem dX10_sign_65 : decode cX10_sign 65 = .ok (.getfield 55, 3) := by decide +kernel
theorem dX10_sign_68 : decode cX10_sign 68 = .ok (.getfield 294, 3) := by decide +kernel
theorem dX10_sign_71 : decode cX10_sign 71 = .ok (.bipush 8, 2) := by decide +kernel
theorem dX10_sign_73 : decode cX10_sign 73 = .ok (.if_icmp .lt 14, 3) := by decide +kernel
theorem dX10_sign_76 : decode cX10_sign 76 = .ok (.new 77, 3) := by decide +kernel
theorem dX10_sign_79 : decode cX10_sign 79 = .ok (.dup, 1) := by decide +kernel
theorem dX10_sign_80 : decode cX10_sign 80 = .ok (.ldc_w 295, 3) := by decide +kernel
theorem dX10_sign_83 : decode cX10_sign 83 = .ok (.invokespecial 81, 3) := by decide +kernel
theorem dX10_sign_86 : decode cX10_sign 86 = .ok (.athrow, 1) := by decide +kernel
theorem dX10_sign_87 : decode cX10_sign 87 = .ok (.aload_n 0, 1) := by decide +kernel
theorem dX10_sign_88 : decode cX10_sign 88 = .ok (.getfield 55, 3) := by decide +kernel
theorem dX10_sign_91 : decode cX10_sign 91 = .ok (.new 297, 3) := by decide +kernel
theorem dX10_sign_94 : decode cX10_sign 94 = .ok (.dup, 1) := by decide +kernel
theorem dX10_sign_95 : decode cX10_sign 95 = .ok (.iload_n 1, 1) := by decide +kernel
theorem dX10_sign_96 : decode cX10_sign 96 = .ok (.iload_n 2, 1) := by decide +kernel
theorem dX10_sign_97 : decode cX10_sign 97 = .ok (.iload_n 3, 1) := by decide +kernel
theorem dX10_sign_98 : decode cX10_sign 98 = .ok (.iload 4, 2) := by decide +kernel
theorem dX10_sign_100 : decode cX10_sign 100 = .ok (.invokespecial 299, 3) := by decide +kernel
theorem dX10_sign_103 : decode cX10_sign 103 = .ok (.invokevirtual 302, 3) := by decide +kernel
theorem dX10_sign_106 : decode cX10_sign 106 = .ok (.ireturn, 1) := by decide +kernel
theorem dL_sign_0 : decode cL_sign 0 = .ok (.aload 5, 2) := by decide +kernel
theorem dL_sign_2 : decode cL_sign 2 = .ok (.iconst 0, 1) := by decide +kernel
theorem dL_sign_3 : decode cL_sign 3 = .ok (.aload_n 0, 1) := by decide +kernel
theorem dL_sign_4 : decode cL_sign 4 = .ok (.iload_n 1, 1) := by decide +kernel
theorem dL_sign_5 : decode cL_sign 5 = .ok (.iload_n 2, 1) := by decide +kernel
theorem dL_sign_6 : decode cL_sign 6 = .ok (.iload_n 3, 1) := by decide +kernel
theorem dL_sign_7 : decode cL_sign 7 = .ok (.iload 4, 2) := by decide +kernel
theorem dL_sign_9 : decode cL_sign 9 = .ok (.invokevirtual 96, 3) := by decide +kernel
theorem dL_sign_12 : decode cL_sign 12 = .ok (.i2l, 1) := by decide +kernel
theorem dL_sign_13 : decode cL_sign 13 = .ok (.lastore, 1) := by decide +kernel
theorem dL_sign_14 : decode cL_sign 14 = .ok (.goto 15, 3) := by decide +kernel
theorem dL_sign_17 : decode cL_sign 17 = .ok (.astore 6, 2) := by decide +kernel
theorem dL_sign_19 : decode cL_sign 19 = .ok (.iconst 1, 1) := by decide +kernel
theorem dL_sign_20 : decode cL_sign 20 = .ok (.ireturn, 1) := by decide +kernel
theorem dL_sign_21 : decode cL_sign 21 = .ok (.astore 6, 2) := by decide +kernel
theorem dL_sign_23 : decode cL_sign 23 = .ok (.iconst 2, 1) := by decide +kernel
theorem dL_sign_24 : decode cL_sign 24 = .ok (.ireturn, 1) := by decide +kernel
theorem dL_sign_25 : decode cL_sign 25 = .ok (.astore 6, 2) := by decide +kernel
theorem dL_sign_27 : decode cL_sign 27 = .ok (.iconst 3, 1) := by decide +kernel
theorem dL_sign_28 : decode cL_sign 28 = .ok (.ireturn, 1) := by decide +kernel
theorem dL_sign_29 : decode cL_sign 29 = .ok (.iconst 0, 1) := by decide +kernel
theorem dL_sign_30 : decode cL_sign 30 = .ok (.ireturn, 1) := by decide +kernel
theorem dX10_subscribe_0 : decode cX10_subscribe 0 = .ok (.iload_n 1, 1) := by decide +kernel
theorem dX10_subscribe_1 : decode cX10_subscribe 1 = .ok (.invokestatic 82, 3) := by decide +kernel
theorem dX10_subscribe_4 : decode cX10_subscribe 4 = .ok (.iload_n 2, 1) := by decide +kernel
theorem dX10_subscribe_5 : decode cX10_subscribe 5 = .ok (.ifCond .eq 10, 3) := by decide +kernel
theorem dX10_subscribe_8 : decode cX10_subscribe 8 = .ok (.iload_n 3, 1) := by decide +kernel
theorem dX10_subscribe_9 : decode cX10_subscribe 9 = .ok (.invokestatic 82, 3) := by decide +kernel
theorem dX10_subscribe_12 : decode cX10_subscribe 12 = .ok (.goto 8, 3) := by decide +kernel
theorem dX10_subscribe_15 : decode cX10_subscribe 15 = .ok (.aload_n 0, 1) := by decide +kernel
theorem dX10_subscribe_16 : decode cX10_subscribe 16 = .ok (.iload_n 3, 1) := by decide +kernel
theorem dX10_subscribe_17 : decode cX10_subscribe 17 = .ok (.invokevirtual 361, 3) := by decide +kernel
theorem dX10_subscribe_20 : decode cX10_subscribe 20 = .ok (.aload_n 0, 1) := by decide +kernel
theorem dX10_subscribe_21 : decode cX10_subscribe 21 = .ok (.getfield 15, 3) := by decide +kernel
theorem dX10_subscribe_24 : decode cX10_subscribe 24 = .ok (.iload_n 1, 1) := by decide +kernel
theorem dX10_subscribe_25 : decode cX10_subscribe 25 = .ok (.aaload, 1) := by decide +kernel
theorem dX10_subscribe_26 : decode cX10_subscribe 26 = .ok (.astore 4, 2) := by decide +kernel
theorem dX10_subscribe_28 : decode cX10_subscribe 28 = .ok (.iload_n 2, 1) := by decide +kernel
theorem dX10_subscribe_29 : decode cX10_subscribe 29 = .ok (.ifCond .eq 11, 3) := by decide +kernel
theorem dX10_subscribe_32 : decode cX10_subscribe 32 = .ok (.aload 4, 2) := by decide +kernel
theorem dX10_subscribe_34 : decode cX10_subscribe 34 = .ok (.getfield 364, 3) := by decide +kernel
theorem dX10_subscribe_37 : decode cX10_subscribe 37 = .ok (.goto 8, 3) := by decide +kernel
theorem dX10_subscribe_40 : decode cX10_subscribe 40 = .ok (.aload 4, 2) := by decide +kernel
theorem dX10_subscribe_42 : decode cX10_subscribe 42 = .ok (.getfield 367, 3) := by decide +kernel
theorem dX10_subscribe_45 : decode cX10_subscribe 45 = .ok (.astore 5, 2) := by decide +kernel
theorem dX10_subscribe_47 : decode cX10_subscribe 47 = .ok (.aload 5, 2) := by decide +kernel
theorem dX10_subscribe_49 : decode cX10_subscribe 49 = .ok (.iload_n 3, 1) := by decide +kernel
theorem dX10_subscribe_50 : decode cX10_subscribe 50 = .ok (.iaload, 1) := by decide +kernel
theorem dX10_subscribe_51 : decode cX10_subscribe 51 = .ok (.sipush 2001, 3) := by decide +kernel
theorem dX10_subscribe_54 : decode cX10_subscribe 54 = .ok (.if_icmp .eq 7, 3) := by decide +kernel
theorem dX10_subscribe_57 : decode cX10_subscribe 57 = .ok (.iconst 1, 1) := by decide +kernel
theorem dX10_subscribe_58 : decode cX10_subscribe 58 = .ok (.goto 4, 3) := by decide +kernel
theorem dX10_subscribe_61 : decode cX10_subscribe 61 = .ok (.iconst 0, 1) := by decide +kernel
theorem dX10_subscribe_62 : decode cX10_subscribe 62 = .ok (.istore 6, 2) := by decide +kernel
theorem dX10_subscribe_64 : decode cX10_subscribe 64 = .ok (.iload 6, 2) := by decide +kernel
theorem dX10_subscribe_66 : decode cX10_subscribe 66 = .ok (.ifCond .ne 11, 3) := by decide +kernel
theorem dX10_subscribe_69 : decode cX10_subscribe 69 = .ok (.aload 5, 2) := by decide +kernel
theorem dX10_subscribe_71 : decode cX10_subscribe 71 = .ok (.iload_n 3, 1) := by decide +kernel
theorem dX10_subscribe_72 : decode cX10_subscribe 72 = .ok (.aload_n 0, 1) := by decide +kernel
theorem dX10_subscribe_73 : decode cX10_subscribe 73 = .ok (.getfield 73, 3) := by decide +kernel
theorem dX10_subscribe_76 : decode cX10_subscribe 76 = .ok (.iastore, 1) := by decide +kernel
theorem dX10_subscribe_77 : decode cX10_subscribe 77 = .ok (.iload 6, 2) := by decide +kernel
theorem dX10_subscribe_79 : decode cX10_subscribe 79 = .ok (.ifCond .ne 7, 3) := by decide +kernel
theorem dX10_subscribe_82 : decode cX10_subscribe 82 = .ok (.iconst 1, 1) := by decide +kernel
theorem dX10_subscribe_83 : decode cX10_subscribe 83 = .ok (.goto 4, 3) := by decide +kernel
theorem dX10_subscribe_86 : decode cX10_subscribe 86 = .ok (.iconst 0, 1) := by decide +kernel
theorem dX10_subscribe_87 : decode cX10_subscribe 87 = .ok (.ireturn, 1) := by decide +kernel
theorem dL_subscribe_0 : decode cL_subscribe 0 = .ok (.aload 4, 2) := by decide +kernel
theorem dL_subscribe_2 : decode cL_subscribe 2 = .ok (.iconst 0, 1) := by decide +kernel
theorem dL_subscribe_3 : decode cL_subscribe 3 = .ok (.aload_n 0, 1) := by decide +kernel
theorem dL_subscribe_4 : decode cL_subscribe 4 = .ok (.iload_n 1, 1) := by decide +kernel
theorem dL_subscribe_5 : decode cL_subscribe 5 = .ok (.iload_n 2, 1) := by decide +kernel
theorem dL_subscribe_6 : decode cL_subscribe 6 = .ok (.iload_n 3, 1) := by decide +kernel
theorem dL_subscribe_7 : decode cL_subscribe 7 = .ok (.invokevirtual 122, 3) := by decide +kernel
theorem dL_subscribe_10 : decode cL_subscribe 10 = .ok (.ifCond .eq 7, 3) := by decide +kernel
theorem dL_subscribe_13 : decode cL_subscribe 13 = .ok (.lconst 1, 1) := by decide +kernel
theorem dL_subscribe_14 : decode cL_subscribe 14 = .ok (.goto 4, 3) := by decide +kernel
theorem dL_subscribe_17 : decode cL_subscribe 17 = .ok (.lconst 0, 1) := by decide +kernel
theorem dL_subscribe_18 : decode cL_subscribe 18 = .ok (.lastore, 1) := by decide +kernel
theorem dL_subscribe_19 : decode cL_subscribe 19 = .ok (.goto 7, 3) := by decide +kernel
theorem dL_subscribe_22 : decode cL_subscribe 22 = .ok (.astore 5, 2) := by decide +kernel
theorem dL_subscribe_24 : decode cL_subscribe 24 = .ok (.iconst 1, 1) := by decide +kernel
theorem dL_subscribe_25 : decode cL_subscribe 25 = .ok (.ireturn, 1) := by decide +kernel
theorem dL_subscribe_26 : decode cL_subscribe 26 = .ok (.iconst 0, 1) := by decide +kernel
theorem dL_subscribe_27 : decode cL_subscribe 27 = .ok (.ireturn, 1) := by decide +kernel
theorem dX7_add_0 : decode cX7_add 0 = .ok (.aload_n 0, 1) := by decide +kernel
theorem dX7_add_1 : decode cX7_add 1 = .ok (.getfield 9, 3) := by decide +kernel
theorem dX7_add_4 : decode cX7_add 4 = .ok (.aload_n 0, 1) := by decide +kernel
theorem dX7_add_5 : decode cX7_add 5 = .ok (.getfield 21, 3) := by decide +kernel
theorem dX7_add_8 : decode cX7_add 8 = .ok (.iconst (-1), 1) := by decide +kernel
theorem dX7_add_9 : decode cX7_add 9 = .ok (.iastore, 1) := by decide +kernel
theorem dX7_add_10 : decode cX7_add 10 = .ok (.aload_n 0, 1) := by decide +kernel
theorem dX7_add_11 : decode cX7_add 11 = .ok (.dup, 1) := by decide +kernel
theorem dX7_add_12 : decode cX7_add 12 = .ok (.getfield 21, 3) := by decide +kernel
theorem dX7_add_15 : decode cX7_add 15 = .ok (.iconst 1, 1) := by decide +kernel
theorem dX7_add_16 : decode cX7_add 16 = .ok (.iadd, 1) := by decide +kernel
theorem dX7_add_17 : decode cX7_add 17 = .ok (.putfield 21, 3) := by decide +kernel
theorem dX7_add_20 : decode cX7_add 20 = .ok (.aload_n 0, 1) := by decide +kernel
theorem dX7_add_21 : decode cX7_add 21 = .ok (.getfield 21, 3) := by decide +kernel
theorem dX7_add_24 : decode cX7_add 24 = .ok (.iconst 1, 1) := by decide +kernel
theorem dX7_add_25 : decode cX7_add 25 = .ok (.isub, 1) := by decide +kernel
theorem dX7_add_26 : decode cX7_add 26 = .ok (.ireturn, 1) := by decide +kernel
theorem dX10_tag_0 : decode cX10_tag 0 = .ok (.aload_n 0, 1) := by decide +kernel
theorem dX10_tag_1 : decode cX10_tag 1 = .ok (.getfield 34, 3) := by decide +kernel
theorem dX10_tag_4 : decode cX10_tag 4 = .ok (.getfield 180, 3) := by decide +kernel
theorem dX10_tag_7 : decode cX10_tag 7 = .ok (.bipush 30, 2) := by decide +kernel
theorem dX10_tag_9 : decode cX10_tag 9 = .ok (.if_icmp .lt 13, 3) := by decide +kernel
theorem dX10_tag_12 : decode cX10_tag 12 = .ok (.new 77, 3) := by decide +kernel
theorem dX10_tag_15 : decode cX10_tag 15 = .ok (.dup, 1) := by decide +kernel
theorem dX10_tag_16 : decode cX10_tag 16 = .ok (.ldc 183, 2) := by decide +kernel
theorem dX10_tag_18 : decode cX10_tag 18 = .ok (.invokespecial 81, 3) := by decide +kernel
theorem dX10_tag_21 : decode cX10_tag 21 = .ok (.athrow, 1) := by decide +kernel
theorem dX10_tag_22 : decode cX10_tag 22 = .ok (.aload_n 0, 1) := by decide +kernel
theorem dX10_tag_23 : decode cX10_tag 23 = .ok (.getfield 34, 3) := by decide +kernel
theorem dX10_tag_26 : decode cX10_tag 26 = .ok (.invokevirtual 185, 3) := by decide +kernel
theorem dX10_tag_29 : decode cX10_tag 29 = .ok (.ireturn, 1) := by decide +kernel
theorem dL_tag_0 : decode cL_tag 0 = .ok (.aload_n 1, 1) := by decide +kernel
theorem dL_tag_1 : decode cL_tag 1 = .ok (.iconst 0, 1) := by decide +kernel
theorem dL_tag_2 : decode cL_tag 2 = .ok (.aload_n 0, 1) := by decide +kernel
theorem dL_tag_3 : decode cL_tag 3 = .ok (.invokevirtual 60, 3) := by decide +kernel
theorem dL_tag_6 : decode cL_tag 6 = .ok (.i2l, 1) := by decide +kernel
theorem dL_tag_7 : decode cL_tag 7 = .ok (.lastore, 1) := by decide +kernel
theorem dL_tag_8 : decode cL_tag 8 = .ok (.goto 6, 3) := by decide +kernel
theorem dL_tag_11 : decode cL_tag 11 = .ok (.astore_n 2, 1) := by decide +kernel
theorem dL_tag_12 : decode cL_tag 12 = .ok (.iconst 1, 1) := by decide +kernel
theorem dL_tag_13 : decode cL_tag 13 = .ok (.ireturn, 1) := by decide +kernel
theorem dL_tag_14 : decode cL_tag 14 = .ok (.iconst 0, 1) := by decide +kernel
theorem dL_tag_15 : decode cL_tag 15 = .ok (.ireturn, 1) := by decide +kernel
theorem dX10_characterAt_0 : decode cX10_characterAt 0 = .ok (.lload_n 0, 1) := by decide +kernel
theorem dX10_characterAt_1 : decode cX10_characterAt 1 = .ok (.bipush 8, 2) := by decide +kernel
theorem dX10_characterAt_3 : decode cX10_characterAt 3 = .ok (.iload_n 2, 1) := by decide +kernel
theorem dX10_characterAt_4 : decode cX10_characterAt 4 = .ok (.imul, 1) := by decide +kernel
theorem dX10_characterAt_5 : decode cX10_characterAt 5 = .ok (.lushr, 1) := by decide +kernel
theorem dX10_characterAt_6 : decode cX10_characterAt 6 = .ok (.ldc2_w 391, 3) := by decide +kernel
theorem dX10_characterAt_9 : decode cX10_characterAt 9 = .ok (.land, 1) := by decide +kernel
theorem dX10_characterAt_10 : decode cX10_characterAt 10 = .ok (.l2i, 1) := by decide +kernel
theorem dX10_characterAt_11 : decode cX10_characterAt 11 = .ok (.i2c, 1) := by decide +kernel
theorem dX10_characterAt_12 : decode cX10_characterAt 12 = .ok (.ireturn, 1) := by decide +kernel
theorem dX8_add_0 : decode cX8_add 0 = .ok (.aload_n 0, 1) := by decide +kernel
theorem dX8_add_1 : decode cX8_add 1 = .ok (.getfield 9, 3) := by decide +kernel
theorem dX8_add_4 : decode cX8_add 4 = .ok (.aload_n 0, 1) := by decide +kernel
theorem dX8_add_5 : decode cX8_add 5 = .ok (.getfield 30, 3) := by decide +kernel
theorem dX8_add_8 : decode cX8_add 8 = .ok (.iload_n 1, 1) := by decide +kernel
theorem dX8_add_9 : decode cX8_add 9 = .ok (.castore, 1) := by decide +kernel
theorem dX8_add_10 : decode cX8_add 10 = .ok (.aload_n 0, 1) := by decide +kernel
theorem dX8_add_11 : decode cX8_add 11 = .ok (.dup, 1) := by decide +kernel
theorem dX8_add_12 : decode cX8_add 12 = .ok (.getfield 30, 3) := by decide +kernel
theorem dX8_add_15 : decode cX8_add 15 = .ok (.iconst 1, 1) := by decide +kernel
theorem dX8_add_16 : decode cX8_add 16 = .ok (.iadd, 1) := by decide +kernel
theorem dX8_add_17 : decode cX8_add 17 = .ok (.putfield 30, 3) := by decide +kernel
theorem dX8_add_20 : decode cX8_add 20 = .ok (.return_, 1) := by decide +kernel
theorem dX8_holds_0 : decode cX8_holds 0 = .ok (.iload_n 0, 1) := by decide +kernel
theorem dX8_holds_1 : decode cX8_holds 1 = .ok (.invokestatic 22, 3) := by decide +kernel
theorem dX8_holds_4 : decode cX8_holds 4 = .ok (.ifCond .ne 40, 3) := by decide +kernel
theorem dX8_holds_7 : decode cX8_holds 7 = .ok (.iload_n 0, 1) := by decide +kernel
theorem dX8_holds_8 : decode cX8_holds 8 = .ok (.invokestatic 26, 3) := by decide +kernel
theorem dX8_holds_11 : decode cX8_holds 11 = .ok (.ifCond .gt 33, 3) := by decide +kernel
theorem dX8_holds_14 : decode cX8_holds 14 = .ok (.iload_n 0, 1) := by decide +kernel
theorem dX8_holds_15 : decode cX8_holds 15 = .ok (.bipush 38, 2) := by decide +kernel
theorem dX8_holds_17 : decode cX8_holds 17 = .ok (.if_icmp .eq 27, 3) := by decide +kernel
theorem dX8_holds_20 : decode cX8_holds 20 = .ok (.iload_n 0, 1) := by decide +kernel
theorem dX8_holds_21 : decode cX8_holds 21 = .ok (.bipush 124, 2) := by decide +kernel
theorem dX8_holds_23 : decode cX8_holds 23 = .ok (.if_icmp .eq 21, 3) := by decide +kernel
theorem dX8_holds_26 : decode cX8_holds 26 = .ok (.iload_n 0, 1) := by decide +kernel
theorem dX8_holds_27 : decode cX8_holds 27 = .ok (.bipush 33, 2) := by decide +kernel
theorem dX8_holds_29 : decode cX8_holds 29 = .ok (.if_icmp .eq 15, 3) := by decide +kernel
theorem dX8_holds_32 : decode cX8_holds 32 = .ok (.iload_n 0, 1) := by decide +kernel
theorem dX8_holds_33 : decode cX8_holds 33 = .ok (.bipush 40, 2) := by decide +kernel
theorem dX8_holds_35 : decode cX8_holds 35 = .ok (.if_icmp .eq 9, 3) := by decide +kernel
theorem dX8_holds_38 : decode cX8_holds 38 = .ok (.iload_n 0, 1) := by decide +kernel
theorem dX8_holds_39 : decode cX8_holds 39 = .ok (.bipush 41, 2) := by decide +kernel
theorem dX8_holds_41 : decode cX8_holds 41 = .ok (.if_icmp .ne 7, 3) := by decide +kernel
theorem dX8_holds_44 : decode cX8_holds 44 = .ok (.iconst 1, 1) := by decide +kernel
theorem dX8_holds_45 : decode cX8_holds 45 = .ok (.goto 4, 3) := by decide +kernel
theorem dX8_holds_48 : decode cX8_holds 48 = .ok (.iconst 0, 1) := by decide +kernel
theorem dX8_holds_49 : decode cX8_holds 49 = .ok (.ireturn, 1) := by decide +kernel
theorem dX10_type_0 : decode cX10_type 0 = .ok (.iload_n 3, 1) := by decide +kernel
theorem dX10_type_1 : decode cX10_type 1 = .ok (.iconst 1, 1) := by decide +kernel
theorem dX10_type_2 : decode cX10_type 2 = .ok (.if_icmp .lt 9, 3) := by decide +kernel
theorem dX10_type_5 : decode cX10_type 5 = .ok (.iload_n 3, 1) := by decide +kernel
theorem dX10_type_6 : decode cX10_type 6 = .ok (.bipush 8, 2) := by decide +kernel
theorem dX10_type_8 : decode cX10_type 8 = .ok (.if_icmp .le 13, 3) := by decide +kernel
theorem dX10_type_11 : decode cX10_type 11 = .ok (.new 66, 3) := by decide +kernel
theorem dX10_type_14 : decode cX10_type 14 = .ok (.dup, 1) := by decide +kernel
theorem dX10_type_15 : decode cX10_type 15 = .ok (.ldc 251, 2) := by decide +kernel
theorem dX10_type_17 : decode cX10_type 17 = .ok (.invokespecial 70, 3) := by decide +kernel
theorem dX10_type_20 : decode cX10_type 20 = .ok (.athrow, 1) := by decide +kernel
theorem dX10_type_21 : decode cX10_type 21 = .ok (.iconst 0, 1) := by decide +kernel
theorem dX10_type_22 : decode cX10_type 22 = .ok (.istore 4, 2) := by decide +kernel
theorem dX10_type_24 : decode cX10_type 24 = .ok (.iload 4, 2) := by decide +kernel
theorem dX10_type_26 : decode cX10_type 26 = .ok (.iload_n 3, 1) := by decide +kernel
theorem dX10_type_27 : decode cX10_type 27 = .ok (.if_icmp .ge 32, 3) := by decide +kernel
theorem dX10_type_30 : decode cX10_type 30 = .ok (.lload_n 1, 1) := by decide +kernel
theorem dX10_type_31 : decode cX10_type 31 = .ok (.iload 4, 2) := by decide +kernel
theorem dX10_type_33 : decode cX10_type 33 = .ok (.invokestatic 253, 3) := by decide +kernel
theorem dX10_type_36 : decode cX10_type 36 = .ok (.invokestatic 257, 3) := by decide +kernel
theorem dX10_type_39 : decode cX10_type 39 = .ok (.ifCond .ne 14, 3) := by decide +kernel
theorem dX10_type_42 : decode cX10_type 42 = .ok (.new 66, 3) := by decide +kernel
theorem dX10_type_45 : decode cX10_type 45 = .ok (.dup, 1) := by decide +kernel
theorem dX10_type_46 : decode cX10_type 46 = .ok (.ldc_w 261, 3) := by decide +kernel
theorem dX10_type_49 : decode cX10_type 49 = .ok (.invokespecial 70, 3) := by decide +kernel
theorem dX10_type_52 : decode cX10_type 52 = .ok (.athrow, 1) := by decide +kernel
theorem dX10_type_53 : decode cX10_type 53 = .ok (.iinc 4 1, 3) := by decide +kernel
theorem dX10_type_56 : decode cX10_type 56 = .ok (.goto (-32), 3) := by decide +kernel
theorem dX10_type_59 : decode cX10_type 59 = .ok (.aload_n 0, 1) := by decide +kernel
theorem dX10_type_60 : decode cX10_type 60 = .ok (.getfield 41, 3) := by decide +kernel
theorem dX10_type_63 : decode cX10_type 63 = .ok (.getfield 263, 3) := by decide +kernel
theorem dX10_type_66 : decode cX10_type 66 = .ok (.iload_n 3, 1) := by decide +kernel
theorem dX10_type_67 : decode cX10_type 67 = .ok (.iadd, 1) := by decide +kernel
theorem dX10_type_68 : decode cX10_type 68 = .ok (.bipush 60, 2) := by decide +kernel
theorem dX10_type_70 : decode cX10_type 70 = .ok (.if_icmp .le 14, 3) := by decide +kernel
theorem dX10_type_73 : decode cX10_type 73 = .ok (.new 77, 3) := by decide +kernel
theorem dX10_type_76 : decode cX10_type 76 = .ok (.dup, 1) := by decide +kernel
theorem dX10_type_77 : decode cX10_type 77 = .ok (.ldc_w 266, 3) := by decide +kernel
theorem dX10_type_80 : decode cX10_type 80 = .ok (.invokespecial 81, 3) := by decide +kernel
theorem dX10_type_83 : decode cX10_type 83 = .ok (.athrow, 1) := by decide +kernel
theorem dX10_type_84 : decode cX10_type 84 = .ok (.iconst 0, 1) := by decide +kernel
theorem dX10_type_85 : decode cX10_type 85 = .ok (.istore 4, 2) := by decide +kernel
theorem dX10_type_87 : decode cX10_type 87 = .ok (.iload 4, 2) := by decide +kernel
theorem dX10_type_89 : decode cX10_type 89 = .ok (.iload_n 3, 1) := by decide +kernel
theorem dX10_type_90 : decode cX10_type 90 = .ok (.if_icmp .ge 22, 3) := by decide +kernel
theorem dX10_type_93 : decode cX10_type 93 = .ok (.aload_n 0, 1) := by decide +kernel
theorem dX10_type_94 : decode cX10_type 94 = .ok (.getfield 41, 3) := by decide +kernel
theorem dX10_type_97 : decode cX10_type 97 = .ok (.lload_n 1, 1) := by decide +kernel
theorem dX10_type_98 : decode cX10_type 98 = .ok (.iload 4, 2) := by decide +kernel
theorem dX10_type_100 : decode cX10_type 100 = .ok (.invokestatic 253, 3) := by decide +kernel
theorem dX10_type_103 : decode cX10_type 103 = .ok (.invokevirtual 268, 3) := by decide +kernel
theorem dX10_type_106 : decode cX10_type 106 = .ok (.iinc 4 1, 3) := by decide +kernel
theorem dX10_type_109 : decode cX10_type 109 = .ok (.goto (-22), 3) := by decide +kernel
theorem dX10_type_112 : decode cX10_type 112 = .ok (.aload_n 0, 1) := by decide +kernel
theorem dX10_type_113 : decode cX10_type 113 = .ok (.getfield 41, 3) := by decide +kernel
theorem dX10_type_116 : decode cX10_type 116 = .ok (.getfield 263, 3) := by decide +kernel
theorem dX10_type_119 : decode cX10_type 119 = .ok (.ireturn, 1) := by decide +kernel
theorem dL_type_0 : decode cL_type 0 = .ok (.aload 4, 2) := by decide +kernel
theorem dL_type_2 : decode cL_type 2 = .ok (.iconst 0, 1) := by decide +kernel
theorem dL_type_3 : decode cL_type 3 = .ok (.aload_n 0, 1) := by decide +kernel
theorem dL_type_4 : decode cL_type 4 = .ok (.lload_n 1, 1) := by decide +kernel
theorem dL_type_5 : decode cL_type 5 = .ok (.iload_n 3, 1) := by decide +kernel
theorem dL_type_6 : decode cL_type 6 = .ok (.invokevirtual 86, 3) := by decide +kernel
theorem dL_type_9 : decode cL_type 9 = .ok (.i2l, 1) := by decide +kernel
theorem dL_type_10 : decode cL_type 10 = .ok (.lastore, 1) := by decide +kernel
theorem dL_type_11 : decode cL_type 11 = .ok (.goto 11, 3) := by decide +kernel
theorem dL_type_14 : decode cL_type 14 = .ok (.astore 5, 2) := by decide +kernel
theorem dL_type_16 : decode cL_type 16 = .ok (.iconst 1, 1) := by decide +kernel
theorem dL_type_17 : decode cL_type 17 = .ok (.ireturn, 1) := by decide +kernel
theorem dL_type_18 : decode cL_type 18 = .ok (.astore 5, 2) := by decide +kernel
theorem dL_type_20 : decode cL_type 20 = .ok (.iconst 2, 1) := by decide +kernel
theorem dL_type_21 : decode cL_type 21 = .ok (.ireturn, 1) := by decide +kernel
theorem dL_type_22 : decode cL_type 22 = .ok (.iconst 0, 1) := by decide +kernel
theorem dL_type_23 : decode cL_type 23 = .ok (.ireturn, 1) := by decide +kernel
theorem dX10_under_0 : decode cX10_under 0 = .ok (.aload_n 0, 1) := by decide +kernel
theorem dX10_under_1 : decode cX10_under 1 = .ok (.aload_n 0, 1) := by decide +kernel
theorem dX10_under_2 : decode cX10_under 2 = .ok (.iload_n 1, 1) := by decide +kernel
theorem dX10_under_3 : decode cX10_under 3 = .ok (.invokevirtual 112, 3) := by decide +kernel
theorem dX10_under_6 : decode cX10_under 6 = .ok (.iload_n 2, 1) := by decide +kernel
theorem dX10_under_7 : decode cX10_under 7 = .ok (.invokevirtual 247, 3) := by decide +kernel
theorem dX10_under_10 : decode cX10_under 10 = .ok (.ireturn, 1) := by decide +kernel
theorem dL_under_0 : decode cL_under 0 = .ok (.aload_n 3, 1) := by decide +kernel
theorem dL_under_1 : decode cL_under 1 = .ok (.iconst 0, 1) := by decide +kernel
theorem dL_under_2 : decode cL_under 2 = .ok (.aload_n 0, 1) := by decide +kernel
theorem dL_under_3 : decode cL_under 3 = .ok (.iload_n 1, 1) := by decide +kernel
theorem dL_under_4 : decode cL_under 4 = .ok (.iload_n 2, 1) := by decide +kernel
theorem dL_under_5 : decode cL_under 5 = .ok (.invokevirtual 82, 3) := by decide +kernel
theorem dL_under_8 : decode cL_under 8 = .ok (.i2l, 1) := by decide +kernel
theorem dL_under_9 : decode cL_under 9 = .ok (.lastore, 1) := by decide +kernel
theorem dL_under_10 : decode cL_under 10 = .ok (.goto 7, 3) := by decide +kernel
theorem dL_under_13 : decode cL_under 13 = .ok (.astore 4, 2) := by decide +kernel
theorem dL_under_15 : decode cL_under 15 = .ok (.iconst 1, 1) := by decide +kernel
theorem dL_under_16 : decode cL_under 16 = .ok (.ireturn, 1) := by decide +kernel
theorem dL_under_17 : decode cL_under 17 = .ok (.iconst 0, 1) := by decide +kernel
theorem dL_under_18 : decode cL_under 18 = .ok (.ireturn, 1) := by decide +kernel
theorem dX10_wave_0 : decode cX10_wave 0 = .ok (.iload_n 1, 1) := by decide +kernel
theorem dX10_wave_1 : decode cX10_wave 1 = .ok (.iconst 1, 1) := by decide +kernel
theorem dX10_wave_2 : decode cX10_wave 2 = .ok (.if_icmp .lt 9, 3) := by decide +kernel
theorem dX10_wave_5 : decode cX10_wave 5 = .ok (.iload_n 1, 1) := by decide +kernel
theorem dX10_wave_6 : decode cX10_wave 6 = .ok (.bipush 20, 2) := by decide +kernel
theorem dX10_wave_8 : decode cX10_wave 8 = .ok (.if_icmp .le 13, 3) := by decide +kernel
theorem dX10_wave_11 : decode cX10_wave 11 = .ok (.new 66, 3) := by decide +kernel
theorem dX10_wave_14 : decode cX10_wave 14 = .ok (.dup, 1) := by decide +kernel
theorem dX10_wave_15 : decode cX10_wave 15 = .ok (.ldc 242, 2) := by decide +kernel
theorem dX10_wave_17 : decode cX10_wave 17 = .ok (.invokespecial 70, 3) := by decide +kernel
theorem dX10_wave_20 : decode cX10_wave 20 = .ok (.athrow, 1) := by decide +kernel
theorem dX10_wave_21 : decode cX10_wave 21 = .ok (.iconst 0, 1) := by decide +kernel
theorem dX10_wave_22 : decode cX10_wave 22 = .ok (.istore_n 2, 1) := by decide +kernel
theorem dX10_wave_23 : decode cX10_wave 23 = .ok (.iconst 0, 1) := by decide +kernel
theorem dX10_wave_24 : decode cX10_wave 24 = .ok (.istore_n 3, 1) := by decide +kernel
theorem dX10_wave_25 : decode cX10_wave 25 = .ok (.iload_n 3, 1) := by decide +kernel
theorem dX10_wave_26 : decode cX10_wave 26 = .ok (.aload_n 0, 1) := by decide +kernel
theorem dX10_wave_27 : decode cX10_wave 27 = .ok (.getfield 104, 3) := by decide +kernel
theorem dX10_wave_30 : decode cX10_wave 30 = .ok (.if_icmp .ge 50, 3) := by decide +kernel
theorem dX10_wave_33 : decode cX10_wave 33 = .ok (.iload_n 2, 1) := by decide +kernel
theorem dX10_wave_34 : decode cX10_wave 34 = .ok (.iload_n 1, 1) := by decide +kernel
theorem dX10_wave_35 : decode cX10_wave 35 = .ok (.if_icmp .ge 45, 3) := by decide +kernel
theorem dX10_wave_38 : decode cX10_wave 38 = .ok (.aload_n 0, 1) := by decide +kernel
theorem dX10_wave_39 : decode cX10_wave 39 = .ok (.getfield 21, 3) := by decide +kernel
theorem dX10_wave_42 : decode cX10_wave 42 = .ok (.iload_n 3, 1) := by decide +kernel
theorem dX10_wave_43 : decode cX10_wave 43 = .ok (.aaload, 1) := by decide +kernel
theorem dX10_wave_44 : decode cX10_wave 44 = .ok (.astore 4, 2) := by decide +kernel
theorem dX10_wave_46 : decode cX10_wave 46 = .ok (.aload 4, 2) := by decide +kernel
theorem dX10_wave_48 : decode cX10_wave 48 = .ok (.getfield 244, 3) := by decide +kernel
theorem dX10_wave_51 : decode cX10_wave 51 = .ok (.ifCond .eq 23, 3) := by decide +kernel
theorem dX10_wave_54 : decode cX10_wave 54 = .ok (.aload 4, 2) := by decide +kernel
theorem dX10_wave_56 : decode cX10_wave 56 = .ok (.aload_n 0, 1) := by decide +kernel
theorem dX10_wave_57 : decode cX10_wave 57 = .ok (.getfield 34, 3) := by decide +kernel
theorem dX10_wave_60 : decode cX10_wave 60 = .ok (.aload 4, 2) := by decide +kernel
theorem dX10_wave_62 : decode cX10_wave 62 = .ok (.getfield 234, 3) := by decide +kernel
theorem dX10_wave_65 : decode cX10_wave 65 = .ok (.invokevirtual 236, 3) := by decide +kernel
theorem dX10_wave_68 : decode cX10_wave 68 = .ok (.invokevirtual 239, 3) := by decide +kernel
theorem dX10_wave_71 : decode cX10_wave 71 = .ok (.iinc 2 1, 3) := by decide +kernel
theorem dX10_wave_74 : decode cX10_wave 74 = .ok (.iinc 3 1, 3) := by decide +kernel
theorem dX10_wave_77 : decode cX10_wave 77 = .ok (.goto (-52), 3) := by decide +kernel
theorem dX10_wave_80 : decode cX10_wave 80 = .ok (.iload_n 2, 1) := by decide +kernel
theorem dX10_wave_81 : decode cX10_wave 81 = .ok (.ireturn, 1) := by decide +kernel
theorem dL_wave_0 : decode cL_wave 0 = .ok (.aload_n 2, 1) := by decide +kernel
theorem dL_wave_1 : decode cL_wave 1 = .ok (.iconst 0, 1) := by decide +kernel
theorem dL_wave_2 : decode cL_wave 2 = .ok (.aload_n 0, 1) := by decide +kernel
theorem dL_wave_3 : decode cL_wave 3 = .ok (.iload_n 1, 1) := by decide +kernel
theorem dL_wave_4 : decode cL_wave 4 = .ok (.invokevirtual 79, 3) := by decide +kernel
theorem dL_wave_7 : decode cL_wave 7 = .ok (.i2l, 1) := by decide +kernel
theorem dL_wave_8 : decode cL_wave 8 = .ok (.lastore, 1) := by decide +kernel
theorem dL_wave_9 : decode cL_wave 9 = .ok (.goto 6, 3) := by decide +kernel
theorem dL_wave_12 : decode cL_wave 12 = .ok (.astore_n 3, 1) := by decide +kernel
theorem dL_wave_13 : decode cL_wave 13 = .ok (.iconst 1, 1) := by decide +kernel
theorem dL_wave_14 : decode cL_wave 14 = .ok (.ireturn, 1) := by decide +kernel
theorem dL_wave_15 : decode cL_wave 15 = .ok (.iconst 0, 1) := by decide +kernel
theorem dL_wave_16 : decode cL_wave 16 = .ok (.ireturn, 1) := by decide +kernel
theorem dX9_init_0 : decode cX9_init 0 = .ok (.aload_n 0, 1) := by decide +kernel
theorem dX9_init_1 : decode cX9_init 1 = .ok (.invokespecial 3, 3) := by decide +kernel
theorem dX9_init_4 : decode cX9_init 4 = .ok (.aload_n 0, 1) := by decide +kernel
theorem dX9_init_5 : decode cX9_init 5 = .ok (.bipush 8, 2) := by decide +kernel
theorem dX9_init_7 : decode cX9_init 7 = .ok (.newarray .int, 2) := by decide +kernel
theorem dX9_init_9 : decode cX9_init 9 = .ok (.putfield 9, 3) := by decide +kernel
theorem dX9_init_12 : decode cX9_init 12 = .ok (.aload_n 0, 1) := by decide +kernel
theorem dX9_init_13 : decode cX9_init 13 = .ok (.iconst (-1), 1) := by decide +kernel
theorem dX9_init_14 : decode cX9_init 14 = .ok (.putfield 15, 3) := by decide +kernel
theorem dX9_init_17 : decode cX9_init 17 = .ok (.aload_n 0, 1) := by decide +kernel
theorem dX9_init_18 : decode cX9_init 18 = .ok (.iconst 1, 1) := by decide +kernel
theorem dX9_init_19 : decode cX9_init 19 = .ok (.iload_n 1, 1) := by decide +kernel
theorem dX9_init_20 : decode cX9_init 20 = .ok (.ishl, 1) := by decide +kernel
theorem dX9_init_21 : decode cX9_init 21 = .ok (.putfield 19, 3) := by decide +kernel
theorem dX9_init_24 : decode cX9_init 24 = .ok (.aload_n 0, 1) := by decide +kernel
theorem dX9_init_25 : decode cX9_init 25 = .ok (.iload_n 2, 1) := by decide +kernel
theorem dX9_init_26 : decode cX9_init 26 = .ok (.putfield 22, 3) := by decide +kernel
theorem dX9_init_29 : decode cX9_init 29 = .ok (.return_, 1) := by decide +kernel
theorem dX10_work_0 : decode cX10_work 0 = .ok (.iload_n 1, 1) := by decide +kernel
theorem dX10_work_1 : decode cX10_work 1 = .ok (.invokestatic 82, 3) := by decide +kernel
theorem dX10_work_4 : decode cX10_work 4 = .ok (.iload_n 2, 1) := by decide +kernel
theorem dX10_work_5 : decode cX10_work 5 = .ok (.ifCond .lt 8, 3) := by decide +kernel
theorem dX10_work_8 : decode cX10_work 8 = .ok (.iload_n 2, 1) := by decide +kernel
theorem dX10_work_9 : decode cX10_work 9 = .ok (.iconst 3, 1) := by decide +kernel
theorem dX10_work_10 : decode cX10_work 10 = .ok (.if_icmp .le 13, 3) := by decide +kernel
theorem dX10_work_13 : decode cX10_work 13 = .ok (.new 66, 3) := by decide +kernel
theorem dX10_work_16 : decode cX10_work 16 = .ok (.dup, 1) := by decide +kernel
theorem dX10_work_17 : decode cX10_work 17 = .ok (.ldc 102, 2) := by decide +kernel
theorem dX10_work_19 : decode cX10_work 19 = .ok (.invokespecial 70, 3) := by decide +kernel
theorem dX10_work_22 : decode cX10_work 22 = .ok (.athrow, 1) := by decide +kernel
theorem dX10_work_23 : decode cX10_work 23 = .ok (.aload_n 0, 1) := by decide +kernel
theorem dX10_work_24 : decode cX10_work 24 = .ok (.getfield 104, 3) := by decide +kernel
theorem dX10_work_27 : decode cX10_work 27 = .ok (.bipush 20, 2) := by decide +kernel
theorem dX10_work_29 : decode cX10_work 29 = .ok (.if_icmp .lt 13, 3) := by decide +kernel
theorem dX10_work_32 : decode cX10_work 32 = .ok (.new 77, 3) := by decide +kernel
theorem dX10_work_35 : decode cX10_work 35 = .ok (.dup, 1) := by decide +kernel
theorem dX10_work_36 : decode cX10_work 36 = .ok (.ldc 107, 2) := by decide +kernel
theorem dX10_work_38 : decode cX10_work 38 = .ok (.invokespecial 81, 3) := by decide +kernel
theorem dX10_work_41 : decode cX10_work 41 = .ok (.athrow, 1) := by decide +kernel
theorem dX10_work_42 : decode cX10_work 42 = .ok (.aload_n 0, 1) := by decide +kernel
theorem dX10_work_43 : decode cX10_work 43 = .ok (.getfield 21, 3) := by decide +kernel
theorem dX10_work_46 : decode cX10_work 46 = .ok (.aload_n 0, 1) := by decide +kernel
theorem dX10_work_47 : decode cX10_work 47 = .ok (.getfield 104, 3) := by decide +kernel
theorem dX10_work_50 : decode cX10_work 50 = .ok (.new 19, 3) := by decide +kernel
theorem dX10_work_53 : decode cX10_work 53 = .ok (.dup, 1) := by decide +kernel
theorem dX10_work_54 : decode cX10_work 54 = .ok (.iload_n 1, 1) := by decide +kernel
theorem dX10_work_55 : decode cX10_work 55 = .ok (.iload_n 2, 1) := by decide +kernel
theorem dX10_work_56 : decode cX10_work 56 = .ok (.invokespecial 109, 3) := by decide +kernel
theorem dX10_work_59 : decode cX10_work 59 = .ok (.aastore, 1) := by decide +kernel
theorem dX10_work_60 : decode cX10_work 60 = .ok (.aload_n 0, 1) := by decide +kernel
theorem dX10_work_61 : decode cX10_work 61 = .ok (.dup, 1) := by decide +kernel
theorem dX10_work_62 : decode cX10_work 62 = .ok (.getfield 104, 3) := by decide +kernel
theorem dX10_work_65 : decode cX10_work 65 = .ok (.iconst 1, 1) := by decide +kernel
theorem dX10_work_66 : decode cX10_work 66 = .ok (.iadd, 1) := by decide +kernel
theorem dX10_work_67 : decode cX10_work 67 = .ok (.putfield 104, 3) := by decide +kernel
theorem dX10_work_70 : decode cX10_work 70 = .ok (.aload_n 0, 1) := by decide +kernel
theorem dX10_work_71 : decode cX10_work 71 = .ok (.getfield 104, 3) := by decide +kernel
theorem dX10_work_74 : decode cX10_work 74 = .ok (.iconst 1, 1) := by decide +kernel
theorem dX10_work_75 : decode cX10_work 75 = .ok (.isub, 1) := by decide +kernel
theorem dX10_work_76 : decode cX10_work 76 = .ok (.ireturn, 1) := by decide +kernel
theorem dL_work_0 : decode cL_work 0 = .ok (.aload_n 3, 1) := by decide +kernel
theorem dL_work_1 : decode cL_work 1 = .ok (.iconst 0, 1) := by decide +kernel
theorem dL_work_2 : decode cL_work 2 = .ok (.aload_n 0, 1) := by decide +kernel
theorem dL_work_3 : decode cL_work 3 = .ok (.iload_n 1, 1) := by decide +kernel
theorem dL_work_4 : decode cL_work 4 = .ok (.iload_n 2, 1) := by decide +kernel
theorem dL_work_5 : decode cL_work 5 = .ok (.invokevirtual 27, 3) := by decide +kernel
theorem dL_work_8 : decode cL_work 8 = .ok (.i2l, 1) := by decide +kernel
theorem dL_work_9 : decode cL_work 9 = .ok (.lastore, 1) := by decide +kernel
theorem dL_work_10 : decode cL_work 10 = .ok (.goto 15, 3) := by decide +kernel
theorem dL_work_13 : decode cL_work 13 = .ok (.astore 4, 2) := by decide +kernel
theorem dL_work_15 : decode cL_work 15 = .ok (.iconst 1, 1) := by decide +kernel
theorem dL_work_16 : decode cL_work 16 = .ok (.ireturn, 1) := by decide +kernel
theorem dL_work_17 : decode cL_work 17 = .ok (.astore 4, 2) := by decide +kernel
theorem dL_work_19 : decode cL_work 19 = .ok (.iconst 2, 1) := by decide +kernel
theorem dL_work_20 : decode cL_work 20 = .ok (.ireturn, 1) := by decide +kernel
theorem dL_work_21 : decode cL_work 21 = .ok (.astore 4, 2) := by decide +kernel
theorem dL_work_23 : decode cL_work 23 = .ok (.iconst 3, 1) := by decide +kernel
theorem dL_work_24 : decode cL_work 24 = .ok (.ireturn, 1) := by decide +kernel
theorem dL_work_25 : decode cL_work 25 = .ok (.iconst 0, 1) := by decide +kernel
theorem dL_work_26 : decode cL_work 26 = .ok (.ireturn, 1) := by decide +kernel
theorem dX10_fault_0 : decode cX10_fault 0 = .ok (.aload_n 0, 1) := by decide +kernel
theorem dX10_fault_1 : decode cX10_fault 1 = .ok (.getfield 41, 3) := by decide +kernel
theorem dX10_fault_4 : decode cX10_fault 4 = .ok (.invokevirtual 271, 3) := by decide +kernel
theorem dX10_fault_7 : decode cX10_fault 7 = .ok (.ireturn, 1) := by decide +kernel
theorem dX2_init_0 : decode cX2_init 0 = .ok (.aload_n 0, 1) := by decide +kernel
theorem dX2_init_1 : decode cX2_init 1 = .ok (.invokespecial 3, 3) := by decide +kernel
theorem dX2_init_4 : decode cX2_init 4 = .ok (.aload_n 0, 1) := by decide +kernel
theorem dX2_init_5 : decode cX2_init 5 = .ok (.bipush 8, 2) := by decide +kernel
theorem dX2_init_7 : decode cX2_init 7 = .ok (.anewarray 9, 3) := by decide +kernel
theorem dX2_init_10 : decode cX2_init 10 = .ok (.putfield 11, 3) := by decide +kernel
theorem dX2_init_13 : decode cX2_init 13 = .ok (.aload_n 0, 1) := by decide +kernel
theorem dX2_init_14 : decode cX2_init 14 = .ok (.bipush 8, 2) := by decide +kernel
theorem dX2_init_16 : decode cX2_init 16 = .ok (.newarray .int, 2) := by decide +kernel
theorem dX2_init_18 : decode cX2_init 18 = .ok (.putfield 17, 3) := by decide +kernel
theorem dX2_init_21 : decode cX2_init 21 = .ok (.aload_n 0, 1) := by decide +kernel
theorem dX2_init_22 : decode cX2_init 22 = .ok (.sipush 256, 3) := by decide +kernel
theorem dX2_init_25 : decode cX2_init 25 = .ok (.newarray .int, 2) := by decide +kernel
theorem dX2_init_27 : decode cX2_init 27 = .ok (.putfield 21, 3) := by decide +kernel
theorem dX2_init_30 : decode cX2_init 30 = .ok (.return_, 1) := by decide +kernel
theorem dJ7_fill_53178_0 : decode cJ7_fill_53178 0 = .ok (.iconst 0, 1) := by decide +kernel
theorem dJ7_fill_53178_1 : decode cJ7_fill_53178 1 = .ok (.istore_n 2, 1) := by decide +kernel
theorem dJ7_fill_53178_2 : decode cJ7_fill_53178 2 = .ok (.aload_n 0, 1) := by decide +kernel
theorem dJ7_fill_53178_3 : decode cJ7_fill_53178 3 = .ok (.arraylength, 1) := by decide +kernel
theorem dJ7_fill_53178_4 : decode cJ7_fill_53178 4 = .ok (.istore_n 3, 1) := by decide +kernel
theorem dJ7_fill_53178_5 : decode cJ7_fill_53178 5 = .ok (.iload_n 2, 1) := by decide +kernel
theorem dJ7_fill_53178_6 : decode cJ7_fill_53178 6 = .ok (.iload_n 3, 1) := by decide +kernel
theorem dJ7_fill_53178_7 : decode cJ7_fill_53178 7 = .ok (.if_icmp .ge 13, 3) := by decide +kernel
theorem dJ7_fill_53178_10 : decode cJ7_fill_53178 10 = .ok (.aload_n 0, 1) := by decide +kernel
theorem dJ7_fill_53178_11 : decode cJ7_fill_53178 11 = .ok (.iload_n 2, 1) := by decide +kernel
theorem dJ7_fill_53178_12 : decode cJ7_fill_53178 12 = .ok (.iload_n 1, 1) := by decide +kernel
theorem dJ7_fill_53178_13 : decode cJ7_fill_53178 13 = .ok (.iastore, 1) := by decide +kernel
theorem dJ7_fill_53178_14 : decode cJ7_fill_53178 14 = .ok (.iinc 2 1, 3) := by decide +kernel
theorem dJ7_fill_53178_17 : decode cJ7_fill_53178 17 = .ok (.goto (-12), 3) := by decide +kernel
theorem dJ7_fill_53178_20 : decode cJ7_fill_53178 20 = .ok (.return_, 1) := by decide +kernel
theorem dX3_init_0 : decode cX3_init 0 = .ok (.aload_n 0, 1) := by decide +kernel
theorem dX3_init_1 : decode cX3_init 1 = .ok (.invokespecial 3, 3) := by decide +kernel
theorem dX3_init_4 : decode cX3_init 4 = .ok (.aload_n 0, 1) := by decide +kernel
theorem dX3_init_5 : decode cX3_init 5 = .ok (.bipush 20, 2) := by decide +kernel
theorem dX3_init_7 : decode cX3_init 7 = .ok (.newarray .int, 2) := by decide +kernel
theorem dX3_init_9 : decode cX3_init 9 = .ok (.putfield 9, 3) := by decide +kernel
theorem dX3_init_12 : decode cX3_init 12 = .ok (.aload_n 0, 1) := by decide +kernel
theorem dX3_init_13 : decode cX3_init 13 = .ok (.bipush 12, 2) := by decide +kernel
theorem dX3_init_15 : decode cX3_init 15 = .ok (.newarray .int, 2) := by decide +kernel
theorem dX3_init_17 : decode cX3_init 17 = .ok (.putfield 15, 3) := by decide +kernel
theorem dX3_init_20 : decode cX3_init 20 = .ok (.aload_n 0, 1) := by decide +kernel
theorem dX3_init_21 : decode cX3_init 21 = .ok (.bipush 20, 2) := by decide +kernel
theorem dX3_init_23 : decode cX3_init 23 = .ok (.newarray .int, 2) := by decide +kernel
theorem dX3_init_25 : decode cX3_init 25 = .ok (.putfield 18, 3) := by decide +kernel
theorem dX3_init_28 : decode cX3_init 28 = .ok (.aload_n 0, 1) := by decide +kernel
theorem dX3_init_29 : decode cX3_init 29 = .ok (.getfield 9, 3) := by decide +kernel
theorem dX3_init_32 : decode cX3_init 32 = .ok (.sipush 2001, 3) := by decide +kernel
theorem dX3_init_35 : decode cX3_init 35 = .ok (.invokestatic 21, 3) := by decide +kernel
theorem dX3_init_38 : decode cX3_init 38 = .ok (.aload_n 0, 1) := by decide +kernel
theorem dX3_init_39 : decode cX3_init 39 = .ok (.getfield 15, 3) := by decide +kernel
theorem dX3_init_42 : decode cX3_init 42 = .ok (.sipush 2001, 3) := by decide +kernel
theorem dX3_init_45 : decode cX3_init 45 = .ok (.invokestatic 21, 3) := by decide +kernel
theorem dX3_init_48 : decode cX3_init 48 = .ok (.return_, 1) := by decide +kernel
theorem dX5_init_0 : decode cX5_init 0 = .ok (.aload_n 0, 1) := by decide +kernel
theorem dX5_init_1 : decode cX5_init 1 = .ok (.invokespecial 3, 3) := by decide +kernel
theorem dX5_init_4 : decode cX5_init 4 = .ok (.aload_n 0, 1) := by decide +kernel
theorem dX5_init_5 : decode cX5_init 5 = .ok (.bipush 61, 2) := by decide +kernel
theorem dX5_init_7 : decode cX5_init 7 = .ok (.newarray .int, 2) := by decide +kernel
theorem dX5_init_9 : decode cX5_init 9 = .ok (.putfield 9, 3) := by decide +kernel
theorem dX5_init_12 : decode cX5_init 12 = .ok (.aload_n 0, 1) := by decide +kernel
theorem dX5_init_13 : decode cX5_init 13 = .ok (.bipush 61, 2) := by decide +kernel
theorem dX5_init_15 : decode cX5_init 15 = .ok (.newarray .int, 2) := by decide +kernel
theorem dX5_init_17 : decode cX5_init 17 = .ok (.putfield 15, 3) := by decide +kernel
theorem dX5_init_20 : decode cX5_init 20 = .ok (.aload_n 0, 1) := by decide +kernel
theorem dX5_init_21 : decode cX5_init 21 = .ok (.bipush 61, 2) := by decide +kernel
theorem dX5_init_23 : decode cX5_init 23 = .ok (.newarray .boolean, 2) := by decide +kernel
theorem dX5_init_25 : decode cX5_init 25 = .ok (.putfield 18, 3) := by decide +kernel
theorem dX5_init_28 : decode cX5_init 28 = .ok (.return_, 1) := by decide +kernel
theorem dX7_init_0 : decode cX7_init 0 = .ok (.aload_n 0, 1) := by decide +kernel
theorem dX7_init_1 : decode cX7_init 1 = .ok (.invokespecial 3, 3) := by decide +kernel
theorem dX7_init_4 : decode cX7_init 4 = .ok (.aload_n 0, 1) := by decide +kernel
theorem dX7_init_5 : decode cX7_init 5 = .ok (.bipush 30, 2) := by decide +kernel
theorem dX7_init_7 : decode cX7_init 7 = .ok (.newarray .int, 2) := by decide +kernel
theorem dX7_init_9 : decode cX7_init 9 = .ok (.putfield 9, 3) := by decide +kernel
theorem dX7_init_12 : decode cX7_init 12 = .ok (.aload_n 0, 1) := by decide +kernel
theorem dX7_init_13 : decode cX7_init 13 = .ok (.bipush 30, 2) := by decide +kernel
theorem dX7_init_15 : decode cX7_init 15 = .ok (.newarray .int, 2) := by decide +kernel
theorem dX7_init_17 : decode cX7_init 17 = .ok (.putfield 15, 3) := by decide +kernel
theorem dX7_init_20 : decode cX7_init 20 = .ok (.aload_n 0, 1) := by decide +kernel
theorem dX7_init_21 : decode cX7_init 21 = .ok (.bipush 30, 2) := by decide +kernel
theorem dX7_init_23 : decode cX7_init 23 = .ok (.newarray .int, 2) := by decide +kernel
theorem dX7_init_25 : decode cX7_init 25 = .ok (.putfield 18, 3) := by decide +kernel
theorem dX7_init_28 : decode cX7_init 28 = .ok (.return_, 1) := by decide +kernel
theorem dX4_init_0 : decode cX4_init 0 = .ok (.aload_n 0, 1) := by decide +kernel
theorem dX4_init_1 : decode cX4_init 1 = .ok (.invokespecial 3, 3) := by decide +kernel
theorem dX4_init_4 : decode cX4_init 4 = .ok (.return_, 1) := by decide +kernel
theorem dX8_init_0 : decode cX8_init 0 = .ok (.aload_n 0, 1) := by decide +kernel
theorem dX8_init_1 : decode cX8_init 1 = .ok (.invokespecial 3, 3) := by decide +kernel
theorem dX8_init_4 : decode cX8_init 4 = .ok (.aload_n 0, 1) := by decide +kernel
theorem dX8_init_5 : decode cX8_init 5 = .ok (.bipush 60, 2) := by decide +kernel
theorem dX8_init_7 : decode cX8_init 7 = .ok (.newarray .char, 2) := by decide +kernel
theorem dX8_init_9 : decode cX8_init 9 = .ok (.putfield 9, 3) := by decide +kernel
theorem dX8_init_12 : decode cX8_init 12 = .ok (.aload_n 0, 1) := by decide +kernel
theorem dX8_init_13 : decode cX8_init 13 = .ok (.new 15, 3) := by decide +kernel
theorem dX8_init_16 : decode cX8_init 16 = .ok (.dup, 1) := by decide +kernel
theorem dX8_init_17 : decode cX8_init 17 = .ok (.invokespecial 17, 3) := by decide +kernel
theorem dX8_init_20 : decode cX8_init 20 = .ok (.putfield 18, 3) := by decide +kernel
theorem dX8_init_23 : decode cX8_init 23 = .ok (.return_, 1) := by decide +kernel
theorem dX10_init_0 : decode cX10_init 0 = .ok (.aload_n 0, 1) := by decide +kernel
theorem dX10_init_1 : decode cX10_init 1 = .ok (.invokespecial 3, 3) := by decide +kernel
theorem dX10_init_4 : decode cX10_init 4 = .ok (.aload_n 0, 1) := by decide +kernel
theorem dX10_init_5 : decode cX10_init 5 = .ok (.bipush 32, 2) := by decide +kernel
theorem dX10_init_7 : decode cX10_init 7 = .ok (.newarray .int, 2) := by decide +kernel
theorem dX10_init_9 : decode cX10_init 9 = .ok (.putfield 9, 3) := by decide +kernel
theorem dX10_init_12 : decode cX10_init 12 = .ok (.aload_n 0, 1) := by decide +kernel
theorem dX10_init_13 : decode cX10_init 13 = .ok (.bipush 12, 2) := by decide +kernel
theorem dX10_init_15 : decode cX10_init 15 = .ok (.anewarray 13, 3) := by decide +kernel
theorem dX10_init_18 : decode cX10_init 18 = .ok (.putfield 15, 3) := by decide +kernel
theorem dX10_init_21 : decode cX10_init 21 = .ok (.aload_n 0, 1) := by decide +kernel
theorem dX10_init_22 : decode cX10_init 22 = .ok (.bipush 20, 2) := by decide +kernel
theorem dX10_init_24 : decode cX10_init 24 = .ok (.anewarray 19, 3) := by decide +kernel
theorem dX10_init_27 : decode cX10_init 27 = .ok (.putfield 21, 3) := by decide +kernel
theorem dX10_init_30 : decode cX10_init 30 = .ok (.aload_n 0, 1) := by decide +kernel
theorem dX10_init_31 : decode cX10_init 31 = .ok (.bipush 6, 2) := by decide +kernel
theorem dX10_init_33 : decode cX10_init 33 = .ok (.anewarray 25, 3) := by decide +kernel
theorem dX10_init_36 : decode cX10_init 36 = .ok (.putfield 27, 3) := by decide +kernel
theorem dX10_init_39 : decode cX10_init 39 = .ok (.aload_n 0, 1) := by decide +kernel
theorem dX10_init_40 : decode cX10_init 40 = .ok (.new 31, 3) := by decide +kernel
theorem dX10_init_43 : decode cX10_init 43 = .ok (.dup, 1) := by decide +kernel
theorem dX10_init_44 : decode cX10_init 44 = .ok (.invokespecial 33, 3) := by decide +kernel
theorem dX10_init_47 : decode cX10_init 47 = .ok (.putfield 34, 3) := by decide +kernel
theorem dX10_init_50 : decode cX10_init 50 = .ok (.aload_n 0, 1) := by decide +kernel
theorem dX10_init_51 : decode cX10_init 51 = .ok (.new 38, 3) := by decide +kernel
theorem dX10_init_54 : decode cX10_init 54 = .ok (.dup, 1) := by decide +kernel
theorem dX10_init_55 : decode cX10_init 55 = .ok (.invokespecial 40, 3) := by decide +kernel
theorem dX10_init_58 : decode cX10_init 58 = .ok (.putfield 41, 3) := by decide +kernel
theorem dX10_init_61 : decode cX10_init 61 = .ok (.aload_n 0, 1) := by decide +kernel
theorem dX10_init_62 : decode cX10_init 62 = .ok (.new 45, 3) := by decide +kernel
theorem dX10_init_65 : decode cX10_init 65 = .ok (.dup, 1) := by decide +kernel
theorem dX10_init_66 : decode cX10_init 66 = .ok (.invokespecial 47, 3) := by decide +kernel
theorem dX10_init_69 : decode cX10_init 69 = .ok (.putfield 48, 3) := by decide +kernel
theorem dX10_init_72 : decode cX10_init 72 = .ok (.aload_n 0, 1) := by decide +kernel
theorem dX10_init_73 : decode cX10_init 73 = .ok (.new 52, 3) := by decide +kernel
theorem dX10_init_76 : decode cX10_init 76 = .ok (.dup, 1) := by decide +kernel
theorem dX10_init_77 : decode cX10_init 77 = .ok (.invokespecial 54, 3) := by decide +kernel
theorem dX10_init_80 : decode cX10_init 80 = .ok (.putfield 55, 3) := by decide +kernel
theorem dX10_init_83 : decode cX10_init 83 = .ok (.aload_n 0, 1) := by decide +kernel
theorem dX10_init_84 : decode cX10_init 84 = .ok (.bipush 60, 2) := by decide +kernel
theorem dX10_init_86 : decode cX10_init 86 = .ok (.anewarray 59, 3) := by decide +kernel
theorem dX10_init_89 : decode cX10_init 89 = .ok (.putfield 61, 3) := by decide +kernel
theorem dX10_init_92 : decode cX10_init 92 = .ok (.iconst 0, 1) := by decide +kernel
theorem dX10_init_93 : decode cX10_init 93 = .ok (.istore_n 1, 1) := by decide +kernel
theorem dX10_init_94 : decode cX10_init 94 = .ok (.iload_n 1, 1) := by decide +kernel
theorem dX10_init_95 : decode cX10_init 95 = .ok (.bipush 32, 2) := by decide +kernel
theorem dX10_init_97 : decode cX10_init 97 = .ok (.if_icmp .ge 18, 3) := by decide +kernel
theorem dX10_init_100 : decode cX10_init 100 = .ok (.aload_n 0, 1) := by decide +kernel
theorem dX10_init_101 : decode cX10_init 101 = .ok (.getfield 9, 3) := by decide +kernel
theorem dX10_init_104 : decode cX10_init 104 = .ok (.iload_n 1, 1) := by decide +kernel
theorem dX10_init_105 : decode cX10_init 105 = .ok (.iconst 1, 1) := by decide +kernel
theorem dX10_init_106 : decode cX10_init 106 = .ok (.iload_n 1, 1) := by decide +kernel
theorem dX10_init_107 : decode cX10_init 107 = .ok (.ishl, 1) := by decide +kernel
theorem dX10_init_108 : decode cX10_init 108 = .ok (.iastore, 1) := by decide +kernel
theorem dX10_init_109 : decode cX10_init 109 = .ok (.iinc 1 1, 3) := by decide +kernel
theorem dX10_init_112 : decode cX10_init 112 = .ok (.goto (-18), 3) := by decide +kernel
theorem dX10_init_115 : decode cX10_init 115 = .ok (.iconst 0, 1) := by decide +kernel
theorem dX10_init_116 : decode cX10_init 116 = .ok (.istore_n 1, 1) := by decide +kernel
theorem dX10_init_117 : decode cX10_init 117 = .ok (.iload_n 1, 1) := by decide +kernel
theorem dX10_init_118 : decode cX10_init 118 = .ok (.bipush 12, 2) := by decide +kernel
theorem dX10_init_120 : decode cX10_init 120 = .ok (.if_icmp .ge 22, 3) := by decide +kernel
theorem dX10_init_123 : decode cX10_init 123 = .ok (.aload_n 0, 1) := by decide +kernel
theorem dX10_init_124 : decode cX10_init 124 = .ok (.getfield 15, 3) := by decide +kernel
theorem dX10_init_127 : decode cX10_init 127 = .ok (.iload_n 1, 1) := by decide +kernel
theorem dX10_init_128 : decode cX10_init 128 = .ok (.new 13, 3) := by decide +kernel
theorem dX10_init_131 : decode cX10_init 131 = .ok (.dup, 1) := by decide +kernel
theorem dX10_init_132 : decode cX10_init 132 = .ok (.invokespecial 65, 3) := by decide +kernel
theorem dX10_init_135 : decode cX10_init 135 = .ok (.aastore, 1) := by decide +kernel
theorem dX10_init_136 : decode cX10_init 136 = .ok (.iinc 1 1, 3) := by decide +kernel
theorem dX10_init_139 : decode cX10_init 139 = .ok (.goto (-22), 3) := by decide +kernel
theorem dX10_init_142 : decode cX10_init 142 = .ok (.return_, 1) := by decide +kernel
theorem dX2_countMatches_0 : decode cX2_countMatches 0 = .ok (.aload_n 0, 1) := by decide +kernel
theorem dX2_countMatches_1 : decode cX2_countMatches 1 = .ok (.aload_n 1, 1) := by decide +kernel
theorem dX2_countMatches_2 : decode cX2_countMatches 2 = .ok (.invokevirtual 31, 3) := by decide +kernel
theorem dX2_countMatches_5 : decode cX2_countMatches 5 = .ok (.aload_n 0, 1) := by decide +kernel
theorem dX2_countMatches_6 : decode cX2_countMatches 6 = .ok (.getfield 21, 3) := by decide +kernel
theorem dX2_countMatches_9 : decode cX2_countMatches 9 = .ok (.iconst 0, 1) := by decide +kernel
theorem dX2_countMatches_10 : decode cX2_countMatches 10 = .ok (.iaload, 1) := by decide +kernel
theorem dX2_countMatches_11 : decode cX2_countMatches 11 = .ok (.ireturn, 1) := by decide +kernel
theorem dX10_matches_0 : decode cX10_matches 0 = .ok (.aload_n 0, 1) := by decide +kernel
theorem dX10_matches_1 : decode cX10_matches 1 = .ok (.getfield 55, 3) := by decide +kernel
theorem dX10_matches_4 : decode cX10_matches 4 = .ok (.aload_n 0, 1) := by decide +kernel
theorem dX10_matches_5 : decode cX10_matches 5 = .ok (.getfield 34, 3) := by decide +kernel
theorem dX10_matches_8 : decode cX10_matches 8 = .ok (.invokevirtual 311, 3) := by decide +kernel
theorem dX10_matches_11 : decode cX10_matches 11 = .ok (.ireturn, 1) := by decide +kernel
theorem dX10_waiting_0 : decode cX10_waiting 0 = .ok (.iconst 0, 1) := by decide +kernel
theorem dX10_waiting_1 : decode cX10_waiting 1 = .ok (.istore_n 1, 1) := by decide +kernel
theorem dX10_waiting_2 : decode cX10_waiting 2 = .ok (.iconst 0, 1) := by decide +kernel
theorem dX10_waiting_3 : decode cX10_waiting 3 = .ok (.istore_n 2, 1) := by decide +kernel
theorem dX10_waiting_4 : decode cX10_waiting 4 = .ok (.iload_n 2, 1) := by decide +kernel
theorem dX10_waiting_5 : decode cX10_waiting 5 = .ok (.aload_n 0, 1) := by decide +kernel
theorem dX10_waiting_6 : decode cX10_waiting 6 = .ok (.getfield 104, 3) := by decide +kernel
theorem dX10_waiting_9 : decode cX10_waiting 9 = .ok (.if_icmp .ge 24, 3) := by decide +kernel
theorem dX10_waiting_12 : decode cX10_waiting 12 = .ok (.iload_n 1, 1) := by decide +kernel
theorem dX10_waiting_13 : decode cX10_waiting 13 = .ok (.iload_n 2, 1) := by decide +kernel
theorem dX10_waiting_14 : decode cX10_waiting 14 = .ok (.aload_n 0, 1) := by decide +kernel
theorem dX10_waiting_15 : decode cX10_waiting 15 = .ok (.getfield 21, 3) := by decide +kernel
theorem dX10_waiting_18 : decode cX10_waiting 18 = .ok (.iload_n 2, 1) := by decide +kernel
theorem dX10_waiting_19 : decode cX10_waiting 19 = .ok (.aaload, 1) := by decide +kernel
theorem dX10_waiting_20 : decode cX10_waiting 20 = .ok (.getfield 244, 3) := by decide +kernel
theorem dX10_waiting_23 : decode cX10_waiting 23 = .ok (.invokestatic 95, 3) := by decide +kernel
theorem dX10_waiting_26 : decode cX10_waiting 26 = .ok (.istore_n 1, 1) := by decide +kernel
theorem dX10_waiting_27 : decode cX10_waiting 27 = .ok (.iinc 2 1, 3) := by decide +kernel
theorem dX10_waiting_30 : decode cX10_waiting 30 = .ok (.goto (-26), 3) := by decide +kernel
theorem dX10_waiting_33 : decode cX10_waiting 33 = .ok (.iload_n 1, 1) := by decide +kernel
theorem dX10_waiting_34 : decode cX10_waiting 34 = .ok (.ireturn, 1) := by decide +kernel
theorem dX10_wipe_0 : decode cX10_wipe 0 = .ok (.aload_n 0, 1) := by decide +kernel
theorem dX10_wipe_1 : decode cX10_wipe 1 = .ok (.getfield 41, 3) := by decide +kernel
theorem dX10_wipe_4 : decode cX10_wipe 4 = .ok (.getfield 263, 3) := by decide +kernel
theorem dX10_wipe_7 : decode cX10_wipe 7 = .ok (.istore_n 1, 1) := by decide +kernel
theorem dX10_wipe_8 : decode cX10_wipe 8 = .ok (.aload_n 0, 1) := by decide +kernel
theorem dX10_wipe_9 : decode cX10_wipe 9 = .ok (.getfield 41, 3) := by decide +kernel
theorem dX10_wipe_12 : decode cX10_wipe 12 = .ok (.iconst 0, 1) := by decide +kernel
theorem dX10_wipe_13 : decode cX10_wipe 13 = .ok (.putfield 263, 3) := by decide +kernel
theorem dX10_wipe_16 : decode cX10_wipe 16 = .ok (.iload_n 1, 1) := by decide +kernel
theorem dX10_wipe_17 : decode cX10_wipe 17 = .ok (.ireturn, 1) := by decide +kernel
theorem dX11_holds_0 : decode cX11_holds 0 = .ok (.aload_n 0, 1) := by decide +kernel
theorem dX11_holds_1 : decode cX11_holds 1 = .ok (.iload_n 1, 1) := by decide +kernel
theorem dX11_holds_2 : decode cX11_holds 2 = .ok (.putfield 125, 3) := by decide +kernel
theorem dX11_holds_5 : decode cX11_holds 5 = .ok (.iload_n 1, 1) := by decide +kernel
theorem dX11_holds_6 : decode cX11_holds 6 = .ok (.ifCond .ne 7, 3) := by decide +kernel
theorem dX11_holds_9 : decode cX11_holds 9 = .ok (.iconst 1, 1) := by decide +kernel
theorem dX11_holds_10 : decode cX11_holds 10 = .ok (.goto 4, 3) := by decide +kernel
theorem dX11_holds_13 : decode cX11_holds 13 = .ok (.iconst 0, 1) := by decide +kernel
theorem dX11_holds_14 : decode cX11_holds 14 = .ok (.ireturn, 1) := by decide +kernel
theorem dX11_in_0 : decode cX11_in 0 = .ok (.iload_n 0, 1) := by decide +kernel
theorem dX11_in_1 : decode cX11_in 1 = .ok (.iload_n 1, 1) := by decide +kernel
theorem dX11_in_2 : decode cX11_in 2 = .ok (.if_icmp .lt 12, 3) := by decide +kernel
theorem dX11_in_5 : decode cX11_in 5 = .ok (.iload_n 0, 1) := by decide +kernel
theorem dX11_in_6 : decode cX11_in 6 = .ok (.iload_n 2, 1) := by decide +kernel
theorem dX11_in_7 : decode cX11_in 7 = .ok (.if_icmp .gt 7, 3) := by decide +kernel
theorem dX11_in_10 : decode cX11_in 10 = .ok (.iconst 1, 1) := by decide +kernel
theorem dX11_in_11 : decode cX11_in 11 = .ok (.goto 4, 3) := by decide +kernel
theorem dX11_in_14 : decode cX11_in 14 = .ok (.iconst 0, 1) := by decide +kernel
theorem dX11_in_15 : decode cX11_in 15 = .ok (.ireturn, 1) := by decide +kernel
theorem dX11_isPerson_0 : decode cX11_isPerson 0 = .ok (.iload_n 0, 1) := by decide +kernel
theorem dX11_isPerson_1 : decode cX11_isPerson 1 = .ok (.iconst 0, 1) := by decide +kernel
theorem dX11_isPerson_2 : decode cX11_isPerson 2 = .ok (.bipush 11, 2) := by decide +kernel
theorem dX11_isPerson_4 : decode cX11_isPerson 4 = .ok (.invokestatic 129, 3) := by decide +kernel
theorem dX11_isPerson_7 : decode cX11_isPerson 7 = .ok (.ireturn, 1) := by decide +kernel
theorem dX11_block_0 : decode cX11_block 0 = .ok (.aload_n 0, 1) := by decide +kernel
theorem dX11_block_1 : decode cX11_block 1 = .ok (.iload_n 1, 1) := by decide +kernel
theorem dX11_block_2 : decode cX11_block 2 = .ok (.invokestatic 146, 3) := by decide +kernel
theorem dX11_block_5 : decode cX11_block 5 = .ok (.ifCond .eq 10, 3) := by decide +kernel
theorem dX11_block_8 : decode cX11_block 8 = .ok (.iload_n 2, 1) := by decide +kernel
theorem dX11_block_9 : decode cX11_block 9 = .ok (.invokestatic 146, 3) := by decide +kernel
theorem dX11_block_12 : decode cX11_block 12 = .ok (.ifCond .ne 7, 3) := by decide +kernel
theorem dX11_block_15 : decode cX11_block 15 = .ok (.iconst 1, 1) := by decide +kernel
theorem dX11_block_16 : decode cX11_block 16 = .ok (.goto 13, 3) := by decide +kernel
theorem dX11_block_19 : decode cX11_block 19 = .ok (.iload_n 1, 1) := by decide +kernel
theorem dX11_block_20 : decode cX11_block 20 = .ok (.iload_n 2, 1) := by decide +kernel
theorem dX11_block_21 : decode cX11_block 21 = .ok (.if_icmp .ne 7, 3) := by decide +kernel
theorem dX11_block_24 : decode cX11_block 24 = .ok (.iconst 2, 1) := by decide +kernel
theorem dX11_block_25 : decode cX11_block 25 = .ok (.goto 4, 3) := by decide +kernel
theorem dX11_block_28 : decode cX11_block 28 = .ok (.iconst 0, 1) := by decide +kernel
theorem dX11_block_29 : decode cX11_block 29 = .ok (.invokevirtual 142, 3) := by decide +kernel
theorem dX11_block_32 : decode cX11_block 32 = .ok (.ifCond .ne 5, 3) := by decide +kernel
theorem dX11_block_35 : decode cX11_block 35 = .ok (.iconst 0, 1) := by decide +kernel
theorem dX11_block_36 : decode cX11_block 36 = .ok (.ireturn, 1) := by decide +kernel
theorem dX11_block_37 : decode cX11_block 37 = .ok (.aload_n 0, 1) := by decide +kernel
theorem dX11_block_38 : decode cX11_block 38 = .ok (.getfield 7, 3) := by decide +kernel
theorem dX11_block_41 : decode cX11_block 41 = .ok (.bipush 12, 2) := by decide +kernel
theorem dX11_block_43 : decode cX11_block 43 = .ok (.iload_n 1, 1) := by decide +kernel
theorem dX11_block_44 : decode cX11_block 44 = .ok (.imul, 1) := by decide +kernel
theorem dX11_block_45 : decode cX11_block 45 = .ok (.iload_n 2, 1) := by decide +kernel
theorem dX11_block_46 : decode cX11_block 46 = .ok (.iadd, 1) := by decide +kernel
theorem dX11_block_47 : decode cX11_block 47 = .ok (.baload, 1) := by decide +kernel
theorem dX11_block_48 : decode cX11_block 48 = .ok (.istore 4, 2) := by decide +kernel
theorem dX11_block_50 : decode cX11_block 50 = .ok (.aload_n 0, 1) := by decide +kernel
theorem dX11_block_51 : decode cX11_block 51 = .ok (.getfield 7, 3) := by decide +kernel
theorem dX11_block_54 : decode cX11_block 54 = .ok (.bipush 12, 2) := by decide +kernel
theorem dX11_block_56 : decode cX11_block 56 = .ok (.iload_n 1, 1) := by decide +kernel
theorem dX11_block_57 : decode cX11_block 57 = .ok (.imul, 1) := by decide +kernel
theorem dX11_block_58 : decode cX11_block 58 = .ok (.iload_n 2, 1) := by decide +kernel
theorem dX11_block_59 : decode cX11_block 59 = .ok (.iadd, 1) := by decide +kernel
theorem dX11_block_60 : decode cX11_block 60 = .ok (.iload_n 3, 1) := by decide +kernel
theorem dX11_block_61 : decode cX11_block 61 = .ok (.bastore, 1) := by decide +kernel
theorem dX11_block_62 : decode cX11_block 62 = .ok (.iload 4, 2) := by decide +kernel
theorem dX11_block_64 : decode cX11_block 64 = .ok (.ireturn, 1) := by decide +kernel
theorem dX11_change_0 : decode cX11_change 0 = .ok (.aload_n 0, 1) := by decide +kernel
theorem dX11_change_1 : decode cX11_change 1 = .ok (.iload_n 1, 1) := by decide +kernel
theorem dX11_change_2 : decode cX11_change 2 = .ok (.iconst 0, 1) := by decide +kernel
theorem dX11_change_3 : decode cX11_change 3 = .ok (.aload_n 0, 1) := by decide +kernel
theorem dX11_change_4 : decode cX11_change 4 = .ok (.getfield 248, 3) := by decide +kernel
theorem dX11_change_7 : decode cX11_change 7 = .ok (.iconst 1, 1) := by decide +kernel
theorem dX11_change_8 : decode cX11_change 8 = .ok (.isub, 1) := by decide +kernel
theorem dX11_change_9 : decode cX11_change 9 = .ok (.invokestatic 129, 3) := by decide +kernel
theorem dX11_change_12 : decode cX11_change 12 = .ok (.ifCond .ne 7, 3) := by decide +kernel
theorem dX11_change_15 : decode cX11_change 15 = .ok (.iconst 1, 1) := by decide +kernel
theorem dX11_change_16 : decode cX11_change 16 = .ok (.goto 17, 3) := by decide +kernel
theorem dX11_change_19 : decode cX11_change 19 = .ok (.iload_n 2, 1) := by decide +kernel
theorem dX11_change_20 : decode cX11_change 20 = .ok (.iconst 0, 1) := by decide +kernel
theorem dX11_change_21 : decode cX11_change 21 = .ok (.iconst 3, 1) := by decide +kernel
theorem dX11_change_22 : decode cX11_change 22 = .ok (.invokestatic 129, 3) := by decide +kernel
theorem dX11_change_25 : decode cX11_change 25 = .ok (.ifCond .eq 7, 3) := by decide +kernel
theorem dX11_change_28 : decode cX11_change 28 = .ok (.iconst 0, 1) := by decide +kernel
theorem dX11_change_29 : decode cX11_change 29 = .ok (.goto 4, 3) := by decide +kernel
theorem dX11_change_32 : decode cX11_change 32 = .ok (.iconst 2, 1) := by decide +kernel
theorem dX11_change_33 : decode cX11_change 33 = .ok (.invokevirtual 142, 3) := by decide +kernel
theorem dX11_change_36 : decode cX11_change 36 = .ok (.ifCond .ne 5, 3) := by decide +kernel
theorem dX11_change_39 : decode cX11_change 39 = .ok (.iconst 0, 1) := by decide +kernel
theorem dX11_change_40 : decode cX11_change 40 = .ok (.ireturn, 1) := by decide +kernel
theorem dX11_change_41 : decode cX11_change 41 = .ok (.iload_n 2, 1) := by decide +kernel
theorem dX11_change_42 : decode cX11_change 42 = .ok (.iconst 2, 1) := by decide +kernel
theorem dX11_change_43 : decode cX11_change 43 = .ok (.if_icmp .ne 12, 3) := by decide +kernel
theorem dX11_change_46 : decode cX11_change 46 = .ok (.aload_n 0, 1) := by decide +kernel
theorem dX11_change_47 : decode cX11_change 47 = .ok (.getfield 110, 3) := by decide +kernel
theorem dX11_change_50 : decode cX11_change 50 = .ok (.iload_n 1, 1) := by decide +kernel
theorem dX11_change_51 : decode cX11_change 51 = .ok (.baload, 1) := by decide +kernel
theorem dX11_change_52 : decode cX11_change 52 = .ok (.goto 48, 3) := by decide +kernel
theorem dX11_change_55 : decode cX11_change 55 = .ok (.iload_n 2, 1) := by decide +kernel
theorem dX11_change_56 : decode cX11_change 56 = .ok (.iconst 3, 1) := by decide +kernel
theorem dX11_change_57 : decode cX11_change 57 = .ok (.if_icmp .ne 20, 3) := by decide +kernel
theorem dX11_change_60 : decode cX11_change 60 = .ok (.aload_n 0, 1) := by decide +kernel
theorem dX11_change_61 : decode cX11_change 61 = .ok (.getfield 113, 3) := by decide +kernel
theorem dX11_change_64 : decode cX11_change 64 = .ok (.iload_n 1, 1) := by decide +kernel
theorem dX11_change_65 : decode cX11_change 65 = .ok (.baload, 1) := by decide +kernel
theorem dX11_change_66 : decode cX11_change 66 = .ok (.ifCond .ne 7, 3) := by decide +kernel
theorem dX11_change_69 : decode cX11_change 69 = .ok (.iconst 1, 1) := by decide +kernel
theorem dX11_change_70 : decode cX11_change 70 = .ok (.goto 30, 3) := by decide +kernel
theorem dX11_change_73 : decode cX11_change 73 = .ok (.iconst 0, 1) := by decide +kernel
theorem dX11_change_74 : decode cX11_change 74 = .ok (.goto 26, 3) := by decide +kernel
theorem dX11_change_77 : decode cX11_change 77 = .ok (.aload_n 0, 1) := by decide +kernel
theorem dX11_change_78 : decode cX11_change 78 = .ok (.getfield 107, 3) := by decide +kernel
theorem dX11_change_81 : decode cX11_change 81 = .ok (.iload_n 1, 1) := by decide +kernel
theorem dX11_change_82 : decode cX11_change 82 = .ok (.baload, 1) := by decide +kernel
theorem dX11_change_83 : decode cX11_change 83 = .ok (.iload_n 2, 1) := by decide +kernel
theorem dX11_change_84 : decode cX11_change 84 = .ok (.ifCond .ne 7, 3) := by decide +kernel
theorem dX11_change_87 : decode cX11_change 87 = .ok (.iconst 1, 1) := by decide +kernel
theorem dX11_change_88 : decode cX11_change 88 = .ok (.goto 4, 3) := by decide +kernel
theorem dX11_change_91 : decode cX11_change 91 = .ok (.iconst 0, 1) := by decide +kernel
theorem dX11_change_92 : decode cX11_change 92 = .ok (.if_icmp .eq 7, 3) := by decide +kernel
theorem dX11_change_95 : decode cX11_change 95 = .ok (.iconst 1, 1) := by decide +kernel
theorem dX11_change_96 : decode cX11_change 96 = .ok (.goto 4, 3) := by decide +kernel
theorem dX11_change_99 : decode cX11_change 99 = .ok (.iconst 0, 1) := by decide +kernel
theorem dX11_change_100 : decode cX11_change 100 = .ok (.istore_n 3, 1) := by decide +kernel
theorem dX11_change_101 : decode cX11_change 101 = .ok (.aload_n 0, 1) := by decide +kernel
theorem dX11_change_102 : decode cX11_change 102 = .ok (.getfield 107, 3) := by decide +kernel
theorem dX11_change_105 : decode cX11_change 105 = .ok (.iload_n 1, 1) := by decide +kernel
theorem dX11_change_106 : decode cX11_change 106 = .ok (.iload_n 2, 1) := by decide +kernel
theorem dX11_change_107 : decode cX11_change 107 = .ok (.ifCond .eq 17, 3) := by decide +kernel
theorem dX11_change_110 : decode cX11_change 110 = .ok (.iload_n 2, 1) := by decide +kernel
theorem dX11_change_111 : decode cX11_change 111 = .ok (.iconst 1, 1) := by decide +kernel
theorem dX11_change_112 : decode cX11_change 112 = .ok (.if_icmp .le 16, 3) := by decide +kernel
theorem dX11_change_115 : decode cX11_change 115 = .ok (.aload_n 0, 1) := by decide +kernel
theorem dX11_change_116 : decode cX11_change 116 = .ok (.getfield 107, 3) := by decide +kernel
theorem dX11_change_119 : decode cX11_change 119 = .ok (.iload_n 1, 1) := by decide +kernel
theorem dX11_change_120 : decode cX11_change 120 = .ok (.baload, 1) := by decide +kernel
theorem dX11_change_121 : decode cX11_change 121 = .ok (.ifCond .eq 7, 3) := by decide +kernel
theorem dX11_change_124 : decode cX11_change 124 = .ok (.iconst 1, 1) := by decide +kernel
theorem dX11_change_125 : decode cX11_change 125 = .ok (.goto 4, 3) := by decide +kernel
theorem dX11_change_128 : decode cX11_change 128 = .ok (.iconst 0, 1) := by decide +kernel
theorem dX11_change_129 : decode cX11_change 129 = .ok (.bastore, 1) := by decide +kernel
theorem dX11_change_130 : decode cX11_change 130 = .ok (.aload_n 0, 1) := by decide +kernel
theorem dX11_change_131 : decode cX11_change 131 = .ok (.getfield 110, 3) := by decide +kernel
theorem dX11_change_134 : decode cX11_change 134 = .ok (.iload_n 1, 1) := by decide +kernel
theorem dX11_change_135 : decode cX11_change 135 = .ok (.iload_n 2, 1) := by decide +kernel
theorem dX11_change_136 : decode cX11_change 136 = .ok (.iconst 2, 1) := by decide +kernel
theorem dX11_change_137 : decode cX11_change 137 = .ok (.if_icmp .eq 16, 3) := by decide +kernel
theorem dX11_change_140 : decode cX11_change 140 = .ok (.aload_n 0, 1) := by decide +kernel
theorem dX11_change_141 : decode cX11_change 141 = .ok (.getfield 110, 3) := by decide +kernel
theorem dX11_change_144 : decode cX11_change 144 = .ok (.iload_n 1, 1) := by decide +kernel
theorem dX11_change_145 : decode cX11_change 145 = .ok (.baload, 1) := by decide +kernel
theorem dX11_change_146 : decode cX11_change 146 = .ok (.ifCond .eq 7, 3) := by decide +kernel
theorem dX11_change_149 : decode cX11_change 149 = .ok (.iconst 1, 1) := by decide +kernel
theorem dX11_change_150 : decode cX11_change 150 = .ok (.goto 4, 3) := by decide +kernel
theorem dX11_change_153 : decode cX11_change 153 = .ok (.iconst 0, 1) := by decide +kernel
theorem dX11_change_154 : decode cX11_change 154 = .ok (.bastore, 1) := by decide +kernel
theorem dX11_change_155 : decode cX11_change 155 = .ok (.aload_n 0, 1) := by decide +kernel
theorem dX11_change_156 : decode cX11_change 156 = .ok (.getfield 113, 3) := by decide +kernel
theorem dX11_change_159 : decode cX11_change 159 = .ok (.iload_n 1, 1) := by decide +kernel
theorem dX11_change_160 : decode cX11_change 160 = .ok (.iload_n 2, 1) := by decide +kernel
theorem dX11_change_161 : decode cX11_change 161 = .ok (.iconst 3, 1) := by decide +kernel
theorem dX11_change_162 : decode cX11_change 162 = .ok (.if_icmp .eq 12, 3) := by decide +kernel
theorem dX11_change_165 : decode cX11_change 165 = .ok (.aload_n 0, 1) := by decide +kernel
theorem dX11_change_166 : decode cX11_change 166 = .ok (.getfield 113, 3) := by decide +kernel
theorem dX11_change_169 : decode cX11_change 169 = .ok (.iload_n 1, 1) := by decide +kernel
theorem dX11_change_170 : decode cX11_change 170 = .ok (.baload, 1) := by decide +kernel
theorem dX11_change_171 : decode cX11_change 171 = .ok (.ifCond .eq 7, 3) := by decide +kernel
theorem dX11_change_174 : decode cX11_change 174 = .ok (.iconst 1, 1) := by decide +kernel
theorem dX11_change_175 : decode cX11_change 175 = .ok (.goto 4, 3) := by decide +kernel
theorem dX11_change_178 : decode cX11_change 178 = .ok (.iconst 0, 1) := by decide +kernel
theorem dX11_change_179 : decode cX11_change 179 = .ok (.bastore, 1) := by decide +kernel
theorem dX11_change_180 : decode cX11_change 180 = .ok (.iload_n 3, 1) := by decide +kernel
theorem dX11_change_181 : decode cX11_change 181 = .ok (.ireturn, 1) := by decide +kernel
theorem dX11_isWork_0 : decode cX11_isWork 0 = .ok (.iload_n 1, 1) := by decide +kernel
theorem dX11_isWork_1 : decode cX11_isWork 1 = .ok (.iconst 0, 1) := by decide +kernel
theorem dX11_isWork_2 : decode cX11_isWork 2 = .ok (.aload_n 0, 1) := by decide +kernel
theorem dX11_isWork_3 : decode cX11_isWork 3 = .ok (.getfield 133, 3) := by decide +kernel
theorem dX11_isWork_6 : decode cX11_isWork 6 = .ok (.iconst 1, 1) := by decide +kernel
theorem dX11_isWork_7 : decode cX11_isWork 7 = .ok (.isub, 1) := by decide +kernel
theorem dX11_isWork_8 : decode cX11_isWork 8 = .ok (.invokestatic 129, 3) := by decide +kernel
theorem dX11_isWork_11 : decode cX11_isWork 11 = .ok (.ireturn, 1) := by decide +kernel
theorem dX11_chapter_0 : decode cX11_chapter 0 = .ok (.aload_n 0, 1) := by decide +kernel
theorem dX11_chapter_1 : decode cX11_chapter 1 = .ok (.iload_n 1, 1) := by decide +kernel
theorem dX11_chapter_2 : decode cX11_chapter 2 = .ok (.invokevirtual 152, 3) := by decide +kernel
theorem dX11_chapter_5 : decode cX11_chapter 5 = .ok (.istore_n 2, 1) := by decide +kernel
theorem dX11_chapter_6 : decode cX11_chapter 6 = .ok (.aload_n 0, 1) := by decide +kernel
theorem dX11_chapter_7 : decode cX11_chapter 7 = .ok (.iload_n 2, 1) := by decide +kernel
theorem dX11_chapter_8 : decode cX11_chapter 8 = .ok (.ifCond .ne 7, 3) := by decide +kernel
theorem dX11_chapter_11 : decode cX11_chapter 11 = .ok (.iconst 1, 1) := by decide +kernel
theorem dX11_chapter_12 : decode cX11_chapter 12 = .ok (.goto 19, 3) := by decide +kernel
theorem dX11_chapter_15 : decode cX11_chapter 15 = .ok (.aload_n 0, 1) := by decide +kernel
theorem dX11_chapter_16 : decode cX11_chapter 16 = .ok (.getfield 23, 3) := by decide +kernel
theorem dX11_chapter_19 : decode cX11_chapter 19 = .ok (.iload_n 1, 1) := by decide +kernel
theorem dX11_chapter_20 : decode cX11_chapter 20 = .ok (.iaload, 1) := by decide +kernel
theorem dX11_chapter_21 : decode cX11_chapter 21 = .ok (.bipush 8, 2) := by decide +kernel
theorem dX11_chapter_23 : decode cX11_chapter 23 = .ok (.if_icmp .ne 7, 3) := by decide +kernel
theorem dX11_chapter_26 : decode cX11_chapter 26 = .ok (.iconst 2, 1) := by decide +kernel
theorem dX11_chapter_27 : decode cX11_chapter 27 = .ok (.goto 4, 3) := by decide +kernel
theorem dX11_chapter_30 : decode cX11_chapter 30 = .ok (.iconst 0, 1) := by decide +kernel
theorem dX11_chapter_31 : decode cX11_chapter 31 = .ok (.invokevirtual 142, 3) := by decide +kernel
theorem dX11_chapter_34 : decode cX11_chapter 34 = .ok (.ifCond .ne 5, 3) := by decide +kernel
theorem dX11_chapter_37 : decode cX11_chapter 37 = .ok (.iconst 0, 1) := by decide +kernel
theorem dX11_chapter_38 : decode cX11_chapter 38 = .ok (.ireturn, 1) := by decide +kernel
theorem dX11_chapter_39 : decode cX11_chapter 39 = .ok (.aload_n 0, 1) := by decide +kernel
theorem dX11_chapter_40 : decode cX11_chapter 40 = .ok (.getfield 26, 3) := by decide +kernel
theorem dX11_chapter_43 : decode cX11_chapter 43 = .ok (.bipush 8, 2) := by decide +kernel
theorem dX11_chapter_45 : decode cX11_chapter 45 = .ok (.iload_n 1, 1) := by decide +kernel
theorem dX11_chapter_46 : decode cX11_chapter 46 = .ok (.imul, 1) := by decide +kernel
theorem dX11_chapter_47 : decode cX11_chapter 47 = .ok (.aload_n 0, 1) := by decide +kernel
theorem dX11_chapter_48 : decode cX11_chapter 48 = .ok (.getfield 23, 3) := by decide +kernel
theorem dX11_chapter_51 : decode cX11_chapter 51 = .ok (.iload_n 1, 1) := by decide +kernel
theorem dX11_chapter_52 : decode cX11_chapter 52 = .ok (.iaload, 1) := by decide +kernel
theorem dX11_chapter_53 : decode cX11_chapter 53 = .ok (.iadd, 1) := by decide +kernel
theorem dX11_chapter_54 : decode cX11_chapter 54 = .ok (.aload_n 0, 1) := by decide +kernel
theorem dX11_chapter_55 : decode cX11_chapter 55 = .ok (.getfield 139, 3) := by decide +kernel
theorem dX11_chapter_58 : decode cX11_chapter 58 = .ok (.iastore, 1) := by decide +kernel
theorem dX11_chapter_59 : decode cX11_chapter 59 = .ok (.aload_n 0, 1) := by decide +kernel
theorem dX11_chapter_60 : decode cX11_chapter 60 = .ok (.getfield 23, 3) := by decide +kernel
theorem dX11_chapter_63 : decode cX11_chapter 63 = .ok (.iload_n 1, 1) := by decide +kernel
theorem dX11_chapter_64 : decode cX11_chapter 64 = .ok (.dup2, 1) := by decide +kernel
theorem dX11_chapter_65 : decode cX11_chapter 65 = .ok (.iaload, 1) := by decide +kernel
theorem dX11_chapter_66 : decode cX11_chapter 66 = .ok (.iconst 1, 1) := by decide +kernel
theorem dX11_chapter_67 : decode cX11_chapter 67 = .ok (.iadd, 1) := by decide +kernel
theorem dX11_chapter_68 : decode cX11_chapter 68 = .ok (.iastore, 1) := by decide +kernel
theorem dX11_chapter_69 : decode cX11_chapter 69 = .ok (.aload_n 0, 1) := by decide +kernel
theorem dX11_chapter_70 : decode cX11_chapter 70 = .ok (.getfield 23, 3) := by decide +kernel
theorem dX11_chapter_73 : decode cX11_chapter 73 = .ok (.iload_n 1, 1) := by decide +kernel
theorem dX11_chapter_74 : decode cX11_chapter 74 = .ok (.iaload, 1) := by decide +kernel
theorem dX11_chapter_75 : decode cX11_chapter 75 = .ok (.iconst 1, 1) := by decide +kernel
theorem dX11_chapter_76 : decode cX11_chapter 76 = .ok (.isub, 1) := by decide +kernel
theorem dX11_chapter_77 : decode cX11_chapter 77 = .ok (.ireturn, 1) := by decide +kernel
theorem dX11_collect_0 : decode cX11_collect 0 = .ok (.aload_n 0, 1) := by decide +kernel
theorem dX11_collect_1 : decode cX11_collect 1 = .ok (.iload_n 1, 1) := by decide +kernel
theorem dX11_collect_2 : decode cX11_collect 2 = .ok (.invokevirtual 152, 3) := by decide +kernel
theorem dX11_collect_5 : decode cX11_collect 5 = .ok (.ifCond .eq 21, 3) := by decide +kernel
theorem dX11_collect_8 : decode cX11_collect 8 = .ok (.iload_n 2, 1) := by decide +kernel
theorem dX11_collect_9 : decode cX11_collect 9 = .ok (.iconst 0, 1) := by decide +kernel
theorem dX11_collect_10 : decode cX11_collect 10 = .ok (.aload_n 0, 1) := by decide +kernel
theorem dX11_collect_11 : decode cX11_collect 11 = .ok (.getfield 163, 3) := by decide +kernel
theorem dX11_collect_14 : decode cX11_collect 14 = .ok (.iconst 1, 1) := by decide +kernel
theorem dX11_collect_15 : decode cX11_collect 15 = .ok (.isub, 1) := by decide +kernel
theorem dX11_collect_16 : decode cX11_collect 16 = .ok (.invokestatic 129, 3) := by decide +kernel
theorem dX11_collect_19 : decode cX11_collect 19 = .ok (.ifCond .eq 7, 3) := by decide +kernel
theorem dX11_collect_22 : decode cX11_collect 22 = .ok (.iconst 1, 1) := by decide +kernel
theorem dX11_collect_23 : decode cX11_collect 23 = .ok (.goto 4, 3) := by decide +kernel
theorem dX11_collect_26 : decode cX11_collect 26 = .ok (.iconst 0, 1) := by decide +kernel
theorem dX11_collect_27 : decode cX11_collect 27 = .ok (.istore_n 3, 1) := by decide +kernel
theorem dX11_collect_28 : decode cX11_collect 28 = .ok (.aload_n 0, 1) := by decide +kernel
theorem dX11_collect_29 : decode cX11_collect 29 = .ok (.iload_n 3, 1) := by decide +kernel
theorem dX11_collect_30 : decode cX11_collect 30 = .ok (.ifCond .ne 7, 3) := by decide +kernel
theorem dX11_collect_33 : decode cX11_collect 33 = .ok (.iconst 1, 1) := by decide +kernel
theorem dX11_collect_34 : decode cX11_collect 34 = .ok (.goto 18, 3) := by decide +kernel
theorem dX11_collect_37 : decode cX11_collect 37 = .ok (.aload_n 0, 1) := by decide +kernel
theorem dX11_collect_38 : decode cX11_collect 38 = .ok (.getfield 35, 3) := by decide +kernel
theorem dX11_collect_41 : decode cX11_collect 41 = .ok (.iload_n 1, 1) := by decide +kernel
theorem dX11_collect_42 : decode cX11_collect 42 = .ok (.iaload, 1) := by decide +kernel
theorem dX11_collect_43 : decode cX11_collect 43 = .ok (.iconst (-1), 1) := by decide +kernel
theorem dX11_collect_44 : decode cX11_collect 44 = .ok (.if_icmp .eq 7, 3) := by decide +kernel
theorem dX11_collect_47 : decode cX11_collect 47 = .ok (.iconst 2, 1) := by decide +kernel
theorem dX11_collect_48 : decode cX11_collect 48 = .ok (.goto 4, 3) := by decide +kernel
theorem dX11_collect_51 : decode cX11_collect 51 = .ok (.iconst 0, 1) := by decide +kernel
theorem dX11_collect_52 : decode cX11_collect 52 = .ok (.invokevirtual 142, 3) := by decide +kernel
theorem dX11_collect_55 : decode cX11_collect 55 = .ok (.ifCond .eq 10, 3) := by decide +kernel
theorem dX11_collect_58 : decode cX11_collect 58 = .ok (.aload_n 0, 1) := by decide +kernel
theorem dX11_collect_59 : decode cX11_collect 59 = .ok (.getfield 35, 3) := by decide +kernel
theorem dX11_collect_62 : decode cX11_collect 62 = .ok (.iload_n 1, 1) := by decide +kernel
theorem dX11_collect_63 : decode cX11_collect 63 = .ok (.iload_n 2, 1) := by decide +kernel
theorem dX11_collect_64 : decode cX11_collect 64 = .ok (.iastore, 1) := by decide +kernel
theorem dX11_collect_65 : decode cX11_collect 65 = .ok (.return_, 1) := by decide +kernel
theorem dX11_collection_0 : decode cX11_collection 0 = .ok (.iload_n 1, 1) := by decide +kernel
theorem dX11_collection_1 : decode cX11_collection 1 = .ok (.iconst 0, 1) := by decide +kernel
theorem dX11_collection_2 : decode cX11_collection 2 = .ok (.sipush 2000, 3) := by decide +kernel
theorem dX11_collection_5 : decode cX11_collection 5 = .ok (.invokestatic 129, 3) := by decide +kernel
theorem dX11_collection_8 : decode cX11_collection 8 = .ok (.ifCond .eq 18, 3) := by decide +kernel
theorem dX11_collection_11 : decode cX11_collection 11 = .ok (.iload_n 2, 1) := by decide +kernel
theorem dX11_collection_12 : decode cX11_collection 12 = .ok (.iload_n 1, 1) := by decide +kernel
theorem dX11_collection_13 : decode cX11_collection 13 = .ok (.sipush 2000, 3) := by decide +kernel
theorem dX11_collection_16 : decode cX11_collection 16 = .ok (.invokestatic 129, 3) := by decide +kernel
theorem dX11_collection_19 : decode cX11_collection 19 = .ok (.ifCond .eq 7, 3) := by decide +kernel
theorem dX11_collection_22 : decode cX11_collection 22 = .ok (.iconst 1, 1) := by decide +kernel
theorem dX11_collection_23 : decode cX11_collection 23 = .ok (.goto 4, 3) := by decide +kernel
theorem dX11_collection_26 : decode cX11_collection 26 = .ok (.iconst 0, 1) := by decide +kernel
theorem dX11_collection_27 : decode cX11_collection 27 = .ok (.istore_n 3, 1) := by decide +kernel
theorem dX11_collection_28 : decode cX11_collection 28 = .ok (.aload_n 0, 1) := by decide +kernel
theorem dX11_collection_29 : decode cX11_collection 29 = .ok (.iload_n 3, 1) := by decide +kernel
theorem dX11_collection_30 : decode cX11_collection 30 = .ok (.ifCond .ne 7, 3) := by decide +kernel
theorem dX11_collection_33 : decode cX11_collection 33 = .ok (.iconst 1, 1) := by decide +kernel
theorem dX11_collection_34 : decode cX11_collection 34 = .ok (.goto 17, 3) := by decide +kernel
theorem dX11_collection_37 : decode cX11_collection 37 = .ok (.aload_n 0, 1) := by decide +kernel
theorem dX11_collection_38 : decode cX11_collection 38 = .ok (.getfield 163, 3) := by decide +kernel
theorem dX11_collection_41 : decode cX11_collection 41 = .ok (.bipush 6, 2) := by decide +kernel
theorem dX11_collection_43 : decode cX11_collection 43 = .ok (.if_icmp .ne 7, 3) := by decide +kernel
theorem dX11_collection_46 : decode cX11_collection 46 = .ok (.iconst 2, 1) := by decide +kernel
theorem dX11_collection_47 : decode cX11_collection 47 = .ok (.goto 4, 3) := by decide +kernel
theorem dX11_collection_50 : decode cX11_collection 50 = .ok (.iconst 0, 1) := by decide +kernel
theorem dX11_collection_51 : decode cX11_collection 51 = .ok (.invokevirtual 142, 3) := by decide +kernel
theorem dX11_collection_54 : decode cX11_collection 54 = .ok (.ifCond .ne 5, 3) := by decide +kernel
theorem dX11_collection_57 : decode cX11_collection 57 = .ok (.iconst 0, 1) := by decide +kernel
theorem dX11_collection_58 : decode cX11_collection 58 = .ok (.ireturn, 1) := by decide +kernel
theorem dX11_collection_59 : decode cX11_collection 59 = .ok (.aload_n 0, 1) := by decide +kernel
theorem dX11_collection_60 : decode cX11_collection 60 = .ok (.getfield 53, 3) := by decide +kernel
theorem dX11_collection_63 : decode cX11_collection 63 = .ok (.aload_n 0, 1) := by decide +kernel
theorem dX11_collection_64 : decode cX11_collection 64 = .ok (.getfield 163, 3) := by decide +kernel
theorem dX11_collection_67 : decode cX11_collection 67 = .ok (.iload_n 1, 1) := by decide +kernel
theorem dX11_collection_68 : decode cX11_collection 68 = .ok (.iastore, 1) := by decide +kernel
theorem dX11_collection_69 : decode cX11_collection 69 = .ok (.aload_n 0, 1) := by decide +kernel
theorem dX11_collection_70 : decode cX11_collection 70 = .ok (.getfield 56, 3) := by decide +kernel
theorem dX11_collection_73 : decode cX11_collection 73 = .ok (.aload_n 0, 1) := by decide +kernel
theorem dX11_collection_74 : decode cX11_collection 74 = .ok (.getfield 163, 3) := by decide +kernel
theorem dX11_collection_77 : decode cX11_collection 77 = .ok (.iload_n 2, 1) := by decide +kernel
theorem dX11_collection_78 : decode cX11_collection 78 = .ok (.iastore, 1) := by decide +kernel
theorem dX11_collection_79 : decode cX11_collection 79 = .ok (.aload_n 0, 1) := by decide +kernel
theorem dX11_collection_80 : decode cX11_collection 80 = .ok (.dup, 1) := by decide +kernel
theorem dX11_collection_81 : decode cX11_collection 81 = .ok (.getfield 163, 3) := by decide +kernel
theorem dX11_collection_84 : decode cX11_collection 84 = .ok (.iconst 1, 1) := by decide +kernel
theorem dX11_collection_85 : decode cX11_collection 85 = .ok (.iadd, 1) := by decide +kernel
theorem dX11_collection_86 : decode cX11_collection 86 = .ok (.putfield 163, 3) := by decide +kernel
theorem dX11_collection_89 : decode cX11_collection 89 = .ok (.aload_n 0, 1) := by decide +kernel
theorem dX11_collection_90 : decode cX11_collection 90 = .ok (.getfield 163, 3) := by decide +kernel
theorem dX11_collection_93 : decode cX11_collection 93 = .ok (.iconst 1, 1) := by decide +kernel
theorem dX11_collection_94 : decode cX11_collection 94 = .ok (.isub, 1) := by decide +kernel
theorem dX11_collection_95 : decode cX11_collection 95 = .ok (.ireturn, 1) := by decide +kernel
theorem dX11_has_0 : decode cX11_has 0 = .ok (.iload_n 0, 1) := by decide +kernel
theorem dX11_has_1 : decode cX11_has 1 = .ok (.iload_n 1, 1) := by decide +kernel
theorem dX11_has_2 : decode cX11_has 2 = .ok (.ishr, 1) := by decide +kernel
theorem dX11_has_3 : decode cX11_has 3 = .ok (.iconst 1, 1) := by decide +kernel
theorem dX11_has_4 : decode cX11_has 4 = .ok (.iand, 1) := by decide +kernel
theorem dX11_has_5 : decode cX11_has 5 = .ok (.iconst 1, 1) := by decide +kernel
theorem dX11_has_6 : decode cX11_has 6 = .ok (.if_icmp .ne 7, 3) := by decide +kernel
theorem dX11_has_9 : decode cX11_has 9 = .ok (.iconst 1, 1) := by decide +kernel
theorem dX11_has_10 : decode cX11_has 10 = .ok (.goto 4, 3) := by decide +kernel
theorem dX11_has_13 : decode cX11_has 13 = .ok (.iconst 0, 1) := by decide +kernel
theorem dX11_has_14 : decode cX11_has 14 = .ok (.ireturn, 1) := by decide +kernel
theorem dX11_isBlocked_0 : decode cX11_isBlocked 0 = .ok (.iload_n 1, 1) := by decide +kernel
theorem dX11_isBlocked_1 : decode cX11_isBlocked 1 = .ok (.bipush 12, 2) := by decide +kernel
theorem dX11_isBlocked_3 : decode cX11_isBlocked 3 = .ok (.if_icmp .ge 27, 3) := by decide +kernel
theorem dX11_isBlocked_6 : decode cX11_isBlocked 6 = .ok (.iload_n 2, 1) := by decide +kernel
theorem dX11_isBlocked_7 : decode cX11_isBlocked 7 = .ok (.bipush 12, 2) := by decide +kernel
theorem dX11_isBlocked_9 : decode cX11_isBlocked 9 = .ok (.if_icmp .ge 21, 3) := by decide +kernel
theorem dX11_isBlocked_12 : decode cX11_isBlocked 12 = .ok (.aload_n 0, 1) := by decide +kernel
theorem dX11_isBlocked_13 : decode cX11_isBlocked 13 = .ok (.getfield 7, 3) := by decide +kernel
theorem dX11_isBlocked_16 : decode cX11_isBlocked 16 = .ok (.bipush 12, 2) := by decide +kernel
theorem dX11_isBlocked_18 : decode cX11_isBlocked 18 = .ok (.iload_n 1, 1) := by decide +kernel
theorem dX11_isBlocked_19 : decode cX11_isBlocked 19 = .ok (.imul, 1) := by decide +kernel
theorem dX11_isBlocked_20 : decode cX11_isBlocked 20 = .ok (.iload_n 2, 1) := by decide +kernel
theorem dX11_isBlocked_21 : decode cX11_isBlocked 21 = .ok (.iadd, 1) := by decide +kernel
theorem dX11_isBlocked_22 : decode cX11_isBlocked 22 = .ok (.baload, 1) := by decide +kernel
theorem dX11_isBlocked_23 : decode cX11_isBlocked 23 = .ok (.ifCond .eq 7, 3) := by decide +kernel
theorem dX11_isBlocked_26 : decode cX11_isBlocked 26 = .ok (.iconst 1, 1) := by decide +kernel
theorem dX11_isBlocked_27 : decode cX11_isBlocked 27 = .ok (.goto 4, 3) := by decide +kernel
theorem dX11_isBlocked_30 : decode cX11_isBlocked 30 = .ok (.iconst 0, 1) := by decide +kernel
theorem dX11_isBlocked_31 : decode cX11_isBlocked 31 = .ok (.ireturn, 1) := by decide +kernel
theorem dX11_isOwner_0 : decode cX11_isOwner 0 = .ok (.iload_n 1, 1) := by decide +kernel
theorem dX11_isOwner_1 : decode cX11_isOwner 1 = .ok (.bipush 12, 2) := by decide +kernel
theorem dX11_isOwner_3 : decode cX11_isOwner 3 = .ok (.if_icmp .ge 20, 3) := by decide +kernel
theorem dX11_isOwner_6 : decode cX11_isOwner 6 = .ok (.aload_n 0, 1) := by decide +kernel
theorem dX11_isOwner_7 : decode cX11_isOwner 7 = .ok (.getfield 20, 3) := by decide +kernel
theorem dX11_isOwner_10 : decode cX11_isOwner 10 = .ok (.iload_n 2, 1) := by decide +kernel
theorem dX11_isOwner_11 : decode cX11_isOwner 11 = .ok (.iaload, 1) := by decide +kernel
theorem dX11_isOwner_12 : decode cX11_isOwner 12 = .ok (.iload_n 1, 1) := by decide +kernel
theorem dX11_isOwner_13 : decode cX11_isOwner 13 = .ok (.invokestatic 155, 3) := by decide +kernel
theorem dX11_isOwner_16 : decode cX11_isOwner 16 = .ok (.ifCond .eq 7, 3) := by decide +kernel
theorem dX11_isOwner_19 : decode cX11_isOwner 19 = .ok (.iconst 1, 1) := by decide +kernel
theorem dX11_isOwner_20 : decode cX11_isOwner 20 = .ok (.goto 4, 3) := by decide +kernel
theorem dX11_isOwner_23 : decode cX11_isOwner 23 = .ok (.iconst 0, 1) := by decide +kernel
theorem dX11_isOwner_24 : decode cX11_isOwner 24 = .ok (.ireturn, 1) := by decide +kernel
theorem dX11_isSeen_0 : decode cX11_isSeen 0 = .ok (.aload_n 0, 1) := by decide +kernel
theorem dX11_isSeen_1 : decode cX11_isSeen 1 = .ok (.getfield 35, 3) := by decide +kernel
theorem dX11_isSeen_4 : decode cX11_isSeen 4 = .ok (.iload_n 2, 1) := by decide +kernel
theorem dX11_isSeen_5 : decode cX11_isSeen 5 = .ok (.iaload, 1) := by decide +kernel
theorem dX11_isSeen_6 : decode cX11_isSeen 6 = .ok (.iconst (-1), 1) := by decide +kernel
theorem dX11_isSeen_7 : decode cX11_isSeen 7 = .ok (.if_icmp .eq 21, 3) := by decide +kernel
theorem dX11_isSeen_10 : decode cX11_isSeen 10 = .ok (.aload_n 0, 1) := by decide +kernel
theorem dX11_isSeen_11 : decode cX11_isSeen 11 = .ok (.getfield 53, 3) := by decide +kernel
theorem dX11_isSeen_14 : decode cX11_isSeen 14 = .ok (.aload_n 0, 1) := by decide +kernel
theorem dX11_isSeen_15 : decode cX11_isSeen 15 = .ok (.getfield 35, 3) := by decide +kernel
theorem dX11_isSeen_18 : decode cX11_isSeen 18 = .ok (.iload_n 2, 1) := by decide +kernel
theorem dX11_isSeen_19 : decode cX11_isSeen 19 = .ok (.iaload, 1) := by decide +kernel
theorem dX11_isSeen_20 : decode cX11_isSeen 20 = .ok (.iaload, 1) := by decide +kernel
theorem dX11_isSeen_21 : decode cX11_isSeen 21 = .ok (.aload_n 0, 1) := by decide +kernel
theorem dX11_isSeen_22 : decode cX11_isSeen 22 = .ok (.getfield 139, 3) := by decide +kernel
theorem dX11_isSeen_25 : decode cX11_isSeen 25 = .ok (.if_icmp .gt 7, 3) := by decide +kernel
theorem dX11_isSeen_28 : decode cX11_isSeen 28 = .ok (.iconst 1, 1) := by decide +kernel
theorem dX11_isSeen_29 : decode cX11_isSeen 29 = .ok (.goto 4, 3) := by decide +kernel
theorem dX11_isSeen_32 : decode cX11_isSeen 32 = .ok (.iconst 0, 1) := by decide +kernel
theorem dX11_isSeen_33 : decode cX11_isSeen 33 = .ok (.istore_n 3, 1) := by decide +kernel
theorem dX11_isSeen_34 : decode cX11_isSeen 34 = .ok (.aload_n 0, 1) := by decide +kernel
theorem dX11_isSeen_35 : decode cX11_isSeen 35 = .ok (.iload_n 1, 1) := by decide +kernel
theorem dX11_isSeen_36 : decode cX11_isSeen 36 = .ok (.iload_n 2, 1) := by decide +kernel
theorem dX11_isSeen_37 : decode cX11_isSeen 37 = .ok (.invokevirtual 166, 3) := by decide +kernel
theorem dX11_isSeen_40 : decode cX11_isSeen 40 = .ok (.ifCond .ne 32, 3) := by decide +kernel
theorem dX11_isSeen_43 : decode cX11_isSeen 43 = .ok (.aload_n 0, 1) := by decide +kernel
theorem dX11_isSeen_44 : decode cX11_isSeen 44 = .ok (.getfield 29, 3) := by decide +kernel
theorem dX11_isSeen_47 : decode cX11_isSeen 47 = .ok (.iload_n 2, 1) := by decide +kernel
theorem dX11_isSeen_48 : decode cX11_isSeen 48 = .ok (.iaload, 1) := by decide +kernel
theorem dX11_isSeen_49 : decode cX11_isSeen 49 = .ok (.iconst (-1), 1) := by decide +kernel
theorem dX11_isSeen_50 : decode cX11_isSeen 50 = .ok (.if_icmp .eq 26, 3) := by decide +kernel
theorem dX11_isSeen_53 : decode cX11_isSeen 53 = .ok (.iload_n 3, 1) := by decide +kernel
theorem dX11_isSeen_54 : decode cX11_isSeen 54 = .ok (.ifCond .eq 22, 3) := by decide +kernel
theorem dX11_isSeen_57 : decode cX11_isSeen 57 = .ok (.aload_n 0, 1) := by decide +kernel
theorem dX11_isSeen_58 : decode cX11_isSeen 58 = .ok (.getfield 32, 3) := by decide +kernel
theorem dX11_isSeen_61 : decode cX11_isSeen 61 = .ok (.iload_n 2, 1) := by decide +kernel
theorem dX11_isSeen_62 : decode cX11_isSeen 62 = .ok (.baload, 1) := by decide +kernel
theorem dX11_isSeen_63 : decode cX11_isSeen 63 = .ok (.ifCond .eq 9, 3) := by decide +kernel
theorem dX11_isSeen_66 : decode cX11_isSeen 66 = .ok (.iload_n 1, 1) := by decide +kernel
theorem dX11_isSeen_67 : decode cX11_isSeen 67 = .ok (.bipush 12, 2) := by decide +kernel
theorem dX11_isSeen_69 : decode cX11_isSeen 69 = .ok (.if_icmp .ge 7, 3) := by decide +kernel
theorem dX11_isSeen_72 : decode cX11_isSeen 72 = .ok (.iconst 1, 1) := by decide +kernel
theorem dX11_isSeen_73 : decode cX11_isSeen 73 = .ok (.goto 4, 3) := by decide +kernel
theorem dX11_isSeen_76 : decode cX11_isSeen 76 = .ok (.iconst 0, 1) := by decide +kernel
theorem dX11_isSeen_77 : decode cX11_isSeen 77 = .ok (.ireturn, 1) := by decide +kernel
theorem dX11_isRead_0 : decode cX11_isRead 0 = .ok (.aload_n 0, 1) := by decide +kernel
theorem dX11_isRead_1 : decode cX11_isRead 1 = .ok (.getfield 98, 3) := by decide +kernel
theorem dX11_isRead_4 : decode cX11_isRead 4 = .ok (.iload_n 1, 1) := by decide +kernel
theorem dX11_isRead_5 : decode cX11_isRead 5 = .ok (.iaload, 1) := by decide +kernel
theorem dX11_isRead_6 : decode cX11_isRead 6 = .ok (.istore_n 3, 1) := by decide +kernel
theorem dX11_isRead_7 : decode cX11_isRead 7 = .ok (.aload_n 0, 1) := by decide +kernel
theorem dX11_isRead_8 : decode cX11_isRead 8 = .ok (.getfield 110, 3) := by decide +kernel
theorem dX11_isRead_11 : decode cX11_isRead 11 = .ok (.iload_n 1, 1) := by decide +kernel
theorem dX11_isRead_12 : decode cX11_isRead 12 = .ok (.baload, 1) := by decide +kernel
theorem dX11_isRead_13 : decode cX11_isRead 13 = .ok (.ifCond .eq 22, 3) := by decide +kernel
theorem dX11_isRead_16 : decode cX11_isRead 16 = .ok (.aload_n 0, 1) := by decide +kernel
theorem dX11_isRead_17 : decode cX11_isRead 17 = .ok (.getfield 101, 3) := by decide +kernel
theorem dX11_isRead_20 : decode cX11_isRead 20 = .ok (.iload_n 1, 1) := by decide +kernel
theorem dX11_isRead_21 : decode cX11_isRead 21 = .ok (.iaload, 1) := by decide +kernel
theorem dX11_isRead_22 : decode cX11_isRead 22 = .ok (.iload_n 2, 1) := by decide +kernel
theorem dX11_isRead_23 : decode cX11_isRead 23 = .ok (.if_icmp .eq 12, 3) := by decide +kernel
theorem dX11_isRead_26 : decode cX11_isRead 26 = .ok (.aload_n 0, 1) := by decide +kernel
theorem dX11_isRead_27 : decode cX11_isRead 27 = .ok (.iload_n 2, 1) := by decide +kernel
theorem dX11_isRead_28 : decode cX11_isRead 28 = .ok (.iload_n 3, 1) := by decide +kernel
theorem dX11_isRead_29 : decode cX11_isRead 29 = .ok (.invokevirtual 166, 3) := by decide +kernel
theorem dX11_isRead_32 : decode cX11_isRead 32 = .ok (.ifCond .eq 7, 3) := by decide +kernel
theorem dX11_isRead_35 : decode cX11_isRead 35 = .ok (.iconst 1, 1) := by decide +kernel
theorem dX11_isRead_36 : decode cX11_isRead 36 = .ok (.goto 4, 3) := by decide +kernel
theorem dX11_isRead_39 : decode cX11_isRead 39 = .ok (.iconst 0, 1) := by decide +kernel
theorem dX11_isRead_40 : decode cX11_isRead 40 = .ok (.istore 4, 2) := by decide +kernel
theorem dX11_isRead_42 : decode cX11_isRead 42 = .ok (.aload_n 0, 1) := by decide +kernel
theorem dX11_isRead_43 : decode cX11_isRead 43 = .ok (.iload_n 2, 1) := by decide +kernel
theorem dX11_isRead_44 : decode cX11_isRead 44 = .ok (.iload_n 3, 1) := by decide +kernel
theorem dX11_isRead_45 : decode cX11_isRead 45 = .ok (.invokevirtual 169, 3) := by decide +kernel
theorem dX11_isRead_48 : decode cX11_isRead 48 = .ok (.ifCond .eq 21, 3) := by decide +kernel
theorem dX11_isRead_51 : decode cX11_isRead 51 = .ok (.aload_n 0, 1) := by decide +kernel
theorem dX11_isRead_52 : decode cX11_isRead 52 = .ok (.getfield 113, 3) := by decide +kernel
theorem dX11_isRead_55 : decode cX11_isRead 55 = .ok (.iload_n 1, 1) := by decide +kernel
theorem dX11_isRead_56 : decode cX11_isRead 56 = .ok (.baload, 1) := by decide +kernel
theorem dX11_isRead_57 : decode cX11_isRead 57 = .ok (.ifCond .ne 12, 3) := by decide +kernel
theorem dX11_isRead_60 : decode cX11_isRead 60 = .ok (.iload 4, 2) := by decide +kernel
theorem dX11_isRead_62 : decode cX11_isRead 62 = .ok (.ifCond .eq 7, 3) := by decide +kernel
theorem dX11_isRead_65 : decode cX11_isRead 65 = .ok (.iconst 1, 1) := by decide +kernel
theorem dX11_isRead_66 : decode cX11_isRead 66 = .ok (.goto 4, 3) := by decide +kernel
theorem dX11_isRead_69 : decode cX11_isRead 69 = .ok (.iconst 0, 1) := by decide +kernel
theorem dX11_isRead_70 : decode cX11_isRead 70 = .ok (.ireturn, 1) := by decide +kernel
theorem dX11_canComment_0 : decode cX11_canComment 0 = .ok (.aload_n 0, 1) := by decide +kernel
theorem dX11_canComment_1 : decode cX11_canComment 1 = .ok (.getfield 248, 3) := by decide +kernel
theorem dX11_canComment_4 : decode cX11_canComment 4 = .ok (.bipush 60, 2) := by decide +kernel
theorem dX11_canComment_6 : decode cX11_canComment 6 = .ok (.if_icmp .ge 16, 3) := by decide +kernel
theorem dX11_canComment_9 : decode cX11_canComment 9 = .ok (.aload_n 0, 1) := by decide +kernel
theorem dX11_canComment_10 : decode cX11_canComment 10 = .ok (.iload_n 2, 1) := by decide +kernel
theorem dX11_canComment_11 : decode cX11_canComment 11 = .ok (.iload_n 1, 1) := by decide +kernel
theorem dX11_canComment_12 : decode cX11_canComment 12 = .ok (.invokevirtual 169, 3) := by decide +kernel
theorem dX11_canComment_15 : decode cX11_canComment 15 = .ok (.ifCond .eq 7, 3) := by decide +kernel
theorem dX11_canComment_18 : decode cX11_canComment 18 = .ok (.iconst 1, 1) := by decide +kernel
theorem dX11_canComment_19 : decode cX11_canComment 19 = .ok (.goto 4, 3) := by decide +kernel
theorem dX11_canComment_22 : decode cX11_canComment 22 = .ok (.iconst 0, 1) := by decide +kernel
theorem dX11_canComment_23 : decode cX11_canComment 23 = .ok (.istore 4, 2) := by decide +kernel
theorem dX11_canComment_25 : decode cX11_canComment 25 = .ok (.iconst 0, 1) := by decide +kernel
theorem dX11_canComment_26 : decode cX11_canComment 26 = .ok (.istore 5, 2) := by decide +kernel
theorem dX11_canComment_28 : decode cX11_canComment 28 = .ok (.iload 5, 2) := by decide +kernel
theorem dX11_canComment_30 : decode cX11_canComment 30 = .ok (.bipush 12, 2) := by decide +kernel
theorem dX11_canComment_32 : decode cX11_canComment 32 = .ok (.if_icmp .ge 45, 3) := by decide +kernel
theorem dX11_canComment_35 : decode cX11_canComment 35 = .ok (.iload 4, 2) := by decide +kernel
theorem dX11_canComment_37 : decode cX11_canComment 37 = .ok (.ifCond .eq 31, 3) := by decide +kernel
theorem dX11_canComment_40 : decode cX11_canComment 40 = .ok (.aload_n 0, 1) := by decide +kernel
theorem dX11_canComment_41 : decode cX11_canComment 41 = .ok (.getfield 20, 3) := by decide +kernel
theorem dX11_canComment_44 : decode cX11_canComment 44 = .ok (.iload_n 1, 1) := by decide +kernel
theorem dX11_canComment_45 : decode cX11_canComment 45 = .ok (.iaload, 1) := by decide +kernel
theorem dX11_canComment_46 : decode cX11_canComment 46 = .ok (.iload 5, 2) := by decide +kernel
theorem dX11_canComment_48 : decode cX11_canComment 48 = .ok (.invokestatic 155, 3) := by decide +kernel
theorem dX11_canComment_51 : decode cX11_canComment 51 = .ok (.ifCond .eq 13, 3) := by decide +kernel
theorem dX11_canComment_54 : decode cX11_canComment 54 = .ok (.aload_n 0, 1) := by decide +kernel
theorem dX11_canComment_55 : decode cX11_canComment 55 = .ok (.iload 5, 2) := by decide +kernel
theorem dX11_canComment_57 : decode cX11_canComment 57 = .ok (.iload_n 2, 1) := by decide +kernel
theorem dX11_canComment_58 : decode cX11_canComment 58 = .ok (.invokevirtual 251, 3) := by decide +kernel
theorem dX11_canComment_61 : decode cX11_canComment 61 = .ok (.ifCond .ne 7, 3) := by decide +kernel
theorem dX11_canComment_64 : decode cX11_canComment 64 = .ok (.iconst 1, 1) := by decide +kernel
theorem dX11_canComment_65 : decode cX11_canComment 65 = .ok (.goto 4, 3) := by decide +kernel
theorem dX11_canComment_68 : decode cX11_canComment 68 = .ok (.iconst 0, 1) := by decide +kernel
theorem dX11_canComment_69 : decode cX11_canComment 69 = .ok (.istore 4, 2) := by decide +kernel
theorem dX11_canComment_71 : decode cX11_canComment 71 = .ok (.iinc 5 1, 3) := by decide +kernel
theorem dX11_canComment_74 : decode cX11_canComment 74 = .ok (.goto (-46), 3) := by decide +kernel
theorem dX11_canComment_77 : decode cX11_canComment 77 = .ok (.iload 4, 2) := by decide +kernel
theorem dX11_canComment_79 : decode cX11_canComment 79 = .ok (.ifCond .eq 35, 3) := by decide +kernel
theorem dX11_canComment_82 : decode cX11_canComment 82 = .ok (.iload_n 3, 1) := by decide +kernel
theorem dX11_canComment_83 : decode cX11_canComment 83 = .ok (.iconst (-1), 1) := by decide +kernel
theorem dX11_canComment_84 : decode cX11_canComment 84 = .ok (.if_icmp .eq 26, 3) := by decide +kernel
theorem dX11_canComment_87 : decode cX11_canComment 87 = .ok (.aload_n 0, 1) := by decide +kernel
theorem dX11_canComment_88 : decode cX11_canComment 88 = .ok (.iload_n 3, 1) := by decide +kernel
theorem dX11_canComment_89 : decode cX11_canComment 89 = .ok (.iload_n 2, 1) := by decide +kernel
theorem dX11_canComment_90 : decode cX11_canComment 90 = .ok (.invokevirtual 254, 3) := by decide +kernel
theorem dX11_canComment_93 : decode cX11_canComment 93 = .ok (.ifCond .eq 21, 3) := by decide +kernel
theorem dX11_canComment_96 : decode cX11_canComment 96 = .ok (.aload_n 0, 1) := by decide +kernel
theorem dX11_canComment_97 : decode cX11_canComment 97 = .ok (.aload_n 0, 1) := by decide +kernel
theorem dX11_canComment_98 : decode cX11_canComment 98 = .ok (.getfield 101, 3) := by decide +kernel
theorem dX11_canComment_101 : decode cX11_canComment 101 = .ok (.iload_n 3, 1) := by decide +kernel
theorem dX11_canComment_102 : decode cX11_canComment 102 = .ok (.iaload, 1) := by decide +kernel
theorem dX11_canComment_103 : decode cX11_canComment 103 = .ok (.iload_n 2, 1) := by decide +kernel
theorem dX11_canComment_104 : decode cX11_canComment 104 = .ok (.invokevirtual 251, 3) := by decide +kernel
theorem dX11_canComment_107 : decode cX11_canComment 107 = .ok (.ifCond .ne 7, 3) := by decide +kernel
theorem dX11_canComment_110 : decode cX11_canComment 110 = .ok (.iconst 1, 1) := by decide +kernel
theorem dX11_canComment_111 : decode cX11_canComment 111 = .ok (.goto 4, 3) := by decide +kernel
theorem dX11_canComment_114 : decode cX11_canComment 114 = .ok (.iconst 0, 1) := by decide +kernel
theorem dX11_canComment_115 : decode cX11_canComment 115 = .ok (.istore 4, 2) := by decide +kernel
theorem dX11_canComment_117 : decode cX11_canComment 117 = .ok (.iload_n 3, 1) := by decide +kernel
theorem dX11_canComment_118 : decode cX11_canComment 118 = .ok (.istore 5, 2) := by decide +kernel
theorem dX11_canComment_120 : decode cX11_canComment 120 = .ok (.iload 5, 2) := by decide +kernel
theorem dX11_canComment_122 : decode cX11_canComment 122 = .ok (.iconst (-1), 1) := by decide +kernel
theorem dX11_canComment_123 : decode cX11_canComment 123 = .ok (.if_icmp .eq 37, 3) := by decide +kernel
theorem dX11_canComment_126 : decode cX11_canComment 126 = .ok (.iload 4, 2) := by decide +kernel
theorem dX11_canComment_128 : decode cX11_canComment 128 = .ok (.ifCond .eq 17, 3) := by decide +kernel
theorem dX11_canComment_131 : decode cX11_canComment 131 = .ok (.aload_n 0, 1) := by decide +kernel
theorem dX11_canComment_132 : decode cX11_canComment 132 = .ok (.getfield 107, 3) := by decide +kernel
theorem dX11_canComment_135 : decode cX11_canComment 135 = .ok (.iload 5, 2) := by decide +kernel
theorem dX11_canComment_137 : decode cX11_canComment 137 = .ok (.baload, 1) := by decide +kernel
theorem dX11_canComment_138 : decode cX11_canComment 138 = .ok (.ifCond .ne 7, 3) := by decide +kernel
theorem dX11_canComment_141 : decode cX11_canComment 141 = .ok (.iconst 1, 1) := by decide +kernel
theorem dX11_canComment_142 : decode cX11_canComment 142 = .ok (.goto 4, 3) := by decide +kernel
theorem dX11_canComment_145 : decode cX11_canComment 145 = .ok (.iconst 0, 1) := by decide +kernel
theorem dX11_canComment_146 : decode cX11_canComment 146 = .ok (.istore 4, 2) := by decide +kernel
theorem dX11_canComment_148 : decode cX11_canComment 148 = .ok (.aload_n 0, 1) := by decide +kernel
theorem dX11_canComment_149 : decode cX11_canComment 149 = .ok (.getfield 104, 3) := by decide +kernel
theorem dX11_canComment_152 : decode cX11_canComment 152 = .ok (.iload 5, 2) := by decide +kernel
theorem dX11_canComment_154 : decode cX11_canComment 154 = .ok (.iaload, 1) := by decide +kernel
theorem dX11_canComment_155 : decode cX11_canComment 155 = .ok (.istore 5, 2) := by decide +kernel
theorem dX11_canComment_157 : decode cX11_canComment 157 = .ok (.goto (-37), 3) := by decide +kernel
theorem dX11_canComment_160 : decode cX11_canComment 160 = .ok (.iload 4, 2) := by decide +kernel
theorem dX11_canComment_162 : decode cX11_canComment 162 = .ok (.ireturn, 1) := by decide +kernel
theorem dX11_isFace_0 : decode cX11_isFace 0 = .ok (.iload_n 0, 1) := by decide +kernel
theorem dX11_isFace_1 : decode cX11_isFace 1 = .ok (.iconst 0, 1) := by decide +kernel
theorem dX11_isFace_2 : decode cX11_isFace 2 = .ok (.bipush 31, 2) := by decide +kernel
theorem dX11_isFace_4 : decode cX11_isFace 4 = .ok (.invokestatic 129, 3) := by decide +kernel
theorem dX11_isFace_7 : decode cX11_isFace 7 = .ok (.ireturn, 1) := by decide +kernel
theorem dX11_comment_0 : decode cX11_comment 0 = .ok (.aload_n 0, 1) := by decide +kernel
theorem dX11_comment_1 : decode cX11_comment 1 = .ok (.iload_n 1, 1) := by decide +kernel
theorem dX11_comment_2 : decode cX11_comment 2 = .ok (.invokevirtual 152, 3) := by decide +kernel
theorem dX11_comment_5 : decode cX11_comment 5 = .ok (.ifCond .eq 33, 3) := by decide +kernel
theorem dX11_comment_8 : decode cX11_comment 8 = .ok (.iload_n 2, 1) := by decide +kernel
theorem dX11_comment_9 : decode cX11_comment 9 = .ok (.invokestatic 149, 3) := by decide +kernel
theorem dX11_comment_12 : decode cX11_comment 12 = .ok (.ifCond .eq 26, 3) := by decide +kernel
theorem dX11_comment_15 : decode cX11_comment 15 = .ok (.iload_n 3, 1) := by decide +kernel
theorem dX11_comment_16 : decode cX11_comment 16 = .ok (.iconst (-1), 1) := by decide +kernel
theorem dX11_comment_17 : decode cX11_comment 17 = .ok (.if_icmp .eq 17, 3) := by decide +kernel
theorem dX11_comment_20 : decode cX11_comment 20 = .ok (.iload_n 3, 1) := by decide +kernel
theorem dX11_comment_21 : decode cX11_comment 21 = .ok (.iconst 0, 1) := by decide +kernel
theorem dX11_comment_22 : decode cX11_comment 22 = .ok (.aload_n 0, 1) := by decide +kernel
theorem dX11_comment_23 : decode cX11_comment 23 = .ok (.getfield 248, 3) := by decide +kernel
theorem dX11_comment_26 : decode cX11_comment 26 = .ok (.iconst 1, 1) := by decide +kernel
theorem dX11_comment_27 : decode cX11_comment 27 = .ok (.isub, 1) := by decide +kernel
theorem dX11_comment_28 : decode cX11_comment 28 = .ok (.invokestatic 129, 3) := by decide +kernel
theorem dX11_comment_31 : decode cX11_comment 31 = .ok (.ifCond .eq 7, 3) := by decide +kernel
theorem dX11_comment_34 : decode cX11_comment 34 = .ok (.iconst 1, 1) := by decide +kernel
theorem dX11_comment_35 : decode cX11_comment 35 = .ok (.goto 4, 3) := by decide +kernel
theorem dX11_comment_38 : decode cX11_comment 38 = .ok (.iconst 0, 1) := by decide +kernel
theorem dX11_comment_39 : decode cX11_comment 39 = .ok (.istore 4, 2) := by decide +kernel
theorem dX11_comment_41 : decode cX11_comment 41 = .ok (.iload 4, 2) := by decide +kernel
theorem dX11_comment_43 : decode cX11_comment 43 = .ok (.ifCond .eq 22, 3) := by decide +kernel
theorem dX11_comment_46 : decode cX11_comment 46 = .ok (.iload_n 3, 1) := by decide +kernel
theorem dX11_comment_47 : decode cX11_comment 47 = .ok (.iconst (-1), 1) := by decide +kernel
theorem dX11_comment_48 : decode cX11_comment 48 = .ok (.if_icmp .eq 13, 3) := by decide +kernel
theorem dX11_comment_51 : decode cX11_comment 51 = .ok (.aload_n 0, 1) := by decide +kernel
theorem dX11_comment_52 : decode cX11_comment 52 = .ok (.getfield 98, 3) := by decide +kernel
theorem dX11_comment_55 : decode cX11_comment 55 = .ok (.iload_n 3, 1) := by decide +kernel
theorem dX11_comment_56 : decode cX11_comment 56 = .ok (.iaload, 1) := by decide +kernel
theorem dX11_comment_57 : decode cX11_comment 57 = .ok (.iload_n 1, 1) := by decide +kernel
theorem dX11_comment_58 : decode cX11_comment 58 = .ok (.if_icmp .ne 7, 3) := by decide +kernel
theorem dX11_comment_61 : decode cX11_comment 61 = .ok (.iconst 1, 1) := by decide +kernel
theorem dX11_comment_62 : decode cX11_comment 62 = .ok (.goto 4, 3) := by decide +kernel
theorem dX11_comment_65 : decode cX11_comment 65 = .ok (.iconst 0, 1) := by decide +kernel
theorem dX11_comment_66 : decode cX11_comment 66 = .ok (.istore 5, 2) := by decide +kernel
theorem dX11_comment_68 : decode cX11_comment 68 = .ok (.aload_n 0, 1) := by decide +kernel
theorem dX11_comment_69 : decode cX11_comment 69 = .ok (.iload 4, 2) := by decide +kernel
theorem dX11_comment_71 : decode cX11_comment 71 = .ok (.ifCond .ne 7, 3) := by decide +kernel
theorem dX11_comment_74 : decode cX11_comment 74 = .ok (.iconst 1, 1) := by decide +kernel
theorem dX11_comment_75 : decode cX11_comment 75 = .ok (.goto 27, 3) := by decide +kernel
theorem dX11_comment_78 : decode cX11_comment 78 = .ok (.iload 5, 2) := by decide +kernel
theorem dX11_comment_80 : decode cX11_comment 80 = .ok (.ifCond .ne 7, 3) := by decide +kernel
theorem dX11_comment_83 : decode cX11_comment 83 = .ok (.iconst 2, 1) := by decide +kernel
theorem dX11_comment_84 : decode cX11_comment 84 = .ok (.goto 18, 3) := by decide +kernel
theorem dX11_comment_87 : decode cX11_comment 87 = .ok (.aload_n 0, 1) := by decide +kernel
theorem dX11_comment_88 : decode cX11_comment 88 = .ok (.iload_n 1, 1) := by decide +kernel
theorem dX11_comment_89 : decode cX11_comment 89 = .ok (.iload_n 2, 1) := by decide +kernel
theorem dX11_comment_90 : decode cX11_comment 90 = .ok (.iload_n 3, 1) := by decide +kernel
theorem dX11_comment_91 : decode cX11_comment 91 = .ok (.invokevirtual 257, 3) := by decide +kernel
theorem dX11_comment_94 : decode cX11_comment 94 = .ok (.ifCond .eq 7, 3) := by decide +kernel
theorem dX11_comment_97 : decode cX11_comment 97 = .ok (.iconst 0, 1) := by decide +kernel
theorem dX11_comment_98 : decode cX11_comment 98 = .ok (.goto 4, 3) := by decide +kernel
theorem dX11_comment_101 : decode cX11_comment 101 = .ok (.iconst 3, 1) := by decide +kernel
theorem dX11_comment_102 : decode cX11_comment 102 = .ok (.invokevirtual 142, 3) := by decide +kernel
theorem dX11_comment_105 : decode cX11_comment 105 = .ok (.ifCond .ne 5, 3) := by decide +kernel
theorem dX11_comment_108 : decode cX11_comment 108 = .ok (.iconst 0, 1) := by decide +kernel
theorem dX11_comment_109 : decode cX11_comment 109 = .ok (.ireturn, 1) := by decide +kernel
theorem dX11_comment_110 : decode cX11_comment 110 = .ok (.aload_n 0, 1) := by decide +kernel
theorem dX11_comment_111 : decode cX11_comment 111 = .ok (.getfield 98, 3) := by decide +kernel
theorem dX11_comment_114 : decode cX11_comment 114 = .ok (.aload_n 0, 1) := by decide +kernel
theorem dX11_comment_115 : decode cX11_comment 115 = .ok (.getfield 248, 3) := by decide +kernel
theorem dX11_comment_118 : decode cX11_comment 118 = .ok (.iload_n 1, 1) := by decide +kernel
theorem dX11_comment_119 : decode cX11_comment 119 = .ok (.iastore, 1) := by decide +kernel
theorem dX11_comment_120 : decode cX11_comment 120 = .ok (.aload_n 0, 1) := by decide +kernel
theorem dX11_comment_121 : decode cX11_comment 121 = .ok (.getfield 101, 3) := by decide +kernel
theorem dX11_comment_124 : decode cX11_comment 124 = .ok (.aload_n 0, 1) := by decide +kernel
theorem dX11_comment_125 : decode cX11_comment 125 = .ok (.getfield 248, 3) := by decide +kernel
theorem dX11_comment_128 : decode cX11_comment 128 = .ok (.iload_n 2, 1) := by decide +kernel
theorem dX11_comment_129 : decode cX11_comment 129 = .ok (.iastore, 1) := by decide +kernel
theorem dX11_comment_130 : decode cX11_comment 130 = .ok (.aload_n 0, 1) := by decide +kernel
theorem dX11_comment_131 : decode cX11_comment 131 = .ok (.getfield 104, 3) := by decide +kernel
theorem dX11_comment_134 : decode cX11_comment 134 = .ok (.aload_n 0, 1) := by decide +kernel
theorem dX11_comment_135 : decode cX11_comment 135 = .ok (.getfield 248, 3) := by decide +kernel
theorem dX11_comment_138 : decode cX11_comment 138 = .ok (.iload_n 3, 1) := by decide +kernel
theorem dX11_comment_139 : decode cX11_comment 139 = .ok (.iastore, 1) := by decide +kernel
theorem dX11_comment_140 : decode cX11_comment 140 = .ok (.aload_n 0, 1) := by decide +kernel
theorem dX11_comment_141 : decode cX11_comment 141 = .ok (.getfield 110, 3) := by decide +kernel
theorem dX11_comment_144 : decode cX11_comment 144 = .ok (.aload_n 0, 1) := by decide +kernel
theorem dX11_comment_145 : decode cX11_comment 145 = .ok (.getfield 248, 3) := by decide +kernel
theorem dX11_comment_148 : decode cX11_comment 148 = .ok (.aload_n 0, 1) := by decide +kernel
theorem dX11_comment_149 : decode cX11_comment 149 = .ok (.getfield 47, 3) := by decide +kernel
theorem dX11_comment_152 : decode cX11_comment 152 = .ok (.iload_n 1, 1) := by decide +kernel
theorem dX11_comment_153 : decode cX11_comment 153 = .ok (.baload, 1) := by decide +kernel
theorem dX11_comment_154 : decode cX11_comment 154 = .ok (.ifCond .eq 16, 3) := by decide +kernel
theorem dX11_comment_157 : decode cX11_comment 157 = .ok (.aload_n 0, 1) := by decide +kernel
theorem dX11_comment_158 : decode cX11_comment 158 = .ok (.iload_n 2, 1) := by decide +kernel
theorem dX11_comment_159 : decode cX11_comment 159 = .ok (.iload_n 1, 1) := by decide +kernel
theorem dX11_comment_160 : decode cX11_comment 160 = .ok (.invokevirtual 166, 3) := by decide +kernel
theorem dX11_comment_163 : decode cX11_comment 163 = .ok (.ifCond .ne 7, 3) := by decide +kernel
theorem dX11_comment_166 : decode cX11_comment 166 = .ok (.iconst 1, 1) := by decide +kernel
theorem dX11_comment_167 : decode cX11_comment 167 = .ok (.goto 4, 3) := by decide +kernel
theorem dX11_comment_170 : decode cX11_comment 170 = .ok (.iconst 0, 1) := by decide +kernel
theorem dX11_comment_171 : decode cX11_comment 171 = .ok (.bastore, 1) := by decide +kernel
theorem dX11_comment_172 : decode cX11_comment 172 = .ok (.aload_n 0, 1) := by decide +kernel
theorem dX11_comment_173 : decode cX11_comment 173 = .ok (.dup, 1) := by decide +kernel
theorem dX11_comment_174 : decode cX11_comment 174 = .ok (.getfield 248, 3) := by decide +kernel
theorem dX11_comment_177 : decode cX11_comment 177 = .ok (.iconst 1, 1) := by decide +kernel
theorem dX11_comment_178 : decode cX11_comment 178 = .ok (.iadd, 1) := by decide +kernel
theorem dX11_comment_179 : decode cX11_comment 179 = .ok (.putfield 248, 3) := by decide +kernel
theorem dX11_comment_182 : decode cX11_comment 182 = .ok (.aload_n 0, 1) := by decide +kernel
theorem dX11_comment_183 : decode cX11_comment 183 = .ok (.getfield 248, 3) := by decide +kernel
theorem dX11_comment_186 : decode cX11_comment 186 = .ok (.iconst 1, 1) := by decide +kernel
theorem dX11_comment_187 : decode cX11_comment 187 = .ok (.isub, 1) := by decide +kernel
theorem dX11_comment_188 : decode cX11_comment 188 = .ok (.ireturn, 1) := by decide +kernel
theorem dX11_areTold_0 : decode cX11_areTold 0 = .ok (.aload_n 0, 1) := by decide +kernel
theorem dX11_areTold_1 : decode cX11_areTold 1 = .ok (.getfield 35, 3) := by decide +kernel
theorem dX11_areTold_4 : decode cX11_areTold 4 = .ok (.iload_n 2, 1) := by decide +kernel
theorem dX11_areTold_5 : decode cX11_areTold 5 = .ok (.iaload, 1) := by decide +kernel
theorem dX11_areTold_6 : decode cX11_areTold 6 = .ok (.iconst (-1), 1) := by decide +kernel
theorem dX11_areTold_7 : decode cX11_areTold 7 = .ok (.if_icmp .eq 21, 3) := by decide +kernel
theorem dX11_areTold_10 : decode cX11_areTold 10 = .ok (.aload_n 0, 1) := by decide +kernel
theorem dX11_areTold_11 : decode cX11_areTold 11 = .ok (.getfield 56, 3) := by decide +kernel
theorem dX11_areTold_14 : decode cX11_areTold 14 = .ok (.aload_n 0, 1) := by decide +kernel
theorem dX11_areTold_15 : decode cX11_areTold 15 = .ok (.getfield 35, 3) := by decide +kernel
theorem dX11_areTold_18 : decode cX11_areTold 18 = .ok (.iload_n 2, 1) := by decide +kernel
theorem dX11_areTold_19 : decode cX11_areTold 19 = .ok (.iaload, 1) := by decide +kernel
theorem dX11_areTold_20 : decode cX11_areTold 20 = .ok (.iaload, 1) := by decide +kernel
theorem dX11_areTold_21 : decode cX11_areTold 21 = .ok (.aload_n 0, 1) := by decide +kernel
theorem dX11_areTold_22 : decode cX11_areTold 22 = .ok (.getfield 139, 3) := by decide +kernel
theorem dX11_areTold_25 : decode cX11_areTold 25 = .ok (.if_icmp .gt 7, 3) := by decide +kernel
theorem dX11_areTold_28 : decode cX11_areTold 28 = .ok (.iconst 1, 1) := by decide +kernel
theorem dX11_areTold_29 : decode cX11_areTold 29 = .ok (.goto 4, 3) := by decide +kernel
theorem dX11_areTold_32 : decode cX11_areTold 32 = .ok (.iconst 0, 1) := by decide +kernel
theorem dX11_areTold_33 : decode cX11_areTold 33 = .ok (.istore_n 3, 1) := by decide +kernel
theorem dX11_areTold_34 : decode cX11_areTold 34 = .ok (.aload_n 0, 1) := by decide +kernel
theorem dX11_areTold_35 : decode cX11_areTold 35 = .ok (.iload_n 1, 1) := by decide +kernel
theorem dX11_areTold_36 : decode cX11_areTold 36 = .ok (.iload_n 2, 1) := by decide +kernel
theorem dX11_areTold_37 : decode cX11_areTold 37 = .ok (.invokevirtual 169, 3) := by decide +kernel
theorem dX11_areTold_40 : decode cX11_areTold 40 = .ok (.ifCond .eq 20, 3) := by decide +kernel
theorem dX11_areTold_43 : decode cX11_areTold 43 = .ok (.aload_n 0, 1) := by decide +kernel
theorem dX11_areTold_44 : decode cX11_areTold 44 = .ok (.iload_n 1, 1) := by decide +kernel
theorem dX11_areTold_45 : decode cX11_areTold 45 = .ok (.iload_n 2, 1) := by decide +kernel
theorem dX11_areTold_46 : decode cX11_areTold 46 = .ok (.invokevirtual 166, 3) := by decide +kernel
theorem dX11_areTold_49 : decode cX11_areTold 49 = .ok (.ifCond .ne 7, 3) := by decide +kernel
theorem dX11_areTold_52 : decode cX11_areTold 52 = .ok (.iload_n 3, 1) := by decide +kernel
theorem dX11_areTold_53 : decode cX11_areTold 53 = .ok (.ifCond .eq 7, 3) := by decide +kernel
theorem dX11_areTold_56 : decode cX11_areTold 56 = .ok (.iconst 1, 1) := by decide +kernel
theorem dX11_areTold_57 : decode cX11_areTold 57 = .ok (.goto 4, 3) := by decide +kernel
theorem dX11_areTold_60 : decode cX11_areTold 60 = .ok (.iconst 0, 1) := by decide +kernel
theorem dX11_areTold_61 : decode cX11_areTold 61 = .ok (.ireturn, 1) := by decide +kernel
theorem dX11_outDay_0 : decode cX11_outDay 0 = .ok (.aload_n 0, 1) := by decide +kernel
theorem dX11_outDay_1 : decode cX11_outDay 1 = .ok (.getfield 26, 3) := by decide +kernel
theorem dX11_outDay_4 : decode cX11_outDay 4 = .ok (.bipush 8, 2) := by decide +kernel
theorem dX11_outDay_6 : decode cX11_outDay 6 = .ok (.iload_n 1, 1) := by decide +kernel
theorem dX11_outDay_7 : decode cX11_outDay 7 = .ok (.imul, 1) := by decide +kernel
theorem dX11_outDay_8 : decode cX11_outDay 8 = .ok (.iload_n 2, 1) := by decide +kernel
theorem dX11_outDay_9 : decode cX11_outDay 9 = .ok (.iadd, 1) := by decide +kernel
theorem dX11_outDay_10 : decode cX11_outDay 10 = .ok (.iaload, 1) := by decide +kernel
theorem dX11_outDay_11 : decode cX11_outDay 11 = .ok (.istore_n 3, 1) := by decide +kernel
theorem dX11_outDay_12 : decode cX11_outDay 12 = .ok (.iload_n 3, 1) := by decide +kernel
theorem dX11_outDay_13 : decode cX11_outDay 13 = .ok (.aload_n 0, 1) := by decide +kernel
theorem dX11_outDay_14 : decode cX11_outDay 14 = .ok (.getfield 29, 3) := by decide +kernel
theorem dX11_outDay_17 : decode cX11_outDay 17 = .ok (.iload_n 1, 1) := by decide +kernel
theorem dX11_outDay_18 : decode cX11_outDay 18 = .ok (.iaload, 1) := by decide +kernel
theorem dX11_outDay_19 : decode cX11_outDay 19 = .ok (.if_icmp .le 7, 3) := by decide +kernel
theorem dX11_outDay_22 : decode cX11_outDay 22 = .ok (.iload_n 3, 1) := by decide +kernel
theorem dX11_outDay_23 : decode cX11_outDay 23 = .ok (.goto 9, 3) := by decide +kernel
theorem dX11_outDay_26 : decode cX11_outDay 26 = .ok (.aload_n 0, 1) := by decide +kernel
theorem dX11_outDay_27 : decode cX11_outDay 27 = .ok (.getfield 29, 3) := by decide +kernel
theorem dX11_outDay_30 : decode cX11_outDay 30 = .ok (.iload_n 1, 1) := by decide +kernel
theorem dX11_outDay_31 : decode cX11_outDay 31 = .ok (.iaload, 1) := by decide +kernel
theorem dX11_outDay_32 : decode cX11_outDay 32 = .ok (.ireturn, 1) := by decide +kernel
theorem dX11_isNews_0 : decode cX11_isNews 0 = .ok (.aload_n 0, 1) := by decide +kernel
theorem dX11_isNews_1 : decode cX11_isNews 1 = .ok (.getfield 29, 3) := by decide +kernel
theorem dX11_isNews_4 : decode cX11_isNews 4 = .ok (.iload_n 2, 1) := by decide +kernel
theorem dX11_isNews_5 : decode cX11_isNews 5 = .ok (.iaload, 1) := by decide +kernel
theorem dX11_isNews_6 : decode cX11_isNews 6 = .ok (.iconst (-1), 1) := by decide +kernel
theorem dX11_isNews_7 : decode cX11_isNews 7 = .ok (.if_icmp .eq 40, 3) := by decide +kernel
theorem dX11_isNews_10 : decode cX11_isNews 10 = .ok (.aload_n 0, 1) := by decide +kernel
theorem dX11_isNews_11 : decode cX11_isNews 11 = .ok (.iload_n 1, 1) := by decide +kernel
theorem dX11_isNews_12 : decode cX11_isNews 12 = .ok (.iload_n 2, 1) := by decide +kernel
theorem dX11_isNews_13 : decode cX11_isNews 13 = .ok (.invokevirtual 169, 3) := by decide +kernel
theorem dX11_isNews_16 : decode cX11_isNews 16 = .ok (.ifCond .eq 31, 3) := by decide +kernel
theorem dX11_isNews_19 : decode cX11_isNews 19 = .ok (.aload_n 0, 1) := by decide +kernel
theorem dX11_isNews_20 : decode cX11_isNews 20 = .ok (.iload_n 1, 1) := by decide +kernel
theorem dX11_isNews_21 : decode cX11_isNews 21 = .ok (.iload_n 2, 1) := by decide +kernel
theorem dX11_isNews_22 : decode cX11_isNews 22 = .ok (.invokevirtual 166, 3) := by decide +kernel
theorem dX11_isNews_25 : decode cX11_isNews 25 = .ok (.ifCond .ne 22, 3) := by decide +kernel
theorem dX11_isNews_28 : decode cX11_isNews 28 = .ok (.aload_n 0, 1) := by decide +kernel
theorem dX11_isNews_29 : decode cX11_isNews 29 = .ok (.getfield 122, 3) := by decide +kernel
theorem dX11_isNews_32 : decode cX11_isNews 32 = .ok (.bipush 8, 2) := by decide +kernel
theorem dX11_isNews_34 : decode cX11_isNews 34 = .ok (.bipush 20, 2) := by decide +kernel
theorem dX11_isNews_36 : decode cX11_isNews 36 = .ok (.iload_n 1, 1) := by decide +kernel
theorem dX11_isNews_37 : decode cX11_isNews 37 = .ok (.imul, 1) := by decide +kernel
theorem dX11_isNews_38 : decode cX11_isNews 38 = .ok (.iload_n 2, 1) := by decide +kernel
theorem dX11_isNews_39 : decode cX11_isNews 39 = .ok (.iadd, 1) := by decide +kernel
theorem dX11_isNews_40 : decode cX11_isNews 40 = .ok (.imul, 1) := by decide +kernel
theorem dX11_isNews_41 : decode cX11_isNews 41 = .ok (.iload_n 3, 1) := by decide +kernel
theorem dX11_isNews_42 : decode cX11_isNews 42 = .ok (.iadd, 1) := by decide +kernel
theorem dX11_isNews_43 : decode cX11_isNews 43 = .ok (.baload, 1) := by decide +kernel
theorem dX11_isNews_44 : decode cX11_isNews 44 = .ok (.ifCond .eq 5, 3) := by decide +kernel
theorem dX11_isNews_47 : decode cX11_isNews 47 = .ok (.iconst 0, 1) := by decide +kernel
theorem dX11_isNews_48 : decode cX11_isNews 48 = .ok (.ireturn, 1) := by decide +kernel
theorem dX11_isNews_49 : decode cX11_isNews 49 = .ok (.aload_n 0, 1) := by decide +kernel
theorem dX11_isNews_50 : decode cX11_isNews 50 = .ok (.iload_n 2, 1) := by decide +kernel
theorem dX11_isNews_51 : decode cX11_isNews 51 = .ok (.iload_n 3, 1) := by decide +kernel
theorem dX11_isNews_52 : decode cX11_isNews 52 = .ok (.invokevirtual 233, 3) := by decide +kernel
theorem dX11_isNews_55 : decode cX11_isNews 55 = .ok (.istore 4, 2) := by decide +kernel
theorem dX11_isNews_57 : decode cX11_isNews 57 = .ok (.aload_n 0, 1) := by decide +kernel
theorem dX11_isNews_58 : decode cX11_isNews 58 = .ok (.getfield 116, 3) := by decide +kernel
theorem dX11_isNews_61 : decode cX11_isNews 61 = .ok (.bipush 20, 2) := by decide +kernel
theorem dX11_isNews_63 : decode cX11_isNews 63 = .ok (.iload_n 1, 1) := by decide +kernel
theorem dX11_isNews_64 : decode cX11_isNews 64 = .ok (.imul, 1) := by decide +kernel
theorem dX11_isNews_65 : decode cX11_isNews 65 = .ok (.iload_n 2, 1) := by decide +kernel
theorem dX11_isNews_66 : decode cX11_isNews 66 = .ok (.iadd, 1) := by decide +kernel
theorem dX11_isNews_67 : decode cX11_isNews 67 = .ok (.iaload, 1) := by decide +kernel
theorem dX11_isNews_68 : decode cX11_isNews 68 = .ok (.istore 5, 2) := by decide +kernel
theorem dX11_isNews_70 : decode cX11_isNews 70 = .ok (.iload 5, 2) := by decide +kernel
theorem dX11_isNews_72 : decode cX11_isNews 72 = .ok (.iconst (-1), 1) := by decide +kernel
theorem dX11_isNews_73 : decode cX11_isNews 73 = .ok (.if_icmp .eq 14, 3) := by decide +kernel
theorem dX11_isNews_76 : decode cX11_isNews 76 = .ok (.iload 4, 2) := by decide +kernel
theorem dX11_isNews_78 : decode cX11_isNews 78 = .ok (.iload 5, 2) := by decide +kernel
theorem dX11_isNews_80 : decode cX11_isNews 80 = .ok (.if_icmp .lt 7, 3) := by decide +kernel
theorem dX11_isNews_83 : decode cX11_isNews 83 = .ok (.iconst 1, 1) := by decide +kernel
theorem dX11_isNews_84 : decode cX11_isNews 84 = .ok (.goto 4, 3) := by decide +kernel
theorem dX11_isNews_87 : decode cX11_isNews 87 = .ok (.iconst 0, 1) := by decide +kernel
theorem dX11_isNews_88 : decode cX11_isNews 88 = .ok (.istore 6, 2) := by decide +kernel
theorem dX11_isNews_90 : decode cX11_isNews 90 = .ok (.iconst 0, 1) := by decide +kernel
theorem dX11_isNews_91 : decode cX11_isNews 91 = .ok (.istore 7, 2) := by decide +kernel
theorem dX11_isNews_93 : decode cX11_isNews 93 = .ok (.iload 7, 2) := by decide +kernel
theorem dX11_isNews_95 : decode cX11_isNews 95 = .ok (.bipush 12, 2) := by decide +kernel
theorem dX11_isNews_97 : decode cX11_isNews 97 = .ok (.if_icmp .ge 75, 3) := by decide +kernel
theorem dX11_isNews_100 : decode cX11_isNews 100 = .ok (.aload_n 0, 1) := by decide +kernel
theorem dX11_isNews_101 : decode cX11_isNews 101 = .ok (.getfield 20, 3) := by decide +kernel
theorem dX11_isNews_104 : decode cX11_isNews 104 = .ok (.iload_n 2, 1) := by decide +kernel
theorem dX11_isNews_105 : decode cX11_isNews 105 = .ok (.iaload, 1) := by decide +kernel
theorem dX11_isNews_106 : decode cX11_isNews 106 = .ok (.iload 7, 2) := by decide +kernel
theorem dX11_isNews_108 : decode cX11_isNews 108 = .ok (.invokestatic 155, 3) := by decide +kernel
theorem dX11_isNews_111 : decode cX11_isNews 111 = .ok (.ifCond .eq 27, 3) := by decide +kernel
theorem dX11_isNews_114 : decode cX11_isNews 114 = .ok (.aload_n 0, 1) := by decide +kernel
theorem dX11_isNews_115 : decode cX11_isNews 115 = .ok (.iload_n 1, 1) := by decide +kernel
theorem dX11_isNews_116 : decode cX11_isNews 116 = .ok (.iload_n 2, 1) := by decide +kernel
theorem dX11_isNews_117 : decode cX11_isNews 117 = .ok (.invokevirtual 172, 3) := by decide +kernel
theorem dX11_isNews_120 : decode cX11_isNews 120 = .ok (.ifCond .eq 18, 3) := by decide +kernel
theorem dX11_isNews_123 : decode cX11_isNews 123 = .ok (.aload_n 0, 1) := by decide +kernel
theorem dX11_isNews_124 : decode cX11_isNews 124 = .ok (.getfield 119, 3) := by decide +kernel
theorem dX11_isNews_127 : decode cX11_isNews 127 = .ok (.bipush 12, 2) := by decide +kernel
theorem dX11_isNews_129 : decode cX11_isNews 129 = .ok (.iload_n 1, 1) := by decide +kernel
theorem dX11_isNews_130 : decode cX11_isNews 130 = .ok (.imul, 1) := by decide +kernel
theorem dX11_isNews_131 : decode cX11_isNews 131 = .ok (.iload 7, 2) := by decide +kernel
theorem dX11_isNews_133 : decode cX11_isNews 133 = .ok (.iadd, 1) := by decide +kernel
theorem dX11_isNews_134 : decode cX11_isNews 134 = .ok (.iaload, 1) := by decide +kernel
theorem dX11_isNews_135 : decode cX11_isNews 135 = .ok (.goto 4, 3) := by decide +kernel
theorem dX11_isNews_138 : decode cX11_isNews 138 = .ok (.iconst (-1), 1) := by decide +kernel
theorem dX11_isNews_139 : decode cX11_isNews 139 = .ok (.istore 8, 2) := by decide +kernel
theorem dX11_isNews_141 : decode cX11_isNews 141 = .ok (.iload 6, 2) := by decide +kernel
theorem dX11_isNews_143 : decode cX11_isNews 143 = .ok (.ifCond .ne 16, 3) := by decide +kernel
theorem dX11_isNews_146 : decode cX11_isNews 146 = .ok (.iload 8, 2) := by decide +kernel
theorem dX11_isNews_148 : decode cX11_isNews 148 = .ok (.iconst (-1), 1) := by decide +kernel
theorem dX11_isNews_149 : decode cX11_isNews 149 = .ok (.if_icmp .eq 14, 3) := by decide +kernel
theorem dX11_isNews_152 : decode cX11_isNews 152 = .ok (.iload 4, 2) := by decide +kernel
theorem dX11_isNews_154 : decode cX11_isNews 154 = .ok (.iload 8, 2) := by decide +kernel
theorem dX11_isNews_156 : decode cX11_isNews 156 = .ok (.if_icmp .lt 7, 3) := by decide +kernel
theorem dX11_isNews_159 : decode cX11_isNews 159 = .ok (.iconst 1, 1) := by decide +kernel
theorem dX11_isNews_160 : decode cX11_isNews 160 = .ok (.goto 4, 3) := by decide +kernel
theorem dX11_isNews_163 : decode cX11_isNews 163 = .ok (.iconst 0, 1) := by decide +kernel
theorem dX11_isNews_164 : decode cX11_isNews 164 = .ok (.istore 6, 2) := by decide +kernel
theorem dX11_isNews_166 : decode cX11_isNews 166 = .ok (.iinc 7 1, 3) := by decide +kernel
theorem dX11_isNews_169 : decode cX11_isNews 169 = .ok (.goto (-76), 3) := by decide +kernel
theorem dX11_isNews_172 : decode cX11_isNews 172 = .ok (.iload 6, 2) := by decide +kernel
theorem dX11_isNews_174 : decode cX11_isNews 174 = .ok (.ireturn, 1) := by decide +kernel
theorem dX11_digest_0 : decode cX11_digest 0 = .ok (.iconst 0, 1) := by decide +kernel
theorem dX11_digest_1 : decode cX11_digest 1 = .ok (.istore_n 2, 1) := by decide +kernel
theorem dX11_digest_2 : decode cX11_digest 2 = .ok (.aload_n 0, 1) := by decide +kernel
theorem dX11_digest_3 : decode cX11_digest 3 = .ok (.iload_n 1, 1) := by decide +kernel
theorem dX11_digest_4 : decode cX11_digest 4 = .ok (.invokestatic 146, 3) := by decide +kernel
theorem dX11_digest_7 : decode cX11_digest 7 = .ok (.ifCond .eq 7, 3) := by decide +kernel
theorem dX11_digest_10 : decode cX11_digest 10 = .ok (.iconst 0, 1) := by decide +kernel
theorem dX11_digest_11 : decode cX11_digest 11 = .ok (.goto 4, 3) := by decide +kernel
theorem dX11_digest_14 : decode cX11_digest 14 = .ok (.iconst 1, 1) := by decide +kernel
theorem dX11_digest_15 : decode cX11_digest 15 = .ok (.invokevirtual 142, 3) := by decide +kernel
theorem dX11_digest_18 : decode cX11_digest 18 = .ok (.istore_n 3, 1) := by decide +kernel
theorem dX11_digest_19 : decode cX11_digest 19 = .ok (.iconst 0, 1) := by decide +kernel
theorem dX11_digest_20 : decode cX11_digest 20 = .ok (.istore 4, 2) := by decide +kernel
theorem dX11_digest_22 : decode cX11_digest 22 = .ok (.iload 4, 2) := by decide +kernel
theorem dX11_digest_24 : decode cX11_digest 24 = .ok (.aload_n 0, 1) := by decide +kernel
theorem dX11_digest_25 : decode cX11_digest 25 = .ok (.getfield 133, 3) := by decide +kernel
theorem dX11_digest_28 : decode cX11_digest 28 = .ok (.if_icmp .ge 68, 3) := by decide +kernel
theorem dX11_digest_31 : decode cX11_digest 31 = .ok (.iload_n 3, 1) := by decide +kernel
theorem dX11_digest_32 : decode cX11_digest 32 = .ok (.ifCond .eq 64, 3) := by decide +kernel
theorem dX11_digest_35 : decode cX11_digest 35 = .ok (.iconst 0, 1) := by decide +kernel
theorem dX11_digest_36 : decode cX11_digest 36 = .ok (.istore 5, 2) := by decide +kernel
theorem dX11_digest_38 : decode cX11_digest 38 = .ok (.iload 5, 2) := by decide +kernel
theorem dX11_digest_40 : decode cX11_digest 40 = .ok (.aload_n 0, 1) := by decide +kernel
