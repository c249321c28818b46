theorem dX10_liked_1 : decode cX10_liked 1 = .ok (.aload_n 0, 1) := by decide +kernel
theorem dX10_liked_2 : decode cX10_liked 2 = .ok (.iload_n 1, 1) := by decide +kernel
theorem dX10_liked_3 : decode cX10_liked 3 = .ok (.invokevirtual 112, 3) := by decide +kernel
theorem dX10_liked_6 : decode cX10_liked 6 = .ok (.invokevirtual 357, 3) := by decide +kernel
theorem dX10_liked_9 : decode cX10_liked 9 = .ok (.ireturn, 1) := by decide +kernel
theorem dX10_news_0 : decode cX10_news 0 = .ok (.iload_n 1, 1) := by decide +kernel
theorem dX10_news_1 : decode cX10_news 1 = .ok (.invokestatic 82, 3) := by decide +kernel
theorem dX10_news_4 : decode cX10_news 4 = .ok (.iconst 0, 1) := by decide +kernel
theorem dX10_news_5 : decode cX10_news 5 = .ok (.istore_n 2, 1) := by decide +kernel
theorem dX10_news_6 : decode cX10_news 6 = .ok (.iconst 0, 1) := by decide +kernel
theorem dX10_news_7 : decode cX10_news 7 = .ok (.istore_n 3, 1) := by decide +kernel
theorem dX10_news_8 : decode cX10_news 8 = .ok (.iload_n 3, 1) := by decide +kernel
theorem dX10_news_9 : decode cX10_news 9 = .ok (.aload_n 0, 1) := by decide +kernel
theorem dX10_news_10 : decode cX10_news 10 = .ok (.getfield 104, 3) := by decide +kernel
theorem dX10_news_13 : decode cX10_news 13 = .ok (.if_icmp .ge 29, 3) := by decide +kernel
theorem dX10_news_16 : decode cX10_news 16 = .ok (.iload_n 2, 1) := by decide +kernel
theorem dX10_news_17 : decode cX10_news 17 = .ok (.iload_n 3, 1) := by decide +kernel
theorem dX10_news_18 : decode cX10_news 18 = .ok (.aload_n 0, 1) := by decide +kernel
theorem dX10_news_19 : decode cX10_news 19 = .ok (.iload_n 1, 1) := by decide +kernel
theorem dX10_news_20 : decode cX10_news 20 = .ok (.iload_n 3, 1) := by decide +kernel
theorem dX10_news_21 : decode cX10_news 21 = .ok (.invokevirtual 370, 3) := by decide +kernel
theorem dX10_news_24 : decode cX10_news 24 = .ok (.ifCond .eq 7, 3) := by decide +kernel
theorem dX10_news_27 : decode cX10_news 27 = .ok (.iconst 1, 1) := by decide +kernel
theorem dX10_news_28 : decode cX10_news 28 = .ok (.goto 4, 3) := by decide +kernel
theorem dX10_news_31 : decode cX10_news 31 = .ok (.iconst 0, 1) := by decide +kernel
theorem dX10_news_32 : decode cX10_news 32 = .ok (.invokestatic 95, 3) := by decide +kernel
theorem dX10_news_35 : decode cX10_news 35 = .ok (.istore_n 2, 1) := by decide +kernel
theorem dX10_news_36 : decode cX10_news 36 = .ok (.iinc 3 1, 3) := by decide +kernel
theorem dX10_news_39 : decode cX10_news 39 = .ok (.goto (-31), 3) := by decide +kernel
theorem dX10_news_42 : decode cX10_news 42 = .ok (.iload_n 2, 1) := by decide +kernel
theorem dX10_news_43 : decode cX10_news 43 = .ok (.ireturn, 1) := by decide +kernel
theorem dX10_reads_0 : decode cX10_reads 0 = .ok (.aload_n 0, 1) := by decide +kernel
theorem dX10_reads_1 : decode cX10_reads 1 = .ok (.iload_n 1, 1) := by decide +kernel
theorem dX10_reads_2 : decode cX10_reads 2 = .ok (.invokevirtual 112, 3) := by decide +kernel
theorem dX10_reads_5 : decode cX10_reads 5 = .ok (.astore_n 3, 1) := by decide +kernel
theorem dX10_reads_6 : decode cX10_reads 6 = .ok (.iload_n 2, 1) := by decide +kernel
theorem dX10_reads_7 : decode cX10_reads 7 = .ok (.invokestatic 99, 3) := by decide +kernel
theorem dX10_reads_10 : decode cX10_reads 10 = .ok (.iconst 0, 1) := by decide +kernel
theorem dX10_reads_11 : decode cX10_reads 11 = .ok (.istore 4, 2) := by decide +kernel
theorem dX10_reads_13 : decode cX10_reads 13 = .ok (.iconst 0, 1) := by decide +kernel
theorem dX10_reads_14 : decode cX10_reads 14 = .ok (.istore 5, 2) := by decide +kernel
theorem dX10_reads_16 : decode cX10_reads 16 = .ok (.iload 5, 2) := by decide +kernel
theorem dX10_reads_18 : decode cX10_reads 18 = .ok (.aload_n 0, 1) := by decide +kernel
theorem dX10_reads_19 : decode cX10_reads 19 = .ok (.getfield 327, 3) := by decide +kernel
theorem dX10_reads_22 : decode cX10_reads 22 = .ok (.if_icmp .ge 41, 3) := by decide +kernel
theorem dX10_reads_25 : decode cX10_reads 25 = .ok (.aload_n 0, 1) := by decide +kernel
theorem dX10_reads_26 : decode cX10_reads 26 = .ok (.getfield 61, 3) := by decide +kernel
theorem dX10_reads_29 : decode cX10_reads 29 = .ok (.iload 5, 2) := by decide +kernel
theorem dX10_reads_31 : decode cX10_reads 31 = .ok (.aaload, 1) := by decide +kernel
theorem dX10_reads_32 : decode cX10_reads 32 = .ok (.astore 6, 2) := by decide +kernel
theorem dX10_reads_34 : decode cX10_reads 34 = .ok (.aload 6, 2) := by decide +kernel
theorem dX10_reads_36 : decode cX10_reads 36 = .ok (.getfield 322, 3) := by decide +kernel
theorem dX10_reads_39 : decode cX10_reads 39 = .ok (.iload_n 1, 1) := by decide +kernel
theorem dX10_reads_40 : decode cX10_reads 40 = .ok (.if_icmp .ne 17, 3) := by decide +kernel
theorem dX10_reads_43 : decode cX10_reads 43 = .ok (.aload_n 0, 1) := by decide +kernel
theorem dX10_reads_44 : decode cX10_reads 44 = .ok (.iload_n 2, 1) := by decide +kernel
theorem dX10_reads_45 : decode cX10_reads 45 = .ok (.aload 6, 2) := by decide +kernel
theorem dX10_reads_47 : decode cX10_reads 47 = .ok (.aload_n 3, 1) := by decide +kernel
theorem dX10_reads_48 : decode cX10_reads 48 = .ok (.invokevirtual 348, 3) := by decide +kernel
theorem dX10_reads_51 : decode cX10_reads 51 = .ok (.ifCond .eq 6, 3) := by decide +kernel
theorem dX10_reads_54 : decode cX10_reads 54 = .ok (.iinc 4 1, 3) := by decide +kernel
theorem dX10_reads_57 : decode cX10_reads 57 = .ok (.iinc 5 1, 3) := by decide +kernel
theorem dX10_reads_60 : decode cX10_reads 60 = .ok (.goto (-44), 3) := by decide +kernel
theorem dX10_reads_63 : decode cX10_reads 63 = .ok (.iload 4, 2) := by decide +kernel
theorem dX10_reads_65 : decode cX10_reads 65 = .ok (.ireturn, 1) := by decide +kernel
theorem dX10_screen_0 : decode cX10_screen 0 = .ok (.aload_n 0, 1) := by decide +kernel
theorem dX10_screen_1 : decode cX10_screen 1 = .ok (.iload_n 1, 1) := by decide +kernel
theorem dX10_screen_2 : decode cX10_screen 2 = .ok (.invokevirtual 112, 3) := by decide +kernel
theorem dX10_screen_5 : decode cX10_screen 5 = .ok (.astore_n 3, 1) := by decide +kernel
theorem dX10_screen_6 : decode cX10_screen 6 = .ok (.aload_n 3, 1) := by decide +kernel
theorem dX10_screen_7 : decode cX10_screen 7 = .ok (.getfield 315, 3) := by decide +kernel
theorem dX10_screen_10 : decode cX10_screen 10 = .ok (.istore 4, 2) := by decide +kernel
theorem dX10_screen_12 : decode cX10_screen 12 = .ok (.aload_n 3, 1) := by decide +kernel
theorem dX10_screen_13 : decode cX10_screen 13 = .ok (.iload_n 2, 1) := by decide +kernel
theorem dX10_screen_14 : decode cX10_screen 14 = .ok (.putfield 315, 3) := by decide +kernel
theorem dX10_screen_17 : decode cX10_screen 17 = .ok (.iload 4, 2) := by decide +kernel
theorem dX10_screen_19 : decode cX10_screen 19 = .ok (.ireturn, 1) := by decide +kernel
theorem dX10_subscribe_0 : decode cX10_subscribe 0 = .ok (.iload_n 1, 1) := by decide +kernel
theorem dX10_subscribe_1 : decode cX10_subscribe 1 = .ok (.invokestatic 82, 3) := by decide +kernel
theorem dX10_subscribe_4 : decode cX10_subscribe 4 = .ok (.iload_n 2, 1) := by decide +kernel
theorem dX10_subscribe_5 : decode cX10_subscribe 5 = .ok (.ifCond .eq 10, 3) := by decide +kernel
theorem dX10_subscribe_8 : decode cX10_subscribe 8 = .ok (.iload_n 3, 1) := by decide +kernel
theorem dX10_subscribe_9 : decode cX10_subscribe 9 = .ok (.invokestatic 82, 3) := by decide +kernel
theorem dX10_subscribe_12 : decode cX10_subscribe 12 = .ok (.goto 8, 3) := by decide +kernel
theorem dX10_subscribe_15 : decode cX10_subscribe 15 = .ok (.aload_n 0, 1) := by decide +kernel
theorem dX10_subscribe_16 : decode cX10_subscribe 16 = .ok (.iload_n 3, 1) := by decide +kernel
theorem dX10_subscribe_17 : decode cX10_subscribe 17 = .ok (.invokevirtual 361, 3) := by decide +kernel
theorem dX10_subscribe_20 : decode cX10_subscribe 20 = .ok (.aload_n 0, 1) := by decide +kernel
theorem dX10_subscribe_21 : decode cX10_subscribe 21 = .ok (.getfield 15, 3) := by decide +kernel
theorem dX10_subscribe_24 : decode cX10_subscribe 24 = .ok (.iload_n 1, 1) := by decide +kernel
theorem dX10_subscribe_25 : decode cX10_subscribe 25 = .ok (.aaload, 1) := by decide +kernel
theorem dX10_subscribe_26 : decode cX10_subscribe 26 = .ok (.astore 4, 2) := by decide +kernel
theorem dX10_subscribe_28 : decode cX10_subscribe 28 = .ok (.iload_n 2, 1) := by decide +kernel
theorem dX10_subscribe_29 : decode cX10_subscribe 29 = .ok (.ifCond .eq 11, 3) := by decide +kernel
theorem dX10_subscribe_32 : decode cX10_subscribe 32 = .ok (.aload 4, 2) := by decide +kernel
theorem dX10_subscribe_34 : decode cX10_subscribe 34 = .ok (.getfield 364, 3) := by decide +kernel
theorem dX10_subscribe_37 : decode cX10_subscribe 37 = .ok (.goto 8, 3) := by decide +kernel
theorem dX10_subscribe_40 : decode cX10_subscribe 40 = .ok (.aload 4, 2) := by decide +kernel
theorem dX10_subscribe_42 : decode cX10_subscribe 42 = .ok (.getfield 367, 3) := by decide +kernel
theorem dX10_subscribe_45 : decode cX10_subscribe 45 = .ok (.astore 5, 2) := by decide +kernel
theorem dX10_subscribe_47 : decode cX10_subscribe 47 = .ok (.aload 5, 2) := by decide +kernel
theorem dX10_subscribe_49 : decode cX10_subscribe 49 = .ok (.iload_n 3, 1) := by decide +kernel
theorem dX10_subscribe_50 : decode cX10_subscribe 50 = .ok (.iaload, 1) := by decide +kernel
theorem dX10_subscribe_51 : decode cX10_subscribe 51 = .ok (.sipush 2001, 3) := by decide +kernel
theorem dX10_subscribe_54 : decode cX10_subscribe 54 = .ok (.if_icmp .eq 7, 3) := by decide +kernel
theorem dX10_subscribe_57 : decode cX10_subscribe 57 = .ok (.iconst 1, 1) := by decide +kernel
theorem dX10_subscribe_58 : decode cX10_subscribe 58 = .ok (.goto 4, 3) := by decide +kernel
theorem dX10_subscribe_61 : decode cX10_subscribe 61 = .ok (.iconst 0, 1) := by decide +kernel
theorem dX10_subscribe_62 : decode cX10_subscribe 62 = .ok (.istore 6, 2) := by decide +kernel
theorem dX10_subscribe_64 : decode cX10_subscribe 64 = .ok (.iload 6, 2) := by decide +kernel
theorem dX10_subscribe_66 : decode cX10_subscribe 66 = .ok (.ifCond .ne 11, 3) := by decide +kernel
theorem dX10_subscribe_69 : decode cX10_subscribe 69 = .ok (.aload 5, 2) := by decide +kernel
theorem dX10_subscribe_71 : decode cX10_subscribe 71 = .ok (.iload_n 3, 1) := by decide +kernel
theorem dX10_subscribe_72 : decode cX10_subscribe 72 = .ok (.aload_n 0, 1) := by decide +kernel
theorem dX10_subscribe_73 : decode cX10_subscribe 73 = .ok (.getfield 73, 3) := by decide +kernel
theorem dX10_subscribe_76 : decode cX10_subscribe 76 = .ok (.iastore, 1) := by decide +kernel
theorem dX10_subscribe_77 : decode cX10_subscribe 77 = .ok (.iload 6, 2) := by decide +kernel
theorem dX10_subscribe_79 : decode cX10_subscribe 79 = .ok (.ifCond .ne 7, 3) := by decide +kernel
theorem dX10_subscribe_82 : decode cX10_subscribe 82 = .ok (.iconst 1, 1) := by decide +kernel
theorem dX10_subscribe_83 : decode cX10_subscribe 83 = .ok (.goto 4, 3) := by decide +kernel
theorem dX10_subscribe_86 : decode cX10_subscribe 86 = .ok (.iconst 0, 1) := by decide +kernel
theorem dX10_subscribe_87 : decode cX10_subscribe 87 = .ok (.ireturn, 1) := by decide +kernel
theorem dL_does_0 : decode cL_does 0 = .ok (.iload_n 1, 1) := by decide +kernel
theorem dL_does_1 : decode cL_does 1 = .ok (.bipush 17, 2) := by decide +kernel
theorem dL_does_3 : decode cL_does 3 = .ok (.if_icmp .ge 15, 3) := by decide +kernel
theorem dL_does_6 : decode cL_does 6 = .ok (.aload_n 0, 1) := by decide +kernel
theorem dL_does_7 : decode cL_does 7 = .ok (.iload_n 1, 1) := by decide +kernel
theorem dL_does_8 : decode cL_does 8 = .ok (.iload_n 2, 1) := by decide +kernel
theorem dL_does_9 : decode cL_does 9 = .ok (.iload_n 3, 1) := by decide +kernel
theorem dL_does_10 : decode cL_does 10 = .ok (.iload 4, 2) := by decide +kernel
theorem dL_does_12 : decode cL_does 12 = .ok (.invokestatic 8, 3) := by decide +kernel
theorem dL_does_15 : decode cL_does 15 = .ok (.goto 177, 3) := by decide +kernel
theorem dL_does_18 : decode cL_does 18 = .ok (.iload_n 1, 1) := by decide +kernel
theorem dL_does_19 : decode cL_does 19 = .ok (.bipush 26, 2) := by decide +kernel
theorem dL_does_21 : decode cL_does 21 = .ok (.if_icmp .ge 17, 3) := by decide +kernel
theorem dL_does_24 : decode cL_does 24 = .ok (.aload_n 0, 1) := by decide +kernel
theorem dL_does_25 : decode cL_does 25 = .ok (.iload_n 1, 1) := by decide +kernel
theorem dL_does_26 : decode cL_does 26 = .ok (.iload_n 2, 1) := by decide +kernel
theorem dL_does_27 : decode cL_does 27 = .ok (.iload_n 3, 1) := by decide +kernel
theorem dL_does_28 : decode cL_does 28 = .ok (.iload 4, 2) := by decide +kernel
theorem dL_does_30 : decode cL_does 30 = .ok (.iload 5, 2) := by decide +kernel
theorem dL_does_32 : decode cL_does 32 = .ok (.invokestatic 14, 3) := by decide +kernel
theorem dL_does_35 : decode cL_does 35 = .ok (.goto 157, 3) := by decide +kernel
theorem dL_does_38 : decode cL_does 38 = .ok (.iload_n 1, 1) := by decide +kernel
theorem dL_does_39 : decode cL_does 39 = .ok (.bipush 26, 2) := by decide +kernel
theorem dL_does_41 : decode cL_does 41 = .ok (.if_icmp .ne 24, 3) := by decide +kernel
theorem dL_does_44 : decode cL_does 44 = .ok (.aload_n 0, 1) := by decide +kernel
theorem dL_does_45 : decode cL_does 45 = .ok (.iload_n 2, 1) := by decide +kernel
theorem dL_does_46 : decode cL_does 46 = .ok (.iload_n 3, 1) := by decide +kernel
theorem dL_does_47 : decode cL_does 47 = .ok (.iconst 1, 1) := by decide +kernel
theorem dL_does_48 : decode cL_does 48 = .ok (.if_icmp .ne 7, 3) := by decide +kernel
theorem dL_does_51 : decode cL_does 51 = .ok (.iconst 1, 1) := by decide +kernel
theorem dL_does_52 : decode cL_does 52 = .ok (.goto 4, 3) := by decide +kernel
theorem dL_does_55 : decode cL_does 55 = .ok (.iconst 0, 1) := by decide +kernel
theorem dL_does_56 : decode cL_does 56 = .ok (.invokevirtual 18, 3) := by decide +kernel
theorem dL_does_59 : decode cL_does 59 = .ok (.invokestatic 24, 3) := by decide +kernel
theorem dL_does_62 : decode cL_does 62 = .ok (.goto 130, 3) := by decide +kernel
theorem dL_does_65 : decode cL_does 65 = .ok (.iload_n 1, 1) := by decide +kernel
theorem dL_does_66 : decode cL_does 66 = .ok (.bipush 27, 2) := by decide +kernel
theorem dL_does_68 : decode cL_does 68 = .ok (.if_icmp .ne 14, 3) := by decide +kernel
theorem dL_does_71 : decode cL_does 71 = .ok (.aload_n 0, 1) := by decide +kernel
theorem dL_does_72 : decode cL_does 72 = .ok (.iload_n 2, 1) := by decide +kernel
theorem dL_does_73 : decode cL_does 73 = .ok (.iload_n 3, 1) := by decide +kernel
theorem dL_does_74 : decode cL_does 74 = .ok (.iload 4, 2) := by decide +kernel
theorem dL_does_76 : decode cL_does 76 = .ok (.invokevirtual 28, 3) := by decide +kernel
theorem dL_does_79 : decode cL_does 79 = .ok (.goto 113, 3) := by decide +kernel
theorem dL_does_82 : decode cL_does 82 = .ok (.iload_n 1, 1) := by decide +kernel
theorem dL_does_83 : decode cL_does 83 = .ok (.bipush 28, 2) := by decide +kernel
theorem dL_does_85 : decode cL_does 85 = .ok (.if_icmp .ne 15, 3) := by decide +kernel
theorem dL_does_88 : decode cL_does 88 = .ok (.aload_n 0, 1) := by decide +kernel
theorem dL_does_89 : decode cL_does 89 = .ok (.iload_n 2, 1) := by decide +kernel
theorem dL_does_90 : decode cL_does 90 = .ok (.iload_n 3, 1) := by decide +kernel
theorem dL_does_91 : decode cL_does 91 = .ok (.invokevirtual 32, 3) := by decide +kernel
theorem dL_does_94 : decode cL_does 94 = .ok (.invokestatic 24, 3) := by decide +kernel
theorem dL_does_97 : decode cL_does 97 = .ok (.goto 95, 3) := by decide +kernel
theorem dL_does_100 : decode cL_does 100 = .ok (.iload_n 1, 1) := by decide +kernel
theorem dL_does_101 : decode cL_does 101 = .ok (.bipush 29, 2) := by decide +kernel
theorem dL_does_103 : decode cL_does 103 = .ok (.if_icmp .ne 12, 3) := by decide +kernel
theorem dL_does_106 : decode cL_does 106 = .ok (.aload_n 0, 1) := by decide +kernel
theorem dL_does_107 : decode cL_does 107 = .ok (.iload_n 2, 1) := by decide +kernel
theorem dL_does_108 : decode cL_does 108 = .ok (.iload_n 3, 1) := by decide +kernel
theorem dL_does_109 : decode cL_does 109 = .ok (.invokevirtual 36, 3) := by decide +kernel
theorem dL_does_112 : decode cL_does 112 = .ok (.goto 80, 3) := by decide +kernel
theorem dL_does_115 : decode cL_does 115 = .ok (.iload_n 1, 1) := by decide +kernel
theorem dL_does_116 : decode cL_does 116 = .ok (.bipush 30, 2) := by decide +kernel
theorem dL_does_118 : decode cL_does 118 = .ok (.if_icmp .ne 12, 3) := by decide +kernel
theorem dL_does_121 : decode cL_does 121 = .ok (.aload_n 0, 1) := by decide +kernel
theorem dL_does_122 : decode cL_does 122 = .ok (.iload_n 2, 1) := by decide +kernel
theorem dL_does_123 : decode cL_does 123 = .ok (.iload_n 3, 1) := by decide +kernel
theorem dL_does_124 : decode cL_does 124 = .ok (.invokevirtual 40, 3) := by decide +kernel
theorem dL_does_127 : decode cL_does 127 = .ok (.goto 65, 3) := by decide +kernel
theorem dL_does_130 : decode cL_does 130 = .ok (.iload_n 1, 1) := by decide +kernel
theorem dL_does_131 : decode cL_does 131 = .ok (.bipush 31, 2) := by decide +kernel
theorem dL_does_133 : decode cL_does 133 = .ok (.if_icmp .ne 11, 3) := by decide +kernel
theorem dL_does_136 : decode cL_does 136 = .ok (.aload_n 0, 1) := by decide +kernel
theorem dL_does_137 : decode cL_does 137 = .ok (.iload_n 2, 1) := by decide +kernel
theorem dL_does_138 : decode cL_does 138 = .ok (.invokevirtual 43, 3) := by decide +kernel
theorem dL_does_141 : decode cL_does 141 = .ok (.goto 51, 3) := by decide +kernel
theorem dL_does_144 : decode cL_does 144 = .ok (.iload_n 1, 1) := by decide +kernel
theorem dL_does_145 : decode cL_does 145 = .ok (.bipush 32, 2) := by decide +kernel
theorem dL_does_147 : decode cL_does 147 = .ok (.if_icmp .ne 26, 3) := by decide +kernel
theorem dL_does_150 : decode cL_does 150 = .ok (.aload_n 0, 1) := by decide +kernel
theorem dL_does_151 : decode cL_does 151 = .ok (.iload_n 2, 1) := by decide +kernel
theorem dL_does_152 : decode cL_does 152 = .ok (.iload_n 3, 1) := by decide +kernel
theorem dL_does_153 : decode cL_does 153 = .ok (.iconst 1, 1) := by decide +kernel
theorem dL_does_154 : decode cL_does 154 = .ok (.if_icmp .ne 7, 3) := by decide +kernel
theorem dL_does_157 : decode cL_does 157 = .ok (.iconst 1, 1) := by decide +kernel
theorem dL_does_158 : decode cL_does 158 = .ok (.goto 4, 3) := by decide +kernel
theorem dL_does_161 : decode cL_does 161 = .ok (.iconst 0, 1) := by decide +kernel
theorem dL_does_162 : decode cL_does 162 = .ok (.iload 4, 2) := by decide +kernel
theorem dL_does_164 : decode cL_does 164 = .ok (.invokevirtual 47, 3) := by decide +kernel
theorem dL_does_167 : decode cL_does 167 = .ok (.invokestatic 24, 3) := by decide +kernel
theorem dL_does_170 : decode cL_does 170 = .ok (.goto 22, 3) := by decide +kernel
theorem dL_does_173 : decode cL_does 173 = .ok (.iload_n 1, 1) := by decide +kernel
theorem dL_does_174 : decode cL_does 174 = .ok (.bipush 33, 2) := by decide +kernel
theorem dL_does_176 : decode cL_does 176 = .ok (.if_icmp .ne 11, 3) := by decide +kernel
theorem dL_does_179 : decode cL_does 179 = .ok (.aload_n 0, 1) := by decide +kernel
theorem dL_does_180 : decode cL_does 180 = .ok (.iload_n 2, 1) := by decide +kernel
theorem dL_does_181 : decode cL_does 181 = .ok (.invokevirtual 51, 3) := by decide +kernel
theorem dL_does_184 : decode cL_does 184 = .ok (.goto 8, 3) := by decide +kernel
theorem dL_does_187 : decode cL_does 187 = .ok (.aload_n 0, 1) := by decide +kernel
theorem dL_does_188 : decode cL_does 188 = .ok (.iload_n 2, 1) := by decide +kernel
theorem dL_does_189 : decode cL_does 189 = .ok (.invokevirtual 54, 3) := by decide +kernel
theorem dL_does_192 : decode cL_does 192 = .ok (.ireturn, 1) := by decide +kernel
theorem dL_does_193 : decode cL_does 193 = .ok (.astore 6, 2) := by decide +kernel
theorem dL_does_195 : decode cL_does 195 = .ok (.ldc 59, 2) := by decide +kernel
theorem dL_does_197 : decode cL_does 197 = .ok (.ireturn, 1) := by decide +kernel
theorem dL_does_198 : decode cL_does 198 = .ok (.astore 6, 2) := by decide +kernel
theorem dL_does_200 : decode cL_does 200 = .ok (.ldc 59, 2) := by decide +kernel
theorem dL_does_202 : decode cL_does 202 = .ok (.ireturn, 1) := by decide +kernel
theorem dL_does_203 : decode cL_does 203 = .ok (.astore 6, 2) := by decide +kernel
theorem dL_does_205 : decode cL_does 205 = .ok (.ldc 59, 2) := by decide +kernel
theorem dL_does_207 : decode cL_does 207 = .ok (.ireturn, 1) := by decide +kernel
theorem dL_low_0 : decode cL_low 0 = .ok (.iload_n 0, 1) := by decide +kernel
theorem dL_low_1 : decode cL_low 1 = .ok (.ldc 7, 2) := by decide +kernel
theorem dL_low_3 : decode cL_low 3 = .ok (.iand, 1) := by decide +kernel
theorem dL_low_4 : decode cL_low 4 = .ok (.iload_n 1, 1) := by decide +kernel
theorem dL_low_5 : decode cL_low 5 = .ok (.irem, 1) := by decide +kernel
theorem dL_low_6 : decode cL_low 6 = .ok (.ireturn, 1) := by decide +kernel
theorem dL_types_0 : decode cL_types 0 = .ok (.iconst 1, 1) := by decide +kernel
theorem dL_types_1 : decode cL_types 1 = .ok (.istore 4, 2) := by decide +kernel
theorem dL_types_3 : decode cL_types 3 = .ok (.iload_n 1, 1) := by decide +kernel
theorem dL_types_4 : decode cL_types 4 = .ok (.istore 5, 2) := by decide +kernel
theorem dL_types_6 : decode cL_types 6 = .ok (.iload 5, 2) := by decide +kernel
theorem dL_types_8 : decode cL_types 8 = .ok (.ifCond .le 90, 3) := by decide +kernel
theorem dL_types_11 : decode cL_types 11 = .ok (.iload 4, 2) := by decide +kernel
theorem dL_types_13 : decode cL_types 13 = .ok (.ifCond .eq 85, 3) := by decide +kernel
theorem dL_types_16 : decode cL_types 16 = .ok (.iload 5, 2) := by decide +kernel
theorem dL_types_18 : decode cL_types 18 = .ok (.bipush 10, 2) := by decide +kernel
theorem dL_types_20 : decode cL_types 20 = .ok (.irem, 1) := by decide +kernel
theorem dL_types_21 : decode cL_types 21 = .ok (.istore 6, 2) := by decide +kernel
theorem dL_types_23 : decode cL_types 23 = .ok (.aload_n 0, 1) := by decide +kernel
theorem dL_types_24 : decode cL_types 24 = .ok (.bipush 21, 2) := by decide +kernel
theorem dL_types_26 : decode cL_types 26 = .ok (.iload 6, 2) := by decide +kernel
theorem dL_types_28 : decode cL_types 28 = .ok (.iconst 1, 1) := by decide +kernel
theorem dL_types_29 : decode cL_types 29 = .ok (.if_icmp .ne 8, 3) := by decide +kernel
theorem dL_types_32 : decode cL_types 32 = .ok (.bipush 33, 2) := by decide +kernel
theorem dL_types_34 : decode cL_types 34 = .ok (.goto 38, 3) := by decide +kernel
theorem dL_types_37 : decode cL_types 37 = .ok (.iload 6, 2) := by decide +kernel
theorem dL_types_39 : decode cL_types 39 = .ok (.iconst 2, 1) := by decide +kernel
theorem dL_types_40 : decode cL_types 40 = .ok (.if_icmp .ne 8, 3) := by decide +kernel
theorem dL_types_43 : decode cL_types 43 = .ok (.bipush 40, 2) := by decide +kernel
theorem dL_types_45 : decode cL_types 45 = .ok (.goto 27, 3) := by decide +kernel
theorem dL_types_48 : decode cL_types 48 = .ok (.iload 6, 2) := by decide +kernel
theorem dL_types_50 : decode cL_types 50 = .ok (.iconst 3, 1) := by decide +kernel
theorem dL_types_51 : decode cL_types 51 = .ok (.if_icmp .ne 8, 3) := by decide +kernel
theorem dL_types_54 : decode cL_types 54 = .ok (.bipush 41, 2) := by decide +kernel
theorem dL_types_56 : decode cL_types 56 = .ok (.goto 16, 3) := by decide +kernel
theorem dL_types_59 : decode cL_types 59 = .ok (.iload 6, 2) := by decide +kernel
theorem dL_types_61 : decode cL_types 61 = .ok (.iconst 4, 1) := by decide +kernel
theorem dL_types_62 : decode cL_types 62 = .ok (.if_icmp .ne 8, 3) := by decide +kernel
theorem dL_types_65 : decode cL_types 65 = .ok (.bipush 38, 2) := by decide +kernel
theorem dL_types_67 : decode cL_types 67 = .ok (.goto 5, 3) := by decide +kernel
theorem dL_types_70 : decode cL_types 70 = .ok (.bipush 124, 2) := by decide +kernel
theorem dL_types_72 : decode cL_types 72 = .ok (.iconst 1, 1) := by decide +kernel
theorem dL_types_73 : decode cL_types 73 = .ok (.iconst 0, 1) := by decide +kernel
theorem dL_types_74 : decode cL_types 74 = .ok (.iconst 0, 1) := by decide +kernel
theorem dL_types_75 : decode cL_types 75 = .ok (.invokestatic 152, 3) := by decide +kernel
theorem dL_types_78 : decode cL_types 78 = .ok (.ifCond .le 7, 3) := by decide +kernel
theorem dL_types_81 : decode cL_types 81 = .ok (.iconst 1, 1) := by decide +kernel
theorem dL_types_82 : decode cL_types 82 = .ok (.goto 4, 3) := by decide +kernel
theorem dL_types_85 : decode cL_types 85 = .ok (.iconst 0, 1) := by decide +kernel
theorem dL_types_86 : decode cL_types 86 = .ok (.istore 4, 2) := by decide +kernel
theorem dL_types_88 : decode cL_types 88 = .ok (.iload 5, 2) := by decide +kernel
theorem dL_types_90 : decode cL_types 90 = .ok (.bipush 10, 2) := by decide +kernel
theorem dL_types_92 : decode cL_types 92 = .ok (.idiv, 1) := by decide +kernel
theorem dL_types_93 : decode cL_types 93 = .ok (.istore 5, 2) := by decide +kernel
theorem dL_types_95 : decode cL_types 95 = .ok (.goto (-89), 3) := by decide +kernel
theorem dL_types_98 : decode cL_types 98 = .ok (.iload_n 2, 1) := by decide +kernel
theorem dL_types_99 : decode cL_types 99 = .ok (.iconst 2, 1) := by decide +kernel
theorem dL_types_100 : decode cL_types 100 = .ok (.if_icmp .ne 36, 3) := by decide +kernel
theorem dL_types_103 : decode cL_types 103 = .ok (.iload 4, 2) := by decide +kernel
theorem dL_types_105 : decode cL_types 105 = .ok (.ifCond .eq 29, 3) := by decide +kernel
theorem dL_types_108 : decode cL_types 108 = .ok (.aload_n 0, 1) := by decide +kernel
theorem dL_types_109 : decode cL_types 109 = .ok (.bipush 21, 2) := by decide +kernel
theorem dL_types_111 : decode cL_types 111 = .ok (.bipush 114, 2) := by decide +kernel
theorem dL_types_113 : decode cL_types 113 = .ok (.bipush 48, 2) := by decide +kernel
theorem dL_types_115 : decode cL_types 115 = .ok (.iload_n 3, 1) := by decide +kernel
theorem dL_types_116 : decode cL_types 116 = .ok (.iadd, 1) := by decide +kernel
theorem dL_types_117 : decode cL_types 117 = .ok (.bipush 8, 2) := by decide +kernel
theorem dL_types_119 : decode cL_types 119 = .ok (.ishl, 1) := by decide +kernel
theorem dL_types_120 : decode cL_types 120 = .ok (.ior, 1) := by decide +kernel
theorem dL_types_121 : decode cL_types 121 = .ok (.iconst 2, 1) := by decide +kernel
theorem dL_types_122 : decode cL_types 122 = .ok (.iconst 0, 1) := by decide +kernel
theorem dL_types_123 : decode cL_types 123 = .ok (.iconst 0, 1) := by decide +kernel
theorem dL_types_124 : decode cL_types 124 = .ok (.invokestatic 152, 3) := by decide +kernel
theorem dL_types_127 : decode cL_types 127 = .ok (.ifCond .le 7, 3) := by decide +kernel
theorem dL_types_130 : decode cL_types 130 = .ok (.iconst 1, 1) := by decide +kernel
theorem dL_types_131 : decode cL_types 131 = .ok (.goto 4, 3) := by decide +kernel
theorem dL_types_134 : decode cL_types 134 = .ok (.iconst 0, 1) := by decide +kernel
theorem dL_types_135 : decode cL_types 135 = .ok (.ireturn, 1) := by decide +kernel
theorem dL_types_136 : decode cL_types 136 = .ok (.iload_n 2, 1) := by decide +kernel
theorem dL_types_137 : decode cL_types 137 = .ok (.iconst 2, 1) := by decide +kernel
theorem dL_types_138 : decode cL_types 138 = .ok (.if_icmp .le 8, 3) := by decide +kernel
theorem dL_types_141 : decode cL_types 141 = .ok (.iload 4, 2) := by decide +kernel
theorem dL_types_143 : decode cL_types 143 = .ok (.goto 58, 3) := by decide +kernel
theorem dL_types_146 : decode cL_types 146 = .ok (.iload 4, 2) := by decide +kernel
theorem dL_types_148 : decode cL_types 148 = .ok (.ifCond .eq 52, 3) := by decide +kernel
theorem dL_types_151 : decode cL_types 151 = .ok (.aload_n 0, 1) := by decide +kernel
theorem dL_types_152 : decode cL_types 152 = .ok (.bipush 21, 2) := by decide +kernel
theorem dL_types_154 : decode cL_types 154 = .ok (.iload_n 2, 1) := by decide +kernel
theorem dL_types_155 : decode cL_types 155 = .ok (.ifCond .ne 8, 3) := by decide +kernel
theorem dL_types_158 : decode cL_types 158 = .ok (.bipush 116, 2) := by decide +kernel
theorem dL_types_160 : decode cL_types 160 = .ok (.goto 5, 3) := by decide +kernel
theorem dL_types_163 : decode cL_types 163 = .ok (.bipush 97, 2) := by decide +kernel
theorem dL_types_165 : decode cL_types 165 = .ok (.bipush 48, 2) := by decide +kernel
theorem dL_types_167 : decode cL_types 167 = .ok (.iload_n 3, 1) := by decide +kernel
theorem dL_types_168 : decode cL_types 168 = .ok (.bipush 10, 2) := by decide +kernel
theorem dL_types_170 : decode cL_types 170 = .ok (.idiv, 1) := by decide +kernel
theorem dL_types_171 : decode cL_types 171 = .ok (.iadd, 1) := by decide +kernel
theorem dL_types_172 : decode cL_types 172 = .ok (.bipush 8, 2) := by decide +kernel
theorem dL_types_174 : decode cL_types 174 = .ok (.ishl, 1) := by decide +kernel
theorem dL_types_175 : decode cL_types 175 = .ok (.ior, 1) := by decide +kernel
theorem dL_types_176 : decode cL_types 176 = .ok (.bipush 48, 2) := by decide +kernel
theorem dL_types_178 : decode cL_types 178 = .ok (.iload_n 3, 1) := by decide +kernel
theorem dL_types_179 : decode cL_types 179 = .ok (.bipush 10, 2) := by decide +kernel
theorem dL_types_181 : decode cL_types 181 = .ok (.irem, 1) := by decide +kernel
theorem dL_types_182 : decode cL_types 182 = .ok (.iadd, 1) := by decide +kernel
theorem dL_types_183 : decode cL_types 183 = .ok (.bipush 16, 2) := by decide +kernel
theorem dL_types_185 : decode cL_types 185 = .ok (.ishl, 1) := by decide +kernel
theorem dL_types_186 : decode cL_types 186 = .ok (.ior, 1) := by decide +kernel
theorem dL_types_187 : decode cL_types 187 = .ok (.iconst 3, 1) := by decide +kernel
theorem dL_types_188 : decode cL_types 188 = .ok (.iconst 0, 1) := by decide +kernel
theorem dL_types_189 : decode cL_types 189 = .ok (.iconst 0, 1) := by decide +kernel
theorem dL_types_190 : decode cL_types 190 = .ok (.invokestatic 152, 3) := by decide +kernel
theorem dL_types_193 : decode cL_types 193 = .ok (.ifCond .le 7, 3) := by decide +kernel
theorem dL_types_196 : decode cL_types 196 = .ok (.iconst 1, 1) := by decide +kernel
theorem dL_types_197 : decode cL_types 197 = .ok (.goto 4, 3) := by decide +kernel
theorem dL_types_200 : decode cL_types 200 = .ok (.iconst 0, 1) := by decide +kernel
theorem dL_types_201 : decode cL_types 201 = .ok (.ireturn, 1) := by decide +kernel
theorem dL_item_0 : decode cL_item 0 = .ok (.iload_n 1, 1) := by decide +kernel
theorem dL_item_1 : decode cL_item 1 = .ok (.bipush 6, 2) := by decide +kernel
theorem dL_item_3 : decode cL_item 3 = .ok (.invokestatic 155, 3) := by decide +kernel
theorem dL_item_6 : decode cL_item 6 = .ok (.istore_n 2, 1) := by decide +kernel
theorem dL_item_7 : decode cL_item 7 = .ok (.iload_n 1, 1) := by decide +kernel
theorem dL_item_8 : decode cL_item 8 = .ok (.iconst 5, 1) := by decide +kernel
theorem dL_item_9 : decode cL_item 9 = .ok (.ishr, 1) := by decide +kernel
theorem dL_item_10 : decode cL_item 10 = .ok (.iconst 4, 1) := by decide +kernel
theorem dL_item_11 : decode cL_item 11 = .ok (.invokestatic 155, 3) := by decide +kernel
theorem dL_item_14 : decode cL_item 14 = .ok (.ifCond .ne 7, 3) := by decide +kernel
theorem dL_item_17 : decode cL_item 17 = .ok (.iconst 1, 1) := by decide +kernel
theorem dL_item_18 : decode cL_item 18 = .ok (.goto 4, 3) := by decide +kernel
theorem dL_item_21 : decode cL_item 21 = .ok (.iconst 0, 1) := by decide +kernel
theorem dL_item_22 : decode cL_item 22 = .ok (.istore_n 3, 1) := by decide +kernel
theorem dL_item_23 : decode cL_item 23 = .ok (.aload_n 0, 1) := by decide +kernel
theorem dL_item_24 : decode cL_item 24 = .ok (.iload_n 3, 1) := by decide +kernel
theorem dL_item_25 : decode cL_item 25 = .ok (.iload_n 2, 1) := by decide +kernel
theorem dL_item_26 : decode cL_item 26 = .ok (.iconst 3, 1) := by decide +kernel
theorem dL_item_27 : decode cL_item 27 = .ok (.if_icmp .ge 7, 3) := by decide +kernel
theorem dL_item_30 : decode cL_item 30 = .ok (.iconst 0, 1) := by decide +kernel
theorem dL_item_31 : decode cL_item 31 = .ok (.goto 13, 3) := by decide +kernel
theorem dL_item_34 : decode cL_item 34 = .ok (.iload_n 2, 1) := by decide +kernel
theorem dL_item_35 : decode cL_item 35 = .ok (.iconst 5, 1) := by decide +kernel
theorem dL_item_36 : decode cL_item 36 = .ok (.if_icmp .ge 7, 3) := by decide +kernel
theorem dL_item_39 : decode cL_item 39 = .ok (.iconst 1, 1) := by decide +kernel
theorem dL_item_40 : decode cL_item 40 = .ok (.goto 4, 3) := by decide +kernel
theorem dL_item_43 : decode cL_item 43 = .ok (.iconst 2, 1) := by decide +kernel
theorem dL_item_44 : decode cL_item 44 = .ok (.iload_n 1, 1) := by decide +kernel
theorem dL_item_45 : decode cL_item 45 = .ok (.iconst 3, 1) := by decide +kernel
theorem dL_item_46 : decode cL_item 46 = .ok (.ishr, 1) := by decide +kernel
theorem dL_item_47 : decode cL_item 47 = .ok (.iload_n 2, 1) := by decide +kernel
theorem dL_item_48 : decode cL_item 48 = .ok (.iconst 3, 1) := by decide +kernel
theorem dL_item_49 : decode cL_item 49 = .ok (.if_icmp .ge 8, 3) := by decide +kernel
theorem dL_item_52 : decode cL_item 52 = .ok (.bipush 14, 2) := by decide +kernel
theorem dL_item_54 : decode cL_item 54 = .ok (.goto 14, 3) := by decide +kernel
theorem dL_item_57 : decode cL_item 57 = .ok (.iload_n 2, 1) := by decide +kernel
theorem dL_item_58 : decode cL_item 58 = .ok (.iconst 5, 1) := by decide +kernel
theorem dL_item_59 : decode cL_item 59 = .ok (.if_icmp .ge 8, 3) := by decide +kernel
theorem dL_item_62 : decode cL_item 62 = .ok (.bipush 12, 2) := by decide +kernel
theorem dL_item_64 : decode cL_item 64 = .ok (.goto 4, 3) := by decide +kernel
theorem dL_item_67 : decode cL_item 67 = .ok (.iconst 4, 1) := by decide +kernel
theorem dL_item_68 : decode cL_item 68 = .ok (.invokestatic 155, 3) := by decide +kernel
theorem dL_item_71 : decode cL_item 71 = .ok (.invokestatic 158, 3) := by decide +kernel
theorem dL_item_74 : decode cL_item 74 = .ok (.ifCond .eq 7, 3) := by decide +kernel
theorem dL_item_77 : decode cL_item 77 = .ok (.iconst 1, 1) := by decide +kernel
theorem dL_item_78 : decode cL_item 78 = .ok (.goto 4, 3) := by decide +kernel
theorem dL_item_81 : decode cL_item 81 = .ok (.iconst 0, 1) := by decide +kernel
theorem dL_item_82 : decode cL_item 82 = .ok (.ireturn, 1) := by decide +kernel
theorem dX10_wipe_0 : decode cX10_wipe 0 = .ok (.aload_n 0, 1) := by decide +kernel
theorem dX10_wipe_1 : decode cX10_wipe 1 = .ok (.getfield 41, 3) := by decide +kernel
theorem dX10_wipe_4 : decode cX10_wipe 4 = .ok (.getfield 263, 3) := by decide +kernel
theorem dX10_wipe_7 : decode cX10_wipe 7 = .ok (.istore_n 1, 1) := by decide +kernel
theorem dX10_wipe_8 : decode cX10_wipe 8 = .ok (.aload_n 0, 1) := by decide +kernel
theorem dX10_wipe_9 : decode cX10_wipe 9 = .ok (.getfield 41, 3) := by decide +kernel
theorem dX10_wipe_12 : decode cX10_wipe 12 = .ok (.iconst 0, 1) := by decide +kernel
theorem dX10_wipe_13 : decode cX10_wipe 13 = .ok (.putfield 263, 3) := by decide +kernel
theorem dX10_wipe_16 : decode cX10_wipe 16 = .ok (.iload_n 1, 1) := by decide +kernel
theorem dX10_wipe_17 : decode cX10_wipe 17 = .ok (.ireturn, 1) := by decide +kernel
theorem dL_act_0 : decode cL_act 0 = .ok (.iload_n 1, 1) := by decide +kernel
theorem dL_act_1 : decode cL_act 1 = .ok (.bipush 18, 2) := by decide +kernel
theorem dL_act_3 : decode cL_act 3 = .ok (.ishr, 1) := by decide +kernel
theorem dL_act_4 : decode cL_act 4 = .ok (.bipush 7, 2) := by decide +kernel
theorem dL_act_6 : decode cL_act 6 = .ok (.iand, 1) := by decide +kernel
theorem dL_act_7 : decode cL_act 7 = .ok (.bipush 7, 2) := by decide +kernel
theorem dL_act_9 : decode cL_act 9 = .ok (.if_icmp .ne 7, 3) := by decide +kernel
theorem dL_act_12 : decode cL_act 12 = .ok (.iconst 1, 1) := by decide +kernel
theorem dL_act_13 : decode cL_act 13 = .ok (.goto 4, 3) := by decide +kernel
theorem dL_act_16 : decode cL_act 16 = .ok (.iconst 0, 1) := by decide +kernel
theorem dL_act_17 : decode cL_act 17 = .ok (.istore_n 2, 1) := by decide +kernel
theorem dL_act_18 : decode cL_act 18 = .ok (.iload_n 1, 1) := by decide +kernel
theorem dL_act_19 : decode cL_act 19 = .ok (.bipush 80, 2) := by decide +kernel
theorem dL_act_21 : decode cL_act 21 = .ok (.invokestatic 155, 3) := by decide +kernel
theorem dL_act_24 : decode cL_act 24 = .ok (.istore_n 3, 1) := by decide +kernel
theorem dL_act_25 : decode cL_act 25 = .ok (.iload_n 1, 1) := by decide +kernel
theorem dL_act_26 : decode cL_act 26 = .ok (.bipush 7, 2) := by decide +kernel
theorem dL_act_28 : decode cL_act 28 = .ok (.ishr, 1) := by decide +kernel
theorem dL_act_29 : decode cL_act 29 = .ok (.istore 4, 2) := by decide +kernel
theorem dL_act_31 : decode cL_act 31 = .ok (.iload_n 2, 1) := by decide +kernel
theorem dL_act_32 : decode cL_act 32 = .ok (.ifCond .eq 15, 3) := by decide +kernel
theorem dL_act_35 : decode cL_act 35 = .ok (.iload 4, 2) := by decide +kernel
theorem dL_act_37 : decode cL_act 37 = .ok (.bipush 35, 2) := by decide +kernel
theorem dL_act_39 : decode cL_act 39 = .ok (.invokestatic 155, 3) := by decide +kernel
theorem dL_act_42 : decode cL_act 42 = .ok (.iconst 1, 1) := by decide +kernel
theorem dL_act_43 : decode cL_act 43 = .ok (.isub, 1) := by decide +kernel
theorem dL_act_44 : decode cL_act 44 = .ok (.goto 10, 3) := by decide +kernel
theorem dL_act_47 : decode cL_act 47 = .ok (.iload 4, 2) := by decide +kernel
theorem dL_act_49 : decode cL_act 49 = .ok (.bipush 14, 2) := by decide +kernel
theorem dL_act_51 : decode cL_act 51 = .ok (.invokestatic 155, 3) := by decide +kernel
theorem dL_act_54 : decode cL_act 54 = .ok (.istore 5, 2) := by decide +kernel
theorem dL_act_56 : decode cL_act 56 = .ok (.iload_n 2, 1) := by decide +kernel
theorem dL_act_57 : decode cL_act 57 = .ok (.ifCond .eq 17, 3) := by decide +kernel
theorem dL_act_60 : decode cL_act 60 = .ok (.iload 4, 2) := by decide +kernel
theorem dL_act_62 : decode cL_act 62 = .ok (.iconst 3, 1) := by decide +kernel
theorem dL_act_63 : decode cL_act 63 = .ok (.ishr, 1) := by decide +kernel
theorem dL_act_64 : decode cL_act 64 = .ok (.bipush 23, 2) := by decide +kernel
theorem dL_act_66 : decode cL_act 66 = .ok (.invokestatic 155, 3) := by decide +kernel
theorem dL_act_69 : decode cL_act 69 = .ok (.iconst 1, 1) := by decide +kernel
theorem dL_act_70 : decode cL_act 70 = .ok (.isub, 1) := by decide +kernel
theorem dL_act_71 : decode cL_act 71 = .ok (.goto 12, 3) := by decide +kernel
theorem dL_act_74 : decode cL_act 74 = .ok (.iload 4, 2) := by decide +kernel
theorem dL_act_76 : decode cL_act 76 = .ok (.iconst 3, 1) := by decide +kernel
theorem dL_act_77 : decode cL_act 77 = .ok (.ishr, 1) := by decide +kernel
theorem dL_act_78 : decode cL_act 78 = .ok (.bipush 10, 2) := by decide +kernel
theorem dL_act_80 : decode cL_act 80 = .ok (.invokestatic 155, 3) := by decide +kernel
theorem dL_act_83 : decode cL_act 83 = .ok (.istore 6, 2) := by decide +kernel
theorem dL_act_85 : decode cL_act 85 = .ok (.iload_n 2, 1) := by decide +kernel
theorem dL_act_86 : decode cL_act 86 = .ok (.ifCond .eq 15, 3) := by decide +kernel
theorem dL_act_89 : decode cL_act 89 = .ok (.iload 4, 2) := by decide +kernel
theorem dL_act_91 : decode cL_act 91 = .ok (.bipush 33, 2) := by decide +kernel
theorem dL_act_93 : decode cL_act 93 = .ok (.invokestatic 155, 3) := by decide +kernel
theorem dL_act_96 : decode cL_act 96 = .ok (.iconst 1, 1) := by decide +kernel
theorem dL_act_97 : decode cL_act 97 = .ok (.isub, 1) := by decide +kernel
theorem dL_act_98 : decode cL_act 98 = .ok (.goto 10, 3) := by decide +kernel
theorem dL_act_101 : decode cL_act 101 = .ok (.iload 4, 2) := by decide +kernel
theorem dL_act_103 : decode cL_act 103 = .ok (.bipush 12, 2) := by decide +kernel
theorem dL_act_105 : decode cL_act 105 = .ok (.invokestatic 155, 3) := by decide +kernel
theorem dL_act_108 : decode cL_act 108 = .ok (.istore 7, 2) := by decide +kernel
theorem dL_act_110 : decode cL_act 110 = .ok (.iload_n 2, 1) := by decide +kernel
theorem dL_act_111 : decode cL_act 111 = .ok (.ifCond .eq 17, 3) := by decide +kernel
theorem dL_act_114 : decode cL_act 114 = .ok (.iload 4, 2) := by decide +kernel
theorem dL_act_116 : decode cL_act 116 = .ok (.iconst 3, 1) := by decide +kernel
theorem dL_act_117 : decode cL_act 117 = .ok (.ishr, 1) := by decide +kernel
theorem dL_act_118 : decode cL_act 118 = .ok (.bipush 33, 2) := by decide +kernel
theorem dL_act_120 : decode cL_act 120 = .ok (.invokestatic 155, 3) := by decide +kernel
theorem dL_act_123 : decode cL_act 123 = .ok (.iconst 1, 1) := by decide +kernel
theorem dL_act_124 : decode cL_act 124 = .ok (.isub, 1) := by decide +kernel
theorem dL_act_125 : decode cL_act 125 = .ok (.goto 12, 3) := by decide +kernel
theorem dL_act_128 : decode cL_act 128 = .ok (.iload 4, 2) := by decide +kernel
theorem dL_act_130 : decode cL_act 130 = .ok (.iconst 3, 1) := by decide +kernel
theorem dL_act_131 : decode cL_act 131 = .ok (.ishr, 1) := by decide +kernel
theorem dL_act_132 : decode cL_act 132 = .ok (.bipush 12, 2) := by decide +kernel
theorem dL_act_134 : decode cL_act 134 = .ok (.invokestatic 155, 3) := by decide +kernel
theorem dL_act_137 : decode cL_act 137 = .ok (.istore 8, 2) := by decide +kernel
theorem dL_act_139 : decode cL_act 139 = .ok (.iload_n 3, 1) := by decide +kernel
theorem dL_act_140 : decode cL_act 140 = .ok (.bipush 14, 2) := by decide +kernel
theorem dL_act_142 : decode cL_act 142 = .ok (.if_icmp .ge 227, 3) := by decide +kernel
theorem dL_act_145 : decode cL_act 145 = .ok (.iload_n 3, 1) := by decide +kernel
theorem dL_act_146 : decode cL_act 146 = .ok (.iconst 3, 1) := by decide +kernel
theorem dL_act_147 : decode cL_act 147 = .ok (.if_icmp .ge 55, 3) := by decide +kernel
theorem dL_act_150 : decode cL_act 150 = .ok (.aload_n 0, 1) := by decide +kernel
theorem dL_act_151 : decode cL_act 151 = .ok (.iconst 3, 1) := by decide +kernel
theorem dL_act_152 : decode cL_act 152 = .ok (.iload_n 2, 1) := by decide +kernel
theorem dL_act_153 : decode cL_act 153 = .ok (.ifCond .eq 8, 3) := by decide +kernel
theorem dL_act_156 : decode cL_act 156 = .ok (.iload 5, 2) := by decide +kernel
theorem dL_act_158 : decode cL_act 158 = .ok (.goto 10, 3) := by decide +kernel
theorem dL_act_161 : decode cL_act 161 = .ok (.iload 4, 2) := by decide +kernel
theorem dL_act_163 : decode cL_act 163 = .ok (.bipush 12, 2) := by decide +kernel
theorem dL_act_165 : decode cL_act 165 = .ok (.invokestatic 155, 3) := by decide +kernel
theorem dL_act_168 : decode cL_act 168 = .ok (.iload_n 2, 1) := by decide +kernel
theorem dL_act_169 : decode cL_act 169 = .ok (.ifCond .eq 17, 3) := by decide +kernel
theorem dL_act_172 : decode cL_act 172 = .ok (.iload 4, 2) := by decide +kernel
theorem dL_act_174 : decode cL_act 174 = .ok (.iconst 3, 1) := by decide +kernel
theorem dL_act_175 : decode cL_act 175 = .ok (.ishr, 1) := by decide +kernel
theorem dL_act_176 : decode cL_act 176 = .ok (.bipush 6, 2) := by decide +kernel
theorem dL_act_178 : decode cL_act 178 = .ok (.invokestatic 155, 3) := by decide +kernel
theorem dL_act_181 : decode cL_act 181 = .ok (.iconst 1, 1) := by decide +kernel
theorem dL_act_182 : decode cL_act 182 = .ok (.isub, 1) := by decide +kernel
theorem dL_act_183 : decode cL_act 183 = .ok (.goto 11, 3) := by decide +kernel
theorem dL_act_186 : decode cL_act 186 = .ok (.iload 4, 2) := by decide +kernel
theorem dL_act_188 : decode cL_act 188 = .ok (.iconst 3, 1) := by decide +kernel
theorem dL_act_189 : decode cL_act 189 = .ok (.ishr, 1) := by decide +kernel
theorem dL_act_190 : decode cL_act 190 = .ok (.iconst 4, 1) := by decide +kernel
theorem dL_act_191 : decode cL_act 191 = .ok (.invokestatic 155, 3) := by decide +kernel
theorem dL_act_194 : decode cL_act 194 = .ok (.iconst 0, 1) := by decide +kernel
theorem dL_act_195 : decode cL_act 195 = .ok (.iconst 0, 1) := by decide +kernel
theorem dL_act_196 : decode cL_act 196 = .ok (.invokestatic 152, 3) := by decide +kernel
theorem dL_act_199 : decode cL_act 199 = .ok (.goto 169, 3) := by decide +kernel
theorem dL_act_202 : decode cL_act 202 = .ok (.iload_n 3, 1) := by decide +kernel
theorem dL_act_203 : decode cL_act 203 = .ok (.iconst 5, 1) := by decide +kernel
theorem dL_act_204 : decode cL_act 204 = .ok (.if_icmp .ge 17, 3) := by decide +kernel
theorem dL_act_207 : decode cL_act 207 = .ok (.aload_n 0, 1) := by decide +kernel
theorem dL_act_208 : decode cL_act 208 = .ok (.iconst 4, 1) := by decide +kernel
theorem dL_act_209 : decode cL_act 209 = .ok (.iload 6, 2) := by decide +kernel
theorem dL_act_211 : decode cL_act 211 = .ok (.iload 5, 2) := by decide +kernel
theorem dL_act_213 : decode cL_act 213 = .ok (.iconst 0, 1) := by decide +kernel
theorem dL_act_214 : decode cL_act 214 = .ok (.iconst 0, 1) := by decide +kernel
theorem dL_act_215 : decode cL_act 215 = .ok (.invokestatic 152, 3) := by decide +kernel
theorem dL_act_218 : decode cL_act 218 = .ok (.goto 150, 3) := by decide +kernel
theorem dL_act_221 : decode cL_act 221 = .ok (.iload_n 3, 1) := by decide +kernel
theorem dL_act_222 : decode cL_act 222 = .ok (.iconst 5, 1) := by decide +kernel
theorem dL_act_223 : decode cL_act 223 = .ok (.if_icmp .ne 17, 3) := by decide +kernel
theorem dL_act_226 : decode cL_act 226 = .ok (.aload_n 0, 1) := by decide +kernel
theorem dL_act_227 : decode cL_act 227 = .ok (.iconst 5, 1) := by decide +kernel
theorem dL_act_228 : decode cL_act 228 = .ok (.iload 6, 2) := by decide +kernel
theorem dL_act_230 : decode cL_act 230 = .ok (.iload 5, 2) := by decide +kernel
theorem dL_act_232 : decode cL_act 232 = .ok (.iconst 0, 1) := by decide +kernel
theorem dL_act_233 : decode cL_act 233 = .ok (.iconst 0, 1) := by decide +kernel
theorem dL_act_234 : decode cL_act 234 = .ok (.invokestatic 152, 3) := by decide +kernel
theorem dL_act_237 : decode cL_act 237 = .ok (.goto 131, 3) := by decide +kernel
theorem dL_act_240 : decode cL_act 240 = .ok (.iload_n 3, 1) := by decide +kernel
theorem dL_act_241 : decode cL_act 241 = .ok (.bipush 9, 2) := by decide +kernel
theorem dL_act_243 : decode cL_act 243 = .ok (.if_icmp .ge 17, 3) := by decide +kernel
theorem dL_act_246 : decode cL_act 246 = .ok (.aload_n 0, 1) := by decide +kernel
theorem dL_act_247 : decode cL_act 247 = .ok (.bipush 6, 2) := by decide +kernel
theorem dL_act_249 : decode cL_act 249 = .ok (.iload 6, 2) := by decide +kernel
theorem dL_act_251 : decode cL_act 251 = .ok (.iconst 0, 1) := by decide +kernel
theorem dL_act_252 : decode cL_act 252 = .ok (.iconst 0, 1) := by decide +kernel
theorem dL_act_253 : decode cL_act 253 = .ok (.iconst 0, 1) := by decide +kernel
theorem dL_act_254 : decode cL_act 254 = .ok (.invokestatic 152, 3) := by decide +kernel
theorem dL_act_257 : decode cL_act 257 = .ok (.goto 111, 3) := by decide +kernel
theorem dL_act_260 : decode cL_act 260 = .ok (.iload_n 3, 1) := by decide +kernel
theorem dL_act_261 : decode cL_act 261 = .ok (.bipush 11, 2) := by decide +kernel
theorem dL_act_263 : decode cL_act 263 = .ok (.if_icmp .ge 17, 3) := by decide +kernel
theorem dL_act_266 : decode cL_act 266 = .ok (.aload_n 0, 1) := by decide +kernel
theorem dL_act_267 : decode cL_act 267 = .ok (.bipush 7, 2) := by decide +kernel
theorem dL_act_269 : decode cL_act 269 = .ok (.iload 6, 2) := by decide +kernel
theorem dL_act_271 : decode cL_act 271 = .ok (.iconst 0, 1) := by decide +kernel
theorem dL_act_272 : decode cL_act 272 = .ok (.iconst 0, 1) := by decide +kernel
theorem dL_act_273 : decode cL_act 273 = .ok (.iconst 0, 1) := by decide +kernel
theorem dL_act_274 : decode cL_act 274 = .ok (.invokestatic 152, 3) := by decide +kernel
theorem dL_act_277 : decode cL_act 277 = .ok (.goto 91, 3) := by decide +kernel
theorem dL_act_280 : decode cL_act 280 = .ok (.iload_n 3, 1) := by decide +kernel
theorem dL_act_281 : decode cL_act 281 = .ok (.bipush 11, 2) := by decide +kernel
theorem dL_act_283 : decode cL_act 283 = .ok (.if_icmp .ne 23, 3) := by decide +kernel
theorem dL_act_286 : decode cL_act 286 = .ok (.aload_n 0, 1) := by decide +kernel
theorem dL_act_287 : decode cL_act 287 = .ok (.bipush 8, 2) := by decide +kernel
theorem dL_act_289 : decode cL_act 289 = .ok (.iload 6, 2) := by decide +kernel
theorem dL_act_291 : decode cL_act 291 = .ok (.iload 4, 2) := by decide +kernel
theorem dL_act_293 : decode cL_act 293 = .ok (.bipush 6, 2) := by decide +kernel
theorem dL_act_295 : decode cL_act 295 = .ok (.ishr, 1) := by decide +kernel
theorem dL_act_296 : decode cL_act 296 = .ok (.iconst 1, 1) := by decide +kernel
theorem dL_act_297 : decode cL_act 297 = .ok (.iand, 1) := by decide +kernel
theorem dL_act_298 : decode cL_act 298 = .ok (.iconst 0, 1) := by decide +kernel
theorem dL_act_299 : decode cL_act 299 = .ok (.iconst 0, 1) := by decide +kernel
theorem dL_act_300 : decode cL_act 300 = .ok (.invokestatic 152, 3) := by decide +kernel
theorem dL_act_303 : decode cL_act 303 = .ok (.goto 65, 3) := by decide +kernel
theorem dL_act_306 : decode cL_act 306 = .ok (.iload_n 3, 1) := by decide +kernel
theorem dL_act_307 : decode cL_act 307 = .ok (.bipush 12, 2) := by decide +kernel
theorem dL_act_309 : decode cL_act 309 = .ok (.if_icmp .ne 42, 3) := by decide +kernel
theorem dL_act_312 : decode cL_act 312 = .ok (.aload_n 0, 1) := by decide +kernel
theorem dL_act_313 : decode cL_act 313 = .ok (.bipush 9, 2) := by decide +kernel
theorem dL_act_315 : decode cL_act 315 = .ok (.iload 4, 2) := by decide +kernel
theorem dL_act_317 : decode cL_act 317 = .ok (.sipush 900, 3) := by decide +kernel
theorem dL_act_320 : decode cL_act 320 = .ok (.invokestatic 155, 3) := by decide +kernel
theorem dL_act_323 : decode cL_act 323 = .ok (.iload 4, 2) := by decide +kernel
theorem dL_act_325 : decode cL_act 325 = .ok (.iconst 4, 1) := by decide +kernel
theorem dL_act_326 : decode cL_act 326 = .ok (.ishr, 1) := by decide +kernel
theorem dL_act_327 : decode cL_act 327 = .ok (.iload_n 2, 1) := by decide +kernel
theorem dL_act_328 : decode cL_act 328 = .ok (.ifCond .eq 9, 3) := by decide +kernel
theorem dL_act_331 : decode cL_act 331 = .ok (.sipush 2200, 3) := by decide +kernel
theorem dL_act_334 : decode cL_act 334 = .ok (.goto 6, 3) := by decide +kernel
theorem dL_act_337 : decode cL_act 337 = .ok (.sipush 1000, 3) := by decide +kernel
theorem dL_act_340 : decode cL_act 340 = .ok (.invokestatic 155, 3) := by decide +kernel
theorem dL_act_343 : decode cL_act 343 = .ok (.iconst 0, 1) := by decide +kernel
theorem dL_act_344 : decode cL_act 344 = .ok (.iconst 0, 1) := by decide +kernel
theorem dL_act_345 : decode cL_act 345 = .ok (.invokestatic 152, 3) := by decide +kernel
theorem dL_act_348 : decode cL_act 348 = .ok (.goto 20, 3) := by decide +kernel
theorem dL_act_351 : decode cL_act 351 = .ok (.aload_n 0, 1) := by decide +kernel
theorem dL_act_352 : decode cL_act 352 = .ok (.bipush 10, 2) := by decide +kernel
theorem dL_act_354 : decode cL_act 354 = .ok (.iload 6, 2) := by decide +kernel
theorem dL_act_356 : decode cL_act 356 = .ok (.iload 4, 2) := by decide +kernel
theorem dL_act_358 : decode cL_act 358 = .ok (.bipush 6, 2) := by decide +kernel
theorem dL_act_360 : decode cL_act 360 = .ok (.invokestatic 155, 3) := by decide +kernel
theorem dL_act_363 : decode cL_act 363 = .ok (.iconst 0, 1) := by decide +kernel
theorem dL_act_364 : decode cL_act 364 = .ok (.iconst 0, 1) := by decide +kernel
theorem dL_act_365 : decode cL_act 365 = .ok (.invokestatic 152, 3) := by decide +kernel
theorem dL_act_368 : decode cL_act 368 = .ok (.ireturn, 1) := by decide +kernel
theorem dL_act_369 : decode cL_act 369 = .ok (.iload_n 3, 1) := by decide +kernel
theorem dL_act_370 : decode cL_act 370 = .ok (.bipush 34, 2) := by decide +kernel
theorem dL_act_372 : decode cL_act 372 = .ok (.if_icmp .ge 166, 3) := by decide +kernel
theorem dL_act_375 : decode cL_act 375 = .ok (.iload_n 3, 1) := by decide +kernel
theorem dL_act_376 : decode cL_act 376 = .ok (.bipush 17, 2) := by decide +kernel
theorem dL_act_378 : decode cL_act 378 = .ok (.if_icmp .ge 16, 3) := by decide +kernel
theorem dL_act_381 : decode cL_act 381 = .ok (.aload_n 0, 1) := by decide +kernel
theorem dL_act_382 : decode cL_act 382 = .ok (.bipush 13, 2) := by decide +kernel
theorem dL_act_384 : decode cL_act 384 = .ok (.iconst 0, 1) := by decide +kernel
theorem dL_act_385 : decode cL_act 385 = .ok (.iconst 0, 1) := by decide +kernel
theorem dL_act_386 : decode cL_act 386 = .ok (.iconst 0, 1) := by decide +kernel
theorem dL_act_387 : decode cL_act 387 = .ok (.iconst 0, 1) := by decide +kernel
theorem dL_act_388 : decode cL_act 388 = .ok (.invokestatic 152, 3) := by decide +kernel
theorem dL_act_391 : decode cL_act 391 = .ok (.goto 146, 3) := by decide +kernel
theorem dL_act_394 : decode cL_act 394 = .ok (.iload_n 3, 1) := by decide +kernel
theorem dL_act_395 : decode cL_act 395 = .ok (.bipush 20, 2) := by decide +kernel
theorem dL_act_397 : decode cL_act 397 = .ok (.if_icmp .ge 17, 3) := by decide +kernel
theorem dL_act_400 : decode cL_act 400 = .ok (.aload_n 0, 1) := by decide +kernel
theorem dL_act_401 : decode cL_act 401 = .ok (.bipush 14, 2) := by decide +kernel
theorem dL_act_403 : decode cL_act 403 = .ok (.iload 7, 2) := by decide +kernel
theorem dL_act_405 : decode cL_act 405 = .ok (.iconst 0, 1) := by decide +kernel
theorem dL_act_406 : decode cL_act 406 = .ok (.iconst 0, 1) := by decide +kernel
theorem dL_act_407 : decode cL_act 407 = .ok (.iconst 0, 1) := by decide +kernel
theorem dL_act_408 : decode cL_act 408 = .ok (.invokestatic 152, 3) := by decide +kernel
theorem dL_act_411 : decode cL_act 411 = .ok (.goto 126, 3) := by decide +kernel
theorem dL_act_414 : decode cL_act 414 = .ok (.iload_n 3, 1) := by decide +kernel
theorem dL_act_415 : decode cL_act 415 = .ok (.bipush 22, 2) := by decide +kernel
theorem dL_act_417 : decode cL_act 417 = .ok (.if_icmp .ge 18, 3) := by decide +kernel
theorem dL_act_420 : decode cL_act 420 = .ok (.aload_n 0, 1) := by decide +kernel
theorem dL_act_421 : decode cL_act 421 = .ok (.bipush 15, 2) := by decide +kernel
theorem dL_act_423 : decode cL_act 423 = .ok (.iload 7, 2) := by decide +kernel
theorem dL_act_425 : decode cL_act 425 = .ok (.iload 8, 2) := by decide +kernel
theorem dL_act_427 : decode cL_act 427 = .ok (.iconst 0, 1) := by decide +kernel
theorem dL_act_428 : decode cL_act 428 = .ok (.iconst 0, 1) := by decide +kernel
theorem dL_act_429 : decode cL_act 429 = .ok (.invokestatic 152, 3) := by decide +kernel
theorem dL_act_432 : decode cL_act 432 = .ok (.goto 105, 3) := by decide +kernel
theorem dL_act_435 : decode cL_act 435 = .ok (.iload_n 3, 1) := by decide +kernel
theorem dL_act_436 : decode cL_act 436 = .ok (.bipush 26, 2) := by decide +kernel
theorem dL_act_438 : decode cL_act 438 = .ok (.if_icmp .ge 32, 3) := by decide +kernel
theorem dL_act_441 : decode cL_act 441 = .ok (.aload_n 0, 1) := by decide +kernel
theorem dL_act_442 : decode cL_act 442 = .ok (.bipush 16, 2) := by decide +kernel
theorem dL_act_444 : decode cL_act 444 = .ok (.iload 7, 2) := by decide +kernel
theorem dL_act_446 : decode cL_act 446 = .ok (.iload 8, 2) := by decide +kernel
theorem dL_act_448 : decode cL_act 448 = .ok (.iload 4, 2) := by decide +kernel
theorem dL_act_450 : decode cL_act 450 = .ok (.bipush 7, 2) := by decide +kernel
theorem dL_act_452 : decode cL_act 452 = .ok (.ishr, 1) := by decide +kernel
theorem dL_act_453 : decode cL_act 453 = .ok (.iconst 3, 1) := by decide +kernel
theorem dL_act_454 : decode cL_act 454 = .ok (.iand, 1) := by decide +kernel
theorem dL_act_455 : decode cL_act 455 = .ok (.ifCond .le 7, 3) := by decide +kernel
theorem dL_act_458 : decode cL_act 458 = .ok (.iconst 1, 1) := by decide +kernel
theorem dL_act_459 : decode cL_act 459 = .ok (.goto 4, 3) := by decide +kernel
theorem dL_act_462 : decode cL_act 462 = .ok (.iconst 0, 1) := by decide +kernel
theorem dL_act_463 : decode cL_act 463 = .ok (.iconst 0, 1) := by decide +kernel
theorem dL_act_464 : decode cL_act 464 = .ok (.invokestatic 152, 3) := by decide +kernel
theorem dL_act_467 : decode cL_act 467 = .ok (.goto 70, 3) := by decide +kernel
theorem dL_act_470 : decode cL_act 470 = .ok (.iload_n 3, 1) := by decide +kernel
theorem dL_act_471 : decode cL_act 471 = .ok (.bipush 32, 2) := by decide +kernel
theorem dL_act_473 : decode cL_act 473 = .ok (.if_icmp .ge 32, 3) := by decide +kernel
theorem dL_act_476 : decode cL_act 476 = .ok (.aload_n 0, 1) := by decide +kernel
theorem dL_act_477 : decode cL_act 477 = .ok (.bipush 18, 2) := by decide +kernel
theorem dL_act_479 : decode cL_act 479 = .ok (.iload 6, 2) := by decide +kernel
theorem dL_act_481 : decode cL_act 481 = .ok (.iload 7, 2) := by decide +kernel
theorem dL_act_483 : decode cL_act 483 = .ok (.iload 4, 2) := by decide +kernel
theorem dL_act_485 : decode cL_act 485 = .ok (.bipush 7, 2) := by decide +kernel
theorem dL_act_487 : decode cL_act 487 = .ok (.ishr, 1) := by decide +kernel
theorem dL_act_488 : decode cL_act 488 = .ok (.iconst 3, 1) := by decide +kernel
theorem dL_act_489 : decode cL_act 489 = .ok (.iand, 1) := by decide +kernel
theorem dL_act_490 : decode cL_act 490 = .ok (.ifCond .le 7, 3) := by decide +kernel
theorem dL_act_493 : decode cL_act 493 = .ok (.iconst 1, 1) := by decide +kernel
theorem dL_act_494 : decode cL_act 494 = .ok (.goto 4, 3) := by decide +kernel
theorem dL_act_497 : decode cL_act 497 = .ok (.iconst 0, 1) := by decide +kernel
theorem dL_act_498 : decode cL_act 498 = .ok (.iconst 0, 1) := by decide +kernel
theorem dL_act_499 : decode cL_act 499 = .ok (.invokestatic 152, 3) := by decide +kernel
theorem dL_act_502 : decode cL_act 502 = .ok (.goto 35, 3) := by decide +kernel
theorem dL_act_505 : decode cL_act 505 = .ok (.aload_n 0, 1) := by decide +kernel
theorem dL_act_506 : decode cL_act 506 = .ok (.bipush 19, 2) := by decide +kernel
theorem dL_act_508 : decode cL_act 508 = .ok (.iload_n 2, 1) := by decide +kernel
theorem dL_act_509 : decode cL_act 509 = .ok (.ifCond .eq 13, 3) := by decide +kernel
theorem dL_act_512 : decode cL_act 512 = .ok (.iload 4, 2) := by decide +kernel
theorem dL_act_514 : decode cL_act 514 = .ok (.bipush 24, 2) := by decide +kernel
theorem dL_act_516 : decode cL_act 516 = .ok (.invokestatic 155, 3) := by decide +kernel
theorem dL_act_519 : decode cL_act 519 = .ok (.goto 12, 3) := by decide +kernel
theorem dL_act_522 : decode cL_act 522 = .ok (.iconst 1, 1) := by decide +kernel
theorem dL_act_523 : decode cL_act 523 = .ok (.iload 4, 2) := by decide +kernel
theorem dL_act_525 : decode cL_act 525 = .ok (.bipush 6, 2) := by decide +kernel
theorem dL_act_527 : decode cL_act 527 = .ok (.invokestatic 155, 3) := by decide +kernel
theorem dL_act_530 : decode cL_act 530 = .ok (.iadd, 1) := by decide +kernel
theorem dL_act_531 : decode cL_act 531 = .ok (.iconst 0, 1) := by decide +kernel
theorem dL_act_532 : decode cL_act 532 = .ok (.iconst 0, 1) := by decide +kernel
theorem dL_act_533 : decode cL_act 533 = .ok (.iconst 0, 1) := by decide +kernel
theorem dL_act_534 : decode cL_act 534 = .ok (.invokestatic 152, 3) := by decide +kernel
theorem dL_act_537 : decode cL_act 537 = .ok (.ireturn, 1) := by decide +kernel
theorem dL_act_538 : decode cL_act 538 = .ok (.iload_n 3, 1) := by decide +kernel
theorem dL_act_539 : decode cL_act 539 = .ok (.bipush 50, 2) := by decide +kernel
theorem dL_act_541 : decode cL_act 541 = .ok (.if_icmp .ge 109, 3) := by decide +kernel
theorem dL_act_544 : decode cL_act 544 = .ok (.iload_n 2, 1) := by decide +kernel
theorem dL_act_545 : decode cL_act 545 = .ok (.ifCond .eq 25, 3) := by decide +kernel
theorem dL_act_548 : decode cL_act 548 = .ok (.aload_n 0, 1) := by decide +kernel
theorem dL_act_549 : decode cL_act 549 = .ok (.bipush 21, 2) := by decide +kernel
theorem dL_act_551 : decode cL_act 551 = .ok (.iload 4, 2) := by decide +kernel
theorem dL_act_553 : decode cL_act 553 = .ok (.iload 4, 2) := by decide +kernel
theorem dL_act_555 : decode cL_act 555 = .ok (.iconst 3, 1) := by decide +kernel
theorem dL_act_556 : decode cL_act 556 = .ok (.ishr, 1) := by decide +kernel
theorem dL_act_557 : decode cL_act 557 = .ok (.bipush 10, 2) := by decide +kernel
theorem dL_act_559 : decode cL_act 559 = .ok (.invokestatic 155, 3) := by decide +kernel
theorem dL_act_562 : decode cL_act 562 = .ok (.iconst 0, 1) := by decide +kernel
theorem dL_act_563 : decode cL_act 563 = .ok (.iconst 0, 1) := by decide +kernel
theorem dL_act_564 : decode cL_act 564 = .ok (.invokestatic 152, 3) := by decide +kernel
theorem dL_act_567 : decode cL_act 567 = .ok (.goto 82, 3) := by decide +kernel
theorem dL_act_570 : decode cL_act 570 = .ok (.iload_n 3, 1) := by decide +kernel
theorem dL_act_571 : decode cL_act 571 = .ok (.bipush 35, 2) := by decide +kernel
theorem dL_act_573 : decode cL_act 573 = .ok (.if_icmp .ge 10, 3) := by decide +kernel
theorem dL_act_576 : decode cL_act 576 = .ok (.aload_n 0, 1) := by decide +kernel
theorem dL_act_577 : decode cL_act 577 = .ok (.invokevirtual 162, 3) := by decide +kernel
theorem dL_act_580 : decode cL_act 580 = .ok (.goto 69, 3) := by decide +kernel
theorem dL_act_583 : decode cL_act 583 = .ok (.iload_n 3, 1) := by decide +kernel
theorem dL_act_584 : decode cL_act 584 = .ok (.bipush 43, 2) := by decide +kernel
theorem dL_act_586 : decode cL_act 586 = .ok (.if_icmp .ge 12, 3) := by decide +kernel
theorem dL_act_589 : decode cL_act 589 = .ok (.aload_n 0, 1) := by decide +kernel
theorem dL_act_590 : decode cL_act 590 = .ok (.iload 4, 2) := by decide +kernel
theorem dL_act_592 : decode cL_act 592 = .ok (.invokestatic 165, 3) := by decide +kernel
theorem dL_act_595 : decode cL_act 595 = .ok (.goto 54, 3) := by decide +kernel
theorem dL_act_598 : decode cL_act 598 = .ok (.iload_n 3, 1) := by decide +kernel
theorem dL_act_599 : decode cL_act 599 = .ok (.bipush 47, 2) := by decide +kernel
theorem dL_act_601 : decode cL_act 601 = .ok (.if_icmp .ge 26, 3) := by decide +kernel
theorem dL_act_604 : decode cL_act 604 = .ok (.aload_n 0, 1) := by decide +kernel
theorem dL_act_605 : decode cL_act 605 = .ok (.iconst 4, 1) := by decide +kernel
theorem dL_act_606 : decode cL_act 606 = .ok (.iload 4, 2) := by decide +kernel
theorem dL_act_608 : decode cL_act 608 = .ok (.iconst 1, 1) := by decide +kernel
theorem dL_act_609 : decode cL_act 609 = .ok (.iand, 1) := by decide +kernel
theorem dL_act_610 : decode cL_act 610 = .ok (.iadd, 1) := by decide +kernel
theorem dL_act_611 : decode cL_act 611 = .ok (.iconst 3, 1) := by decide +kernel
theorem dL_act_612 : decode cL_act 612 = .ok (.iconst 0, 1) := by decide +kernel
theorem dL_act_613 : decode cL_act 613 = .ok (.invokestatic 158, 3) := by decide +kernel
theorem dL_act_616 : decode cL_act 616 = .ok (.ifCond .eq 7, 3) := by decide +kernel
theorem dL_act_619 : decode cL_act 619 = .ok (.iconst 1, 1) := by decide +kernel
theorem dL_act_620 : decode cL_act 620 = .ok (.goto 29, 3) := by decide +kernel
theorem dL_act_623 : decode cL_act 623 = .ok (.iconst 0, 1) := by decide +kernel
theorem dL_act_624 : decode cL_act 624 = .ok (.goto 25, 3) := by decide +kernel
theorem dL_act_627 : decode cL_act 627 = .ok (.aload_n 0, 1) := by decide +kernel
theorem dL_act_628 : decode cL_act 628 = .ok (.iconst 1, 1) := by decide +kernel
theorem dL_act_629 : decode cL_act 629 = .ok (.iload 4, 2) := by decide +kernel
theorem dL_act_631 : decode cL_act 631 = .ok (.iconst 3, 1) := by decide +kernel
theorem dL_act_632 : decode cL_act 632 = .ok (.invokestatic 155, 3) := by decide +kernel
theorem dL_act_635 : decode cL_act 635 = .ok (.iadd, 1) := by decide +kernel
theorem dL_act_636 : decode cL_act 636 = .ok (.iconst 3, 1) := by decide +kernel
theorem dL_act_637 : decode cL_act 637 = .ok (.iconst 0, 1) := by decide +kernel
theorem dL_act_638 : decode cL_act 638 = .ok (.invokestatic 158, 3) := by decide +kernel
theorem dL_act_641 : decode cL_act 641 = .ok (.ifCond .eq 7, 3) := by decide +kernel
theorem dL_act_644 : decode cL_act 644 = .ok (.iconst 1, 1) := by decide +kernel
theorem dL_act_645 : decode cL_act 645 = .ok (.goto 4, 3) := by decide +kernel
theorem dL_act_648 : decode cL_act 648 = .ok (.iconst 0, 1) := by decide +kernel
theorem dL_act_649 : decode cL_act 649 = .ok (.ireturn, 1) := by decide +kernel
theorem dL_act_650 : decode cL_act 650 = .ok (.iload_n 3, 1) := by decide +kernel
theorem dL_act_651 : decode cL_act 651 = .ok (.bipush 60, 2) := by decide +kernel
theorem dL_act_653 : decode cL_act 653 = .ok (.if_icmp .ge 238, 3) := by decide +kernel
theorem dL_act_656 : decode cL_act 656 = .ok (.iload_n 3, 1) := by decide +kernel
theorem dL_act_657 : decode cL_act 657 = .ok (.bipush 53, 2) := by decide +kernel
theorem dL_act_659 : decode cL_act 659 = .ok (.if_icmp .ge 91, 3) := by decide +kernel
theorem dL_act_662 : decode cL_act 662 = .ok (.aload_n 0, 1) := by decide +kernel
theorem dL_act_663 : decode cL_act 663 = .ok (.bipush 24, 2) := by decide +kernel
theorem dL_act_665 : decode cL_act 665 = .ok (.iload_n 2, 1) := by decide +kernel
theorem dL_act_666 : decode cL_act 666 = .ok (.ifCond .eq 8, 3) := by decide +kernel
theorem dL_act_669 : decode cL_act 669 = .ok (.iload 5, 2) := by decide +kernel
theorem dL_act_671 : decode cL_act 671 = .ok (.goto 10, 3) := by decide +kernel
theorem dL_act_674 : decode cL_act 674 = .ok (.iload 4, 2) := by decide +kernel
theorem dL_act_676 : decode cL_act 676 = .ok (.bipush 12, 2) := by decide +kernel
theorem dL_act_678 : decode cL_act 678 = .ok (.invokestatic 155, 3) := by decide +kernel
theorem dL_act_681 : decode cL_act 681 = .ok (.iload_n 2, 1) := by decide +kernel
theorem dL_act_682 : decode cL_act 682 = .ok (.ifCond .eq 8, 3) := by decide +kernel
theorem dL_act_685 : decode cL_act 685 = .ok (.iload 4, 2) := by decide +kernel
theorem dL_act_687 : decode cL_act 687 = .ok (.goto 16, 3) := by decide +kernel
theorem dL_act_690 : decode cL_act 690 = .ok (.iload 4, 2) := by decide +kernel
theorem dL_act_692 : decode cL_act 692 = .ok (.iconst 2, 1) := by decide +kernel
theorem dL_act_693 : decode cL_act 693 = .ok (.ishr, 1) := by decide +kernel
theorem dL_act_694 : decode cL_act 694 = .ok (.iload 4, 2) := by decide +kernel
theorem dL_act_696 : decode cL_act 696 = .ok (.bipush 7, 2) := by decide +kernel
theorem dL_act_698 : decode cL_act 698 = .ok (.ishr, 1) := by decide +kernel
theorem dL_act_699 : decode cL_act 699 = .ok (.iand, 1) := by decide +kernel
theorem dL_act_700 : decode cL_act 700 = .ok (.bipush 127, 2) := by decide +kernel
theorem dL_act_702 : decode cL_act 702 = .ok (.iand, 1) := by decide +kernel
theorem dL_act_703 : decode cL_act 703 = .ok (.iload 4, 2) := by decide +kernel
theorem dL_act_705 : decode cL_act 705 = .ok (.iconst 3, 1) := by decide +kernel
theorem dL_act_706 : decode cL_act 706 = .ok (.ishr, 1) := by decide +kernel
theorem dL_act_707 : decode cL_act 707 = .ok (.bipush 127, 2) := by decide +kernel
theorem dL_act_709 : decode cL_act 709 = .ok (.iand, 1) := by decide +kernel
theorem dL_act_710 : decode cL_act 710 = .ok (.iload 4, 2) := by decide +kernel
theorem dL_act_712 : decode cL_act 712 = .ok (.bipush 9, 2) := by decide +kernel
theorem dL_act_714 : decode cL_act 714 = .ok (.ishr, 1) := by decide +kernel
theorem dL_act_715 : decode cL_act 715 = .ok (.iconst 3, 1) := by decide +kernel
theorem dL_act_716 : decode cL_act 716 = .ok (.iand, 1) := by decide +kernel
theorem dL_act_717 : decode cL_act 717 = .ok (.ifCond .ne 26, 3) := by decide +kernel
theorem dL_act_720 : decode cL_act 720 = .ok (.iconst 1, 1) := by decide +kernel
theorem dL_act_721 : decode cL_act 721 = .ok (.iload 4, 2) := by decide +kernel
theorem dL_act_723 : decode cL_act 723 = .ok (.iconst 4, 1) := by decide +kernel
theorem dL_act_724 : decode cL_act 724 = .ok (.ishr, 1) := by decide +kernel
theorem dL_act_725 : decode cL_act 725 = .ok (.iload_n 2, 1) := by decide +kernel
theorem dL_act_726 : decode cL_act 726 = .ok (.ifCond .eq 8, 3) := by decide +kernel
theorem dL_act_729 : decode cL_act 729 = .ok (.bipush 14, 2) := by decide +kernel
theorem dL_act_731 : decode cL_act 731 = .ok (.goto 5, 3) := by decide +kernel
theorem dL_act_734 : decode cL_act 734 = .ok (.bipush 12, 2) := by decide +kernel
theorem dL_act_736 : decode cL_act 736 = .ok (.invokestatic 155, 3) := by decide +kernel
theorem dL_act_739 : decode cL_act 739 = .ok (.ishl, 1) := by decide +kernel
theorem dL_act_740 : decode cL_act 740 = .ok (.goto 4, 3) := by decide +kernel
theorem dL_act_743 : decode cL_act 743 = .ok (.iconst 0, 1) := by decide +kernel
theorem dL_act_744 : decode cL_act 744 = .ok (.invokestatic 152, 3) := by decide +kernel
theorem dL_act_747 : decode cL_act 747 = .ok (.goto 143, 3) := by decide +kernel
theorem dL_act_750 : decode cL_act 750 = .ok (.iload_n 3, 1) := by decide +kernel
theorem dL_act_751 : decode cL_act 751 = .ok (.bipush 57, 2) := by decide +kernel
theorem dL_act_753 : decode cL_act 753 = .ok (.if_icmp .ge 49, 3) := by decide +kernel
theorem dL_act_756 : decode cL_act 756 = .ok (.aload_n 0, 1) := by decide +kernel
theorem dL_act_757 : decode cL_act 757 = .ok (.bipush 27, 2) := by decide +kernel
theorem dL_act_759 : decode cL_act 759 = .ok (.iload 6, 2) := by decide +kernel
theorem dL_act_761 : decode cL_act 761 = .ok (.iload 5, 2) := by decide +kernel
theorem dL_act_763 : decode cL_act 763 = .ok (.iload 4, 2) := by decide +kernel
theorem dL_act_765 : decode cL_act 765 = .ok (.bipush 8, 2) := by decide +kernel
theorem dL_act_767 : decode cL_act 767 = .ok (.ishr, 1) := by decide +kernel
theorem dL_act_768 : decode cL_act 768 = .ok (.iconst 1, 1) := by decide +kernel
theorem dL_act_769 : decode cL_act 769 = .ok (.iand, 1) := by decide +kernel
theorem dL_act_770 : decode cL_act 770 = .ok (.ifCond .ne 7, 3) := by decide +kernel
theorem dL_act_773 : decode cL_act 773 = .ok (.iconst (-1), 1) := by decide +kernel
theorem dL_act_774 : decode cL_act 774 = .ok (.goto 21, 3) := by decide +kernel
theorem dL_act_777 : decode cL_act 777 = .ok (.iload 4, 2) := by decide +kernel
theorem dL_act_779 : decode cL_act 779 = .ok (.iconst 2, 1) := by decide +kernel
theorem dL_act_780 : decode cL_act 780 = .ok (.ishr, 1) := by decide +kernel
theorem dL_act_781 : decode cL_act 781 = .ok (.iload_n 2, 1) := by decide +kernel
theorem dL_act_782 : decode cL_act 782 = .ok (.ifCond .eq 8, 3) := by decide +kernel
theorem dL_act_785 : decode cL_act 785 = .ok (.bipush 62, 2) := by decide +kernel
theorem dL_act_787 : decode cL_act 787 = .ok (.goto 5, 3) := by decide +kernel
theorem dL_act_790 : decode cL_act 790 = .ok (.bipush 20, 2) := by decide +kernel
theorem dL_act_792 : decode cL_act 792 = .ok (.invokestatic 155, 3) := by decide +kernel
theorem dL_act_795 : decode cL_act 795 = .ok (.iconst 0, 1) := by decide +kernel
theorem dL_act_796 : decode cL_act 796 = .ok (.invokestatic 152, 3) := by decide +kernel
theorem dL_act_799 : decode cL_act 799 = .ok (.goto 91, 3) := by decide +kernel
theorem dL_act_802 : decode cL_act 802 = .ok (.iload_n 3, 1) := by decide +kernel
theorem dL_act_803 : decode cL_act 803 = .ok (.bipush 57, 2) := by decide +kernel
theorem dL_act_805 : decode cL_act 805 = .ok (.if_icmp .ne 38, 3) := by decide +kernel
theorem dL_act_808 : decode cL_act 808 = .ok (.aload_n 0, 1) := by decide +kernel
theorem dL_act_809 : decode cL_act 809 = .ok (.bipush 28, 2) := by decide +kernel
theorem dL_act_811 : decode cL_act 811 = .ok (.iload 4, 2) := by decide +kernel
theorem dL_act_813 : decode cL_act 813 = .ok (.bipush 20, 2) := by decide +kernel
theorem dL_act_815 : decode cL_act 815 = .ok (.invokestatic 155, 3) := by decide +kernel
theorem dL_act_818 : decode cL_act 818 = .ok (.iload 4, 2) := by decide +kernel
theorem dL_act_820 : decode cL_act 820 = .ok (.iconst 3, 1) := by decide +kernel
theorem dL_act_821 : decode cL_act 821 = .ok (.ishr, 1) := by decide +kernel
theorem dL_act_822 : decode cL_act 822 = .ok (.iload_n 2, 1) := by decide +kernel
theorem dL_act_823 : decode cL_act 823 = .ok (.ifCond .eq 8, 3) := by decide +kernel
theorem dL_act_826 : decode cL_act 826 = .ok (.bipush 6, 2) := by decide +kernel
theorem dL_act_828 : decode cL_act 828 = .ok (.goto 4, 3) := by decide +kernel
theorem dL_act_831 : decode cL_act 831 = .ok (.iconst 4, 1) := by decide +kernel
theorem dL_act_832 : decode cL_act 832 = .ok (.invokestatic 155, 3) := by decide +kernel
theorem dL_act_835 : decode cL_act 835 = .ok (.iconst 0, 1) := by decide +kernel
theorem dL_act_836 : decode cL_act 836 = .ok (.iconst 0, 1) := by decide +kernel
theorem dL_act_837 : decode cL_act 837 = .ok (.invokestatic 152, 3) := by decide +kernel
theorem dL_act_840 : decode cL_act 840 = .ok (.goto 50, 3) := by decide +kernel
theorem dL_act_843 : decode cL_act 843 = .ok (.iload_n 3, 1) := by decide +kernel
theorem dL_act_844 : decode cL_act 844 = .ok (.bipush 58, 2) := by decide +kernel
theorem dL_act_846 : decode cL_act 846 = .ok (.if_icmp .ne 20, 3) := by decide +kernel
theorem dL_act_849 : decode cL_act 849 = .ok (.aload_n 0, 1) := by decide +kernel
theorem dL_act_850 : decode cL_act 850 = .ok (.bipush 26, 2) := by decide +kernel
theorem dL_act_852 : decode cL_act 852 = .ok (.iload 6, 2) := by decide +kernel
theorem dL_act_854 : decode cL_act 854 = .ok (.iload 4, 2) := by decide +kernel
theorem dL_act_856 : decode cL_act 856 = .ok (.iconst 1, 1) := by decide +kernel
theorem dL_act_857 : decode cL_act 857 = .ok (.iand, 1) := by decide +kernel
theorem dL_act_858 : decode cL_act 858 = .ok (.iconst 0, 1) := by decide +kernel
theorem dL_act_859 : decode cL_act 859 = .ok (.iconst 0, 1) := by decide +kernel
theorem dL_act_860 : decode cL_act 860 = .ok (.invokestatic 152, 3) := by decide +kernel
theorem dL_act_863 : decode cL_act 863 = .ok (.goto 27, 3) := by decide +kernel
theorem dL_act_866 : decode cL_act 866 = .ok (.aload_n 0, 1) := by decide +kernel
theorem dL_act_867 : decode cL_act 867 = .ok (.iconst 1, 1) := by decide +kernel
theorem dL_act_868 : decode cL_act 868 = .ok (.iload 5, 2) := by decide +kernel
theorem dL_act_870 : decode cL_act 870 = .ok (.iload 4, 2) := by decide +kernel
theorem dL_act_872 : decode cL_act 872 = .ok (.iconst 5, 1) := by decide +kernel
theorem dL_act_873 : decode cL_act 873 = .ok (.ishr, 1) := by decide +kernel
theorem dL_act_874 : decode cL_act 874 = .ok (.bipush 12, 2) := by decide +kernel
theorem dL_act_876 : decode cL_act 876 = .ok (.invokestatic 155, 3) := by decide +kernel
theorem dL_act_879 : decode cL_act 879 = .ok (.iload 4, 2) := by decide +kernel
theorem dL_act_881 : decode cL_act 881 = .ok (.bipush 8, 2) := by decide +kernel
theorem dL_act_883 : decode cL_act 883 = .ok (.ishr, 1) := by decide +kernel
theorem dL_act_884 : decode cL_act 884 = .ok (.iconst 1, 1) := by decide +kernel
theorem dL_act_885 : decode cL_act 885 = .ok (.iand, 1) := by decide +kernel
theorem dL_act_886 : decode cL_act 886 = .ok (.iconst 0, 1) := by decide +kernel
theorem dL_act_887 : decode cL_act 887 = .ok (.invokestatic 152, 3) := by decide +kernel
theorem dL_act_890 : decode cL_act 890 = .ok (.ireturn, 1) := by decide +kernel
theorem dL_act_891 : decode cL_act 891 = .ok (.iload_n 3, 1) := by decide +kernel
theorem dL_act_892 : decode cL_act 892 = .ok (.bipush 71, 2) := by decide +kernel
theorem dL_act_894 : decode cL_act 894 = .ok (.if_icmp .ge 150, 3) := by decide +kernel
theorem dL_act_897 : decode cL_act 897 = .ok (.iload_n 3, 1) := by decide +kernel
theorem dL_act_898 : decode cL_act 898 = .ok (.bipush 63, 2) := by decide +kernel
theorem dL_act_900 : decode cL_act 900 = .ok (.if_icmp .ge 32, 3) := by decide +kernel
theorem dL_act_903 : decode cL_act 903 = .ok (.aload_n 0, 1) := by decide +kernel
theorem dL_act_904 : decode cL_act 904 = .ok (.bipush 30, 2) := by decide +kernel
theorem dL_act_906 : decode cL_act 906 = .ok (.iload 6, 2) := by decide +kernel
theorem dL_act_908 : decode cL_act 908 = .ok (.iload_n 2, 1) := by decide +kernel
theorem dL_act_909 : decode cL_act 909 = .ok (.ifCond .eq 8, 3) := by decide +kernel
theorem dL_act_912 : decode cL_act 912 = .ok (.iload 5, 2) := by decide +kernel
theorem dL_act_914 : decode cL_act 914 = .ok (.goto 10, 3) := by decide +kernel
theorem dL_act_917 : decode cL_act 917 = .ok (.iload 4, 2) := by decide +kernel
theorem dL_act_919 : decode cL_act 919 = .ok (.bipush 32, 2) := by decide +kernel
theorem dL_act_921 : decode cL_act 921 = .ok (.invokestatic 155, 3) := by decide +kernel
theorem dL_act_924 : decode cL_act 924 = .ok (.iconst 0, 1) := by decide +kernel
theorem dL_act_925 : decode cL_act 925 = .ok (.iconst 0, 1) := by decide +kernel
theorem dL_act_926 : decode cL_act 926 = .ok (.invokestatic 152, 3) := by decide +kernel
theorem dL_act_929 : decode cL_act 929 = .ok (.goto 114, 3) := by decide +kernel
theorem dL_act_932 : decode cL_act 932 = .ok (.iload_n 3, 1) := by decide +kernel
theorem dL_act_933 : decode cL_act 933 = .ok (.bipush 64, 2) := by decide +kernel
theorem dL_act_935 : decode cL_act 935 = .ok (.if_icmp .ge 38, 3) := by decide +kernel
theorem dL_act_938 : decode cL_act 938 = .ok (.aload_n 0, 1) := by decide +kernel
theorem dL_act_939 : decode cL_act 939 = .ok (.iconst 2, 1) := by decide +kernel
theorem dL_act_940 : decode cL_act 940 = .ok (.iload_n 2, 1) := by decide +kernel
theorem dL_act_941 : decode cL_act 941 = .ok (.ifCond .eq 8, 3) := by decide +kernel
theorem dL_act_944 : decode cL_act 944 = .ok (.iload 5, 2) := by decide +kernel
theorem dL_act_946 : decode cL_act 946 = .ok (.goto 10, 3) := by decide +kernel
theorem dL_act_949 : decode cL_act 949 = .ok (.iload 4, 2) := by decide +kernel
theorem dL_act_951 : decode cL_act 951 = .ok (.bipush 32, 2) := by decide +kernel
theorem dL_act_953 : decode cL_act 953 = .ok (.invokestatic 155, 3) := by decide +kernel
theorem dL_act_956 : decode cL_act 956 = .ok (.iload 4, 2) := by decide +kernel
theorem dL_act_958 : decode cL_act 958 = .ok (.iconst 5, 1) := by decide +kernel
theorem dL_act_959 : decode cL_act 959 = .ok (.ishr, 1) := by decide +kernel
theorem dL_act_960 : decode cL_act 960 = .ok (.bipush 32, 2) := by decide +kernel
theorem dL_act_962 : decode cL_act 962 = .ok (.invokestatic 155, 3) := by decide +kernel
theorem dL_act_965 : decode cL_act 965 = .ok (.iconst 0, 1) := by decide +kernel
theorem dL_act_966 : decode cL_act 966 = .ok (.iconst 0, 1) := by decide +kernel
theorem dL_act_967 : decode cL_act 967 = .ok (.invokestatic 152, 3) := by decide +kernel
theorem dL_act_970 : decode cL_act 970 = .ok (.goto 73, 3) := by decide +kernel
theorem dL_act_973 : decode cL_act 973 = .ok (.iload_n 3, 1) := by decide +kernel
theorem dL_act_974 : decode cL_act 974 = .ok (.bipush 68, 2) := by decide +kernel
theorem dL_act_976 : decode cL_act 976 = .ok (.if_icmp .ge 56, 3) := by decide +kernel
theorem dL_act_979 : decode cL_act 979 = .ok (.aload_n 0, 1) := by decide +kernel
theorem dL_act_980 : decode cL_act 980 = .ok (.bipush 32, 2) := by decide +kernel
theorem dL_act_982 : decode cL_act 982 = .ok (.iload 5, 2) := by decide +kernel
theorem dL_act_984 : decode cL_act 984 = .ok (.iload 4, 2) := by decide +kernel
theorem dL_act_986 : decode cL_act 986 = .ok (.bipush 6, 2) := by decide +kernel
theorem dL_act_988 : decode cL_act 988 = .ok (.ishr, 1) := by decide +kernel
theorem dL_act_989 : decode cL_act 989 = .ok (.iconst 1, 1) := by decide +kernel
theorem dL_act_990 : decode cL_act 990 = .ok (.iand, 1) := by decide +kernel
theorem dL_act_991 : decode cL_act 991 = .ok (.iload 4, 2) := by decide +kernel
theorem dL_act_993 : decode cL_act 993 = .ok (.bipush 6, 2) := by decide +kernel
theorem dL_act_995 : decode cL_act 995 = .ok (.ishr, 1) := by decide +kernel
theorem dL_act_996 : decode cL_act 996 = .ok (.iconst 1, 1) := by decide +kernel
theorem dL_act_997 : decode cL_act 997 = .ok (.iand, 1) := by decide +kernel
theorem dL_act_998 : decode cL_act 998 = .ok (.iconst 1, 1) := by decide +kernel
theorem dL_act_999 : decode cL_act 999 = .ok (.if_icmp .ne 24, 3) := by decide +kernel
theorem dL_act_1002 : decode cL_act 1002 = .ok (.iload 4, 2) := by decide +kernel
theorem dL_act_1004 : decode cL_act 1004 = .ok (.iconst 3, 1) := by decide +kernel
theorem dL_act_1005 : decode cL_act 1005 = .ok (.ishr, 1) := by decide +kernel
theorem dL_act_1006 : decode cL_act 1006 = .ok (.iload_n 2, 1) := by decide +kernel
theorem dL_act_1007 : decode cL_act 1007 = .ok (.ifCond .eq 8, 3) := by decide +kernel
theorem dL_act_1010 : decode cL_act 1010 = .ok (.bipush 14, 2) := by decide +kernel
theorem dL_act_1012 : decode cL_act 1012 = .ok (.goto 5, 3) := by decide +kernel
theorem dL_act_1015 : decode cL_act 1015 = .ok (.bipush 12, 2) := by decide +kernel
theorem dL_act_1017 : decode cL_act 1017 = .ok (.invokestatic 155, 3) := by decide +kernel
theorem dL_act_1020 : decode cL_act 1020 = .ok (.goto 5, 3) := by decide +kernel
theorem dL_act_1023 : decode cL_act 1023 = .ok (.iload 6, 2) := by decide +kernel
theorem dL_act_1025 : decode cL_act 1025 = .ok (.iconst 0, 1) := by decide +kernel
theorem dL_act_1026 : decode cL_act 1026 = .ok (.invokestatic 152, 3) := by decide +kernel
theorem dL_act_1029 : decode cL_act 1029 = .ok (.goto 14, 3) := by decide +kernel
theorem dL_act_1032 : decode cL_act 1032 = .ok (.aload_n 0, 1) := by decide +kernel
theorem dL_act_1033 : decode cL_act 1033 = .ok (.bipush 34, 2) := by decide +kernel
theorem dL_act_1035 : decode cL_act 1035 = .ok (.iload 5, 2) := by decide +kernel
theorem dL_act_1037 : decode cL_act 1037 = .ok (.iconst 0, 1) := by decide +kernel
theorem dL_act_1038 : decode cL_act 1038 = .ok (.iconst 0, 1) := by decide +kernel
theorem dL_act_1039 : decode cL_act 1039 = .ok (.iconst 0, 1) := by decide +kernel
theorem dL_act_1040 : decode cL_act 1040 = .ok (.invokestatic 152, 3) := by decide +kernel
theorem dL_act_1043 : decode cL_act 1043 = .ok (.ireturn, 1) := by decide +kernel
theorem dL_act_1044 : decode cL_act 1044 = .ok (.aload_n 0, 1) := by decide +kernel
theorem dL_act_1045 : decode cL_act 1045 = .ok (.iconst 0, 1) := by decide +kernel
theorem dL_act_1046 : decode cL_act 1046 = .ok (.iload_n 2, 1) := by decide +kernel
theorem dL_act_1047 : decode cL_act 1047 = .ok (.ifCond .eq 13, 3) := by decide +kernel
theorem dL_act_1050 : decode cL_act 1050 = .ok (.iload 4, 2) := by decide +kernel
theorem dL_act_1052 : decode cL_act 1052 = .ok (.bipush 120, 2) := by decide +kernel
theorem dL_act_1054 : decode cL_act 1054 = .ok (.invokestatic 155, 3) := by decide +kernel
theorem dL_act_1057 : decode cL_act 1057 = .ok (.goto 26, 3) := by decide +kernel
theorem dL_act_1060 : decode cL_act 1060 = .ok (.iconst 1, 1) := by decide +kernel
theorem dL_act_1061 : decode cL_act 1061 = .ok (.iload 4, 2) := by decide +kernel
theorem dL_act_1063 : decode cL_act 1063 = .ok (.iload 4, 2) := by decide +kernel
theorem dL_act_1065 : decode cL_act 1065 = .ok (.iconst 5, 1) := by decide +kernel
theorem dL_act_1066 : decode cL_act 1066 = .ok (.ishr, 1) := by decide +kernel
theorem dL_act_1067 : decode cL_act 1067 = .ok (.bipush 7, 2) := by decide +kernel
theorem dL_act_1069 : decode cL_act 1069 = .ok (.iand, 1) := by decide +kernel
theorem dL_act_1070 : decode cL_act 1070 = .ok (.ifCond .ne 8, 3) := by decide +kernel
theorem dL_act_1073 : decode cL_act 1073 = .ok (.bipush 50, 2) := by decide +kernel
theorem dL_act_1075 : decode cL_act 1075 = .ok (.goto 4, 3) := by decide +kernel
theorem dL_act_1078 : decode cL_act 1078 = .ok (.iconst 5, 1) := by decide +kernel
theorem dL_act_1079 : decode cL_act 1079 = .ok (.invokestatic 155, 3) := by decide +kernel
theorem dL_act_1082 : decode cL_act 1082 = .ok (.iadd, 1) := by decide +kernel
theorem dL_act_1083 : decode cL_act 1083 = .ok (.iconst 0, 1) := by decide +kernel
theorem dL_act_1084 : decode cL_act 1084 = .ok (.iconst 0, 1) := by decide +kernel
theorem dL_act_1085 : decode cL_act 1085 = .ok (.iconst 0, 1) := by decide +kernel
theorem dL_act_1086 : decode cL_act 1086 = .ok (.invokestatic 152, 3) := by decide +kernel
theorem dL_act_1089 : decode cL_act 1089 = .ok (.ireturn, 1) := by decide +kernel
theorem dX10_fault_0 : decode cX10_fault 0 = .ok (.aload_n 0, 1) := by decide +kernel
theorem dX10_fault_1 : decode cX10_fault 1 = .ok (.getfield 41, 3) := by decide +kernel
theorem dX10_fault_4 : decode cX10_fault 4 = .ok (.invokevirtual 271, 3) := by decide +kernel
theorem dX10_fault_7 : decode cX10_fault 7 = .ok (.ireturn, 1) := by decide +kernel
theorem dX2_countMatches_0 : decode cX2_countMatches 0 = .ok (.aload_n 0, 1) := by decide +kernel
theorem dX2_countMatches_1 : decode cX2_countMatches 1 = .ok (.aload_n 1, 1) := by decide +kernel
theorem dX2_countMatches_2 : decode cX2_countMatches 2 = .ok (.invokevirtual 31, 3) := by decide +kernel
theorem dX2_countMatches_5 : decode cX2_countMatches 5 = .ok (.aload_n 0, 1) := by decide +kernel
theorem dX2_countMatches_6 : decode cX2_countMatches 6 = .ok (.getfield 21, 3) := by decide +kernel
theorem dX2_countMatches_9 : decode cX2_countMatches 9 = .ok (.iconst 0, 1) := by decide +kernel
theorem dX2_countMatches_10 : decode cX2_countMatches 10 = .ok (.iaload, 1) := by decide +kernel
theorem dX2_countMatches_11 : decode cX2_countMatches 11 = .ok (.ireturn, 1) := by decide +kernel
theorem dX10_matches_0 : decode cX10_matches 0 = .ok (.aload_n 0, 1) := by decide +kernel
theorem dX10_matches_1 : decode cX10_matches 1 = .ok (.getfield 55, 3) := by decide +kernel
theorem dX10_matches_4 : decode cX10_matches 4 = .ok (.aload_n 0, 1) := by decide +kernel
theorem dX10_matches_5 : decode cX10_matches 5 = .ok (.getfield 34, 3) := by decide +kernel
theorem dX10_matches_8 : decode cX10_matches 8 = .ok (.invokevirtual 311, 3) := by decide +kernel
theorem dX10_matches_11 : decode cX10_matches 11 = .ok (.ireturn, 1) := by decide +kernel
theorem dX10_waiting_0 : decode cX10_waiting 0 = .ok (.iconst 0, 1) := by decide +kernel
theorem dX10_waiting_1 : decode cX10_waiting 1 = .ok (.istore_n 1, 1) := by decide +kernel
theorem dX10_waiting_2 : decode cX10_waiting 2 = .ok (.iconst 0, 1) := by decide +kernel
theorem dX10_waiting_3 : decode cX10_waiting 3 = .ok (.istore_n 2, 1) := by decide +kernel
theorem dX10_waiting_4 : decode cX10_waiting 4 = .ok (.iload_n 2, 1) := by decide +kernel
theorem dX10_waiting_5 : decode cX10_waiting 5 = .ok (.aload_n 0, 1) := by decide +kernel
theorem dX10_waiting_6 : decode cX10_waiting 6 = .ok (.getfield 104, 3) := by decide +kernel
theorem dX10_waiting_9 : decode cX10_waiting 9 = .ok (.if_icmp .ge 24, 3) := by decide +kernel
theorem dX10_waiting_12 : decode cX10_waiting 12 = .ok (.iload_n 1, 1) := by decide +kernel
theorem dX10_waiting_13 : decode cX10_waiting 13 = .ok (.iload_n 2, 1) := by decide +kernel
theorem dX10_waiting_14 : decode cX10_waiting 14 = .ok (.aload_n 0, 1) := by decide +kernel
theorem dX10_waiting_15 : decode cX10_waiting 15 = .ok (.getfield 21, 3) := by decide +kernel
theorem dX10_waiting_18 : decode cX10_waiting 18 = .ok (.iload_n 2, 1) := by decide +kernel
theorem dX10_waiting_19 : decode cX10_waiting 19 = .ok (.aaload, 1) := by decide +kernel
theorem dX10_waiting_20 : decode cX10_waiting 20 = .ok (.getfield 244, 3) := by decide +kernel
theorem dX10_waiting_23 : decode cX10_waiting 23 = .ok (.invokestatic 95, 3) := by decide +kernel
theorem dX10_waiting_26 : decode cX10_waiting 26 = .ok (.istore_n 1, 1) := by decide +kernel
theorem dX10_waiting_27 : decode cX10_waiting 27 = .ok (.iinc 2 1, 3) := by decide +kernel
theorem dX10_waiting_30 : decode cX10_waiting 30 = .ok (.goto (-26), 3) := by decide +kernel
theorem dX10_waiting_33 : decode cX10_waiting 33 = .ok (.iload_n 1, 1) := by decide +kernel
theorem dX10_waiting_34 : decode cX10_waiting 34 = .ok (.ireturn, 1) := by decide +kernel
theorem dL_areAlike_0 : decode cL_areAlike 0 = .ok (.aload_n 0, 1) := by decide +kernel
theorem dL_areAlike_1 : decode cL_areAlike 1 = .ok (.invokevirtual 169, 3) := by decide +kernel
theorem dL_areAlike_4 : decode cL_areAlike 4 = .ok (.aload_n 1, 1) := by decide +kernel
theorem dL_areAlike_5 : decode cL_areAlike 5 = .ok (.invokevirtual 169, 3) := by decide +kernel
theorem dL_areAlike_8 : decode cL_areAlike 8 = .ok (.if_icmp .ne 29, 3) := by decide +kernel
theorem dL_areAlike_11 : decode cL_areAlike 11 = .ok (.aload_n 0, 1) := by decide +kernel
theorem dL_areAlike_12 : decode cL_areAlike 12 = .ok (.invokevirtual 172, 3) := by decide +kernel
theorem dL_areAlike_15 : decode cL_areAlike 15 = .ok (.aload_n 1, 1) := by decide +kernel
theorem dL_areAlike_16 : decode cL_areAlike 16 = .ok (.invokevirtual 172, 3) := by decide +kernel
theorem dL_areAlike_19 : decode cL_areAlike 19 = .ok (.if_icmp .ne 18, 3) := by decide +kernel
theorem dL_areAlike_22 : decode cL_areAlike 22 = .ok (.aload_n 0, 1) := by decide +kernel
theorem dL_areAlike_23 : decode cL_areAlike 23 = .ok (.invokevirtual 175, 3) := by decide +kernel
theorem dL_areAlike_26 : decode cL_areAlike 26 = .ok (.aload_n 1, 1) := by decide +kernel
theorem dL_areAlike_27 : decode cL_areAlike 27 = .ok (.invokevirtual 175, 3) := by decide +kernel
theorem dL_areAlike_30 : decode cL_areAlike 30 = .ok (.if_icmp .ne 7, 3) := by decide +kernel
theorem dL_areAlike_33 : decode cL_areAlike 33 = .ok (.iconst 1, 1) := by decide +kernel
theorem dL_areAlike_34 : decode cL_areAlike 34 = .ok (.goto 4, 3) := by decide +kernel
theorem dL_areAlike_37 : decode cL_areAlike 37 = .ok (.iconst 0, 1) := by decide +kernel
theorem dL_areAlike_38 : decode cL_areAlike 38 = .ok (.istore_n 3, 1) := by decide +kernel
theorem dL_areAlike_39 : decode cL_areAlike 39 = .ok (.iload_n 2, 1) := by decide +kernel
theorem dL_areAlike_40 : decode cL_areAlike 40 = .ok (.bipush 32, 2) := by decide +kernel
theorem dL_areAlike_42 : decode cL_areAlike 42 = .ok (.invokestatic 155, 3) := by decide +kernel
theorem dL_areAlike_45 : decode cL_areAlike 45 = .ok (.istore 4, 2) := by decide +kernel
theorem dL_areAlike_47 : decode cL_areAlike 47 = .ok (.iconst 0, 1) := by decide +kernel
theorem dL_areAlike_48 : decode cL_areAlike 48 = .ok (.istore 5, 2) := by decide +kernel
theorem dL_areAlike_50 : decode cL_areAlike 50 = .ok (.iload 5, 2) := by decide +kernel
theorem dL_areAlike_52 : decode cL_areAlike 52 = .ok (.bipush 20, 2) := by decide +kernel
theorem dL_areAlike_54 : decode cL_areAlike 54 = .ok (.if_icmp .ge 267, 3) := by decide +kernel
theorem dL_areAlike_57 : decode cL_areAlike 57 = .ok (.iload_n 3, 1) := by decide +kernel
theorem dL_areAlike_58 : decode cL_areAlike 58 = .ok (.ifCond .eq 263, 3) := by decide +kernel
theorem dL_areAlike_61 : decode cL_areAlike 61 = .ok (.aload_n 0, 1) := by decide +kernel
theorem dL_areAlike_62 : decode cL_areAlike 62 = .ok (.bipush 11, 2) := by decide +kernel
theorem dL_areAlike_64 : decode cL_areAlike 64 = .ok (.iload 4, 2) := by decide +kernel
theorem dL_areAlike_66 : decode cL_areAlike 66 = .ok (.iload 5, 2) := by decide +kernel
theorem dL_areAlike_68 : decode cL_areAlike 68 = .ok (.iconst 0, 1) := by decide +kernel
theorem dL_areAlike_69 : decode cL_areAlike 69 = .ok (.iconst 0, 1) := by decide +kernel
theorem dL_areAlike_70 : decode cL_areAlike 70 = .ok (.invokestatic 152, 3) := by decide +kernel
theorem dL_areAlike_73 : decode cL_areAlike 73 = .ok (.aload_n 1, 1) := by decide +kernel
theorem dL_areAlike_74 : decode cL_areAlike 74 = .ok (.bipush 11, 2) := by decide +kernel
theorem dL_areAlike_76 : decode cL_areAlike 76 = .ok (.iload 4, 2) := by decide +kernel
theorem dL_areAlike_78 : decode cL_areAlike 78 = .ok (.iload 5, 2) := by decide +kernel
theorem dL_areAlike_80 : decode cL_areAlike 80 = .ok (.iconst 0, 1) := by decide +kernel
theorem dL_areAlike_81 : decode cL_areAlike 81 = .ok (.iconst 0, 1) := by decide +kernel
theorem dL_areAlike_82 : decode cL_areAlike 82 = .ok (.invokestatic 152, 3) := by decide +kernel
theorem dL_areAlike_85 : decode cL_areAlike 85 = .ok (.if_icmp .ne 176, 3) := by decide +kernel
theorem dL_areAlike_88 : decode cL_areAlike 88 = .ok (.aload_n 0, 1) := by decide +kernel
theorem dL_areAlike_89 : decode cL_areAlike 89 = .ok (.bipush 12, 2) := by decide +kernel
theorem dL_areAlike_91 : decode cL_areAlike 91 = .ok (.iload 4, 2) := by decide +kernel
theorem dL_areAlike_93 : decode cL_areAlike 93 = .ok (.iload 5, 2) := by decide +kernel
theorem dL_areAlike_95 : decode cL_areAlike 95 = .ok (.iconst 0, 1) := by decide +kernel
theorem dL_areAlike_96 : decode cL_areAlike 96 = .ok (.iconst 0, 1) := by decide +kernel
theorem dL_areAlike_97 : decode cL_areAlike 97 = .ok (.invokestatic 152, 3) := by decide +kernel
theorem dL_areAlike_100 : decode cL_areAlike 100 = .ok (.aload_n 1, 1) := by decide +kernel
theorem dL_areAlike_101 : decode cL_areAlike 101 = .ok (.bipush 12, 2) := by decide +kernel
theorem dL_areAlike_103 : decode cL_areAlike 103 = .ok (.iload 4, 2) := by decide +kernel
theorem dL_areAlike_105 : decode cL_areAlike 105 = .ok (.iload 5, 2) := by decide +kernel
theorem dL_areAlike_107 : decode cL_areAlike 107 = .ok (.iconst 0, 1) := by decide +kernel
theorem dL_areAlike_108 : decode cL_areAlike 108 = .ok (.iconst 0, 1) := by decide +kernel
theorem dL_areAlike_109 : decode cL_areAlike 109 = .ok (.invokestatic 152, 3) := by decide +kernel
theorem dL_areAlike_112 : decode cL_areAlike 112 = .ok (.if_icmp .ne 149, 3) := by decide +kernel
theorem dL_areAlike_115 : decode cL_areAlike 115 = .ok (.aload_n 0, 1) := by decide +kernel
theorem dL_areAlike_116 : decode cL_areAlike 116 = .ok (.bipush 20, 2) := by decide +kernel
theorem dL_areAlike_118 : decode cL_areAlike 118 = .ok (.iload 5, 2) := by decide +kernel
theorem dL_areAlike_120 : decode cL_areAlike 120 = .ok (.iload_n 2, 1) := by decide +kernel
theorem dL_areAlike_121 : decode cL_areAlike 121 = .ok (.iconst 1, 1) := by decide +kernel
theorem dL_areAlike_122 : decode cL_areAlike 122 = .ok (.iand, 1) := by decide +kernel
theorem dL_areAlike_123 : decode cL_areAlike 123 = .ok (.iconst 0, 1) := by decide +kernel
theorem dL_areAlike_124 : decode cL_areAlike 124 = .ok (.iconst 0, 1) := by decide +kernel
theorem dL_areAlike_125 : decode cL_areAlike 125 = .ok (.invokestatic 152, 3) := by decide +kernel
theorem dL_areAlike_128 : decode cL_areAlike 128 = .ok (.aload_n 1, 1) := by decide +kernel
theorem dL_areAlike_129 : decode cL_areAlike 129 = .ok (.bipush 20, 2) := by decide +kernel
theorem dL_areAlike_131 : decode cL_areAlike 131 = .ok (.iload 5, 2) := by decide +kernel
theorem dL_areAlike_133 : decode cL_areAlike 133 = .ok (.iload_n 2, 1) := by decide +kernel
theorem dL_areAlike_134 : decode cL_areAlike 134 = .ok (.iconst 1, 1) := by decide +kernel
theorem dL_areAlike_135 : decode cL_areAlike 135 = .ok (.iand, 1) := by decide +kernel
theorem dL_areAlike_136 : decode cL_areAlike 136 = .ok (.iconst 0, 1) := by decide +kernel
theorem dL_areAlike_137 : decode cL_areAlike 137 = .ok (.iconst 0, 1) := by decide +kernel
theorem dL_areAlike_138 : decode cL_areAlike 138 = .ok (.invokestatic 152, 3) := by decide +kernel
theorem dL_areAlike_141 : decode cL_areAlike 141 = .ok (.if_icmp .ne 120, 3) := by decide +kernel
theorem dL_areAlike_144 : decode cL_areAlike 144 = .ok (.iload 5, 2) := by decide +kernel
theorem dL_areAlike_146 : decode cL_areAlike 146 = .ok (.iload_n 2, 1) := by decide +kernel
theorem dL_areAlike_147 : decode cL_areAlike 147 = .ok (.bipush 8, 2) := by decide +kernel
theorem dL_areAlike_149 : decode cL_areAlike 149 = .ok (.invokestatic 155, 3) := by decide +kernel
theorem dL_areAlike_152 : decode cL_areAlike 152 = .ok (.if_icmp .ne 28, 3) := by decide +kernel
theorem dL_areAlike_155 : decode cL_areAlike 155 = .ok (.aload_n 0, 1) := by decide +kernel
theorem dL_areAlike_156 : decode cL_areAlike 156 = .ok (.bipush 25, 2) := by decide +kernel
theorem dL_areAlike_158 : decode cL_areAlike 158 = .ok (.iload 5, 2) := by decide +kernel
theorem dL_areAlike_160 : decode cL_areAlike 160 = .ok (.iconst 0, 1) := by decide +kernel
theorem dL_areAlike_161 : decode cL_areAlike 161 = .ok (.iconst 0, 1) := by decide +kernel
theorem dL_areAlike_162 : decode cL_areAlike 162 = .ok (.iconst 0, 1) := by decide +kernel
theorem dL_areAlike_163 : decode cL_areAlike 163 = .ok (.invokestatic 152, 3) := by decide +kernel
theorem dL_areAlike_166 : decode cL_areAlike 166 = .ok (.aload_n 1, 1) := by decide +kernel
theorem dL_areAlike_167 : decode cL_areAlike 167 = .ok (.bipush 25, 2) := by decide +kernel
theorem dL_areAlike_169 : decode cL_areAlike 169 = .ok (.iload 5, 2) := by decide +kernel
theorem dL_areAlike_171 : decode cL_areAlike 171 = .ok (.iconst 0, 1) := by decide +kernel
theorem dL_areAlike_172 : decode cL_areAlike 172 = .ok (.iconst 0, 1) := by decide +kernel
theorem dL_areAlike_173 : decode cL_areAlike 173 = .ok (.iconst 0, 1) := by decide +kernel
theorem dL_areAlike_174 : decode cL_areAlike 174 = .ok (.invokestatic 152, 3) := by decide +kernel
theorem dL_areAlike_177 : decode cL_areAlike 177 = .ok (.if_icmp .ne 84, 3) := by decide +kernel
theorem dL_areAlike_180 : decode cL_areAlike 180 = .ok (.aload_n 0, 1) := by decide +kernel
theorem dL_areAlike_181 : decode cL_areAlike 181 = .ok (.bipush 29, 2) := by decide +kernel
theorem dL_areAlike_183 : decode cL_areAlike 183 = .ok (.iload 5, 2) := by decide +kernel
theorem dL_areAlike_185 : decode cL_areAlike 185 = .ok (.iload 4, 2) := by decide +kernel
theorem dL_areAlike_187 : decode cL_areAlike 187 = .ok (.iconst 0, 1) := by decide +kernel
theorem dL_areAlike_188 : decode cL_areAlike 188 = .ok (.iconst 0, 1) := by decide +kernel
theorem dL_areAlike_189 : decode cL_areAlike 189 = .ok (.invokestatic 152, 3) := by decide +kernel
theorem dL_areAlike_192 : decode cL_areAlike 192 = .ok (.aload_n 1, 1) := by decide +kernel
theorem dL_areAlike_193 : decode cL_areAlike 193 = .ok (.bipush 29, 2) := by decide +kernel
theorem dL_areAlike_195 : decode cL_areAlike 195 = .ok (.iload 5, 2) := by decide +kernel
theorem dL_areAlike_197 : decode cL_areAlike 197 = .ok (.iload 4, 2) := by decide +kernel
theorem dL_areAlike_199 : decode cL_areAlike 199 = .ok (.iconst 0, 1) := by decide +kernel
theorem dL_areAlike_200 : decode cL_areAlike 200 = .ok (.iconst 0, 1) := by decide +kernel
theorem dL_areAlike_201 : decode cL_areAlike 201 = .ok (.invokestatic 152, 3) := by decide +kernel
theorem dL_areAlike_204 : decode cL_areAlike 204 = .ok (.if_icmp .ne 57, 3) := by decide +kernel
theorem dL_areAlike_207 : decode cL_areAlike 207 = .ok (.aload_n 0, 1) := by decide +kernel
theorem dL_areAlike_208 : decode cL_areAlike 208 = .ok (.bipush 31, 2) := by decide +kernel
theorem dL_areAlike_210 : decode cL_areAlike 210 = .ok (.iload 5, 2) := by decide +kernel
theorem dL_areAlike_212 : decode cL_areAlike 212 = .ok (.iconst 0, 1) := by decide +kernel
theorem dL_areAlike_213 : decode cL_areAlike 213 = .ok (.iconst 0, 1) := by decide +kernel
theorem dL_areAlike_214 : decode cL_areAlike 214 = .ok (.iconst 0, 1) := by decide +kernel
theorem dL_areAlike_215 : decode cL_areAlike 215 = .ok (.invokestatic 152, 3) := by decide +kernel
theorem dL_areAlike_218 : decode cL_areAlike 218 = .ok (.aload_n 1, 1) := by decide +kernel
theorem dL_areAlike_219 : decode cL_areAlike 219 = .ok (.bipush 31, 2) := by decide +kernel
theorem dL_areAlike_221 : decode cL_areAlike 221 = .ok (.iload 5, 2) := by decide +kernel
theorem dL_areAlike_223 : decode cL_areAlike 223 = .ok (.iconst 0, 1) := by decide +kernel
theorem dL_areAlike_224 : decode cL_areAlike 224 = .ok (.iconst 0, 1) := by decide +kernel
theorem dL_areAlike_225 : decode cL_areAlike 225 = .ok (.iconst 0, 1) := by decide +kernel
theorem dL_areAlike_226 : decode cL_areAlike 226 = .ok (.invokestatic 152, 3) := by decide +kernel
theorem dL_areAlike_229 : decode cL_areAlike 229 = .ok (.if_icmp .ne 32, 3) := by decide +kernel
theorem dL_areAlike_232 : decode cL_areAlike 232 = .ok (.aload_n 0, 1) := by decide +kernel
theorem dL_areAlike_233 : decode cL_areAlike 233 = .ok (.bipush 33, 2) := by decide +kernel
theorem dL_areAlike_235 : decode cL_areAlike 235 = .ok (.iload 5, 2) := by decide +kernel
theorem dL_areAlike_237 : decode cL_areAlike 237 = .ok (.iconst 0, 1) := by decide +kernel
theorem dL_areAlike_238 : decode cL_areAlike 238 = .ok (.iconst 0, 1) := by decide +kernel
theorem dL_areAlike_239 : decode cL_areAlike 239 = .ok (.iconst 0, 1) := by decide +kernel
theorem dL_areAlike_240 : decode cL_areAlike 240 = .ok (.invokestatic 152, 3) := by decide +kernel
theorem dL_areAlike_243 : decode cL_areAlike 243 = .ok (.aload_n 1, 1) := by decide +kernel
theorem dL_areAlike_244 : decode cL_areAlike 244 = .ok (.bipush 33, 2) := by decide +kernel
theorem dL_areAlike_246 : decode cL_areAlike 246 = .ok (.iload 5, 2) := by decide +kernel
theorem dL_areAlike_248 : decode cL_areAlike 248 = .ok (.iconst 0, 1) := by decide +kernel
theorem dL_areAlike_249 : decode cL_areAlike 249 = .ok (.iconst 0, 1) := by decide +kernel
theorem dL_areAlike_250 : decode cL_areAlike 250 = .ok (.iconst 0, 1) := by decide +kernel
theorem dL_areAlike_251 : decode cL_areAlike 251 = .ok (.invokestatic 152, 3) := by decide +kernel
theorem dL_areAlike_254 : decode cL_areAlike 254 = .ok (.if_icmp .ne 7, 3) := by decide +kernel
theorem dL_areAlike_257 : decode cL_areAlike 257 = .ok (.iconst 1, 1) := by decide +kernel
theorem dL_areAlike_258 : decode cL_areAlike 258 = .ok (.goto 4, 3) := by decide +kernel
theorem dL_areAlike_261 : decode cL_areAlike 261 = .ok (.iconst 0, 1) := by decide +kernel
theorem dL_areAlike_262 : decode cL_areAlike 262 = .ok (.istore_n 3, 1) := by decide +kernel
theorem dL_areAlike_263 : decode cL_areAlike 263 = .ok (.iconst 0, 1) := by decide +kernel
theorem dL_areAlike_264 : decode cL_areAlike 264 = .ok (.istore 6, 2) := by decide +kernel
theorem dL_areAlike_266 : decode cL_areAlike 266 = .ok (.iload 6, 2) := by decide +kernel
theorem dL_areAlike_268 : decode cL_areAlike 268 = .ok (.iconst 5, 1) := by decide +kernel
theorem dL_areAlike_269 : decode cL_areAlike 269 = .ok (.if_icmp .ge 46, 3) := by decide +kernel
theorem dL_areAlike_272 : decode cL_areAlike 272 = .ok (.iload_n 3, 1) := by decide +kernel
theorem dL_areAlike_273 : decode cL_areAlike 273 = .ok (.ifCond .eq 42, 3) := by decide +kernel
theorem dL_areAlike_276 : decode cL_areAlike 276 = .ok (.aload_n 0, 1) := by decide +kernel
theorem dL_areAlike_277 : decode cL_areAlike 277 = .ok (.bipush 17, 2) := by decide +kernel
theorem dL_areAlike_279 : decode cL_areAlike 279 = .ok (.iload 5, 2) := by decide +kernel
theorem dL_areAlike_281 : decode cL_areAlike 281 = .ok (.iload 6, 2) := by decide +kernel
theorem dL_areAlike_283 : decode cL_areAlike 283 = .ok (.iconst 0, 1) := by decide +kernel
theorem dL_areAlike_284 : decode cL_areAlike 284 = .ok (.iconst 0, 1) := by decide +kernel
theorem dL_areAlike_285 : decode cL_areAlike 285 = .ok (.invokestatic 152, 3) := by decide +kernel
theorem dL_areAlike_288 : decode cL_areAlike 288 = .ok (.aload_n 1, 1) := by decide +kernel
theorem dL_areAlike_289 : decode cL_areAlike 289 = .ok (.bipush 17, 2) := by decide +kernel
theorem dL_areAlike_291 : decode cL_areAlike 291 = .ok (.iload 5, 2) := by decide +kernel
theorem dL_areAlike_293 : decode cL_areAlike 293 = .ok (.iload 6, 2) := by decide +kernel
theorem dL_areAlike_295 : decode cL_areAlike 295 = .ok (.iconst 0, 1) := by decide +kernel
theorem dL_areAlike_296 : decode cL_areAlike 296 = .ok (.iconst 0, 1) := by decide +kernel
theorem dL_areAlike_297 : decode cL_areAlike 297 = .ok (.invokestatic 152, 3) := by decide +kernel
theorem dL_areAlike_300 : decode cL_areAlike 300 = .ok (.if_icmp .ne 7, 3) := by decide +kernel
theorem dL_areAlike_303 : decode cL_areAlike 303 = .ok (.iconst 1, 1) := by decide +kernel
theorem dL_areAlike_304 : decode cL_areAlike 304 = .ok (.goto 4, 3) := by decide +kernel
theorem dL_areAlike_307 : decode cL_areAlike 307 = .ok (.iconst 0, 1) := by decide +kernel
theorem dL_areAlike_308 : decode cL_areAlike 308 = .ok (.istore_n 3, 1) := by decide +kernel
theorem dL_areAlike_309 : decode cL_areAlike 309 = .ok (.iinc 6 1, 3) := by decide +kernel
theorem dL_areAlike_312 : decode cL_areAlike 312 = .ok (.goto (-46), 3) := by decide +kernel
theorem dL_areAlike_315 : decode cL_areAlike 315 = .ok (.iinc 5 1, 3) := by decide +kernel
theorem dL_areAlike_318 : decode cL_areAlike 318 = .ok (.goto (-268), 3) := by decide +kernel
theorem dL_areAlike_321 : decode cL_areAlike 321 = .ok (.iload_n 3, 1) := by decide +kernel
theorem dL_areAlike_322 : decode cL_areAlike 322 = .ok (.ifCond .eq 73, 3) := by decide +kernel
theorem dL_areAlike_325 : decode cL_areAlike 325 = .ok (.aload_n 0, 1) := by decide +kernel
theorem dL_areAlike_326 : decode cL_areAlike 326 = .ok (.bipush 22, 2) := by decide +kernel
theorem dL_areAlike_328 : decode cL_areAlike 328 = .ok (.iload 4, 2) := by decide +kernel
theorem dL_areAlike_330 : decode cL_areAlike 330 = .ok (.iload_n 2, 1) := by decide +kernel
theorem dL_areAlike_331 : decode cL_areAlike 331 = .ok (.iconst 1, 1) := by decide +kernel
theorem dL_areAlike_332 : decode cL_areAlike 332 = .ok (.iand, 1) := by decide +kernel
theorem dL_areAlike_333 : decode cL_areAlike 333 = .ok (.iconst 0, 1) := by decide +kernel
theorem dL_areAlike_334 : decode cL_areAlike 334 = .ok (.iconst 0, 1) := by decide +kernel
theorem dL_areAlike_335 : decode cL_areAlike 335 = .ok (.invokestatic 152, 3) := by decide +kernel
theorem dL_areAlike_338 : decode cL_areAlike 338 = .ok (.aload_n 1, 1) := by decide +kernel
theorem dL_areAlike_339 : decode cL_areAlike 339 = .ok (.bipush 22, 2) := by decide +kernel
theorem dL_areAlike_341 : decode cL_areAlike 341 = .ok (.iload 4, 2) := by decide +kernel
theorem dL_areAlike_343 : decode cL_areAlike 343 = .ok (.iload_n 2, 1) := by decide +kernel
theorem dL_areAlike_344 : decode cL_areAlike 344 = .ok (.iconst 1, 1) := by decide +kernel
theorem dL_areAlike_345 : decode cL_areAlike 345 = .ok (.iand, 1) := by decide +kernel
theorem dL_areAlike_346 : decode cL_areAlike 346 = .ok (.iconst 0, 1) := by decide +kernel
theorem dL_areAlike_347 : decode cL_areAlike 347 = .ok (.iconst 0, 1) := by decide +kernel
theorem dL_areAlike_348 : decode cL_areAlike 348 = .ok (.invokestatic 152, 3) := by decide +kernel
theorem dL_areAlike_351 : decode cL_areAlike 351 = .ok (.if_icmp .ne 44, 3) := by decide +kernel
theorem dL_areAlike_354 : decode cL_areAlike 354 = .ok (.aload_n 0, 1) := by decide +kernel
theorem dL_areAlike_355 : decode cL_areAlike 355 = .ok (.bipush 23, 2) := by decide +kernel
theorem dL_areAlike_357 : decode cL_areAlike 357 = .ok (.iload 4, 2) := by decide +kernel
theorem dL_areAlike_359 : decode cL_areAlike 359 = .ok (.iload_n 2, 1) := by decide +kernel
theorem dL_areAlike_360 : decode cL_areAlike 360 = .ok (.iconst 3, 1) := by decide +kernel
theorem dL_areAlike_361 : decode cL_areAlike 361 = .ok (.ishr, 1) := by decide +kernel
theorem dL_areAlike_362 : decode cL_areAlike 362 = .ok (.iconst 3, 1) := by decide +kernel
theorem dL_areAlike_363 : decode cL_areAlike 363 = .ok (.invokestatic 155, 3) := by decide +kernel
theorem dL_areAlike_366 : decode cL_areAlike 366 = .ok (.iconst 0, 1) := by decide +kernel
theorem dL_areAlike_367 : decode cL_areAlike 367 = .ok (.iconst 0, 1) := by decide +kernel
theorem dL_areAlike_368 : decode cL_areAlike 368 = .ok (.invokestatic 152, 3) := by decide +kernel
theorem dL_areAlike_371 : decode cL_areAlike 371 = .ok (.aload_n 1, 1) := by decide +kernel
theorem dL_areAlike_372 : decode cL_areAlike 372 = .ok (.bipush 23, 2) := by decide +kernel
theorem dL_areAlike_374 : decode cL_areAlike 374 = .ok (.iload 4, 2) := by decide +kernel
theorem dL_areAlike_376 : decode cL_areAlike 376 = .ok (.iload_n 2, 1) := by decide +kernel
theorem dL_areAlike_377 : decode cL_areAlike 377 = .ok (.iconst 3, 1) := by decide +kernel
theorem dL_areAlike_378 : decode cL_areAlike 378 = .ok (.ishr, 1) := by decide +kernel
theorem dL_areAlike_379 : decode cL_areAlike 379 = .ok (.iconst 3, 1) := by decide +kernel
theorem dL_areAlike_380 : decode cL_areAlike 380 = .ok (.invokestatic 155, 3) := by decide +kernel
theorem dL_areAlike_383 : decode cL_areAlike 383 = .ok (.iconst 0, 1) := by decide +kernel
theorem dL_areAlike_384 : decode cL_areAlike 384 = .ok (.iconst 0, 1) := by decide +kernel
theorem dL_areAlike_385 : decode cL_areAlike 385 = .ok (.invokestatic 152, 3) := by decide +kernel
theorem dL_areAlike_388 : decode cL_areAlike 388 = .ok (.if_icmp .ne 7, 3) := by decide +kernel
theorem dL_areAlike_391 : decode cL_areAlike 391 = .ok (.iconst 1, 1) := by decide +kernel
theorem dL_areAlike_392 : decode cL_areAlike 392 = .ok (.goto 4, 3) := by decide +kernel
theorem dL_areAlike_395 : decode cL_areAlike 395 = .ok (.iconst 0, 1) := by decide +kernel
theorem dL_areAlike_396 : decode cL_areAlike 396 = .ok (.ireturn, 1) := by decide +kernel
theorem dL_areGiven_0 : decode cL_areGiven 0 = .ok (.aload_n 0, 1) := by decide +kernel
theorem dL_areGiven_1 : decode cL_areGiven 1 = .ok (.invokevirtual 175, 3) := by decide +kernel
theorem dL_areGiven_4 : decode cL_areGiven 4 = .ok (.istore_n 3, 1) := by decide +kernel
theorem dL_areGiven_5 : decode cL_areGiven 5 = .ok (.iconst 0, 1) := by decide +kernel
theorem dL_areGiven_6 : decode cL_areGiven 6 = .ok (.istore 4, 2) := by decide +kernel
theorem dL_areGiven_8 : decode cL_areGiven 8 = .ok (.iconst 0, 1) := by decide +kernel
theorem dL_areGiven_9 : decode cL_areGiven 9 = .ok (.istore 5, 2) := by decide +kernel
theorem dL_areGiven_11 : decode cL_areGiven 11 = .ok (.iload_n 3, 1) := by decide +kernel
theorem dL_areGiven_12 : decode cL_areGiven 12 = .ok (.ifCond .lt 7, 3) := by decide +kernel
theorem dL_areGiven_15 : decode cL_areGiven 15 = .ok (.iconst 1, 1) := by decide +kernel
theorem dL_areGiven_16 : decode cL_areGiven 16 = .ok (.goto 4, 3) := by decide +kernel
theorem dL_areGiven_19 : decode cL_areGiven 19 = .ok (.iconst 0, 1) := by decide +kernel
theorem dL_areGiven_20 : decode cL_areGiven 20 = .ok (.istore 6, 2) := by decide +kernel
theorem dL_areGiven_22 : decode cL_areGiven 22 = .ok (.aload_n 0, 1) := by decide +kernel
theorem dL_areGiven_23 : decode cL_areGiven 23 = .ok (.bipush 25, 2) := by decide +kernel
theorem dL_areGiven_25 : decode cL_areGiven 25 = .ok (.iconst 0, 1) := by decide +kernel
theorem dL_areGiven_26 : decode cL_areGiven 26 = .ok (.iconst 0, 1) := by decide +kernel
theorem dL_areGiven_27 : decode cL_areGiven 27 = .ok (.iconst 0, 1) := by decide +kernel
theorem dL_areGiven_28 : decode cL_areGiven 28 = .ok (.iconst 0, 1) := by decide +kernel
theorem dL_areGiven_29 : decode cL_areGiven 29 = .ok (.invokestatic 152, 3) := by decide +kernel
theorem dL_areGiven_32 : decode cL_areGiven 32 = .ok (.istore 7, 2) := by decide +kernel
theorem dL_areGiven_34 : decode cL_areGiven 34 = .ok (.iload 7, 2) := by decide +kernel
theorem dL_areGiven_36 : decode cL_areGiven 36 = .ok (.ldc 59, 2) := by decide +kernel
theorem dL_areGiven_38 : decode cL_areGiven 38 = .ok (.if_icmp .le 100, 3) := by decide +kernel
theorem dL_areGiven_41 : decode cL_areGiven 41 = .ok (.iload 6, 2) := by decide +kernel
theorem dL_areGiven_43 : decode cL_areGiven 43 = .ok (.ifCond .eq 95, 3) := by decide +kernel
theorem dL_areGiven_46 : decode cL_areGiven 46 = .ok (.iload 5, 2) := by decide +kernel
theorem dL_areGiven_48 : decode cL_areGiven 48 = .ok (.istore 8, 2) := by decide +kernel
theorem dL_areGiven_50 : decode cL_areGiven 50 = .ok (.iload 7, 2) := by decide +kernel
theorem dL_areGiven_52 : decode cL_areGiven 52 = .ok (.ifCond .lt 7, 3) := by decide +kernel
theorem dL_areGiven_55 : decode cL_areGiven 55 = .ok (.iconst 1, 1) := by decide +kernel
theorem dL_areGiven_56 : decode cL_areGiven 56 = .ok (.goto 4, 3) := by decide +kernel
theorem dL_areGiven_59 : decode cL_areGiven 59 = .ok (.iconst 0, 1) := by decide +kernel
theorem dL_areGiven_60 : decode cL_areGiven 60 = .ok (.iload_n 3, 1) := by decide +kernel
theorem dL_areGiven_61 : decode cL_areGiven 61 = .ok (.ifCond .le 7, 3) := by decide +kernel
theorem dL_areGiven_64 : decode cL_areGiven 64 = .ok (.iconst 1, 1) := by decide +kernel
theorem dL_areGiven_65 : decode cL_areGiven 65 = .ok (.goto 4, 3) := by decide +kernel
theorem dL_areGiven_68 : decode cL_areGiven 68 = .ok (.iconst 0, 1) := by decide +kernel
theorem dL_areGiven_69 : decode cL_areGiven 69 = .ok (.if_icmp .ne 29, 3) := by decide +kernel
theorem dL_areGiven_72 : decode cL_areGiven 72 = .ok (.iload 7, 2) := by decide +kernel
theorem dL_areGiven_74 : decode cL_areGiven 74 = .ok (.iload 8, 2) := by decide +kernel
theorem dL_areGiven_76 : decode cL_areGiven 76 = .ok (.if_icmp .eq 22, 3) := by decide +kernel
theorem dL_areGiven_79 : decode cL_areGiven 79 = .ok (.iload 7, 2) := by decide +kernel
theorem dL_areGiven_81 : decode cL_areGiven 81 = .ok (.ifCond .lt 13, 3) := by decide +kernel
theorem dL_areGiven_84 : decode cL_areGiven 84 = .ok (.iload 4, 2) := by decide +kernel
theorem dL_areGiven_86 : decode cL_areGiven 86 = .ok (.iload 7, 2) := by decide +kernel
theorem dL_areGiven_88 : decode cL_areGiven 88 = .ok (.ishr, 1) := by decide +kernel
theorem dL_areGiven_89 : decode cL_areGiven 89 = .ok (.iconst 1, 1) := by decide +kernel
theorem dL_areGiven_90 : decode cL_areGiven 90 = .ok (.iand, 1) := by decide +kernel
theorem dL_areGiven_91 : decode cL_areGiven 91 = .ok (.ifCond .ne 7, 3) := by decide +kernel
theorem dL_areGiven_94 : decode cL_areGiven 94 = .ok (.iconst 1, 1) := by decide +kernel
theorem dL_areGiven_95 : decode cL_areGiven 95 = .ok (.goto 4, 3) := by decide +kernel
theorem dL_areGiven_98 : decode cL_areGiven 98 = .ok (.iconst 0, 1) := by decide +kernel
theorem dL_areGiven_99 : decode cL_areGiven 99 = .ok (.istore 6, 2) := by decide +kernel
theorem dL_areGiven_101 : decode cL_areGiven 101 = .ok (.iload 4, 2) := by decide +kernel
theorem dL_areGiven_103 : decode cL_areGiven 103 = .ok (.iload 7, 2) := by decide +kernel
theorem dL_areGiven_105 : decode cL_areGiven 105 = .ok (.ifCond .ge 7, 3) := by decide +kernel
theorem dL_areGiven_108 : decode cL_areGiven 108 = .ok (.iconst 0, 1) := by decide +kernel
theorem dL_areGiven_109 : decode cL_areGiven 109 = .ok (.goto 7, 3) := by decide +kernel
theorem dL_areGiven_112 : decode cL_areGiven 112 = .ok (.iconst 1, 1) := by decide +kernel
theorem dL_areGiven_113 : decode cL_areGiven 113 = .ok (.iload 7, 2) := by decide +kernel
theorem dL_areGiven_115 : decode cL_areGiven 115 = .ok (.ishl, 1) := by decide +kernel
theorem dL_areGiven_116 : decode cL_areGiven 116 = .ok (.ior, 1) := by decide +kernel
theorem dL_areGiven_117 : decode cL_areGiven 117 = .ok (.istore 4, 2) := by decide +kernel
theorem dL_areGiven_119 : decode cL_areGiven 119 = .ok (.iinc 5 1, 3) := by decide +kernel
theorem dL_areGiven_122 : decode cL_areGiven 122 = .ok (.aload_n 0, 1) := by decide +kernel
theorem dL_areGiven_123 : decode cL_areGiven 123 = .ok (.bipush 25, 2) := by decide +kernel
theorem dL_areGiven_125 : decode cL_areGiven 125 = .ok (.iload 5, 2) := by decide +kernel
theorem dL_areGiven_127 : decode cL_areGiven 127 = .ok (.iconst 0, 1) := by decide +kernel
theorem dL_areGiven_128 : decode cL_areGiven 128 = .ok (.iconst 0, 1) := by decide +kernel
theorem dL_areGiven_129 : decode cL_areGiven 129 = .ok (.iconst 0, 1) := by decide +kernel
theorem dL_areGiven_130 : decode cL_areGiven 130 = .ok (.invokestatic 152, 3) := by decide +kernel
theorem dL_areGiven_133 : decode cL_areGiven 133 = .ok (.istore 7, 2) := by decide +kernel
theorem dL_areGiven_135 : decode cL_areGiven 135 = .ok (.goto (-101), 3) := by decide +kernel
theorem dL_areGiven_138 : decode cL_areGiven 138 = .ok (.iload_n 2, 1) := by decide +kernel
theorem dL_areGiven_139 : decode cL_areGiven 139 = .ok (.bipush 12, 2) := by decide +kernel
theorem dL_areGiven_141 : decode cL_areGiven 141 = .ok (.invokestatic 155, 3) := by decide +kernel
theorem dL_areGiven_144 : decode cL_areGiven 144 = .ok (.istore 7, 2) := by decide +kernel
theorem dL_areGiven_146 : decode cL_areGiven 146 = .ok (.aload_n 0, 1) := by decide +kernel
theorem dL_areGiven_147 : decode cL_areGiven 147 = .ok (.iload 7, 2) := by decide +kernel
theorem dL_areGiven_149 : decode cL_areGiven 149 = .ok (.invokevirtual 51, 3) := by decide +kernel
theorem dL_areGiven_152 : decode cL_areGiven 152 = .ok (.istore 8, 2) := by decide +kernel
theorem dL_areGiven_154 : decode cL_areGiven 154 = .ok (.aload_n 0, 1) := by decide +kernel
theorem dL_areGiven_155 : decode cL_areGiven 155 = .ok (.iload 7, 2) := by decide +kernel
theorem dL_areGiven_157 : decode cL_areGiven 157 = .ok (.invokevirtual 54, 3) := by decide +kernel
theorem dL_areGiven_160 : decode cL_areGiven 160 = .ok (.istore 9, 2) := by decide +kernel
theorem dL_areGiven_162 : decode cL_areGiven 162 = .ok (.iload 6, 2) := by decide +kernel
theorem dL_areGiven_164 : decode cL_areGiven 164 = .ok (.ifCond .eq 74, 3) := by decide +kernel
theorem dL_areGiven_167 : decode cL_areGiven 167 = .ok (.iload_n 3, 1) := by decide +kernel
theorem dL_areGiven_168 : decode cL_areGiven 168 = .ok (.ifCond .eq 14, 3) := by decide +kernel
theorem dL_areGiven_171 : decode cL_areGiven 171 = .ok (.iload 4, 2) := by decide +kernel
theorem dL_areGiven_173 : decode cL_areGiven 173 = .ok (.iconst 1, 1) := by decide +kernel
theorem dL_areGiven_174 : decode cL_areGiven 174 = .ok (.iload 5, 2) := by decide +kernel
theorem dL_areGiven_176 : decode cL_areGiven 176 = .ok (.ishl, 1) := by decide +kernel
theorem dL_areGiven_177 : decode cL_areGiven 177 = .ok (.iconst 1, 1) := by decide +kernel
theorem dL_areGiven_178 : decode cL_areGiven 178 = .ok (.isub, 1) := by decide +kernel
theorem dL_areGiven_179 : decode cL_areGiven 179 = .ok (.if_icmp .ne 59, 3) := by decide +kernel
theorem dL_areGiven_182 : decode cL_areGiven 182 = .ok (.iload 9, 2) := by decide +kernel
theorem dL_areGiven_184 : decode cL_areGiven 184 = .ok (.ifCond .le 7, 3) := by decide +kernel
theorem dL_areGiven_187 : decode cL_areGiven 187 = .ok (.iconst 1, 1) := by decide +kernel
theorem dL_areGiven_188 : decode cL_areGiven 188 = .ok (.goto 4, 3) := by decide +kernel
theorem dL_areGiven_191 : decode cL_areGiven 191 = .ok (.iconst 0, 1) := by decide +kernel
theorem dL_areGiven_192 : decode cL_areGiven 192 = .ok (.iload 8, 2) := by decide +kernel
theorem dL_areGiven_194 : decode cL_areGiven 194 = .ok (.ifCond .eq 7, 3) := by decide +kernel
theorem dL_areGiven_197 : decode cL_areGiven 197 = .ok (.iconst 1, 1) := by decide +kernel
theorem dL_areGiven_198 : decode cL_areGiven 198 = .ok (.goto 4, 3) := by decide +kernel
theorem dL_areGiven_201 : decode cL_areGiven 201 = .ok (.iconst 0, 1) := by decide +kernel
theorem dL_areGiven_202 : decode cL_areGiven 202 = .ok (.if_icmp .ne 36, 3) := by decide +kernel
theorem dL_areGiven_205 : decode cL_areGiven 205 = .ok (.aload_n 0, 1) := by decide +kernel
theorem dL_areGiven_206 : decode cL_areGiven 206 = .ok (.iload 7, 2) := by decide +kernel
theorem dL_areGiven_208 : decode cL_areGiven 208 = .ok (.invokevirtual 51, 3) := by decide +kernel
theorem dL_areGiven_211 : decode cL_areGiven 211 = .ok (.ifCond .ne 27, 3) := by decide +kernel
theorem dL_areGiven_214 : decode cL_areGiven 214 = .ok (.aload_n 0, 1) := by decide +kernel
theorem dL_areGiven_215 : decode cL_areGiven 215 = .ok (.iload 7, 2) := by decide +kernel
theorem dL_areGiven_217 : decode cL_areGiven 217 = .ok (.invokevirtual 54, 3) := by decide +kernel
theorem dL_areGiven_220 : decode cL_areGiven 220 = .ok (.ifCond .ne 18, 3) := by decide +kernel
theorem dL_areGiven_223 : decode cL_areGiven 223 = .ok (.aload_n 1, 1) := by decide +kernel
theorem dL_areGiven_224 : decode cL_areGiven 224 = .ok (.iload 7, 2) := by decide +kernel
theorem dL_areGiven_226 : decode cL_areGiven 226 = .ok (.invokevirtual 54, 3) := by decide +kernel
theorem dL_areGiven_229 : decode cL_areGiven 229 = .ok (.iload 9, 2) := by decide +kernel
theorem dL_areGiven_231 : decode cL_areGiven 231 = .ok (.if_icmp .ne 7, 3) := by decide +kernel
theorem dL_areGiven_234 : decode cL_areGiven 234 = .ok (.iconst 1, 1) := by decide +kernel
theorem dL_areGiven_235 : decode cL_areGiven 235 = .ok (.goto 4, 3) := by decide +kernel
theorem dL_areGiven_238 : decode cL_areGiven 238 = .ok (.iconst 0, 1) := by decide +kernel
theorem dL_areGiven_239 : decode cL_areGiven 239 = .ok (.ireturn, 1) := by decide +kernel
theorem dL_areParted_0 : decode cL_areParted 0 = .ok (.iload_n 2, 1) := by decide +kernel
theorem dL_areParted_1 : decode cL_areParted 1 = .ok (.bipush 32, 2) := by decide +kernel
theorem dL_areParted_3 : decode cL_areParted 3 = .ok (.invokestatic 155, 3) := by decide +kernel
theorem dL_areParted_6 : decode cL_areParted 6 = .ok (.istore_n 3, 1) := by decide +kernel
theorem dL_areParted_7 : decode cL_areParted 7 = .ok (.aload_n 0, 1) := by decide +kernel
theorem dL_areParted_8 : decode cL_areParted 8 = .ok (.invokevirtual 162, 3) := by decide +kernel
theorem dL_areParted_11 : decode cL_areParted 11 = .ok (.istore 4, 2) := by decide +kernel
theorem dL_areParted_13 : decode cL_areParted 13 = .ok (.aload_n 1, 1) := by decide +kernel
theorem dL_areParted_14 : decode cL_areParted 14 = .ok (.invokevirtual 162, 3) := by decide +kernel
theorem dL_areParted_17 : decode cL_areParted 17 = .ok (.iload 4, 2) := by decide +kernel
theorem dL_areParted_19 : decode cL_areParted 19 = .ok (.if_icmp .ne 7, 3) := by decide +kernel
theorem dL_areParted_22 : decode cL_areParted 22 = .ok (.iconst 1, 1) := by decide +kernel
theorem dL_areParted_23 : decode cL_areParted 23 = .ok (.goto 4, 3) := by decide +kernel
theorem dL_areParted_26 : decode cL_areParted 26 = .ok (.iconst 0, 1) := by decide +kernel
theorem dL_areParted_27 : decode cL_areParted 27 = .ok (.istore 5, 2) := by decide +kernel
theorem dL_areParted_29 : decode cL_areParted 29 = .ok (.iload_n 2, 1) := by decide +kernel
theorem dL_areParted_30 : decode cL_areParted 30 = .ok (.iconst 3, 1) := by decide +kernel
theorem dL_areParted_31 : decode cL_areParted 31 = .ok (.ishr, 1) := by decide +kernel
theorem dL_areParted_32 : decode cL_areParted 32 = .ok (.iconst 3, 1) := by decide +kernel
theorem dL_areParted_33 : decode cL_areParted 33 = .ok (.invokestatic 155, 3) := by decide +kernel
theorem dL_areParted_36 : decode cL_areParted 36 = .ok (.istore 6, 2) := by decide +kernel
theorem dL_areParted_38 : decode cL_areParted 38 = .ok (.iload_n 2, 1) := by decide +kernel
theorem dL_areParted_39 : decode cL_areParted 39 = .ok (.iconst 4, 1) := by decide +kernel
theorem dL_areParted_40 : decode cL_areParted 40 = .ok (.ishr, 1) := by decide +kernel
theorem dL_areParted_41 : decode cL_areParted 41 = .ok (.iload 6, 2) := by decide +kernel
theorem dL_areParted_43 : decode cL_areParted 43 = .ok (.ifCond .ne 8, 3) := by decide +kernel
theorem dL_areParted_46 : decode cL_areParted 46 = .ok (.bipush 16, 2) := by decide +kernel
theorem dL_areParted_48 : decode cL_areParted 48 = .ok (.goto 15, 3) := by decide +kernel
theorem dL_areParted_51 : decode cL_areParted 51 = .ok (.iload 6, 2) := by decide +kernel
theorem dL_areParted_53 : decode cL_areParted 53 = .ok (.iconst 1, 1) := by decide +kernel
theorem dL_areParted_54 : decode cL_areParted 54 = .ok (.if_icmp .ne 8, 3) := by decide +kernel
theorem dL_areParted_57 : decode cL_areParted 57 = .ok (.bipush 12, 2) := by decide +kernel
theorem dL_areParted_59 : decode cL_areParted 59 = .ok (.goto 4, 3) := by decide +kernel
theorem dL_areParted_62 : decode cL_areParted 62 = .ok (.iconst 4, 1) := by decide +kernel
theorem dL_areParted_63 : decode cL_areParted 63 = .ok (.invokestatic 155, 3) := by decide +kernel
theorem dL_areParted_66 : decode cL_areParted 66 = .ok (.istore 7, 2) := by decide +kernel
theorem dL_areParted_68 : decode cL_areParted 68 = .ok (.iconst 0, 1) := by decide +kernel
theorem dL_areParted_69 : decode cL_areParted 69 = .ok (.istore 8, 2) := by decide +kernel
theorem dL_areParted_71 : decode cL_areParted 71 = .ok (.iconst 0, 1) := by decide +kernel
theorem dL_areParted_72 : decode cL_areParted 72 = .ok (.istore 9, 2) := by decide +kernel
theorem dL_areParted_74 : decode cL_areParted 74 = .ok (.aload_n 0, 1) := by decide +kernel
theorem dL_areParted_75 : decode cL_areParted 75 = .ok (.bipush 11, 2) := by decide +kernel
theorem dL_areParted_77 : decode cL_areParted 77 = .ok (.iload_n 3, 1) := by decide +kernel
theorem dL_areParted_78 : decode cL_areParted 78 = .ok (.iload 9, 2) := by decide +kernel
theorem dL_areParted_80 : decode cL_areParted 80 = .ok (.iconst 0, 1) := by decide +kernel
theorem dL_areParted_81 : decode cL_areParted 81 = .ok (.iconst 0, 1) := by decide +kernel
theorem dL_areParted_82 : decode cL_areParted 82 = .ok (.invokestatic 152, 3) := by decide +kernel
theorem dL_areParted_85 : decode cL_areParted 85 = .ok (.ifCond .lt 32, 3) := by decide +kernel
theorem dL_areParted_88 : decode cL_areParted 88 = .ok (.iload 8, 2) := by decide +kernel
theorem dL_areParted_90 : decode cL_areParted 90 = .ok (.aload_n 0, 1) := by decide +kernel
theorem dL_areParted_91 : decode cL_areParted 91 = .ok (.iload_n 3, 1) := by decide +kernel
theorem dL_areParted_92 : decode cL_areParted 92 = .ok (.iload 9, 2) := by decide +kernel
theorem dL_areParted_94 : decode cL_areParted 94 = .ok (.invokevirtual 99, 3) := by decide +kernel
theorem dL_areParted_97 : decode cL_areParted 97 = .ok (.ifCond .eq 10, 3) := by decide +kernel
theorem dL_areParted_100 : decode cL_areParted 100 = .ok (.iconst 1, 1) := by decide +kernel
theorem dL_areParted_101 : decode cL_areParted 101 = .ok (.iload 9, 2) := by decide +kernel
theorem dL_areParted_103 : decode cL_areParted 103 = .ok (.ishl, 1) := by decide +kernel
theorem dL_areParted_104 : decode cL_areParted 104 = .ok (.goto 4, 3) := by decide +kernel
theorem dL_areParted_107 : decode cL_areParted 107 = .ok (.iconst 0, 1) := by decide +kernel
theorem dL_areParted_108 : decode cL_areParted 108 = .ok (.ior, 1) := by decide +kernel
theorem dL_areParted_109 : decode cL_areParted 109 = .ok (.istore 8, 2) := by decide +kernel
theorem dL_areParted_111 : decode cL_areParted 111 = .ok (.iinc 9 1, 3) := by decide +kernel
theorem dL_areParted_114 : decode cL_areParted 114 = .ok (.goto (-40), 3) := by decide +kernel
theorem dL_areParted_117 : decode cL_areParted 117 = .ok (.iload 5, 2) := by decide +kernel
theorem dL_areParted_119 : decode cL_areParted 119 = .ok (.ifCond .eq 22, 3) := by decide +kernel
theorem dL_areParted_122 : decode cL_areParted 122 = .ok (.aload_n 0, 1) := by decide +kernel
theorem dL_areParted_123 : decode cL_areParted 123 = .ok (.iconst 0, 1) := by decide +kernel
theorem dL_areParted_124 : decode cL_areParted 124 = .ok (.iload 6, 2) := by decide +kernel
theorem dL_areParted_126 : decode cL_areParted 126 = .ok (.iload 7, 2) := by decide +kernel
theorem dL_areParted_128 : decode cL_areParted 128 = .ok (.invokestatic 158, 3) := by decide +kernel
theorem dL_areParted_131 : decode cL_areParted 131 = .ok (.ifCond .eq 10, 3) := by decide +kernel
theorem dL_areParted_134 : decode cL_areParted 134 = .ok (.aload_n 0, 1) := by decide +kernel
theorem dL_areParted_135 : decode cL_areParted 135 = .ok (.invokevirtual 169, 3) := by decide +kernel
theorem dL_areParted_138 : decode cL_areParted 138 = .ok (.ifCond .lt 5, 3) := by decide +kernel
theorem dL_areParted_141 : decode cL_areParted 141 = .ok (.iconst 0, 1) := by decide +kernel
theorem dL_areParted_142 : decode cL_areParted 142 = .ok (.ireturn, 1) := by decide +kernel
theorem dL_areParted_143 : decode cL_areParted 143 = .ok (.aload_n 0, 1) := by decide +kernel
theorem dL_areParted_144 : decode cL_areParted 144 = .ok (.iload_n 3, 1) := by decide +kernel
theorem dL_areParted_145 : decode cL_areParted 145 = .ok (.iload_n 2, 1) := by decide +kernel
theorem dL_areParted_146 : decode cL_areParted 146 = .ok (.iconst 1, 1) := by decide +kernel
theorem dL_areParted_147 : decode cL_areParted 147 = .ok (.iand, 1) := by decide +kernel
theorem dL_areParted_148 : decode cL_areParted 148 = .ok (.iconst 1, 1) := by decide +kernel
theorem dL_areParted_149 : decode cL_areParted 149 = .ok (.if_icmp .ne 7, 3) := by decide +kernel
theorem dL_areParted_152 : decode cL_areParted 152 = .ok (.iconst 1, 1) := by decide +kernel
theorem dL_areParted_153 : decode cL_areParted 153 = .ok (.goto 4, 3) := by decide +kernel
theorem dL_areParted_156 : decode cL_areParted 156 = .ok (.iconst 0, 1) := by decide +kernel
theorem dL_areParted_157 : decode cL_areParted 157 = .ok (.invokevirtual 135, 3) := by decide +kernel
theorem dL_areParted_160 : decode cL_areParted 160 = .ok (.istore 9, 2) := by decide +kernel
theorem dL_areParted_162 : decode cL_areParted 162 = .ok (.aload_n 0, 1) := by decide +kernel
theorem dL_areParted_163 : decode cL_areParted 163 = .ok (.invokevirtual 162, 3) := by decide +kernel
theorem dL_areParted_166 : decode cL_areParted 166 = .ok (.ifCond .eq 22, 3) := by decide +kernel
theorem dL_areParted_169 : decode cL_areParted 169 = .ok (.aload_n 0, 1) := by decide +kernel
theorem dL_areParted_170 : decode cL_areParted 170 = .ok (.iconst 1, 1) := by decide +kernel
theorem dL_areParted_171 : decode cL_areParted 171 = .ok (.iload 6, 2) := by decide +kernel
theorem dL_areParted_173 : decode cL_areParted 173 = .ok (.iload 7, 2) := by decide +kernel
theorem dL_areParted_175 : decode cL_areParted 175 = .ok (.invokestatic 158, 3) := by decide +kernel
theorem dL_areParted_178 : decode cL_areParted 178 = .ok (.ifCond .eq 10, 3) := by decide +kernel
theorem dL_areParted_181 : decode cL_areParted 181 = .ok (.aload_n 0, 1) := by decide +kernel
theorem dL_areParted_182 : decode cL_areParted 182 = .ok (.invokevirtual 169, 3) := by decide +kernel
theorem dL_areParted_185 : decode cL_areParted 185 = .ok (.ifCond .lt 5, 3) := by decide +kernel
theorem dL_areParted_188 : decode cL_areParted 188 = .ok (.iconst 0, 1) := by decide +kernel
theorem dL_areParted_189 : decode cL_areParted 189 = .ok (.ireturn, 1) := by decide +kernel
theorem dL_areParted_190 : decode cL_areParted 190 = .ok (.aload_n 0, 1) := by decide +kernel
theorem dL_areParted_191 : decode cL_areParted 191 = .ok (.iload_n 3, 1) := by decide +kernel
theorem dL_areParted_192 : decode cL_areParted 192 = .ok (.iload_n 2, 1) := by decide +kernel
theorem dL_areParted_193 : decode cL_areParted 193 = .ok (.iconst 1, 1) := by decide +kernel
theorem dL_areParted_194 : decode cL_areParted 194 = .ok (.iand, 1) := by decide +kernel
theorem dL_areParted_195 : decode cL_areParted 195 = .ok (.iconst 1, 1) := by decide +kernel
theorem dL_areParted_196 : decode cL_areParted 196 = .ok (.if_icmp .ne 7, 3) := by decide +kernel
theorem dL_areParted_199 : decode cL_areParted 199 = .ok (.iconst 1, 1) := by decide +kernel
theorem dL_areParted_200 : decode cL_areParted 200 = .ok (.goto 4, 3) := by decide +kernel
theorem dL_areParted_203 : decode cL_areParted 203 = .ok (.iconst 0, 1) := by decide +kernel
