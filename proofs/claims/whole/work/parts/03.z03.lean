theorem dX11_digest_41 : decode cX11_digest 41 = .ok (.getfield 23, 3) := by decide +kernel
theorem dX11_digest_44 : decode cX11_digest 44 = .ok (.iload 4, 2) := by decide +kernel
theorem dX11_digest_46 : decode cX11_digest 46 = .ok (.iaload, 1) := by decide +kernel
theorem dX11_digest_47 : decode cX11_digest 47 = .ok (.if_icmp .ge 43, 3) := by decide +kernel
theorem dX11_digest_50 : decode cX11_digest 50 = .ok (.aload_n 0, 1) := by decide +kernel
theorem dX11_digest_51 : decode cX11_digest 51 = .ok (.iload_n 1, 1) := by decide +kernel
theorem dX11_digest_52 : decode cX11_digest 52 = .ok (.iload 4, 2) := by decide +kernel
theorem dX11_digest_54 : decode cX11_digest 54 = .ok (.iload 5, 2) := by decide +kernel
theorem dX11_digest_56 : decode cX11_digest 56 = .ok (.invokevirtual 263, 3) := by decide +kernel
theorem dX11_digest_59 : decode cX11_digest 59 = .ok (.ifCond .eq 25, 3) := by decide +kernel
theorem dX11_digest_62 : decode cX11_digest 62 = .ok (.aload_n 0, 1) := by decide +kernel
theorem dX11_digest_63 : decode cX11_digest 63 = .ok (.getfield 122, 3) := by decide +kernel
theorem dX11_digest_66 : decode cX11_digest 66 = .ok (.bipush 8, 2) := by decide +kernel
theorem dX11_digest_68 : decode cX11_digest 68 = .ok (.bipush 20, 2) := by decide +kernel
theorem dX11_digest_70 : decode cX11_digest 70 = .ok (.iload_n 1, 1) := by decide +kernel
theorem dX11_digest_71 : decode cX11_digest 71 = .ok (.imul, 1) := by decide +kernel
theorem dX11_digest_72 : decode cX11_digest 72 = .ok (.iload 4, 2) := by decide +kernel
theorem dX11_digest_74 : decode cX11_digest 74 = .ok (.iadd, 1) := by decide +kernel
theorem dX11_digest_75 : decode cX11_digest 75 = .ok (.imul, 1) := by decide +kernel
theorem dX11_digest_76 : decode cX11_digest 76 = .ok (.iload 5, 2) := by decide +kernel
theorem dX11_digest_78 : decode cX11_digest 78 = .ok (.iadd, 1) := by decide +kernel
theorem dX11_digest_79 : decode cX11_digest 79 = .ok (.iconst 1, 1) := by decide +kernel
theorem dX11_digest_80 : decode cX11_digest 80 = .ok (.bastore, 1) := by decide +kernel
theorem dX11_digest_81 : decode cX11_digest 81 = .ok (.iinc 2 1, 3) := by decide +kernel
theorem dX11_digest_84 : decode cX11_digest 84 = .ok (.iinc 5 1, 3) := by decide +kernel
theorem dX11_digest_87 : decode cX11_digest 87 = .ok (.goto (-49), 3) := by decide +kernel
theorem dX11_digest_90 : decode cX11_digest 90 = .ok (.iinc 4 1, 3) := by decide +kernel
theorem dX11_digest_93 : decode cX11_digest 93 = .ok (.goto (-71), 3) := by decide +kernel
theorem dX11_digest_96 : decode cX11_digest 96 = .ok (.iload_n 2, 1) := by decide +kernel
theorem dX11_digest_97 : decode cX11_digest 97 = .ok (.ireturn, 1) := by decide +kernel
theorem dX11_isFigure_0 : decode cX11_isFigure 0 = .ok (.iload_n 0, 1) := by decide +kernel
theorem dX11_isFigure_1 : decode cX11_isFigure 1 = .ok (.bipush 48, 2) := by decide +kernel
theorem dX11_isFigure_3 : decode cX11_isFigure 3 = .ok (.bipush 57, 2) := by decide +kernel
theorem dX11_isFigure_5 : decode cX11_isFigure 5 = .ok (.invokestatic 129, 3) := by decide +kernel
theorem dX11_isFigure_8 : decode cX11_isFigure 8 = .ok (.ireturn, 1) := by decide +kernel
theorem dX11_behind_0 : decode cX11_behind 0 = .ok (.iload_n 0, 1) := by decide +kernel
theorem dX11_behind_1 : decode cX11_behind 1 = .ok (.tableswitch 198 0 7 #[47, 96, 124, 198, 141, 198, 164, 181], 47) := by decide +kernel
theorem dX11_behind_48 : decode cX11_behind 48 = .ok (.iload_n 1, 1) := by decide +kernel
theorem dX11_behind_49 : decode cX11_behind 49 = .ok (.bipush 33, 2) := by decide +kernel
theorem dX11_behind_51 : decode cX11_behind 51 = .ok (.if_icmp .eq 9, 3) := by decide +kernel
theorem dX11_behind_54 : decode cX11_behind 54 = .ok (.iload_n 1, 1) := by decide +kernel
theorem dX11_behind_55 : decode cX11_behind 55 = .ok (.bipush 40, 2) := by decide +kernel
theorem dX11_behind_57 : decode cX11_behind 57 = .ok (.if_icmp .ne 7, 3) := by decide +kernel
theorem dX11_behind_60 : decode cX11_behind 60 = .ok (.iconst 0, 1) := by decide +kernel
theorem dX11_behind_61 : decode cX11_behind 61 = .ok (.goto 35, 3) := by decide +kernel
theorem dX11_behind_64 : decode cX11_behind 64 = .ok (.iload_n 1, 1) := by decide +kernel
theorem dX11_behind_65 : decode cX11_behind 65 = .ok (.bipush 116, 2) := by decide +kernel
theorem dX11_behind_67 : decode cX11_behind 67 = .ok (.if_icmp .ne 7, 3) := by decide +kernel
theorem dX11_behind_70 : decode cX11_behind 70 = .ok (.iconst 2, 1) := by decide +kernel
theorem dX11_behind_71 : decode cX11_behind 71 = .ok (.goto 25, 3) := by decide +kernel
theorem dX11_behind_74 : decode cX11_behind 74 = .ok (.iload_n 1, 1) := by decide +kernel
theorem dX11_behind_75 : decode cX11_behind 75 = .ok (.bipush 97, 2) := by decide +kernel
theorem dX11_behind_77 : decode cX11_behind 77 = .ok (.if_icmp .ne 7, 3) := by decide +kernel
theorem dX11_behind_80 : decode cX11_behind 80 = .ok (.iconst 4, 1) := by decide +kernel
theorem dX11_behind_81 : decode cX11_behind 81 = .ok (.goto 15, 3) := by decide +kernel
theorem dX11_behind_84 : decode cX11_behind 84 = .ok (.iload_n 1, 1) := by decide +kernel
theorem dX11_behind_85 : decode cX11_behind 85 = .ok (.bipush 114, 2) := by decide +kernel
theorem dX11_behind_87 : decode cX11_behind 87 = .ok (.if_icmp .ne 8, 3) := by decide +kernel
theorem dX11_behind_90 : decode cX11_behind 90 = .ok (.bipush 7, 2) := by decide +kernel
theorem dX11_behind_92 : decode cX11_behind 92 = .ok (.goto 4, 3) := by decide +kernel
theorem dX11_behind_95 : decode cX11_behind 95 = .ok (.iconst (-1), 1) := by decide +kernel
theorem dX11_behind_96 : decode cX11_behind 96 = .ok (.ireturn, 1) := by decide +kernel
theorem dX11_behind_97 : decode cX11_behind 97 = .ok (.iload_n 1, 1) := by decide +kernel
theorem dX11_behind_98 : decode cX11_behind 98 = .ok (.bipush 38, 2) := by decide +kernel
theorem dX11_behind_100 : decode cX11_behind 100 = .ok (.if_icmp .eq 9, 3) := by decide +kernel
theorem dX11_behind_103 : decode cX11_behind 103 = .ok (.iload_n 1, 1) := by decide +kernel
theorem dX11_behind_104 : decode cX11_behind 104 = .ok (.bipush 124, 2) := by decide +kernel
theorem dX11_behind_106 : decode cX11_behind 106 = .ok (.if_icmp .ne 7, 3) := by decide +kernel
theorem dX11_behind_109 : decode cX11_behind 109 = .ok (.iconst 0, 1) := by decide +kernel
theorem dX11_behind_110 : decode cX11_behind 110 = .ok (.goto 14, 3) := by decide +kernel
theorem dX11_behind_113 : decode cX11_behind 113 = .ok (.iload_n 1, 1) := by decide +kernel
theorem dX11_behind_114 : decode cX11_behind 114 = .ok (.bipush 41, 2) := by decide +kernel
theorem dX11_behind_116 : decode cX11_behind 116 = .ok (.if_icmp .ne 7, 3) := by decide +kernel
theorem dX11_behind_119 : decode cX11_behind 119 = .ok (.iconst 1, 1) := by decide +kernel
theorem dX11_behind_120 : decode cX11_behind 120 = .ok (.goto 4, 3) := by decide +kernel
theorem dX11_behind_123 : decode cX11_behind 123 = .ok (.iconst (-1), 1) := by decide +kernel
theorem dX11_behind_124 : decode cX11_behind 124 = .ok (.ireturn, 1) := by decide +kernel
theorem dX11_behind_125 : decode cX11_behind 125 = .ok (.iload_n 1, 1) := by decide +kernel
theorem dX11_behind_126 : decode cX11_behind 126 = .ok (.bipush 48, 2) := by decide +kernel
theorem dX11_behind_128 : decode cX11_behind 128 = .ok (.bipush 50, 2) := by decide +kernel
theorem dX11_behind_130 : decode cX11_behind 130 = .ok (.invokestatic 129, 3) := by decide +kernel
theorem dX11_behind_133 : decode cX11_behind 133 = .ok (.ifCond .eq 7, 3) := by decide +kernel
theorem dX11_behind_136 : decode cX11_behind 136 = .ok (.iconst 3, 1) := by decide +kernel
theorem dX11_behind_137 : decode cX11_behind 137 = .ok (.goto 4, 3) := by decide +kernel
theorem dX11_behind_140 : decode cX11_behind 140 = .ok (.iconst (-1), 1) := by decide +kernel
theorem dX11_behind_141 : decode cX11_behind 141 = .ok (.ireturn, 1) := by decide +kernel
theorem dX11_behind_142 : decode cX11_behind 142 = .ok (.iload_n 1, 1) := by decide +kernel
theorem dX11_behind_143 : decode cX11_behind 143 = .ok (.bipush 48, 2) := by decide +kernel
theorem dX11_behind_145 : decode cX11_behind 145 = .ok (.if_icmp .ne 7, 3) := by decide +kernel
theorem dX11_behind_148 : decode cX11_behind 148 = .ok (.iconst 5, 1) := by decide +kernel
theorem dX11_behind_149 : decode cX11_behind 149 = .ok (.goto 15, 3) := by decide +kernel
theorem dX11_behind_152 : decode cX11_behind 152 = .ok (.iload_n 1, 1) := by decide +kernel
theorem dX11_behind_153 : decode cX11_behind 153 = .ok (.bipush 49, 2) := by decide +kernel
theorem dX11_behind_155 : decode cX11_behind 155 = .ok (.if_icmp .ne 8, 3) := by decide +kernel
theorem dX11_behind_158 : decode cX11_behind 158 = .ok (.bipush 6, 2) := by decide +kernel
theorem dX11_behind_160 : decode cX11_behind 160 = .ok (.goto 4, 3) := by decide +kernel
theorem dX11_behind_163 : decode cX11_behind 163 = .ok (.iconst (-1), 1) := by decide +kernel
theorem dX11_behind_164 : decode cX11_behind 164 = .ok (.ireturn, 1) := by decide +kernel
theorem dX11_behind_165 : decode cX11_behind 165 = .ok (.iload_n 1, 1) := by decide +kernel
theorem dX11_behind_166 : decode cX11_behind 166 = .ok (.bipush 48, 2) := by decide +kernel
theorem dX11_behind_168 : decode cX11_behind 168 = .ok (.bipush 49, 2) := by decide +kernel
theorem dX11_behind_170 : decode cX11_behind 170 = .ok (.invokestatic 129, 3) := by decide +kernel
theorem dX11_behind_173 : decode cX11_behind 173 = .ok (.ifCond .eq 7, 3) := by decide +kernel
theorem dX11_behind_176 : decode cX11_behind 176 = .ok (.iconst 1, 1) := by decide +kernel
theorem dX11_behind_177 : decode cX11_behind 177 = .ok (.goto 4, 3) := by decide +kernel
theorem dX11_behind_180 : decode cX11_behind 180 = .ok (.iconst (-1), 1) := by decide +kernel
theorem dX11_behind_181 : decode cX11_behind 181 = .ok (.ireturn, 1) := by decide +kernel
theorem dX11_behind_182 : decode cX11_behind 182 = .ok (.iload_n 1, 1) := by decide +kernel
theorem dX11_behind_183 : decode cX11_behind 183 = .ok (.bipush 48, 2) := by decide +kernel
theorem dX11_behind_185 : decode cX11_behind 185 = .ok (.bipush 51, 2) := by decide +kernel
theorem dX11_behind_187 : decode cX11_behind 187 = .ok (.invokestatic 129, 3) := by decide +kernel
theorem dX11_behind_190 : decode cX11_behind 190 = .ok (.ifCond .eq 7, 3) := by decide +kernel
theorem dX11_behind_193 : decode cX11_behind 193 = .ok (.iconst 1, 1) := by decide +kernel
theorem dX11_behind_194 : decode cX11_behind 194 = .ok (.goto 4, 3) := by decide +kernel
theorem dX11_behind_197 : decode cX11_behind 197 = .ok (.iconst (-1), 1) := by decide +kernel
theorem dX11_behind_198 : decode cX11_behind 198 = .ok (.ireturn, 1) := by decide +kernel
theorem dX11_behind_199 : decode cX11_behind 199 = .ok (.iload_n 1, 1) := by decide +kernel
theorem dX11_behind_200 : decode cX11_behind 200 = .ok (.invokestatic 194, 3) := by decide +kernel
theorem dX11_behind_203 : decode cX11_behind 203 = .ok (.ifCond .eq 7, 3) := by decide +kernel
theorem dX11_behind_206 : decode cX11_behind 206 = .ok (.iconst 1, 1) := by decide +kernel
theorem dX11_behind_207 : decode cX11_behind 207 = .ok (.goto 4, 3) := by decide +kernel
theorem dX11_behind_210 : decode cX11_behind 210 = .ok (.iconst (-1), 1) := by decide +kernel
theorem dX11_behind_211 : decode cX11_behind 211 = .ok (.ireturn, 1) := by decide +kernel
theorem dX11_faultOf_0 : decode cX11_faultOf 0 = .ok (.iconst 0, 1) := by decide +kernel
theorem dX11_faultOf_1 : decode cX11_faultOf 1 = .ok (.istore_n 1, 1) := by decide +kernel
theorem dX11_faultOf_2 : decode cX11_faultOf 2 = .ok (.iconst 0, 1) := by decide +kernel
theorem dX11_faultOf_3 : decode cX11_faultOf 3 = .ok (.istore_n 2, 1) := by decide +kernel
theorem dX11_faultOf_4 : decode cX11_faultOf 4 = .ok (.iconst 0, 1) := by decide +kernel
theorem dX11_faultOf_5 : decode cX11_faultOf 5 = .ok (.istore_n 3, 1) := by decide +kernel
theorem dX11_faultOf_6 : decode cX11_faultOf 6 = .ok (.iload_n 3, 1) := by decide +kernel
theorem dX11_faultOf_7 : decode cX11_faultOf 7 = .ok (.aload_n 0, 1) := by decide +kernel
theorem dX11_faultOf_8 : decode cX11_faultOf 8 = .ok (.getfield 202, 3) := by decide +kernel
theorem dX11_faultOf_11 : decode cX11_faultOf 11 = .ok (.if_icmp .ge 65, 3) := by decide +kernel
theorem dX11_faultOf_14 : decode cX11_faultOf 14 = .ok (.iload_n 1, 1) := by decide +kernel
theorem dX11_faultOf_15 : decode cX11_faultOf 15 = .ok (.aload_n 0, 1) := by decide +kernel
theorem dX11_faultOf_16 : decode cX11_faultOf 16 = .ok (.getfield 68, 3) := by decide +kernel
theorem dX11_faultOf_19 : decode cX11_faultOf 19 = .ok (.iload_n 3, 1) := by decide +kernel
theorem dX11_faultOf_20 : decode cX11_faultOf 20 = .ok (.iaload, 1) := by decide +kernel
theorem dX11_faultOf_21 : decode cX11_faultOf 21 = .ok (.invokestatic 205, 3) := by decide +kernel
theorem dX11_faultOf_24 : decode cX11_faultOf 24 = .ok (.istore_n 1, 1) := by decide +kernel
theorem dX11_faultOf_25 : decode cX11_faultOf 25 = .ok (.iload_n 2, 1) := by decide +kernel
theorem dX11_faultOf_26 : decode cX11_faultOf 26 = .ok (.aload_n 0, 1) := by decide +kernel
theorem dX11_faultOf_27 : decode cX11_faultOf 27 = .ok (.getfield 68, 3) := by decide +kernel
theorem dX11_faultOf_30 : decode cX11_faultOf 30 = .ok (.iload_n 3, 1) := by decide +kernel
theorem dX11_faultOf_31 : decode cX11_faultOf 31 = .ok (.iaload, 1) := by decide +kernel
theorem dX11_faultOf_32 : decode cX11_faultOf 32 = .ok (.bipush 40, 2) := by decide +kernel
theorem dX11_faultOf_34 : decode cX11_faultOf 34 = .ok (.if_icmp .ne 7, 3) := by decide +kernel
theorem dX11_faultOf_37 : decode cX11_faultOf 37 = .ok (.iconst 1, 1) := by decide +kernel
theorem dX11_faultOf_38 : decode cX11_faultOf 38 = .ok (.goto 19, 3) := by decide +kernel
theorem dX11_faultOf_41 : decode cX11_faultOf 41 = .ok (.aload_n 0, 1) := by decide +kernel
theorem dX11_faultOf_42 : decode cX11_faultOf 42 = .ok (.getfield 68, 3) := by decide +kernel
theorem dX11_faultOf_45 : decode cX11_faultOf 45 = .ok (.iload_n 3, 1) := by decide +kernel
theorem dX11_faultOf_46 : decode cX11_faultOf 46 = .ok (.iaload, 1) := by decide +kernel
theorem dX11_faultOf_47 : decode cX11_faultOf 47 = .ok (.bipush 41, 2) := by decide +kernel
theorem dX11_faultOf_49 : decode cX11_faultOf 49 = .ok (.if_icmp .ne 7, 3) := by decide +kernel
theorem dX11_faultOf_52 : decode cX11_faultOf 52 = .ok (.iconst (-1), 1) := by decide +kernel
theorem dX11_faultOf_53 : decode cX11_faultOf 53 = .ok (.goto 4, 3) := by decide +kernel
theorem dX11_faultOf_56 : decode cX11_faultOf 56 = .ok (.iconst 0, 1) := by decide +kernel
theorem dX11_faultOf_57 : decode cX11_faultOf 57 = .ok (.iadd, 1) := by decide +kernel
theorem dX11_faultOf_58 : decode cX11_faultOf 58 = .ok (.istore_n 2, 1) := by decide +kernel
theorem dX11_faultOf_59 : decode cX11_faultOf 59 = .ok (.iload_n 1, 1) := by decide +kernel
theorem dX11_faultOf_60 : decode cX11_faultOf 60 = .ok (.iconst (-1), 1) := by decide +kernel
theorem dX11_faultOf_61 : decode cX11_faultOf 61 = .ok (.if_icmp .eq 7, 3) := by decide +kernel
theorem dX11_faultOf_64 : decode cX11_faultOf 64 = .ok (.iload_n 2, 1) := by decide +kernel
theorem dX11_faultOf_65 : decode cX11_faultOf 65 = .ok (.ifCond .ge 5, 3) := by decide +kernel
theorem dX11_faultOf_68 : decode cX11_faultOf 68 = .ok (.iload_n 3, 1) := by decide +kernel
theorem dX11_faultOf_69 : decode cX11_faultOf 69 = .ok (.ireturn, 1) := by decide +kernel
theorem dX11_faultOf_70 : decode cX11_faultOf 70 = .ok (.iinc 3 1, 3) := by decide +kernel
theorem dX11_faultOf_73 : decode cX11_faultOf 73 = .ok (.goto (-67), 3) := by decide +kernel
theorem dX11_faultOf_76 : decode cX11_faultOf 76 = .ok (.iload_n 1, 1) := by decide +kernel
theorem dX11_faultOf_77 : decode cX11_faultOf 77 = .ok (.iconst 1, 1) := by decide +kernel
theorem dX11_faultOf_78 : decode cX11_faultOf 78 = .ok (.if_icmp .ne 11, 3) := by decide +kernel
theorem dX11_faultOf_81 : decode cX11_faultOf 81 = .ok (.iload_n 2, 1) := by decide +kernel
theorem dX11_faultOf_82 : decode cX11_faultOf 82 = .ok (.ifCond .ne 7, 3) := by decide +kernel
theorem dX11_faultOf_85 : decode cX11_faultOf 85 = .ok (.iconst (-1), 1) := by decide +kernel
theorem dX11_faultOf_86 : decode cX11_faultOf 86 = .ok (.goto 7, 3) := by decide +kernel
theorem dX11_faultOf_89 : decode cX11_faultOf 89 = .ok (.aload_n 0, 1) := by decide +kernel
theorem dX11_faultOf_90 : decode cX11_faultOf 90 = .ok (.getfield 202, 3) := by decide +kernel
theorem dX11_faultOf_93 : decode cX11_faultOf 93 = .ok (.ireturn, 1) := by decide +kernel
theorem dX11_fault_0 : decode cX11_fault 0 = .ok (.aload_n 0, 1) := by decide +kernel
theorem dX11_fault_1 : decode cX11_fault 1 = .ok (.iconst 0, 1) := by decide +kernel
theorem dX11_fault_2 : decode cX11_fault 2 = .ok (.putfield 125, 3) := by decide +kernel
theorem dX11_fault_5 : decode cX11_fault 5 = .ok (.aload_n 0, 1) := by decide +kernel
theorem dX11_fault_6 : decode cX11_fault 6 = .ok (.invokevirtual 209, 3) := by decide +kernel
theorem dX11_fault_9 : decode cX11_fault 9 = .ok (.ireturn, 1) := by decide +kernel
theorem dX11_init_0 : decode cX11_init 0 = .ok (.aload_n 0, 1) := by decide +kernel
theorem dX11_init_1 : decode cX11_init 1 = .ok (.invokespecial 1, 3) := by decide +kernel
theorem dX11_init_4 : decode cX11_init 4 = .ok (.aload_n 0, 1) := by decide +kernel
theorem dX11_init_5 : decode cX11_init 5 = .ok (.sipush 144, 3) := by decide +kernel
theorem dX11_init_8 : decode cX11_init 8 = .ok (.newarray .boolean, 2) := by decide +kernel
theorem dX11_init_10 : decode cX11_init 10 = .ok (.putfield 7, 3) := by decide +kernel
theorem dX11_init_13 : decode cX11_init 13 = .ok (.aload_n 0, 1) := by decide +kernel
theorem dX11_init_14 : decode cX11_init 14 = .ok (.bipush 32, 2) := by decide +kernel
theorem dX11_init_16 : decode cX11_init 16 = .ok (.newarray .int, 2) := by decide +kernel
theorem dX11_init_18 : decode cX11_init 18 = .ok (.putfield 13, 3) := by decide +kernel
theorem dX11_init_21 : decode cX11_init 21 = .ok (.aload_n 0, 1) := by decide +kernel
theorem dX11_init_22 : decode cX11_init 22 = .ok (.bipush 20, 2) := by decide +kernel
theorem dX11_init_24 : decode cX11_init 24 = .ok (.newarray .int, 2) := by decide +kernel
theorem dX11_init_26 : decode cX11_init 26 = .ok (.putfield 17, 3) := by decide +kernel
theorem dX11_init_29 : decode cX11_init 29 = .ok (.aload_n 0, 1) := by decide +kernel
theorem dX11_init_30 : decode cX11_init 30 = .ok (.bipush 20, 2) := by decide +kernel
theorem dX11_init_32 : decode cX11_init 32 = .ok (.newarray .int, 2) := by decide +kernel
theorem dX11_init_34 : decode cX11_init 34 = .ok (.putfield 20, 3) := by decide +kernel
theorem dX11_init_37 : decode cX11_init 37 = .ok (.aload_n 0, 1) := by decide +kernel
theorem dX11_init_38 : decode cX11_init 38 = .ok (.bipush 20, 2) := by decide +kernel
theorem dX11_init_40 : decode cX11_init 40 = .ok (.newarray .int, 2) := by decide +kernel
theorem dX11_init_42 : decode cX11_init 42 = .ok (.putfield 23, 3) := by decide +kernel
theorem dX11_init_45 : decode cX11_init 45 = .ok (.aload_n 0, 1) := by decide +kernel
theorem dX11_init_46 : decode cX11_init 46 = .ok (.sipush 160, 3) := by decide +kernel
theorem dX11_init_49 : decode cX11_init 49 = .ok (.newarray .int, 2) := by decide +kernel
theorem dX11_init_51 : decode cX11_init 51 = .ok (.putfield 26, 3) := by decide +kernel
theorem dX11_init_54 : decode cX11_init 54 = .ok (.aload_n 0, 1) := by decide +kernel
theorem dX11_init_55 : decode cX11_init 55 = .ok (.bipush 20, 2) := by decide +kernel
theorem dX11_init_57 : decode cX11_init 57 = .ok (.newarray .int, 2) := by decide +kernel
theorem dX11_init_59 : decode cX11_init 59 = .ok (.putfield 29, 3) := by decide +kernel
theorem dX11_init_62 : decode cX11_init 62 = .ok (.aload_n 0, 1) := by decide +kernel
theorem dX11_init_63 : decode cX11_init 63 = .ok (.bipush 20, 2) := by decide +kernel
theorem dX11_init_65 : decode cX11_init 65 = .ok (.newarray .boolean, 2) := by decide +kernel
theorem dX11_init_67 : decode cX11_init 67 = .ok (.putfield 32, 3) := by decide +kernel
theorem dX11_init_70 : decode cX11_init 70 = .ok (.aload_n 0, 1) := by decide +kernel
theorem dX11_init_71 : decode cX11_init 71 = .ok (.bipush 20, 2) := by decide +kernel
theorem dX11_init_73 : decode cX11_init 73 = .ok (.newarray .int, 2) := by decide +kernel
theorem dX11_init_75 : decode cX11_init 75 = .ok (.putfield 35, 3) := by decide +kernel
theorem dX11_init_78 : decode cX11_init 78 = .ok (.aload_n 0, 1) := by decide +kernel
theorem dX11_init_79 : decode cX11_init 79 = .ok (.bipush 20, 2) := by decide +kernel
theorem dX11_init_81 : decode cX11_init 81 = .ok (.newarray .int, 2) := by decide +kernel
theorem dX11_init_83 : decode cX11_init 83 = .ok (.putfield 38, 3) := by decide +kernel
theorem dX11_init_86 : decode cX11_init 86 = .ok (.aload_n 0, 1) := by decide +kernel
theorem dX11_init_87 : decode cX11_init 87 = .ok (.bipush 20, 2) := by decide +kernel
theorem dX11_init_89 : decode cX11_init 89 = .ok (.newarray .int, 2) := by decide +kernel
theorem dX11_init_91 : decode cX11_init 91 = .ok (.putfield 41, 3) := by decide +kernel
theorem dX11_init_94 : decode cX11_init 94 = .ok (.aload_n 0, 1) := by decide +kernel
theorem dX11_init_95 : decode cX11_init 95 = .ok (.bipush 20, 2) := by decide +kernel
theorem dX11_init_97 : decode cX11_init 97 = .ok (.newarray .boolean, 2) := by decide +kernel
theorem dX11_init_99 : decode cX11_init 99 = .ok (.putfield 44, 3) := by decide +kernel
theorem dX11_init_102 : decode cX11_init 102 = .ok (.aload_n 0, 1) := by decide +kernel
theorem dX11_init_103 : decode cX11_init 103 = .ok (.bipush 20, 2) := by decide +kernel
theorem dX11_init_105 : decode cX11_init 105 = .ok (.newarray .boolean, 2) := by decide +kernel
theorem dX11_init_107 : decode cX11_init 107 = .ok (.putfield 47, 3) := by decide +kernel
theorem dX11_init_110 : decode cX11_init 110 = .ok (.aload_n 0, 1) := by decide +kernel
theorem dX11_init_111 : decode cX11_init 111 = .ok (.bipush 20, 2) := by decide +kernel
theorem dX11_init_113 : decode cX11_init 113 = .ok (.newarray .int, 2) := by decide +kernel
theorem dX11_init_115 : decode cX11_init 115 = .ok (.putfield 50, 3) := by decide +kernel
theorem dX11_init_118 : decode cX11_init 118 = .ok (.aload_n 0, 1) := by decide +kernel
theorem dX11_init_119 : decode cX11_init 119 = .ok (.bipush 6, 2) := by decide +kernel
theorem dX11_init_121 : decode cX11_init 121 = .ok (.newarray .int, 2) := by decide +kernel
theorem dX11_init_123 : decode cX11_init 123 = .ok (.putfield 53, 3) := by decide +kernel
theorem dX11_init_126 : decode cX11_init 126 = .ok (.aload_n 0, 1) := by decide +kernel
theorem dX11_init_127 : decode cX11_init 127 = .ok (.bipush 6, 2) := by decide +kernel
theorem dX11_init_129 : decode cX11_init 129 = .ok (.newarray .int, 2) := by decide +kernel
theorem dX11_init_131 : decode cX11_init 131 = .ok (.putfield 56, 3) := by decide +kernel
theorem dX11_init_134 : decode cX11_init 134 = .ok (.aload_n 0, 1) := by decide +kernel
theorem dX11_init_135 : decode cX11_init 135 = .ok (.bipush 30, 2) := by decide +kernel
theorem dX11_init_137 : decode cX11_init 137 = .ok (.newarray .int, 2) := by decide +kernel
theorem dX11_init_139 : decode cX11_init 139 = .ok (.putfield 59, 3) := by decide +kernel
theorem dX11_init_142 : decode cX11_init 142 = .ok (.aload_n 0, 1) := by decide +kernel
theorem dX11_init_143 : decode cX11_init 143 = .ok (.bipush 30, 2) := by decide +kernel
theorem dX11_init_145 : decode cX11_init 145 = .ok (.newarray .int, 2) := by decide +kernel
theorem dX11_init_147 : decode cX11_init 147 = .ok (.putfield 62, 3) := by decide +kernel
theorem dX11_init_150 : decode cX11_init 150 = .ok (.aload_n 0, 1) := by decide +kernel
theorem dX11_init_151 : decode cX11_init 151 = .ok (.bipush 30, 2) := by decide +kernel
theorem dX11_init_153 : decode cX11_init 153 = .ok (.newarray .int, 2) := by decide +kernel
theorem dX11_init_155 : decode cX11_init 155 = .ok (.putfield 65, 3) := by decide +kernel
theorem dX11_init_158 : decode cX11_init 158 = .ok (.aload_n 0, 1) := by decide +kernel
theorem dX11_init_159 : decode cX11_init 159 = .ok (.bipush 60, 2) := by decide +kernel
theorem dX11_init_161 : decode cX11_init 161 = .ok (.newarray .int, 2) := by decide +kernel
theorem dX11_init_163 : decode cX11_init 163 = .ok (.putfield 68, 3) := by decide +kernel
theorem dX11_init_166 : decode cX11_init 166 = .ok (.aload_n 0, 1) := by decide +kernel
theorem dX11_init_167 : decode cX11_init 167 = .ok (.bipush 64, 2) := by decide +kernel
theorem dX11_init_169 : decode cX11_init 169 = .ok (.newarray .boolean, 2) := by decide +kernel
theorem dX11_init_171 : decode cX11_init 171 = .ok (.putfield 71, 3) := by decide +kernel
theorem dX11_init_174 : decode cX11_init 174 = .ok (.aload_n 0, 1) := by decide +kernel
theorem dX11_init_175 : decode cX11_init 175 = .ok (.bipush 64, 2) := by decide +kernel
theorem dX11_init_177 : decode cX11_init 177 = .ok (.newarray .boolean, 2) := by decide +kernel
theorem dX11_init_179 : decode cX11_init 179 = .ok (.putfield 74, 3) := by decide +kernel
theorem dX11_init_182 : decode cX11_init 182 = .ok (.aload_n 0, 1) := by decide +kernel
theorem dX11_init_183 : decode cX11_init 183 = .ok (.bipush 64, 2) := by decide +kernel
theorem dX11_init_185 : decode cX11_init 185 = .ok (.newarray .boolean, 2) := by decide +kernel
theorem dX11_init_187 : decode cX11_init 187 = .ok (.putfield 77, 3) := by decide +kernel
theorem dX11_init_190 : decode cX11_init 190 = .ok (.aload_n 0, 1) := by decide +kernel
theorem dX11_init_191 : decode cX11_init 191 = .ok (.bipush 8, 2) := by decide +kernel
theorem dX11_init_193 : decode cX11_init 193 = .ok (.newarray .int, 2) := by decide +kernel
theorem dX11_init_195 : decode cX11_init 195 = .ok (.putfield 80, 3) := by decide +kernel
theorem dX11_init_198 : decode cX11_init 198 = .ok (.aload_n 0, 1) := by decide +kernel
theorem dX11_init_199 : decode cX11_init 199 = .ok (.bipush 8, 2) := by decide +kernel
theorem dX11_init_201 : decode cX11_init 201 = .ok (.newarray .int, 2) := by decide +kernel
theorem dX11_init_203 : decode cX11_init 203 = .ok (.putfield 83, 3) := by decide +kernel
theorem dX11_init_206 : decode cX11_init 206 = .ok (.aload_n 0, 1) := by decide +kernel
theorem dX11_init_207 : decode cX11_init 207 = .ok (.bipush 8, 2) := by decide +kernel
theorem dX11_init_209 : decode cX11_init 209 = .ok (.newarray .int, 2) := by decide +kernel
theorem dX11_init_211 : decode cX11_init 211 = .ok (.putfield 86, 3) := by decide +kernel
theorem dX11_init_214 : decode cX11_init 214 = .ok (.aload_n 0, 1) := by decide +kernel
theorem dX11_init_215 : decode cX11_init 215 = .ok (.bipush 8, 2) := by decide +kernel
theorem dX11_init_217 : decode cX11_init 217 = .ok (.newarray .int, 2) := by decide +kernel
theorem dX11_init_219 : decode cX11_init 219 = .ok (.putfield 89, 3) := by decide +kernel
theorem dX11_init_222 : decode cX11_init 222 = .ok (.aload_n 0, 1) := by decide +kernel
theorem dX11_init_223 : decode cX11_init 223 = .ok (.bipush 64, 2) := by decide +kernel
theorem dX11_init_225 : decode cX11_init 225 = .ok (.newarray .boolean, 2) := by decide +kernel
theorem dX11_init_227 : decode cX11_init 227 = .ok (.putfield 92, 3) := by decide +kernel
theorem dX11_init_230 : decode cX11_init 230 = .ok (.aload_n 0, 1) := by decide +kernel
theorem dX11_init_231 : decode cX11_init 231 = .ok (.sipush 256, 3) := by decide +kernel
theorem dX11_init_234 : decode cX11_init 234 = .ok (.newarray .int, 2) := by decide +kernel
theorem dX11_init_236 : decode cX11_init 236 = .ok (.putfield 95, 3) := by decide +kernel
theorem dX11_init_239 : decode cX11_init 239 = .ok (.aload_n 0, 1) := by decide +kernel
theorem dX11_init_240 : decode cX11_init 240 = .ok (.bipush 60, 2) := by decide +kernel
theorem dX11_init_242 : decode cX11_init 242 = .ok (.newarray .int, 2) := by decide +kernel
theorem dX11_init_244 : decode cX11_init 244 = .ok (.putfield 98, 3) := by decide +kernel
theorem dX11_init_247 : decode cX11_init 247 = .ok (.aload_n 0, 1) := by decide +kernel
theorem dX11_init_248 : decode cX11_init 248 = .ok (.bipush 60, 2) := by decide +kernel
theorem dX11_init_250 : decode cX11_init 250 = .ok (.newarray .int, 2) := by decide +kernel
theorem dX11_init_252 : decode cX11_init 252 = .ok (.putfield 101, 3) := by decide +kernel
theorem dX11_init_255 : decode cX11_init 255 = .ok (.aload_n 0, 1) := by decide +kernel
theorem dX11_init_256 : decode cX11_init 256 = .ok (.bipush 60, 2) := by decide +kernel
theorem dX11_init_258 : decode cX11_init 258 = .ok (.newarray .int, 2) := by decide +kernel
theorem dX11_init_260 : decode cX11_init 260 = .ok (.putfield 104, 3) := by decide +kernel
theorem dX11_init_263 : decode cX11_init 263 = .ok (.aload_n 0, 1) := by decide +kernel
theorem dX11_init_264 : decode cX11_init 264 = .ok (.bipush 60, 2) := by decide +kernel
theorem dX11_init_266 : decode cX11_init 266 = .ok (.newarray .boolean, 2) := by decide +kernel
theorem dX11_init_268 : decode cX11_init 268 = .ok (.putfield 107, 3) := by decide +kernel
theorem dX11_init_271 : decode cX11_init 271 = .ok (.aload_n 0, 1) := by decide +kernel
theorem dX11_init_272 : decode cX11_init 272 = .ok (.bipush 60, 2) := by decide +kernel
theorem dX11_init_274 : decode cX11_init 274 = .ok (.newarray .boolean, 2) := by decide +kernel
theorem dX11_init_276 : decode cX11_init 276 = .ok (.putfield 110, 3) := by decide +kernel
theorem dX11_init_279 : decode cX11_init 279 = .ok (.aload_n 0, 1) := by decide +kernel
theorem dX11_init_280 : decode cX11_init 280 = .ok (.bipush 60, 2) := by decide +kernel
theorem dX11_init_282 : decode cX11_init 282 = .ok (.newarray .boolean, 2) := by decide +kernel
theorem dX11_init_284 : decode cX11_init 284 = .ok (.putfield 113, 3) := by decide +kernel
theorem dX11_init_287 : decode cX11_init 287 = .ok (.aload_n 0, 1) := by decide +kernel
theorem dX11_init_288 : decode cX11_init 288 = .ok (.sipush 240, 3) := by decide +kernel
theorem dX11_init_291 : decode cX11_init 291 = .ok (.newarray .int, 2) := by decide +kernel
theorem dX11_init_293 : decode cX11_init 293 = .ok (.putfield 116, 3) := by decide +kernel
theorem dX11_init_296 : decode cX11_init 296 = .ok (.aload_n 0, 1) := by decide +kernel
theorem dX11_init_297 : decode cX11_init 297 = .ok (.sipush 144, 3) := by decide +kernel
theorem dX11_init_300 : decode cX11_init 300 = .ok (.newarray .int, 2) := by decide +kernel
theorem dX11_init_302 : decode cX11_init 302 = .ok (.putfield 119, 3) := by decide +kernel
theorem dX11_init_305 : decode cX11_init 305 = .ok (.aload_n 0, 1) := by decide +kernel
theorem dX11_init_306 : decode cX11_init 306 = .ok (.sipush 1920, 3) := by decide +kernel
theorem dX11_init_309 : decode cX11_init 309 = .ok (.newarray .boolean, 2) := by decide +kernel
theorem dX11_init_311 : decode cX11_init 311 = .ok (.putfield 122, 3) := by decide +kernel
theorem dX11_init_314 : decode cX11_init 314 = .ok (.iconst 0, 1) := by decide +kernel
theorem dX11_init_315 : decode cX11_init 315 = .ok (.istore_n 1, 1) := by decide +kernel
theorem dX11_init_316 : decode cX11_init 316 = .ok (.iload_n 1, 1) := by decide +kernel
theorem dX11_init_317 : decode cX11_init 317 = .ok (.bipush 32, 2) := by decide +kernel
theorem dX11_init_319 : decode cX11_init 319 = .ok (.if_icmp .ge 16, 3) := by decide +kernel
theorem dX11_init_322 : decode cX11_init 322 = .ok (.aload_n 0, 1) := by decide +kernel
theorem dX11_init_323 : decode cX11_init 323 = .ok (.getfield 13, 3) := by decide +kernel
theorem dX11_init_326 : decode cX11_init 326 = .ok (.iload_n 1, 1) := by decide +kernel
theorem dX11_init_327 : decode cX11_init 327 = .ok (.iload_n 1, 1) := by decide +kernel
theorem dX11_init_328 : decode cX11_init 328 = .ok (.iastore, 1) := by decide +kernel
theorem dX11_init_329 : decode cX11_init 329 = .ok (.iinc 1 1, 3) := by decide +kernel
theorem dX11_init_332 : decode cX11_init 332 = .ok (.goto (-16), 3) := by decide +kernel
theorem dX11_init_335 : decode cX11_init 335 = .ok (.iconst 0, 1) := by decide +kernel
theorem dX11_init_336 : decode cX11_init 336 = .ok (.istore_n 1, 1) := by decide +kernel
theorem dX11_init_337 : decode cX11_init 337 = .ok (.iload_n 1, 1) := by decide +kernel
theorem dX11_init_338 : decode cX11_init 338 = .ok (.sipush 240, 3) := by decide +kernel
theorem dX11_init_341 : decode cX11_init 341 = .ok (.if_icmp .ge 16, 3) := by decide +kernel
theorem dX11_init_344 : decode cX11_init 344 = .ok (.aload_n 0, 1) := by decide +kernel
theorem dX11_init_345 : decode cX11_init 345 = .ok (.getfield 116, 3) := by decide +kernel
theorem dX11_init_348 : decode cX11_init 348 = .ok (.iload_n 1, 1) := by decide +kernel
theorem dX11_init_349 : decode cX11_init 349 = .ok (.iconst (-1), 1) := by decide +kernel
theorem dX11_init_350 : decode cX11_init 350 = .ok (.iastore, 1) := by decide +kernel
theorem dX11_init_351 : decode cX11_init 351 = .ok (.iinc 1 1, 3) := by decide +kernel
theorem dX11_init_354 : decode cX11_init 354 = .ok (.goto (-17), 3) := by decide +kernel
theorem dX11_init_357 : decode cX11_init 357 = .ok (.iconst 0, 1) := by decide +kernel
theorem dX11_init_358 : decode cX11_init 358 = .ok (.istore_n 1, 1) := by decide +kernel
theorem dX11_init_359 : decode cX11_init 359 = .ok (.iload_n 1, 1) := by decide +kernel
theorem dX11_init_360 : decode cX11_init 360 = .ok (.sipush 144, 3) := by decide +kernel
theorem dX11_init_363 : decode cX11_init 363 = .ok (.if_icmp .ge 16, 3) := by decide +kernel
theorem dX11_init_366 : decode cX11_init 366 = .ok (.aload_n 0, 1) := by decide +kernel
theorem dX11_init_367 : decode cX11_init 367 = .ok (.getfield 119, 3) := by decide +kernel
theorem dX11_init_370 : decode cX11_init 370 = .ok (.iload_n 1, 1) := by decide +kernel
theorem dX11_init_371 : decode cX11_init 371 = .ok (.iconst (-1), 1) := by decide +kernel
theorem dX11_init_372 : decode cX11_init 372 = .ok (.iastore, 1) := by decide +kernel
theorem dX11_init_373 : decode cX11_init 373 = .ok (.iinc 1 1, 3) := by decide +kernel
theorem dX11_init_376 : decode cX11_init 376 = .ok (.goto (-17), 3) := by decide +kernel
theorem dX11_init_379 : decode cX11_init 379 = .ok (.return_, 1) := by decide +kernel
theorem dX11_bits_0 : decode cX11_bits 0 = .ok (.iconst 0, 1) := by decide +kernel
theorem dX11_bits_1 : decode cX11_bits 1 = .ok (.istore_n 1, 1) := by decide +kernel
theorem dX11_bits_2 : decode cX11_bits 2 = .ok (.iconst 0, 1) := by decide +kernel
theorem dX11_bits_3 : decode cX11_bits 3 = .ok (.istore_n 2, 1) := by decide +kernel
theorem dX11_bits_4 : decode cX11_bits 4 = .ok (.iload_n 2, 1) := by decide +kernel
theorem dX11_bits_5 : decode cX11_bits 5 = .ok (.bipush 32, 2) := by decide +kernel
theorem dX11_bits_7 : decode cX11_bits 7 = .ok (.if_icmp .ge 17, 3) := by decide +kernel
theorem dX11_bits_10 : decode cX11_bits 10 = .ok (.iload_n 1, 1) := by decide +kernel
theorem dX11_bits_11 : decode cX11_bits 11 = .ok (.iload_n 0, 1) := by decide +kernel
theorem dX11_bits_12 : decode cX11_bits 12 = .ok (.iload_n 2, 1) := by decide +kernel
theorem dX11_bits_13 : decode cX11_bits 13 = .ok (.ishr, 1) := by decide +kernel
theorem dX11_bits_14 : decode cX11_bits 14 = .ok (.iconst 1, 1) := by decide +kernel
theorem dX11_bits_15 : decode cX11_bits 15 = .ok (.iand, 1) := by decide +kernel
theorem dX11_bits_16 : decode cX11_bits 16 = .ok (.iadd, 1) := by decide +kernel
theorem dX11_bits_17 : decode cX11_bits 17 = .ok (.istore_n 1, 1) := by decide +kernel
theorem dX11_bits_18 : decode cX11_bits 18 = .ok (.iinc 2 1, 3) := by decide +kernel
theorem dX11_bits_21 : decode cX11_bits 21 = .ok (.goto (-17), 3) := by decide +kernel
theorem dX11_bits_24 : decode cX11_bits 24 = .ok (.iload_n 1, 1) := by decide +kernel
theorem dX11_bits_25 : decode cX11_bits 25 = .ok (.ireturn, 1) := by decide +kernel
theorem dX11_join_0 : decode cX11_join 0 = .ok (.aload_n 0, 1) := by decide +kernel
theorem dX11_join_1 : decode cX11_join 1 = .ok (.iload_n 1, 1) := by decide +kernel
theorem dX11_join_2 : decode cX11_join 2 = .ok (.invokevirtual 152, 3) := by decide +kernel
theorem dX11_join_5 : decode cX11_join 5 = .ok (.ifCond .eq 14, 3) := by decide +kernel
theorem dX11_join_8 : decode cX11_join 8 = .ok (.iload_n 2, 1) := by decide +kernel
theorem dX11_join_9 : decode cX11_join 9 = .ok (.invokestatic 146, 3) := by decide +kernel
theorem dX11_join_12 : decode cX11_join 12 = .ok (.ifCond .eq 7, 3) := by decide +kernel
theorem dX11_join_15 : decode cX11_join 15 = .ok (.iconst 1, 1) := by decide +kernel
theorem dX11_join_16 : decode cX11_join 16 = .ok (.goto 4, 3) := by decide +kernel
theorem dX11_join_19 : decode cX11_join 19 = .ok (.iconst 0, 1) := by decide +kernel
theorem dX11_join_20 : decode cX11_join 20 = .ok (.istore_n 3, 1) := by decide +kernel
theorem dX11_join_21 : decode cX11_join 21 = .ok (.iload_n 3, 1) := by decide +kernel
theorem dX11_join_22 : decode cX11_join 22 = .ok (.ifCond .eq 42, 3) := by decide +kernel
theorem dX11_join_25 : decode cX11_join 25 = .ok (.aload_n 0, 1) := by decide +kernel
theorem dX11_join_26 : decode cX11_join 26 = .ok (.getfield 20, 3) := by decide +kernel
theorem dX11_join_29 : decode cX11_join 29 = .ok (.iload_n 1, 1) := by decide +kernel
theorem dX11_join_30 : decode cX11_join 30 = .ok (.iaload, 1) := by decide +kernel
theorem dX11_join_31 : decode cX11_join 31 = .ok (.iload_n 2, 1) := by decide +kernel
theorem dX11_join_32 : decode cX11_join 32 = .ok (.invokestatic 155, 3) := by decide +kernel
theorem dX11_join_35 : decode cX11_join 35 = .ok (.ifCond .ne 29, 3) := by decide +kernel
theorem dX11_join_38 : decode cX11_join 38 = .ok (.aload_n 0, 1) := by decide +kernel
theorem dX11_join_39 : decode cX11_join 39 = .ok (.getfield 20, 3) := by decide +kernel
theorem dX11_join_42 : decode cX11_join 42 = .ok (.iload_n 1, 1) := by decide +kernel
theorem dX11_join_43 : decode cX11_join 43 = .ok (.iaload, 1) := by decide +kernel
theorem dX11_join_44 : decode cX11_join 44 = .ok (.ifCond .eq 20, 3) := by decide +kernel
theorem dX11_join_47 : decode cX11_join 47 = .ok (.aload_n 0, 1) := by decide +kernel
theorem dX11_join_48 : decode cX11_join 48 = .ok (.getfield 20, 3) := by decide +kernel
theorem dX11_join_51 : decode cX11_join 51 = .ok (.iload_n 1, 1) := by decide +kernel
theorem dX11_join_52 : decode cX11_join 52 = .ok (.iaload, 1) := by decide +kernel
theorem dX11_join_53 : decode cX11_join 53 = .ok (.invokestatic 159, 3) := by decide +kernel
theorem dX11_join_56 : decode cX11_join 56 = .ok (.iconst 3, 1) := by decide +kernel
theorem dX11_join_57 : decode cX11_join 57 = .ok (.if_icmp .ge 7, 3) := by decide +kernel
theorem dX11_join_60 : decode cX11_join 60 = .ok (.iconst 1, 1) := by decide +kernel
theorem dX11_join_61 : decode cX11_join 61 = .ok (.goto 4, 3) := by decide +kernel
theorem dX11_join_64 : decode cX11_join 64 = .ok (.iconst 0, 1) := by decide +kernel
theorem dX11_join_65 : decode cX11_join 65 = .ok (.istore 4, 2) := by decide +kernel
theorem dX11_join_67 : decode cX11_join 67 = .ok (.aload_n 0, 1) := by decide +kernel
theorem dX11_join_68 : decode cX11_join 68 = .ok (.iload_n 3, 1) := by decide +kernel
theorem dX11_join_69 : decode cX11_join 69 = .ok (.ifCond .ne 7, 3) := by decide +kernel
theorem dX11_join_72 : decode cX11_join 72 = .ok (.iconst 1, 1) := by decide +kernel
theorem dX11_join_73 : decode cX11_join 73 = .ok (.goto 13, 3) := by decide +kernel
theorem dX11_join_76 : decode cX11_join 76 = .ok (.iload 4, 2) := by decide +kernel
theorem dX11_join_78 : decode cX11_join 78 = .ok (.ifCond .eq 7, 3) := by decide +kernel
theorem dX11_join_81 : decode cX11_join 81 = .ok (.iconst 0, 1) := by decide +kernel
theorem dX11_join_82 : decode cX11_join 82 = .ok (.goto 4, 3) := by decide +kernel
theorem dX11_join_85 : decode cX11_join 85 = .ok (.iconst 2, 1) := by decide +kernel
theorem dX11_join_86 : decode cX11_join 86 = .ok (.invokevirtual 142, 3) := by decide +kernel
theorem dX11_join_89 : decode cX11_join 89 = .ok (.ifCond .ne 5, 3) := by decide +kernel
theorem dX11_join_92 : decode cX11_join 92 = .ok (.iconst 0, 1) := by decide +kernel
theorem dX11_join_93 : decode cX11_join 93 = .ok (.ireturn, 1) := by decide +kernel
theorem dX11_join_94 : decode cX11_join 94 = .ok (.aload_n 0, 1) := by decide +kernel
theorem dX11_join_95 : decode cX11_join 95 = .ok (.getfield 20, 3) := by decide +kernel
theorem dX11_join_98 : decode cX11_join 98 = .ok (.iload_n 1, 1) := by decide +kernel
theorem dX11_join_99 : decode cX11_join 99 = .ok (.dup2, 1) := by decide +kernel
theorem dX11_join_100 : decode cX11_join 100 = .ok (.iaload, 1) := by decide +kernel
theorem dX11_join_101 : decode cX11_join 101 = .ok (.iconst 1, 1) := by decide +kernel
theorem dX11_join_102 : decode cX11_join 102 = .ok (.iload_n 2, 1) := by decide +kernel
theorem dX11_join_103 : decode cX11_join 103 = .ok (.ishl, 1) := by decide +kernel
theorem dX11_join_104 : decode cX11_join 104 = .ok (.ior, 1) := by decide +kernel
theorem dX11_join_105 : decode cX11_join 105 = .ok (.iastore, 1) := by decide +kernel
theorem dX11_join_106 : decode cX11_join 106 = .ok (.aload_n 0, 1) := by decide +kernel
theorem dX11_join_107 : decode cX11_join 107 = .ok (.getfield 20, 3) := by decide +kernel
theorem dX11_join_110 : decode cX11_join 110 = .ok (.iload_n 1, 1) := by decide +kernel
theorem dX11_join_111 : decode cX11_join 111 = .ok (.iaload, 1) := by decide +kernel
theorem dX11_join_112 : decode cX11_join 112 = .ok (.invokestatic 159, 3) := by decide +kernel
theorem dX11_join_115 : decode cX11_join 115 = .ok (.ireturn, 1) := by decide +kernel
theorem dX11_gave_0 : decode cX11_gave 0 = .ok (.iconst 0, 1) := by decide +kernel
theorem dX11_gave_1 : decode cX11_gave 1 = .ok (.istore_n 2, 1) := by decide +kernel
theorem dX11_gave_2 : decode cX11_gave 2 = .ok (.iconst 0, 1) := by decide +kernel
theorem dX11_gave_3 : decode cX11_gave 3 = .ok (.istore_n 3, 1) := by decide +kernel
theorem dX11_gave_4 : decode cX11_gave 4 = .ok (.iload_n 3, 1) := by decide +kernel
theorem dX11_gave_5 : decode cX11_gave 5 = .ok (.bipush 32, 2) := by decide +kernel
theorem dX11_gave_7 : decode cX11_gave 7 = .ok (.if_icmp .ge 37, 3) := by decide +kernel
theorem dX11_gave_10 : decode cX11_gave 10 = .ok (.iload_n 2, 1) := by decide +kernel
theorem dX11_gave_11 : decode cX11_gave 11 = .ok (.aload_n 0, 1) := by decide +kernel
theorem dX11_gave_12 : decode cX11_gave 12 = .ok (.getfield 50, 3) := by decide +kernel
theorem dX11_gave_15 : decode cX11_gave 15 = .ok (.iload_n 1, 1) := by decide +kernel
theorem dX11_gave_16 : decode cX11_gave 16 = .ok (.iaload, 1) := by decide +kernel
theorem dX11_gave_17 : decode cX11_gave 17 = .ok (.iload_n 3, 1) := by decide +kernel
theorem dX11_gave_18 : decode cX11_gave 18 = .ok (.invokestatic 155, 3) := by decide +kernel
theorem dX11_gave_21 : decode cX11_gave 21 = .ok (.ifCond .eq 14, 3) := by decide +kernel
theorem dX11_gave_24 : decode cX11_gave 24 = .ok (.iconst 1, 1) := by decide +kernel
theorem dX11_gave_25 : decode cX11_gave 25 = .ok (.aload_n 0, 1) := by decide +kernel
theorem dX11_gave_26 : decode cX11_gave 26 = .ok (.getfield 13, 3) := by decide +kernel
theorem dX11_gave_29 : decode cX11_gave 29 = .ok (.iload_n 3, 1) := by decide +kernel
theorem dX11_gave_30 : decode cX11_gave 30 = .ok (.iaload, 1) := by decide +kernel
theorem dX11_gave_31 : decode cX11_gave 31 = .ok (.ishl, 1) := by decide +kernel
theorem dX11_gave_32 : decode cX11_gave 32 = .ok (.goto 4, 3) := by decide +kernel
theorem dX11_gave_35 : decode cX11_gave 35 = .ok (.iconst 0, 1) := by decide +kernel
theorem dX11_gave_36 : decode cX11_gave 36 = .ok (.ior, 1) := by decide +kernel
theorem dX11_gave_37 : decode cX11_gave 37 = .ok (.istore_n 2, 1) := by decide +kernel
theorem dX11_gave_38 : decode cX11_gave 38 = .ok (.iinc 3 1, 3) := by decide +kernel
theorem dX11_gave_41 : decode cX11_gave 41 = .ok (.goto (-37), 3) := by decide +kernel
theorem dX11_gave_44 : decode cX11_gave 44 = .ok (.iload_n 2, 1) := by decide +kernel
theorem dX11_gave_45 : decode cX11_gave 45 = .ok (.ireturn, 1) := by decide +kernel
theorem dX11_kudos_0 : decode cX11_kudos 0 = .ok (.aload_n 0, 1) := by decide +kernel
theorem dX11_kudos_1 : decode cX11_kudos 1 = .ok (.iload_n 1, 1) := by decide +kernel
theorem dX11_kudos_2 : decode cX11_kudos 2 = .ok (.invokevirtual 152, 3) := by decide +kernel
theorem dX11_kudos_5 : decode cX11_kudos 5 = .ok (.ifCond .eq 14, 3) := by decide +kernel
theorem dX11_kudos_8 : decode cX11_kudos 8 = .ok (.iload_n 2, 1) := by decide +kernel
theorem dX11_kudos_9 : decode cX11_kudos 9 = .ok (.invokestatic 149, 3) := by decide +kernel
theorem dX11_kudos_12 : decode cX11_kudos 12 = .ok (.ifCond .eq 7, 3) := by decide +kernel
theorem dX11_kudos_15 : decode cX11_kudos 15 = .ok (.iconst 1, 1) := by decide +kernel
theorem dX11_kudos_16 : decode cX11_kudos 16 = .ok (.goto 4, 3) := by decide +kernel
theorem dX11_kudos_19 : decode cX11_kudos 19 = .ok (.iconst 0, 1) := by decide +kernel
theorem dX11_kudos_20 : decode cX11_kudos 20 = .ok (.istore_n 3, 1) := by decide +kernel
theorem dX11_kudos_21 : decode cX11_kudos 21 = .ok (.iload_n 3, 1) := by decide +kernel
theorem dX11_kudos_22 : decode cX11_kudos 22 = .ok (.ifCond .eq 42, 3) := by decide +kernel
theorem dX11_kudos_25 : decode cX11_kudos 25 = .ok (.aload_n 0, 1) := by decide +kernel
theorem dX11_kudos_26 : decode cX11_kudos 26 = .ok (.iload_n 2, 1) := by decide +kernel
theorem dX11_kudos_27 : decode cX11_kudos 27 = .ok (.iload_n 1, 1) := by decide +kernel
theorem dX11_kudos_28 : decode cX11_kudos 28 = .ok (.invokevirtual 169, 3) := by decide +kernel
theorem dX11_kudos_31 : decode cX11_kudos 31 = .ok (.ifCond .eq 33, 3) := by decide +kernel
theorem dX11_kudos_34 : decode cX11_kudos 34 = .ok (.aload_n 0, 1) := by decide +kernel
theorem dX11_kudos_35 : decode cX11_kudos 35 = .ok (.iload_n 2, 1) := by decide +kernel
theorem dX11_kudos_36 : decode cX11_kudos 36 = .ok (.iload_n 1, 1) := by decide +kernel
theorem dX11_kudos_37 : decode cX11_kudos 37 = .ok (.invokevirtual 166, 3) := by decide +kernel
theorem dX11_kudos_40 : decode cX11_kudos 40 = .ok (.ifCond .ne 24, 3) := by decide +kernel
theorem dX11_kudos_43 : decode cX11_kudos 43 = .ok (.aload_n 0, 1) := by decide +kernel
theorem dX11_kudos_44 : decode cX11_kudos 44 = .ok (.iload_n 1, 1) := by decide +kernel
theorem dX11_kudos_45 : decode cX11_kudos 45 = .ok (.invokevirtual 260, 3) := by decide +kernel
theorem dX11_kudos_48 : decode cX11_kudos 48 = .ok (.aload_n 0, 1) := by decide +kernel
theorem dX11_kudos_49 : decode cX11_kudos 49 = .ok (.getfield 13, 3) := by decide +kernel
theorem dX11_kudos_52 : decode cX11_kudos 52 = .ok (.iload_n 2, 1) := by decide +kernel
theorem dX11_kudos_53 : decode cX11_kudos 53 = .ok (.iaload, 1) := by decide +kernel
theorem dX11_kudos_54 : decode cX11_kudos 54 = .ok (.invokestatic 155, 3) := by decide +kernel
theorem dX11_kudos_57 : decode cX11_kudos 57 = .ok (.ifCond .ne 7, 3) := by decide +kernel
theorem dX11_kudos_60 : decode cX11_kudos 60 = .ok (.iconst 1, 1) := by decide +kernel
theorem dX11_kudos_61 : decode cX11_kudos 61 = .ok (.goto 4, 3) := by decide +kernel
theorem dX11_kudos_64 : decode cX11_kudos 64 = .ok (.iconst 0, 1) := by decide +kernel
theorem dX11_kudos_65 : decode cX11_kudos 65 = .ok (.istore 4, 2) := by decide +kernel
theorem dX11_kudos_67 : decode cX11_kudos 67 = .ok (.aload_n 0, 1) := by decide +kernel
theorem dX11_kudos_68 : decode cX11_kudos 68 = .ok (.iload_n 3, 1) := by decide +kernel
theorem dX11_kudos_69 : decode cX11_kudos 69 = .ok (.ifCond .ne 7, 3) := by decide +kernel
theorem dX11_kudos_72 : decode cX11_kudos 72 = .ok (.iconst 1, 1) := by decide +kernel
theorem dX11_kudos_73 : decode cX11_kudos 73 = .ok (.goto 13, 3) := by decide +kernel
theorem dX11_kudos_76 : decode cX11_kudos 76 = .ok (.iload 4, 2) := by decide +kernel
theorem dX11_kudos_78 : decode cX11_kudos 78 = .ok (.ifCond .eq 7, 3) := by decide +kernel
theorem dX11_kudos_81 : decode cX11_kudos 81 = .ok (.iconst 0, 1) := by decide +kernel
theorem dX11_kudos_82 : decode cX11_kudos 82 = .ok (.goto 4, 3) := by decide +kernel
theorem dX11_kudos_85 : decode cX11_kudos 85 = .ok (.iconst 2, 1) := by decide +kernel
theorem dX11_kudos_86 : decode cX11_kudos 86 = .ok (.invokevirtual 142, 3) := by decide +kernel
theorem dX11_kudos_89 : decode cX11_kudos 89 = .ok (.ifCond .ne 5, 3) := by decide +kernel
theorem dX11_kudos_92 : decode cX11_kudos 92 = .ok (.iconst 0, 1) := by decide +kernel
theorem dX11_kudos_93 : decode cX11_kudos 93 = .ok (.ireturn, 1) := by decide +kernel
theorem dX11_kudos_94 : decode cX11_kudos 94 = .ok (.aload_n 0, 1) := by decide +kernel
theorem dX11_kudos_95 : decode cX11_kudos 95 = .ok (.getfield 50, 3) := by decide +kernel
theorem dX11_kudos_98 : decode cX11_kudos 98 = .ok (.iload_n 1, 1) := by decide +kernel
theorem dX11_kudos_99 : decode cX11_kudos 99 = .ok (.dup2, 1) := by decide +kernel
theorem dX11_kudos_100 : decode cX11_kudos 100 = .ok (.iaload, 1) := by decide +kernel
theorem dX11_kudos_101 : decode cX11_kudos 101 = .ok (.iconst 1, 1) := by decide +kernel
theorem dX11_kudos_102 : decode cX11_kudos 102 = .ok (.iload_n 2, 1) := by decide +kernel
theorem dX11_kudos_103 : decode cX11_kudos 103 = .ok (.ishl, 1) := by decide +kernel
theorem dX11_kudos_104 : decode cX11_kudos 104 = .ok (.ior, 1) := by decide +kernel
theorem dX11_kudos_105 : decode cX11_kudos 105 = .ok (.iastore, 1) := by decide +kernel
theorem dX11_kudos_106 : decode cX11_kudos 106 = .ok (.aload_n 0, 1) := by decide +kernel
theorem dX11_kudos_107 : decode cX11_kudos 107 = .ok (.iload_n 1, 1) := by decide +kernel
theorem dX11_kudos_108 : decode cX11_kudos 108 = .ok (.invokevirtual 260, 3) := by decide +kernel
theorem dX11_kudos_111 : decode cX11_kudos 111 = .ok (.invokestatic 159, 3) := by decide +kernel
theorem dX11_kudos_114 : decode cX11_kudos 114 = .ok (.ireturn, 1) := by decide +kernel
theorem dX11_leave_0 : decode cX11_leave 0 = .ok (.aload_n 0, 1) := by decide +kernel
theorem dX11_leave_1 : decode cX11_leave 1 = .ok (.iload_n 1, 1) := by decide +kernel
theorem dX11_leave_2 : decode cX11_leave 2 = .ok (.invokevirtual 152, 3) := by decide +kernel
theorem dX11_leave_5 : decode cX11_leave 5 = .ok (.ifCond .eq 14, 3) := by decide +kernel
theorem dX11_leave_8 : decode cX11_leave 8 = .ok (.iload_n 2, 1) := by decide +kernel
theorem dX11_leave_9 : decode cX11_leave 9 = .ok (.invokestatic 146, 3) := by decide +kernel
theorem dX11_leave_12 : decode cX11_leave 12 = .ok (.ifCond .eq 7, 3) := by decide +kernel
theorem dX11_leave_15 : decode cX11_leave 15 = .ok (.iconst 1, 1) := by decide +kernel
theorem dX11_leave_16 : decode cX11_leave 16 = .ok (.goto 4, 3) := by decide +kernel
theorem dX11_leave_19 : decode cX11_leave 19 = .ok (.iconst 0, 1) := by decide +kernel
theorem dX11_leave_20 : decode cX11_leave 20 = .ok (.istore_n 3, 1) := by decide +kernel
theorem dX11_leave_21 : decode cX11_leave 21 = .ok (.aload_n 0, 1) := by decide +kernel
theorem dX11_leave_22 : decode cX11_leave 22 = .ok (.iload_n 3, 1) := by decide +kernel
theorem dX11_leave_23 : decode cX11_leave 23 = .ok (.ifCond .ne 7, 3) := by decide +kernel
theorem dX11_leave_26 : decode cX11_leave 26 = .ok (.iconst 1, 1) := by decide +kernel
theorem dX11_leave_27 : decode cX11_leave 27 = .ok (.goto 21, 3) := by decide +kernel
theorem dX11_leave_30 : decode cX11_leave 30 = .ok (.aload_n 0, 1) := by decide +kernel
theorem dX11_leave_31 : decode cX11_leave 31 = .ok (.getfield 20, 3) := by decide +kernel
theorem dX11_leave_34 : decode cX11_leave 34 = .ok (.iload_n 1, 1) := by decide +kernel
theorem dX11_leave_35 : decode cX11_leave 35 = .ok (.iaload, 1) := by decide +kernel
theorem dX11_leave_36 : decode cX11_leave 36 = .ok (.iload_n 2, 1) := by decide +kernel
theorem dX11_leave_37 : decode cX11_leave 37 = .ok (.invokestatic 155, 3) := by decide +kernel
theorem dX11_leave_40 : decode cX11_leave 40 = .ok (.ifCond .eq 7, 3) := by decide +kernel
theorem dX11_leave_43 : decode cX11_leave 43 = .ok (.iconst 0, 1) := by decide +kernel
theorem dX11_leave_44 : decode cX11_leave 44 = .ok (.goto 4, 3) := by decide +kernel
theorem dX11_leave_47 : decode cX11_leave 47 = .ok (.iconst 2, 1) := by decide +kernel
theorem dX11_leave_48 : decode cX11_leave 48 = .ok (.invokevirtual 142, 3) := by decide +kernel
theorem dX11_leave_51 : decode cX11_leave 51 = .ok (.ifCond .ne 5, 3) := by decide +kernel
theorem dX11_leave_54 : decode cX11_leave 54 = .ok (.iconst 0, 1) := by decide +kernel
theorem dX11_leave_55 : decode cX11_leave 55 = .ok (.ireturn, 1) := by decide +kernel
theorem dX11_leave_56 : decode cX11_leave 56 = .ok (.aload_n 0, 1) := by decide +kernel
theorem dX11_leave_57 : decode cX11_leave 57 = .ok (.getfield 20, 3) := by decide +kernel
theorem dX11_leave_60 : decode cX11_leave 60 = .ok (.iload_n 1, 1) := by decide +kernel
theorem dX11_leave_61 : decode cX11_leave 61 = .ok (.dup2, 1) := by decide +kernel
theorem dX11_leave_62 : decode cX11_leave 62 = .ok (.iaload, 1) := by decide +kernel
theorem dX11_leave_63 : decode cX11_leave 63 = .ok (.iconst 1, 1) := by decide +kernel
theorem dX11_leave_64 : decode cX11_leave 64 = .ok (.iload_n 2, 1) := by decide +kernel
theorem dX11_leave_65 : decode cX11_leave 65 = .ok (.ishl, 1) := by decide +kernel
theorem dX11_leave_66 : decode cX11_leave 66 = .ok (.iconst (-1), 1) := by decide +kernel
theorem dX11_leave_67 : decode cX11_leave 67 = .ok (.ixor, 1) := by decide +kernel
theorem dX11_leave_68 : decode cX11_leave 68 = .ok (.iand, 1) := by decide +kernel
theorem dX11_leave_69 : decode cX11_leave 69 = .ok (.iastore, 1) := by decide +kernel
theorem dX11_leave_70 : decode cX11_leave 70 = .ok (.aload_n 0, 1) := by decide +kernel
theorem dX11_leave_71 : decode cX11_leave 71 = .ok (.getfield 20, 3) := by decide +kernel
theorem dX11_leave_74 : decode cX11_leave 74 = .ok (.iload_n 1, 1) := by decide +kernel
theorem dX11_leave_75 : decode cX11_leave 75 = .ok (.iaload, 1) := by decide +kernel
theorem dX11_leave_76 : decode cX11_leave 76 = .ok (.invokestatic 159, 3) := by decide +kernel
theorem dX11_leave_79 : decode cX11_leave 79 = .ok (.ireturn, 1) := by decide +kernel
theorem dX11_liked_0 : decode cX11_liked 0 = .ok (.aload_n 0, 1) := by decide +kernel
theorem dX11_liked_1 : decode cX11_liked 1 = .ok (.aload_n 0, 1) := by decide +kernel
theorem dX11_liked_2 : decode cX11_liked 2 = .ok (.iload_n 1, 1) := by decide +kernel
theorem dX11_liked_3 : decode cX11_liked 3 = .ok (.invokevirtual 152, 3) := by decide +kernel
theorem dX11_liked_6 : decode cX11_liked 6 = .ok (.ifCond .eq 7, 3) := by decide +kernel
theorem dX11_liked_9 : decode cX11_liked 9 = .ok (.iconst 0, 1) := by decide +kernel
theorem dX11_liked_10 : decode cX11_liked 10 = .ok (.goto 4, 3) := by decide +kernel
theorem dX11_liked_13 : decode cX11_liked 13 = .ok (.iconst 1, 1) := by decide +kernel
theorem dX11_liked_14 : decode cX11_liked 14 = .ok (.invokevirtual 142, 3) := by decide +kernel
theorem dX11_liked_17 : decode cX11_liked 17 = .ok (.ifCond .eq 14, 3) := by decide +kernel
theorem dX11_liked_20 : decode cX11_liked 20 = .ok (.aload_n 0, 1) := by decide +kernel
theorem dX11_liked_21 : decode cX11_liked 21 = .ok (.iload_n 1, 1) := by decide +kernel
theorem dX11_liked_22 : decode cX11_liked 22 = .ok (.invokevirtual 260, 3) := by decide +kernel
theorem dX11_liked_25 : decode cX11_liked 25 = .ok (.invokestatic 159, 3) := by decide +kernel
theorem dX11_liked_28 : decode cX11_liked 28 = .ok (.goto 4, 3) := by decide +kernel
theorem dX11_liked_31 : decode cX11_liked 31 = .ok (.iconst 0, 1) := by decide +kernel
theorem dX11_liked_32 : decode cX11_liked 32 = .ok (.ireturn, 1) := by decide +kernel
theorem dX11_lock_0 : decode cX11_lock 0 = .ok (.aload_n 0, 1) := by decide +kernel
theorem dX11_lock_1 : decode cX11_lock 1 = .ok (.aload_n 0, 1) := by decide +kernel
theorem dX11_lock_2 : decode cX11_lock 2 = .ok (.iload_n 1, 1) := by decide +kernel
theorem dX11_lock_3 : decode cX11_lock 3 = .ok (.invokevirtual 152, 3) := by decide +kernel
theorem dX11_lock_6 : decode cX11_lock 6 = .ok (.ifCond .eq 7, 3) := by decide +kernel
theorem dX11_lock_9 : decode cX11_lock 9 = .ok (.iconst 0, 1) := by decide +kernel
theorem dX11_lock_10 : decode cX11_lock 10 = .ok (.goto 4, 3) := by decide +kernel
theorem dX11_lock_13 : decode cX11_lock 13 = .ok (.iconst 1, 1) := by decide +kernel
theorem dX11_lock_14 : decode cX11_lock 14 = .ok (.invokevirtual 142, 3) := by decide +kernel
theorem dX11_lock_17 : decode cX11_lock 17 = .ok (.ifCond .ne 5, 3) := by decide +kernel
theorem dX11_lock_20 : decode cX11_lock 20 = .ok (.iconst 0, 1) := by decide +kernel
theorem dX11_lock_21 : decode cX11_lock 21 = .ok (.ireturn, 1) := by decide +kernel
theorem dX11_lock_22 : decode cX11_lock 22 = .ok (.aload_n 0, 1) := by decide +kernel
theorem dX11_lock_23 : decode cX11_lock 23 = .ok (.getfield 32, 3) := by decide +kernel
theorem dX11_lock_26 : decode cX11_lock 26 = .ok (.iload_n 1, 1) := by decide +kernel
theorem dX11_lock_27 : decode cX11_lock 27 = .ok (.baload, 1) := by decide +kernel
theorem dX11_lock_28 : decode cX11_lock 28 = .ok (.istore_n 3, 1) := by decide +kernel
theorem dX11_lock_29 : decode cX11_lock 29 = .ok (.aload_n 0, 1) := by decide +kernel
theorem dX11_lock_30 : decode cX11_lock 30 = .ok (.getfield 32, 3) := by decide +kernel
theorem dX11_lock_33 : decode cX11_lock 33 = .ok (.iload_n 1, 1) := by decide +kernel
theorem dX11_lock_34 : decode cX11_lock 34 = .ok (.iload_n 2, 1) := by decide +kernel
theorem dX11_lock_35 : decode cX11_lock 35 = .ok (.bastore, 1) := by decide +kernel
theorem dX11_lock_36 : decode cX11_lock 36 = .ok (.iload_n 3, 1) := by decide +kernel
theorem dX11_lock_37 : decode cX11_lock 37 = .ok (.ireturn, 1) := by decide +kernel
theorem dX11_isTag_0 : decode cX11_isTag 0 = .ok (.iload_n 1, 1) := by decide +kernel
theorem dX11_isTag_1 : decode cX11_isTag 1 = .ok (.iconst 0, 1) := by decide +kernel
theorem dX11_isTag_2 : decode cX11_isTag 2 = .ok (.aload_n 0, 1) := by decide +kernel
theorem dX11_isTag_3 : decode cX11_isTag 3 = .ok (.getfield 136, 3) := by decide +kernel
theorem dX11_isTag_6 : decode cX11_isTag 6 = .ok (.iconst 1, 1) := by decide +kernel
theorem dX11_isTag_7 : decode cX11_isTag 7 = .ok (.isub, 1) := by decide +kernel
theorem dX11_isTag_8 : decode cX11_isTag 8 = .ok (.invokestatic 129, 3) := by decide +kernel
theorem dX11_isTag_11 : decode cX11_isTag 11 = .ok (.ireturn, 1) := by decide +kernel
theorem dX11_letsWait_0 : decode cX11_letsWait 0 = .ok (.iconst 0, 1) := by decide +kernel
theorem dX11_letsWait_1 : decode cX11_letsWait 1 = .ok (.istore_n 1, 1) := by decide +kernel
theorem dX11_letsWait_2 : decode cX11_letsWait 2 = .ok (.iload_n 1, 1) := by decide +kernel
theorem dX11_letsWait_3 : decode cX11_letsWait 3 = .ok (.aload_n 0, 1) := by decide +kernel
theorem dX11_letsWait_4 : decode cX11_letsWait 4 = .ok (.getfield 133, 3) := by decide +kernel
theorem dX11_letsWait_7 : decode cX11_letsWait 7 = .ok (.if_icmp .ge 38, 3) := by decide +kernel
theorem dX11_letsWait_10 : decode cX11_letsWait 10 = .ok (.aload_n 0, 1) := by decide +kernel
theorem dX11_letsWait_11 : decode cX11_letsWait 11 = .ok (.getfield 44, 3) := by decide +kernel
theorem dX11_letsWait_14 : decode cX11_letsWait 14 = .ok (.iload_n 1, 1) := by decide +kernel
theorem dX11_letsWait_15 : decode cX11_letsWait 15 = .ok (.aload_n 0, 1) := by decide +kernel
theorem dX11_letsWait_16 : decode cX11_letsWait 16 = .ok (.getfield 44, 3) := by decide +kernel
theorem dX11_letsWait_19 : decode cX11_letsWait 19 = .ok (.iload_n 1, 1) := by decide +kernel
theorem dX11_letsWait_20 : decode cX11_letsWait 20 = .ok (.baload, 1) := by decide +kernel
theorem dX11_letsWait_21 : decode cX11_letsWait 21 = .ok (.ifCond .ne 12, 3) := by decide +kernel
theorem dX11_letsWait_24 : decode cX11_letsWait 24 = .ok (.aload_n 0, 1) := by decide +kernel
theorem dX11_letsWait_25 : decode cX11_letsWait 25 = .ok (.getfield 38, 3) := by decide +kernel
theorem dX11_letsWait_28 : decode cX11_letsWait 28 = .ok (.iload_n 1, 1) := by decide +kernel
theorem dX11_letsWait_29 : decode cX11_letsWait 29 = .ok (.iaload, 1) := by decide +kernel
theorem dX11_letsWait_30 : decode cX11_letsWait 30 = .ok (.ifCond .eq 7, 3) := by decide +kernel
theorem dX11_letsWait_33 : decode cX11_letsWait 33 = .ok (.iconst 1, 1) := by decide +kernel
theorem dX11_letsWait_34 : decode cX11_letsWait 34 = .ok (.goto 4, 3) := by decide +kernel
theorem dX11_letsWait_37 : decode cX11_letsWait 37 = .ok (.iconst 0, 1) := by decide +kernel
theorem dX11_letsWait_38 : decode cX11_letsWait 38 = .ok (.bastore, 1) := by decide +kernel
theorem dX11_letsWait_39 : decode cX11_letsWait 39 = .ok (.iinc 1 1, 3) := by decide +kernel
theorem dX11_letsWait_42 : decode cX11_letsWait 42 = .ok (.goto (-40), 3) := by decide +kernel
theorem dX11_letsWait_45 : decode cX11_letsWait 45 = .ok (.return_, 1) := by decide +kernel
theorem dX11_make_0 : decode cX11_make 0 = .ok (.aload_n 0, 1) := by decide +kernel
theorem dX11_make_1 : decode cX11_make 1 = .ok (.iload_n 1, 1) := by decide +kernel
theorem dX11_make_2 : decode cX11_make 2 = .ok (.invokevirtual 184, 3) := by decide +kernel
theorem dX11_make_5 : decode cX11_make 5 = .ok (.istore_n 2, 1) := by decide +kernel
theorem dX11_make_6 : decode cX11_make 6 = .ok (.aload_n 0, 1) := by decide +kernel
theorem dX11_make_7 : decode cX11_make 7 = .ok (.iload_n 2, 1) := by decide +kernel
theorem dX11_make_8 : decode cX11_make 8 = .ok (.ifCond .ne 7, 3) := by decide +kernel
theorem dX11_make_11 : decode cX11_make 11 = .ok (.iconst 1, 1) := by decide +kernel
theorem dX11_make_12 : decode cX11_make 12 = .ok (.goto 18, 3) := by decide +kernel
theorem dX11_make_15 : decode cX11_make 15 = .ok (.aload_n 0, 1) := by decide +kernel
theorem dX11_make_16 : decode cX11_make 16 = .ok (.getfield 59, 3) := by decide +kernel
theorem dX11_make_19 : decode cX11_make 19 = .ok (.iload_n 1, 1) := by decide +kernel
theorem dX11_make_20 : decode cX11_make 20 = .ok (.iaload, 1) := by decide +kernel
theorem dX11_make_21 : decode cX11_make 21 = .ok (.iconst 1, 1) := by decide +kernel
theorem dX11_make_22 : decode cX11_make 22 = .ok (.if_icmp .ne 7, 3) := by decide +kernel
theorem dX11_make_25 : decode cX11_make 25 = .ok (.iconst 2, 1) := by decide +kernel
theorem dX11_make_26 : decode cX11_make 26 = .ok (.goto 4, 3) := by decide +kernel
theorem dX11_make_29 : decode cX11_make 29 = .ok (.iconst 0, 1) := by decide +kernel
theorem dX11_make_30 : decode cX11_make 30 = .ok (.invokevirtual 142, 3) := by decide +kernel
theorem dX11_make_33 : decode cX11_make 33 = .ok (.ifCond .ne 5, 3) := by decide +kernel
theorem dX11_make_36 : decode cX11_make 36 = .ok (.iconst 0, 1) := by decide +kernel
theorem dX11_make_37 : decode cX11_make 37 = .ok (.ireturn, 1) := by decide +kernel
theorem dX11_make_38 : decode cX11_make 38 = .ok (.aload_n 0, 1) := by decide +kernel
theorem dX11_make_39 : decode cX11_make 39 = .ok (.getfield 59, 3) := by decide +kernel
theorem dX11_make_42 : decode cX11_make 42 = .ok (.iload_n 1, 1) := by decide +kernel
theorem dX11_make_43 : decode cX11_make 43 = .ok (.iaload, 1) := by decide +kernel
theorem dX11_make_44 : decode cX11_make 44 = .ok (.istore_n 3, 1) := by decide +kernel
theorem dX11_make_45 : decode cX11_make 45 = .ok (.aload_n 0, 1) := by decide +kernel
theorem dX11_make_46 : decode cX11_make 46 = .ok (.getfield 59, 3) := by decide +kernel
theorem dX11_make_49 : decode cX11_make 49 = .ok (.iload_n 1, 1) := by decide +kernel
theorem dX11_make_50 : decode cX11_make 50 = .ok (.iconst 1, 1) := by decide +kernel
theorem dX11_make_51 : decode cX11_make 51 = .ok (.iastore, 1) := by decide +kernel
theorem dX11_make_52 : decode cX11_make 52 = .ok (.aload_n 0, 1) := by decide +kernel
theorem dX11_make_53 : decode cX11_make 53 = .ok (.getfield 65, 3) := by decide +kernel
theorem dX11_make_56 : decode cX11_make 56 = .ok (.iload_n 1, 1) := by decide +kernel
theorem dX11_make_57 : decode cX11_make 57 = .ok (.iconst 0, 1) := by decide +kernel
theorem dX11_make_58 : decode cX11_make 58 = .ok (.iastore, 1) := by decide +kernel
theorem dX11_make_59 : decode cX11_make 59 = .ok (.aload_n 0, 1) := by decide +kernel
theorem dX11_make_60 : decode cX11_make 60 = .ok (.invokevirtual 187, 3) := by decide +kernel
theorem dX11_make_63 : decode cX11_make 63 = .ok (.iload_n 3, 1) := by decide +kernel
theorem dX11_make_64 : decode cX11_make 64 = .ok (.ireturn, 1) := by decide +kernel
theorem dX11_aboveOf_0 : decode cX11_aboveOf 0 = .ok (.aload_n 0, 1) := by decide +kernel
theorem dX11_aboveOf_1 : decode cX11_aboveOf 1 = .ok (.getfield 65, 3) := by decide +kernel
theorem dX11_aboveOf_4 : decode cX11_aboveOf 4 = .ok (.iload_n 1, 1) := by decide +kernel
theorem dX11_aboveOf_5 : decode cX11_aboveOf 5 = .ok (.iaload, 1) := by decide +kernel
theorem dX11_aboveOf_6 : decode cX11_aboveOf 6 = .ok (.istore_n 2, 1) := by decide +kernel
theorem dX11_aboveOf_7 : decode cX11_aboveOf 7 = .ok (.iconst (-1), 1) := by decide +kernel
theorem dX11_aboveOf_8 : decode cX11_aboveOf 8 = .ok (.istore_n 3, 1) := by decide +kernel
theorem dX11_aboveOf_9 : decode cX11_aboveOf 9 = .ok (.iload_n 2, 1) := by decide +kernel
theorem dX11_aboveOf_10 : decode cX11_aboveOf 10 = .ok (.iload_n 3, 1) := by decide +kernel
theorem dX11_aboveOf_11 : decode cX11_aboveOf 11 = .ok (.if_icmp .eq 49, 3) := by decide +kernel
theorem dX11_aboveOf_14 : decode cX11_aboveOf 14 = .ok (.iload_n 2, 1) := by decide +kernel
theorem dX11_aboveOf_15 : decode cX11_aboveOf 15 = .ok (.istore_n 3, 1) := by decide +kernel
theorem dX11_aboveOf_16 : decode cX11_aboveOf 16 = .ok (.iconst 0, 1) := by decide +kernel
theorem dX11_aboveOf_17 : decode cX11_aboveOf 17 = .ok (.istore 4, 2) := by decide +kernel
theorem dX11_aboveOf_19 : decode cX11_aboveOf 19 = .ok (.iload 4, 2) := by decide +kernel
theorem dX11_aboveOf_21 : decode cX11_aboveOf 21 = .ok (.aload_n 0, 1) := by decide +kernel
theorem dX11_aboveOf_22 : decode cX11_aboveOf 22 = .ok (.getfield 136, 3) := by decide +kernel
theorem dX11_aboveOf_25 : decode cX11_aboveOf 25 = .ok (.if_icmp .ge 32, 3) := by decide +kernel
theorem dX11_aboveOf_28 : decode cX11_aboveOf 28 = .ok (.iload_n 2, 1) := by decide +kernel
theorem dX11_aboveOf_29 : decode cX11_aboveOf 29 = .ok (.iload_n 3, 1) := by decide +kernel
theorem dX11_aboveOf_30 : decode cX11_aboveOf 30 = .ok (.iload 4, 2) := by decide +kernel
theorem dX11_aboveOf_32 : decode cX11_aboveOf 32 = .ok (.invokestatic 155, 3) := by decide +kernel
theorem dX11_aboveOf_35 : decode cX11_aboveOf 35 = .ok (.ifCond .eq 13, 3) := by decide +kernel
theorem dX11_aboveOf_38 : decode cX11_aboveOf 38 = .ok (.aload_n 0, 1) := by decide +kernel
theorem dX11_aboveOf_39 : decode cX11_aboveOf 39 = .ok (.getfield 65, 3) := by decide +kernel
theorem dX11_aboveOf_42 : decode cX11_aboveOf 42 = .ok (.iload 4, 2) := by decide +kernel
theorem dX11_aboveOf_44 : decode cX11_aboveOf 44 = .ok (.iaload, 1) := by decide +kernel
theorem dX11_aboveOf_45 : decode cX11_aboveOf 45 = .ok (.goto 4, 3) := by decide +kernel
theorem dX11_aboveOf_48 : decode cX11_aboveOf 48 = .ok (.iconst 0, 1) := by decide +kernel
theorem dX11_aboveOf_49 : decode cX11_aboveOf 49 = .ok (.ior, 1) := by decide +kernel
theorem dX11_aboveOf_50 : decode cX11_aboveOf 50 = .ok (.istore_n 2, 1) := by decide +kernel
theorem dX11_aboveOf_51 : decode cX11_aboveOf 51 = .ok (.iinc 4 1, 3) := by decide +kernel
theorem dX11_aboveOf_54 : decode cX11_aboveOf 54 = .ok (.goto (-35), 3) := by decide +kernel
theorem dX11_aboveOf_57 : decode cX11_aboveOf 57 = .ok (.goto (-48), 3) := by decide +kernel
theorem dX11_aboveOf_60 : decode cX11_aboveOf 60 = .ok (.iload_n 2, 1) := by decide +kernel
theorem dX11_aboveOf_61 : decode cX11_aboveOf 61 = .ok (.ireturn, 1) := by decide +kernel
theorem dX11_meaning_0 : decode cX11_meaning 0 = .ok (.aload_n 0, 1) := by decide +kernel
theorem dX11_meaning_1 : decode cX11_meaning 1 = .ok (.getfield 59, 3) := by decide +kernel
theorem dX11_meaning_4 : decode cX11_meaning 4 = .ok (.iload_n 1, 1) := by decide +kernel
theorem dX11_meaning_5 : decode cX11_meaning 5 = .ok (.iaload, 1) := by decide +kernel
theorem dX11_meaning_6 : decode cX11_meaning 6 = .ok (.iconst 1, 1) := by decide +kernel
theorem dX11_meaning_7 : decode cX11_meaning 7 = .ok (.if_icmp .ne 7, 3) := by decide +kernel
theorem dX11_meaning_10 : decode cX11_meaning 10 = .ok (.iload_n 1, 1) := by decide +kernel
theorem dX11_meaning_11 : decode cX11_meaning 11 = .ok (.goto 23, 3) := by decide +kernel
theorem dX11_meaning_14 : decode cX11_meaning 14 = .ok (.aload_n 0, 1) := by decide +kernel
theorem dX11_meaning_15 : decode cX11_meaning 15 = .ok (.getfield 59, 3) := by decide +kernel
theorem dX11_meaning_18 : decode cX11_meaning 18 = .ok (.iload_n 1, 1) := by decide +kernel
theorem dX11_meaning_19 : decode cX11_meaning 19 = .ok (.iaload, 1) := by decide +kernel
theorem dX11_meaning_20 : decode cX11_meaning 20 = .ok (.iconst 2, 1) := by decide +kernel
theorem dX11_meaning_21 : decode cX11_meaning 21 = .ok (.if_icmp .ne 12, 3) := by decide +kernel
theorem dX11_meaning_24 : decode cX11_meaning 24 = .ok (.aload_n 0, 1) := by decide +kernel
theorem dX11_meaning_25 : decode cX11_meaning 25 = .ok (.getfield 62, 3) := by decide +kernel
theorem dX11_meaning_28 : decode cX11_meaning 28 = .ok (.iload_n 1, 1) := by decide +kernel
theorem dX11_meaning_29 : decode cX11_meaning 29 = .ok (.iaload, 1) := by decide +kernel
theorem dX11_meaning_30 : decode cX11_meaning 30 = .ok (.goto 4, 3) := by decide +kernel
theorem dX11_meaning_33 : decode cX11_meaning 33 = .ok (.iconst (-1), 1) := by decide +kernel
theorem dX11_meaning_34 : decode cX11_meaning 34 = .ok (.ireturn, 1) := by decide +kernel
theorem dX11_suits_0 : decode cX11_suits 0 = .ok (.iload_n 1, 1) := by decide +kernel
theorem dX11_suits_1 : decode cX11_suits 1 = .ok (.iload_n 2, 1) := by decide +kernel
theorem dX11_suits_2 : decode cX11_suits 2 = .ok (.if_icmp .eq 39, 3) := by decide +kernel
theorem dX11_suits_5 : decode cX11_suits 5 = .ok (.aload_n 0, 1) := by decide +kernel
theorem dX11_suits_6 : decode cX11_suits 6 = .ok (.getfield 89, 3) := by decide +kernel
theorem dX11_suits_9 : decode cX11_suits 9 = .ok (.iload_n 1, 1) := by decide +kernel
theorem dX11_suits_10 : decode cX11_suits 10 = .ok (.iaload, 1) := by decide +kernel
theorem dX11_suits_11 : decode cX11_suits 11 = .ok (.aload_n 0, 1) := by decide +kernel
theorem dX11_suits_12 : decode cX11_suits 12 = .ok (.getfield 80, 3) := by decide +kernel
theorem dX11_suits_15 : decode cX11_suits 15 = .ok (.iload_n 2, 1) := by decide +kernel
theorem dX11_suits_16 : decode cX11_suits 16 = .ok (.iaload, 1) := by decide +kernel
theorem dX11_suits_17 : decode cX11_suits 17 = .ok (.invokestatic 155, 3) := by decide +kernel
theorem dX11_suits_20 : decode cX11_suits 20 = .ok (.ifCond .ne 21, 3) := by decide +kernel
theorem dX11_suits_23 : decode cX11_suits 23 = .ok (.aload_n 0, 1) := by decide +kernel
theorem dX11_suits_24 : decode cX11_suits 24 = .ok (.getfield 89, 3) := by decide +kernel
theorem dX11_suits_27 : decode cX11_suits 27 = .ok (.iload_n 2, 1) := by decide +kernel
theorem dX11_suits_28 : decode cX11_suits 28 = .ok (.iaload, 1) := by decide +kernel
theorem dX11_suits_29 : decode cX11_suits 29 = .ok (.aload_n 0, 1) := by decide +kernel
theorem dX11_suits_30 : decode cX11_suits 30 = .ok (.getfield 80, 3) := by decide +kernel
theorem dX11_suits_33 : decode cX11_suits 33 = .ok (.iload_n 1, 1) := by decide +kernel
theorem dX11_suits_34 : decode cX11_suits 34 = .ok (.iaload, 1) := by decide +kernel
theorem dX11_suits_35 : decode cX11_suits 35 = .ok (.invokestatic 155, 3) := by decide +kernel
theorem dX11_suits_38 : decode cX11_suits 38 = .ok (.ifCond .eq 5, 3) := by decide +kernel
theorem dX11_suits_41 : decode cX11_suits 41 = .ok (.iconst 0, 1) := by decide +kernel
theorem dX11_suits_42 : decode cX11_suits 42 = .ok (.ireturn, 1) := by decide +kernel
theorem dX11_suits_43 : decode cX11_suits 43 = .ok (.iconst 0, 1) := by decide +kernel
theorem dX11_suits_44 : decode cX11_suits 44 = .ok (.istore_n 3, 1) := by decide +kernel
theorem dX11_suits_45 : decode cX11_suits 45 = .ok (.iconst 0, 1) := by decide +kernel
theorem dX11_suits_46 : decode cX11_suits 46 = .ok (.istore 4, 2) := by decide +kernel
theorem dX11_suits_48 : decode cX11_suits 48 = .ok (.iconst 0, 1) := by decide +kernel
theorem dX11_suits_49 : decode cX11_suits 49 = .ok (.istore 5, 2) := by decide +kernel
theorem dX11_suits_51 : decode cX11_suits 51 = .ok (.iload 5, 2) := by decide +kernel
theorem dX11_suits_53 : decode cX11_suits 53 = .ok (.aload_n 0, 1) := by decide +kernel
theorem dX11_suits_54 : decode cX11_suits 54 = .ok (.getfield 136, 3) := by decide +kernel
theorem dX11_suits_57 : decode cX11_suits 57 = .ok (.if_icmp .ge 88, 3) := by decide +kernel
theorem dX11_suits_60 : decode cX11_suits 60 = .ok (.aload_n 0, 1) := by decide +kernel
theorem dX11_suits_61 : decode cX11_suits 61 = .ok (.iload 5, 2) := by decide +kernel
theorem dX11_suits_63 : decode cX11_suits 63 = .ok (.invokevirtual 175, 3) := by decide +kernel
theorem dX11_suits_66 : decode cX11_suits 66 = .ok (.istore 6, 2) := by decide +kernel
theorem dX11_suits_68 : decode cX11_suits 68 = .ok (.iload_n 3, 1) := by decide +kernel
theorem dX11_suits_69 : decode cX11_suits 69 = .ok (.aload_n 0, 1) := by decide +kernel
theorem dX11_suits_70 : decode cX11_suits 70 = .ok (.getfield 83, 3) := by decide +kernel
theorem dX11_suits_73 : decode cX11_suits 73 = .ok (.iload_n 2, 1) := by decide +kernel
theorem dX11_suits_74 : decode cX11_suits 74 = .ok (.iaload, 1) := by decide +kernel
theorem dX11_suits_75 : decode cX11_suits 75 = .ok (.iload 5, 2) := by decide +kernel
theorem dX11_suits_77 : decode cX11_suits 77 = .ok (.invokestatic 155, 3) := by decide +kernel
theorem dX11_suits_80 : decode cX11_suits 80 = .ok (.ifCond .eq 16, 3) := by decide +kernel
theorem dX11_suits_83 : decode cX11_suits 83 = .ok (.iload 6, 2) := by decide +kernel
theorem dX11_suits_85 : decode cX11_suits 85 = .ok (.iconst (-1), 1) := by decide +kernel
theorem dX11_suits_86 : decode cX11_suits 86 = .ok (.if_icmp .eq 10, 3) := by decide +kernel
theorem dX11_suits_89 : decode cX11_suits 89 = .ok (.iconst 1, 1) := by decide +kernel
theorem dX11_suits_90 : decode cX11_suits 90 = .ok (.iload 6, 2) := by decide +kernel
theorem dX11_suits_92 : decode cX11_suits 92 = .ok (.ishl, 1) := by decide +kernel
theorem dX11_suits_93 : decode cX11_suits 93 = .ok (.goto 4, 3) := by decide +kernel
theorem dX11_suits_96 : decode cX11_suits 96 = .ok (.iconst 0, 1) := by decide +kernel
theorem dX11_suits_97 : decode cX11_suits 97 = .ok (.ior, 1) := by decide +kernel
theorem dX11_suits_98 : decode cX11_suits 98 = .ok (.istore_n 3, 1) := by decide +kernel
theorem dX11_suits_99 : decode cX11_suits 99 = .ok (.iload 4, 2) := by decide +kernel
theorem dX11_suits_101 : decode cX11_suits 101 = .ok (.aload_n 0, 1) := by decide +kernel
theorem dX11_suits_102 : decode cX11_suits 102 = .ok (.getfield 86, 3) := by decide +kernel
theorem dX11_suits_105 : decode cX11_suits 105 = .ok (.iload_n 1, 1) := by decide +kernel
theorem dX11_suits_106 : decode cX11_suits 106 = .ok (.iaload, 1) := by decide +kernel
theorem dX11_suits_107 : decode cX11_suits 107 = .ok (.iload 5, 2) := by decide +kernel
theorem dX11_suits_109 : decode cX11_suits 109 = .ok (.invokestatic 155, 3) := by decide +kernel
theorem dX11_suits_112 : decode cX11_suits 112 = .ok (.ifCond .eq 23, 3) := by decide +kernel
theorem dX11_suits_115 : decode cX11_suits 115 = .ok (.iload 6, 2) := by decide +kernel
theorem dX11_suits_117 : decode cX11_suits 117 = .ok (.iconst (-1), 1) := by decide +kernel
theorem dX11_suits_118 : decode cX11_suits 118 = .ok (.if_icmp .eq 17, 3) := by decide +kernel
theorem dX11_suits_121 : decode cX11_suits 121 = .ok (.iconst 1, 1) := by decide +kernel
theorem dX11_suits_122 : decode cX11_suits 122 = .ok (.iload 6, 2) := by decide +kernel
theorem dX11_suits_124 : decode cX11_suits 124 = .ok (.ishl, 1) := by decide +kernel
theorem dX11_suits_125 : decode cX11_suits 125 = .ok (.aload_n 0, 1) := by decide +kernel
theorem dX11_suits_126 : decode cX11_suits 126 = .ok (.iload 6, 2) := by decide +kernel
theorem dX11_suits_128 : decode cX11_suits 128 = .ok (.invokevirtual 178, 3) := by decide +kernel
theorem dX11_suits_131 : decode cX11_suits 131 = .ok (.ior, 1) := by decide +kernel
theorem dX11_suits_132 : decode cX11_suits 132 = .ok (.goto 4, 3) := by decide +kernel
theorem dX11_suits_135 : decode cX11_suits 135 = .ok (.iconst 0, 1) := by decide +kernel
theorem dX11_suits_136 : decode cX11_suits 136 = .ok (.ior, 1) := by decide +kernel
theorem dX11_suits_137 : decode cX11_suits 137 = .ok (.istore 4, 2) := by decide +kernel
theorem dX11_suits_139 : decode cX11_suits 139 = .ok (.iinc 5 1, 3) := by decide +kernel
theorem dX11_suits_142 : decode cX11_suits 142 = .ok (.goto (-91), 3) := by decide +kernel
theorem dX11_suits_145 : decode cX11_suits 145 = .ok (.iload_n 3, 1) := by decide +kernel
theorem dX11_suits_146 : decode cX11_suits 146 = .ok (.iload 4, 2) := by decide +kernel
theorem dX11_suits_148 : decode cX11_suits 148 = .ok (.iand, 1) := by decide +kernel
theorem dX11_suits_149 : decode cX11_suits 149 = .ok (.ifCond .eq 7, 3) := by decide +kernel
theorem dX11_suits_152 : decode cX11_suits 152 = .ok (.iconst 1, 1) := by decide +kernel
theorem dX11_suits_153 : decode cX11_suits 153 = .ok (.goto 4, 3) := by decide +kernel
theorem dX11_suits_156 : decode cX11_suits 156 = .ok (.iconst 0, 1) := by decide +kernel
theorem dX11_suits_157 : decode cX11_suits 157 = .ok (.ireturn, 1) := by decide +kernel
theorem dX11_counts_0 : decode cX11_counts 0 = .ok (.iconst 0, 1) := by decide +kernel
theorem dX11_counts_1 : decode cX11_counts 1 = .ok (.istore_n 1, 1) := by decide +kernel
theorem dX11_counts_2 : decode cX11_counts 2 = .ok (.iload_n 1, 1) := by decide +kernel
theorem dX11_counts_3 : decode cX11_counts 3 = .ok (.bipush 64, 2) := by decide +kernel
theorem dX11_counts_5 : decode cX11_counts 5 = .ok (.if_icmp .ge 57, 3) := by decide +kernel
theorem dX11_counts_8 : decode cX11_counts 8 = .ok (.aload_n 0, 1) := by decide +kernel
theorem dX11_counts_9 : decode cX11_counts 9 = .ok (.getfield 92, 3) := by decide +kernel
theorem dX11_counts_12 : decode cX11_counts 12 = .ok (.iload_n 1, 1) := by decide +kernel
theorem dX11_counts_13 : decode cX11_counts 13 = .ok (.iload_n 1, 1) := by decide +kernel
theorem dX11_counts_14 : decode cX11_counts 14 = .ok (.bipush 8, 2) := by decide +kernel
theorem dX11_counts_16 : decode cX11_counts 16 = .ok (.idiv, 1) := by decide +kernel
theorem dX11_counts_17 : decode cX11_counts 17 = .ok (.aload_n 0, 1) := by decide +kernel
theorem dX11_counts_18 : decode cX11_counts 18 = .ok (.getfield 239, 3) := by decide +kernel
theorem dX11_counts_21 : decode cX11_counts 21 = .ok (.if_icmp .ge 33, 3) := by decide +kernel
theorem dX11_counts_24 : decode cX11_counts 24 = .ok (.iload_n 1, 1) := by decide +kernel
theorem dX11_counts_25 : decode cX11_counts 25 = .ok (.bipush 8, 2) := by decide +kernel
theorem dX11_counts_27 : decode cX11_counts 27 = .ok (.irem, 1) := by decide +kernel
theorem dX11_counts_28 : decode cX11_counts 28 = .ok (.aload_n 0, 1) := by decide +kernel
theorem dX11_counts_29 : decode cX11_counts 29 = .ok (.getfield 239, 3) := by decide +kernel
theorem dX11_counts_32 : decode cX11_counts 32 = .ok (.if_icmp .ge 22, 3) := by decide +kernel
theorem dX11_counts_35 : decode cX11_counts 35 = .ok (.aload_n 0, 1) := by decide +kernel
theorem dX11_counts_36 : decode cX11_counts 36 = .ok (.iload_n 1, 1) := by decide +kernel
theorem dX11_counts_37 : decode cX11_counts 37 = .ok (.bipush 8, 2) := by decide +kernel
theorem dX11_counts_39 : decode cX11_counts 39 = .ok (.idiv, 1) := by decide +kernel
theorem dX11_counts_40 : decode cX11_counts 40 = .ok (.iload_n 1, 1) := by decide +kernel
theorem dX11_counts_41 : decode cX11_counts 41 = .ok (.bipush 8, 2) := by decide +kernel
theorem dX11_counts_43 : decode cX11_counts 43 = .ok (.irem, 1) := by decide +kernel
theorem dX11_counts_44 : decode cX11_counts 44 = .ok (.invokevirtual 242, 3) := by decide +kernel
theorem dX11_counts_47 : decode cX11_counts 47 = .ok (.ifCond .eq 7, 3) := by decide +kernel
theorem dX11_counts_50 : decode cX11_counts 50 = .ok (.iconst 1, 1) := by decide +kernel
theorem dX11_counts_51 : decode cX11_counts 51 = .ok (.goto 4, 3) := by decide +kernel
theorem dX11_counts_54 : decode cX11_counts 54 = .ok (.iconst 0, 1) := by decide +kernel
theorem dX11_counts_55 : decode cX11_counts 55 = .ok (.bastore, 1) := by decide +kernel
theorem dX11_counts_56 : decode cX11_counts 56 = .ok (.iinc 1 1, 3) := by decide +kernel
theorem dX11_counts_59 : decode cX11_counts 59 = .ok (.goto (-57), 3) := by decide +kernel
theorem dX11_counts_62 : decode cX11_counts 62 = .ok (.iconst 1, 1) := by decide +kernel
theorem dX11_counts_63 : decode cX11_counts 63 = .ok (.aload_n 0, 1) := by decide +kernel
theorem dX11_counts_64 : decode cX11_counts 64 = .ok (.getfield 239, 3) := by decide +kernel
theorem dX11_counts_67 : decode cX11_counts 67 = .ok (.ishl, 1) := by decide +kernel
theorem dX11_counts_68 : decode cX11_counts 68 = .ok (.iconst 1, 1) := by decide +kernel
theorem dX11_counts_69 : decode cX11_counts 69 = .ok (.isub, 1) := by decide +kernel
theorem dX11_counts_70 : decode cX11_counts 70 = .ok (.istore_n 1, 1) := by decide +kernel
theorem dX11_counts_71 : decode cX11_counts 71 = .ok (.aload_n 0, 1) := by decide +kernel
theorem dX11_counts_72 : decode cX11_counts 72 = .ok (.getfield 95, 3) := by decide +kernel
theorem dX11_counts_75 : decode cX11_counts 75 = .ok (.iload_n 1, 1) := by decide +kernel
theorem dX11_counts_76 : decode cX11_counts 76 = .ok (.iconst 1, 1) := by decide +kernel
theorem dX11_counts_77 : decode cX11_counts 77 = .ok (.iastore, 1) := by decide +kernel
theorem dX11_counts_78 : decode cX11_counts 78 = .ok (.iload_n 1, 1) := by decide +kernel
theorem dX11_counts_79 : decode cX11_counts 79 = .ok (.iconst 1, 1) := by decide +kernel
theorem dX11_counts_80 : decode cX11_counts 80 = .ok (.isub, 1) := by decide +kernel
theorem dX11_counts_81 : decode cX11_counts 81 = .ok (.istore_n 2, 1) := by decide +kernel
theorem dX11_counts_82 : decode cX11_counts 82 = .ok (.iload_n 2, 1) := by decide +kernel
theorem dX11_counts_83 : decode cX11_counts 83 = .ok (.ifCond .lt 80, 3) := by decide +kernel
theorem dX11_counts_86 : decode cX11_counts 86 = .ok (.aload_n 0, 1) := by decide +kernel
theorem dX11_counts_87 : decode cX11_counts 87 = .ok (.getfield 95, 3) := by decide +kernel
theorem dX11_counts_90 : decode cX11_counts 90 = .ok (.iload_n 2, 1) := by decide +kernel
theorem dX11_counts_91 : decode cX11_counts 91 = .ok (.iconst 0, 1) := by decide +kernel
theorem dX11_counts_92 : decode cX11_counts 92 = .ok (.iastore, 1) := by decide +kernel
theorem dX11_counts_93 : decode cX11_counts 93 = .ok (.iconst 0, 1) := by decide +kernel
theorem dX11_counts_94 : decode cX11_counts 94 = .ok (.istore_n 3, 1) := by decide +kernel
theorem dX11_counts_95 : decode cX11_counts 95 = .ok (.iload_n 3, 1) := by decide +kernel
theorem dX11_counts_96 : decode cX11_counts 96 = .ok (.aload_n 0, 1) := by decide +kernel
theorem dX11_counts_97 : decode cX11_counts 97 = .ok (.getfield 239, 3) := by decide +kernel
theorem dX11_counts_100 : decode cX11_counts 100 = .ok (.if_icmp .ge 57, 3) := by decide +kernel
theorem dX11_counts_103 : decode cX11_counts 103 = .ok (.aload_n 0, 1) := by decide +kernel
theorem dX11_counts_104 : decode cX11_counts 104 = .ok (.getfield 95, 3) := by decide +kernel
theorem dX11_counts_107 : decode cX11_counts 107 = .ok (.iload_n 2, 1) := by decide +kernel
theorem dX11_counts_108 : decode cX11_counts 108 = .ok (.dup2, 1) := by decide +kernel
theorem dX11_counts_109 : decode cX11_counts 109 = .ok (.iaload, 1) := by decide +kernel
theorem dX11_counts_110 : decode cX11_counts 110 = .ok (.iload_n 2, 1) := by decide +kernel
theorem dX11_counts_111 : decode cX11_counts 111 = .ok (.iload_n 3, 1) := by decide +kernel
theorem dX11_counts_112 : decode cX11_counts 112 = .ok (.invokestatic 155, 3) := by decide +kernel
theorem dX11_counts_115 : decode cX11_counts 115 = .ok (.ifCond .ne 33, 3) := by decide +kernel
theorem dX11_counts_118 : decode cX11_counts 118 = .ok (.aload_n 0, 1) := by decide +kernel
theorem dX11_counts_119 : decode cX11_counts 119 = .ok (.getfield 92, 3) := by decide +kernel
theorem dX11_counts_122 : decode cX11_counts 122 = .ok (.bipush 8, 2) := by decide +kernel
theorem dX11_counts_124 : decode cX11_counts 124 = .ok (.iload_n 2, 1) := by decide +kernel
theorem dX11_counts_125 : decode cX11_counts 125 = .ok (.invokestatic 159, 3) := by decide +kernel
theorem dX11_counts_128 : decode cX11_counts 128 = .ok (.imul, 1) := by decide +kernel
theorem dX11_counts_129 : decode cX11_counts 129 = .ok (.iload_n 3, 1) := by decide +kernel
theorem dX11_counts_130 : decode cX11_counts 130 = .ok (.iadd, 1) := by decide +kernel
theorem dX11_counts_131 : decode cX11_counts 131 = .ok (.baload, 1) := by decide +kernel
theorem dX11_counts_132 : decode cX11_counts 132 = .ok (.ifCond .eq 16, 3) := by decide +kernel
theorem dX11_counts_135 : decode cX11_counts 135 = .ok (.aload_n 0, 1) := by decide +kernel
theorem dX11_counts_136 : decode cX11_counts 136 = .ok (.getfield 95, 3) := by decide +kernel
theorem dX11_counts_139 : decode cX11_counts 139 = .ok (.iload_n 2, 1) := by decide +kernel
theorem dX11_counts_140 : decode cX11_counts 140 = .ok (.iconst 1, 1) := by decide +kernel
theorem dX11_counts_141 : decode cX11_counts 141 = .ok (.iload_n 3, 1) := by decide +kernel
theorem dX11_counts_142 : decode cX11_counts 142 = .ok (.ishl, 1) := by decide +kernel
theorem dX11_counts_143 : decode cX11_counts 143 = .ok (.ior, 1) := by decide +kernel
theorem dX11_counts_144 : decode cX11_counts 144 = .ok (.iaload, 1) := by decide +kernel
theorem dX11_counts_145 : decode cX11_counts 145 = .ok (.goto 4, 3) := by decide +kernel
theorem dX11_counts_148 : decode cX11_counts 148 = .ok (.iconst 0, 1) := by decide +kernel
theorem dX11_counts_149 : decode cX11_counts 149 = .ok (.iadd, 1) := by decide +kernel
theorem dX11_counts_150 : decode cX11_counts 150 = .ok (.iastore, 1) := by decide +kernel
theorem dX11_counts_151 : decode cX11_counts 151 = .ok (.iinc 3 1, 3) := by decide +kernel
theorem dX11_counts_154 : decode cX11_counts 154 = .ok (.goto (-59), 3) := by decide +kernel
theorem dX11_counts_157 : decode cX11_counts 157 = .ok (.iinc 2 (-1), 3) := by decide +kernel
theorem dX11_counts_160 : decode cX11_counts 160 = .ok (.goto (-78), 3) := by decide +kernel
theorem dX11_counts_163 : decode cX11_counts 163 = .ok (.return_, 1) := by decide +kernel
theorem dX11_match_0 : decode cX11_match 0 = .ok (.aload_n 0, 1) := by decide +kernel
theorem dX11_match_1 : decode cX11_match 1 = .ok (.iload_n 1, 1) := by decide +kernel
theorem dX11_match_2 : decode cX11_match 2 = .ok (.iconst 0, 1) := by decide +kernel
theorem dX11_match_3 : decode cX11_match 3 = .ok (.aload_n 0, 1) := by decide +kernel
theorem dX11_match_4 : decode cX11_match 4 = .ok (.getfield 239, 3) := by decide +kernel
theorem dX11_match_7 : decode cX11_match 7 = .ok (.iconst 1, 1) := by decide +kernel
theorem dX11_match_8 : decode cX11_match 8 = .ok (.isub, 1) := by decide +kernel
theorem dX11_match_9 : decode cX11_match 9 = .ok (.invokestatic 129, 3) := by decide +kernel
theorem dX11_match_12 : decode cX11_match 12 = .ok (.ifCond .eq 7, 3) := by decide +kernel
theorem dX11_match_15 : decode cX11_match 15 = .ok (.iconst 0, 1) := by decide +kernel
theorem dX11_match_16 : decode cX11_match 16 = .ok (.goto 4, 3) := by decide +kernel
theorem dX11_match_19 : decode cX11_match 19 = .ok (.iconst 1, 1) := by decide +kernel
theorem dX11_match_20 : decode cX11_match 20 = .ok (.invokevirtual 142, 3) := by decide +kernel
theorem dX11_match_23 : decode cX11_match 23 = .ok (.ifCond .ne 5, 3) := by decide +kernel
theorem dX11_match_26 : decode cX11_match 26 = .ok (.iconst 0, 1) := by decide +kernel
theorem dX11_match_27 : decode cX11_match 27 = .ok (.ireturn, 1) := by decide +kernel
theorem dX11_match_28 : decode cX11_match 28 = .ok (.aload_n 0, 1) := by decide +kernel
theorem dX11_match_29 : decode cX11_match 29 = .ok (.invokevirtual 245, 3) := by decide +kernel
theorem dX11_match_32 : decode cX11_match 32 = .ok (.iconst 0, 1) := by decide +kernel
theorem dX11_match_33 : decode cX11_match 33 = .ok (.istore_n 2, 1) := by decide +kernel
theorem dX11_match_34 : decode cX11_match 34 = .ok (.iconst (-1), 1) := by decide +kernel
theorem dX11_match_35 : decode cX11_match 35 = .ok (.istore_n 3, 1) := by decide +kernel
theorem dX11_match_36 : decode cX11_match 36 = .ok (.iconst 0, 1) := by decide +kernel
theorem dX11_match_37 : decode cX11_match 37 = .ok (.istore 4, 2) := by decide +kernel
theorem dX11_match_39 : decode cX11_match 39 = .ok (.iload 4, 2) := by decide +kernel
theorem dX11_match_41 : decode cX11_match 41 = .ok (.iload_n 1, 1) := by decide +kernel
theorem dX11_match_42 : decode cX11_match 42 = .ok (.if_icmp .gt 91, 3) := by decide +kernel
theorem dX11_match_45 : decode cX11_match 45 = .ok (.aload_n 0, 1) := by decide +kernel
theorem dX11_match_46 : decode cX11_match 46 = .ok (.getfield 95, 3) := by decide +kernel
theorem dX11_match_49 : decode cX11_match 49 = .ok (.iconst 0, 1) := by decide +kernel
theorem dX11_match_50 : decode cX11_match 50 = .ok (.iaload, 1) := by decide +kernel
theorem dX11_match_51 : decode cX11_match 51 = .ok (.ifCond .le 82, 3) := by decide +kernel
theorem dX11_match_54 : decode cX11_match 54 = .ok (.iconst (-1), 1) := by decide +kernel
theorem dX11_match_55 : decode cX11_match 55 = .ok (.istore_n 3, 1) := by decide +kernel
theorem dX11_match_56 : decode cX11_match 56 = .ok (.aload_n 0, 1) := by decide +kernel
theorem dX11_match_57 : decode cX11_match 57 = .ok (.getfield 239, 3) := by decide +kernel
theorem dX11_match_60 : decode cX11_match 60 = .ok (.iconst 1, 1) := by decide +kernel
theorem dX11_match_61 : decode cX11_match 61 = .ok (.isub, 1) := by decide +kernel
theorem dX11_match_62 : decode cX11_match 62 = .ok (.istore 5, 2) := by decide +kernel
theorem dX11_match_64 : decode cX11_match 64 = .ok (.iload 5, 2) := by decide +kernel
theorem dX11_match_66 : decode cX11_match 66 = .ok (.ifCond .lt 55, 3) := by decide +kernel
theorem dX11_match_69 : decode cX11_match 69 = .ok (.iload_n 2, 1) := by decide +kernel
theorem dX11_match_70 : decode cX11_match 70 = .ok (.iload 5, 2) := by decide +kernel
theorem dX11_match_72 : decode cX11_match 72 = .ok (.invokestatic 155, 3) := by decide +kernel
theorem dX11_match_75 : decode cX11_match 75 = .ok (.ifCond .ne 38, 3) := by decide +kernel
theorem dX11_match_78 : decode cX11_match 78 = .ok (.aload_n 0, 1) := by decide +kernel
theorem dX11_match_79 : decode cX11_match 79 = .ok (.getfield 92, 3) := by decide +kernel
theorem dX11_match_82 : decode cX11_match 82 = .ok (.bipush 8, 2) := by decide +kernel
theorem dX11_match_84 : decode cX11_match 84 = .ok (.iload 4, 2) := by decide +kernel
theorem dX11_match_86 : decode cX11_match 86 = .ok (.imul, 1) := by decide +kernel
theorem dX11_match_87 : decode cX11_match 87 = .ok (.iload 5, 2) := by decide +kernel
theorem dX11_match_89 : decode cX11_match 89 = .ok (.iadd, 1) := by decide +kernel
theorem dX11_match_90 : decode cX11_match 90 = .ok (.baload, 1) := by decide +kernel
theorem dX11_match_91 : decode cX11_match 91 = .ok (.ifCond .eq 22, 3) := by decide +kernel
theorem dX11_match_94 : decode cX11_match 94 = .ok (.aload_n 0, 1) := by decide +kernel
theorem dX11_match_95 : decode cX11_match 95 = .ok (.getfield 95, 3) := by decide +kernel
theorem dX11_match_98 : decode cX11_match 98 = .ok (.iload_n 2, 1) := by decide +kernel
theorem dX11_match_99 : decode cX11_match 99 = .ok (.iconst 1, 1) := by decide +kernel
theorem dX11_match_100 : decode cX11_match 100 = .ok (.iload 5, 2) := by decide +kernel
theorem dX11_match_102 : decode cX11_match 102 = .ok (.ishl, 1) := by decide +kernel
theorem dX11_match_103 : decode cX11_match 103 = .ok (.ior, 1) := by decide +kernel
theorem dX11_match_104 : decode cX11_match 104 = .ok (.iaload, 1) := by decide +kernel
theorem dX11_match_105 : decode cX11_match 105 = .ok (.ifCond .le 8, 3) := by decide +kernel
theorem dX11_match_108 : decode cX11_match 108 = .ok (.iload 5, 2) := by decide +kernel
theorem dX11_match_110 : decode cX11_match 110 = .ok (.goto 4, 3) := by decide +kernel
theorem dX11_match_113 : decode cX11_match 113 = .ok (.iload_n 3, 1) := by decide +kernel
theorem dX11_match_114 : decode cX11_match 114 = .ok (.istore_n 3, 1) := by decide +kernel
theorem dX11_match_115 : decode cX11_match 115 = .ok (.iinc 5 (-1), 3) := by decide +kernel
theorem dX11_match_118 : decode cX11_match 118 = .ok (.goto (-54), 3) := by decide +kernel
theorem dX11_match_121 : decode cX11_match 121 = .ok (.iload_n 2, 1) := by decide +kernel
theorem dX11_match_122 : decode cX11_match 122 = .ok (.iconst 1, 1) := by decide +kernel
theorem dX11_match_123 : decode cX11_match 123 = .ok (.iload_n 3, 1) := by decide +kernel
theorem dX11_match_124 : decode cX11_match 124 = .ok (.ishl, 1) := by decide +kernel
theorem dX11_match_125 : decode cX11_match 125 = .ok (.ior, 1) := by decide +kernel
theorem dX11_match_126 : decode cX11_match 126 = .ok (.istore_n 2, 1) := by decide +kernel
theorem dX11_match_127 : decode cX11_match 127 = .ok (.iinc 4 1, 3) := by decide +kernel
theorem dX11_match_130 : decode cX11_match 130 = .ok (.goto (-91), 3) := by decide +kernel
theorem dX11_match_133 : decode cX11_match 133 = .ok (.iload_n 3, 1) := by decide +kernel
theorem dX11_match_134 : decode cX11_match 134 = .ok (.ireturn, 1) := by decide +kernel
theorem dX11_matches_0 : decode cX11_matches 0 = .ok (.aload_n 0, 1) := by decide +kernel
theorem dX11_matches_1 : decode cX11_matches 1 = .ok (.iconst 0, 1) := by decide +kernel
theorem dX11_matches_2 : decode cX11_matches 2 = .ok (.putfield 125, 3) := by decide +kernel
theorem dX11_matches_5 : decode cX11_matches 5 = .ok (.aload_n 0, 1) := by decide +kernel
theorem dX11_matches_6 : decode cX11_matches 6 = .ok (.invokevirtual 245, 3) := by decide +kernel
theorem dX11_matches_9 : decode cX11_matches 9 = .ok (.aload_n 0, 1) := by decide +kernel
theorem dX11_matches_10 : decode cX11_matches 10 = .ok (.getfield 95, 3) := by decide +kernel
theorem dX11_matches_13 : decode cX11_matches 13 = .ok (.iconst 0, 1) := by decide +kernel
theorem dX11_matches_14 : decode cX11_matches 14 = .ok (.iaload, 1) := by decide +kernel
theorem dX11_matches_15 : decode cX11_matches 15 = .ok (.ireturn, 1) := by decide +kernel
theorem dX11_merge_0 : decode cX11_merge 0 = .ok (.aload_n 0, 1) := by decide +kernel
theorem dX11_merge_1 : decode cX11_merge 1 = .ok (.iload_n 1, 1) := by decide +kernel
theorem dX11_merge_2 : decode cX11_merge 2 = .ok (.invokevirtual 184, 3) := by decide +kernel
theorem dX11_merge_5 : decode cX11_merge 5 = .ok (.ifCond .eq 15, 3) := by decide +kernel
theorem dX11_merge_8 : decode cX11_merge 8 = .ok (.aload_n 0, 1) := by decide +kernel
theorem dX11_merge_9 : decode cX11_merge 9 = .ok (.iload_n 2, 1) := by decide +kernel
theorem dX11_merge_10 : decode cX11_merge 10 = .ok (.invokevirtual 184, 3) := by decide +kernel
theorem dX11_merge_13 : decode cX11_merge 13 = .ok (.ifCond .eq 7, 3) := by decide +kernel
theorem dX11_merge_16 : decode cX11_merge 16 = .ok (.iconst 1, 1) := by decide +kernel
theorem dX11_merge_17 : decode cX11_merge 17 = .ok (.goto 4, 3) := by decide +kernel
theorem dX11_merge_20 : decode cX11_merge 20 = .ok (.iconst 0, 1) := by decide +kernel
theorem dX11_merge_21 : decode cX11_merge 21 = .ok (.istore_n 3, 1) := by decide +kernel
theorem dX11_merge_22 : decode cX11_merge 22 = .ok (.aload_n 0, 1) := by decide +kernel
theorem dX11_merge_23 : decode cX11_merge 23 = .ok (.iload_n 3, 1) := by decide +kernel
theorem dX11_merge_24 : decode cX11_merge 24 = .ok (.ifCond .ne 7, 3) := by decide +kernel
theorem dX11_merge_27 : decode cX11_merge 27 = .ok (.iconst 1, 1) := by decide +kernel
theorem dX11_merge_28 : decode cX11_merge 28 = .ok (.goto 13, 3) := by decide +kernel
theorem dX11_merge_31 : decode cX11_merge 31 = .ok (.iload_n 1, 1) := by decide +kernel
theorem dX11_merge_32 : decode cX11_merge 32 = .ok (.iload_n 2, 1) := by decide +kernel
theorem dX11_merge_33 : decode cX11_merge 33 = .ok (.if_icmp .ne 7, 3) := by decide +kernel
theorem dX11_merge_36 : decode cX11_merge 36 = .ok (.iconst 2, 1) := by decide +kernel
theorem dX11_merge_37 : decode cX11_merge 37 = .ok (.goto 4, 3) := by decide +kernel
theorem dX11_merge_40 : decode cX11_merge 40 = .ok (.iconst 0, 1) := by decide +kernel
theorem dX11_merge_41 : decode cX11_merge 41 = .ok (.invokevirtual 142, 3) := by decide +kernel
theorem dX11_merge_44 : decode cX11_merge 44 = .ok (.ifCond .ne 5, 3) := by decide +kernel
theorem dX11_merge_47 : decode cX11_merge 47 = .ok (.iconst 0, 1) := by decide +kernel
theorem dX11_merge_48 : decode cX11_merge 48 = .ok (.ireturn, 1) := by decide +kernel
theorem dX11_merge_49 : decode cX11_merge 49 = .ok (.aload_n 0, 1) := by decide +kernel
theorem dX11_merge_50 : decode cX11_merge 50 = .ok (.aload_n 0, 1) := by decide +kernel
theorem dX11_merge_51 : decode cX11_merge 51 = .ok (.getfield 59, 3) := by decide +kernel
theorem dX11_merge_54 : decode cX11_merge 54 = .ok (.iload_n 2, 1) := by decide +kernel
theorem dX11_merge_55 : decode cX11_merge 55 = .ok (.iaload, 1) := by decide +kernel
theorem dX11_merge_56 : decode cX11_merge 56 = .ok (.iconst 1, 1) := by decide +kernel
theorem dX11_merge_57 : decode cX11_merge 57 = .ok (.if_icmp .ne 27, 3) := by decide +kernel
theorem dX11_merge_60 : decode cX11_merge 60 = .ok (.aload_n 0, 1) := by decide +kernel
theorem dX11_merge_61 : decode cX11_merge 61 = .ok (.iload_n 2, 1) := by decide +kernel
theorem dX11_merge_62 : decode cX11_merge 62 = .ok (.invokevirtual 178, 3) := by decide +kernel
theorem dX11_merge_65 : decode cX11_merge 65 = .ok (.iload_n 1, 1) := by decide +kernel
theorem dX11_merge_66 : decode cX11_merge 66 = .ok (.invokestatic 155, 3) := by decide +kernel
theorem dX11_merge_69 : decode cX11_merge 69 = .ok (.ifCond .ne 15, 3) := by decide +kernel
theorem dX11_merge_72 : decode cX11_merge 72 = .ok (.aload_n 0, 1) := by decide +kernel
theorem dX11_merge_73 : decode cX11_merge 73 = .ok (.iload_n 1, 1) := by decide +kernel
theorem dX11_merge_74 : decode cX11_merge 74 = .ok (.invokevirtual 178, 3) := by decide +kernel
theorem dX11_merge_77 : decode cX11_merge 77 = .ok (.iload_n 2, 1) := by decide +kernel
theorem dX11_merge_78 : decode cX11_merge 78 = .ok (.invokestatic 155, 3) := by decide +kernel
theorem dX11_merge_81 : decode cX11_merge 81 = .ok (.ifCond .eq 7, 3) := by decide +kernel
theorem dX11_merge_84 : decode cX11_merge 84 = .ok (.iconst 3, 1) := by decide +kernel
theorem dX11_merge_85 : decode cX11_merge 85 = .ok (.goto 4, 3) := by decide +kernel
theorem dX11_merge_88 : decode cX11_merge 88 = .ok (.iconst 0, 1) := by decide +kernel
theorem dX11_merge_89 : decode cX11_merge 89 = .ok (.invokevirtual 142, 3) := by decide +kernel
theorem dX11_merge_92 : decode cX11_merge 92 = .ok (.ifCond .ne 5, 3) := by decide +kernel
theorem dX11_merge_95 : decode cX11_merge 95 = .ok (.iconst 0, 1) := by decide +kernel
theorem dX11_merge_96 : decode cX11_merge 96 = .ok (.ireturn, 1) := by decide +kernel
theorem dX11_merge_97 : decode cX11_merge 97 = .ok (.aload_n 0, 1) := by decide +kernel
theorem dX11_merge_98 : decode cX11_merge 98 = .ok (.getfield 59, 3) := by decide +kernel
theorem dX11_merge_101 : decode cX11_merge 101 = .ok (.iload_n 1, 1) := by decide +kernel
theorem dX11_merge_102 : decode cX11_merge 102 = .ok (.iaload, 1) := by decide +kernel
theorem dX11_merge_103 : decode cX11_merge 103 = .ok (.istore 4, 2) := by decide +kernel
theorem dX11_merge_105 : decode cX11_merge 105 = .ok (.iconst 0, 1) := by decide +kernel
theorem dX11_merge_106 : decode cX11_merge 106 = .ok (.istore 5, 2) := by decide +kernel
theorem dX11_merge_108 : decode cX11_merge 108 = .ok (.iload 5, 2) := by decide +kernel
theorem dX11_merge_110 : decode cX11_merge 110 = .ok (.aload_n 0, 1) := by decide +kernel
theorem dX11_merge_111 : decode cX11_merge 111 = .ok (.getfield 136, 3) := by decide +kernel
theorem dX11_merge_114 : decode cX11_merge 114 = .ok (.if_icmp .ge 97, 3) := by decide +kernel
theorem dX11_merge_117 : decode cX11_merge 117 = .ok (.aload_n 0, 1) := by decide +kernel
theorem dX11_merge_118 : decode cX11_merge 118 = .ok (.getfield 62, 3) := by decide +kernel
theorem dX11_merge_121 : decode cX11_merge 121 = .ok (.iload 5, 2) := by decide +kernel
theorem dX11_merge_123 : decode cX11_merge 123 = .ok (.aload_n 0, 1) := by decide +kernel
theorem dX11_merge_124 : decode cX11_merge 124 = .ok (.getfield 59, 3) := by decide +kernel
theorem dX11_merge_127 : decode cX11_merge 127 = .ok (.iload 5, 2) := by decide +kernel
theorem dX11_merge_129 : decode cX11_merge 129 = .ok (.iaload, 1) := by decide +kernel
theorem dX11_merge_130 : decode cX11_merge 130 = .ok (.iconst 2, 1) := by decide +kernel
theorem dX11_merge_131 : decode cX11_merge 131 = .ok (.if_icmp .ne 18, 3) := by decide +kernel
theorem dX11_merge_134 : decode cX11_merge 134 = .ok (.aload_n 0, 1) := by decide +kernel
theorem dX11_merge_135 : decode cX11_merge 135 = .ok (.getfield 62, 3) := by decide +kernel
theorem dX11_merge_138 : decode cX11_merge 138 = .ok (.iload 5, 2) := by decide +kernel
theorem dX11_merge_140 : decode cX11_merge 140 = .ok (.iaload, 1) := by decide +kernel
theorem dX11_merge_141 : decode cX11_merge 141 = .ok (.iload_n 1, 1) := by decide +kernel
theorem dX11_merge_142 : decode cX11_merge 142 = .ok (.if_icmp .ne 7, 3) := by decide +kernel
theorem dX11_merge_145 : decode cX11_merge 145 = .ok (.iload_n 2, 1) := by decide +kernel
theorem dX11_merge_146 : decode cX11_merge 146 = .ok (.goto 10, 3) := by decide +kernel
theorem dX11_merge_149 : decode cX11_merge 149 = .ok (.aload_n 0, 1) := by decide +kernel
theorem dX11_merge_150 : decode cX11_merge 150 = .ok (.getfield 62, 3) := by decide +kernel
theorem dX11_merge_153 : decode cX11_merge 153 = .ok (.iload 5, 2) := by decide +kernel
theorem dX11_merge_155 : decode cX11_merge 155 = .ok (.iaload, 1) := by decide +kernel
theorem dX11_merge_156 : decode cX11_merge 156 = .ok (.iastore, 1) := by decide +kernel
theorem dX11_merge_157 : decode cX11_merge 157 = .ok (.aload_n 0, 1) := by decide +kernel
theorem dX11_merge_158 : decode cX11_merge 158 = .ok (.getfield 65, 3) := by decide +kernel
theorem dX11_merge_161 : decode cX11_merge 161 = .ok (.iload 5, 2) := by decide +kernel
theorem dX11_merge_163 : decode cX11_merge 163 = .ok (.aload_n 0, 1) := by decide +kernel
theorem dX11_merge_164 : decode cX11_merge 164 = .ok (.getfield 65, 3) := by decide +kernel
theorem dX11_merge_167 : decode cX11_merge 167 = .ok (.iload 5, 2) := by decide +kernel
theorem dX11_merge_169 : decode cX11_merge 169 = .ok (.iaload, 1) := by decide +kernel
theorem dX11_merge_170 : decode cX11_merge 170 = .ok (.iload_n 1, 1) := by decide +kernel
theorem dX11_merge_171 : decode cX11_merge 171 = .ok (.invokestatic 155, 3) := by decide +kernel
theorem dX11_merge_174 : decode cX11_merge 174 = .ok (.ifCond .eq 23, 3) := by decide +kernel
theorem dX11_merge_177 : decode cX11_merge 177 = .ok (.aload_n 0, 1) := by decide +kernel
theorem dX11_merge_178 : decode cX11_merge 178 = .ok (.getfield 65, 3) := by decide +kernel
theorem dX11_merge_181 : decode cX11_merge 181 = .ok (.iload 5, 2) := by decide +kernel
theorem dX11_merge_183 : decode cX11_merge 183 = .ok (.iaload, 1) := by decide +kernel
theorem dX11_merge_184 : decode cX11_merge 184 = .ok (.iconst 1, 1) := by decide +kernel
theorem dX11_merge_185 : decode cX11_merge 185 = .ok (.iload_n 1, 1) := by decide +kernel
theorem dX11_merge_186 : decode cX11_merge 186 = .ok (.ishl, 1) := by decide +kernel
theorem dX11_merge_187 : decode cX11_merge 187 = .ok (.iconst (-1), 1) := by decide +kernel
theorem dX11_merge_188 : decode cX11_merge 188 = .ok (.ixor, 1) := by decide +kernel
theorem dX11_merge_189 : decode cX11_merge 189 = .ok (.iand, 1) := by decide +kernel
theorem dX11_merge_190 : decode cX11_merge 190 = .ok (.iconst 1, 1) := by decide +kernel
theorem dX11_merge_191 : decode cX11_merge 191 = .ok (.iload_n 2, 1) := by decide +kernel
theorem dX11_merge_192 : decode cX11_merge 192 = .ok (.ishl, 1) := by decide +kernel
theorem dX11_merge_193 : decode cX11_merge 193 = .ok (.ior, 1) := by decide +kernel
theorem dX11_merge_194 : decode cX11_merge 194 = .ok (.goto 10, 3) := by decide +kernel
theorem dX11_merge_197 : decode cX11_merge 197 = .ok (.aload_n 0, 1) := by decide +kernel
theorem dX11_merge_198 : decode cX11_merge 198 = .ok (.getfield 65, 3) := by decide +kernel
theorem dX11_merge_201 : decode cX11_merge 201 = .ok (.iload 5, 2) := by decide +kernel
theorem dX11_merge_203 : decode cX11_merge 203 = .ok (.iaload, 1) := by decide +kernel
theorem dX11_merge_204 : decode cX11_merge 204 = .ok (.iastore, 1) := by decide +kernel
theorem dX11_merge_205 : decode cX11_merge 205 = .ok (.iinc 5 1, 3) := by decide +kernel
theorem dX11_merge_208 : decode cX11_merge 208 = .ok (.goto (-100), 3) := by decide +kernel
theorem dX11_merge_211 : decode cX11_merge 211 = .ok (.aload_n 0, 1) := by decide +kernel
theorem dX11_merge_212 : decode cX11_merge 212 = .ok (.getfield 59, 3) := by decide +kernel
theorem dX11_merge_215 : decode cX11_merge 215 = .ok (.iload_n 1, 1) := by decide +kernel
theorem dX11_merge_216 : decode cX11_merge 216 = .ok (.iconst 2, 1) := by decide +kernel
theorem dX11_merge_217 : decode cX11_merge 217 = .ok (.iastore, 1) := by decide +kernel
theorem dX11_merge_218 : decode cX11_merge 218 = .ok (.aload_n 0, 1) := by decide +kernel
theorem dX11_merge_219 : decode cX11_merge 219 = .ok (.getfield 62, 3) := by decide +kernel
theorem dX11_merge_222 : decode cX11_merge 222 = .ok (.iload_n 1, 1) := by decide +kernel
theorem dX11_merge_223 : decode cX11_merge 223 = .ok (.iload_n 2, 1) := by decide +kernel
theorem dX11_merge_224 : decode cX11_merge 224 = .ok (.iastore, 1) := by decide +kernel
theorem dX11_merge_225 : decode cX11_merge 225 = .ok (.aload_n 0, 1) := by decide +kernel
theorem dX11_merge_226 : decode cX11_merge 226 = .ok (.getfield 65, 3) := by decide +kernel
theorem dX11_merge_229 : decode cX11_merge 229 = .ok (.iload_n 1, 1) := by decide +kernel
theorem dX11_merge_230 : decode cX11_merge 230 = .ok (.iconst 0, 1) := by decide +kernel
theorem dX11_merge_231 : decode cX11_merge 231 = .ok (.iastore, 1) := by decide +kernel
theorem dX11_merge_232 : decode cX11_merge 232 = .ok (.aload_n 0, 1) := by decide +kernel
theorem dX11_merge_233 : decode cX11_merge 233 = .ok (.invokevirtual 187, 3) := by decide +kernel
theorem dX11_merge_236 : decode cX11_merge 236 = .ok (.iload 4, 2) := by decide +kernel
theorem dX11_merge_238 : decode cX11_merge 238 = .ok (.ireturn, 1) := by decide +kernel
theorem dX11_news_0 : decode cX11_news 0 = .ok (.iconst 0, 1) := by decide +kernel
theorem dX11_news_1 : decode cX11_news 1 = .ok (.istore_n 2, 1) := by decide +kernel
theorem dX11_news_2 : decode cX11_news 2 = .ok (.aload_n 0, 1) := by decide +kernel
theorem dX11_news_3 : decode cX11_news 3 = .ok (.iload_n 1, 1) := by decide +kernel
theorem dX11_news_4 : decode cX11_news 4 = .ok (.invokestatic 146, 3) := by decide +kernel
theorem dX11_news_7 : decode cX11_news 7 = .ok (.ifCond .eq 7, 3) := by decide +kernel
theorem dX11_news_10 : decode cX11_news 10 = .ok (.iconst 0, 1) := by decide +kernel
theorem dX11_news_11 : decode cX11_news 11 = .ok (.goto 4, 3) := by decide +kernel
theorem dX11_news_14 : decode cX11_news 14 = .ok (.iconst 1, 1) := by decide +kernel
theorem dX11_news_15 : decode cX11_news 15 = .ok (.invokevirtual 142, 3) := by decide +kernel
theorem dX11_news_18 : decode cX11_news 18 = .ok (.istore_n 3, 1) := by decide +kernel
theorem dX11_news_19 : decode cX11_news 19 = .ok (.iconst 0, 1) := by decide +kernel
theorem dX11_news_20 : decode cX11_news 20 = .ok (.istore 4, 2) := by decide +kernel
theorem dX11_news_22 : decode cX11_news 22 = .ok (.iload 4, 2) := by decide +kernel
theorem dX11_news_24 : decode cX11_news 24 = .ok (.aload_n 0, 1) := by decide +kernel
theorem dX11_news_25 : decode cX11_news 25 = .ok (.getfield 133, 3) := by decide +kernel
theorem dX11_news_28 : decode cX11_news 28 = .ok (.if_icmp .ge 57, 3) := by decide +kernel
theorem dX11_news_31 : decode cX11_news 31 = .ok (.iload_n 3, 1) := by decide +kernel
theorem dX11_news_32 : decode cX11_news 32 = .ok (.ifCond .eq 53, 3) := by decide +kernel
theorem dX11_news_35 : decode cX11_news 35 = .ok (.iconst 0, 1) := by decide +kernel
theorem dX11_news_36 : decode cX11_news 36 = .ok (.istore 5, 2) := by decide +kernel
theorem dX11_news_38 : decode cX11_news 38 = .ok (.iload 5, 2) := by decide +kernel
theorem dX11_news_40 : decode cX11_news 40 = .ok (.aload_n 0, 1) := by decide +kernel
theorem dX11_news_41 : decode cX11_news 41 = .ok (.getfield 23, 3) := by decide +kernel
theorem dX11_news_44 : decode cX11_news 44 = .ok (.iload 4, 2) := by decide +kernel
theorem dX11_news_46 : decode cX11_news 46 = .ok (.iaload, 1) := by decide +kernel
theorem dX11_news_47 : decode cX11_news 47 = .ok (.if_icmp .ge 32, 3) := by decide +kernel
theorem dX11_news_50 : decode cX11_news 50 = .ok (.iload_n 2, 1) := by decide +kernel
theorem dX11_news_51 : decode cX11_news 51 = .ok (.aload_n 0, 1) := by decide +kernel
theorem dX11_news_52 : decode cX11_news 52 = .ok (.iload_n 1, 1) := by decide +kernel
theorem dX11_news_53 : decode cX11_news 53 = .ok (.iload 4, 2) := by decide +kernel
theorem dX11_news_55 : decode cX11_news 55 = .ok (.iload 5, 2) := by decide +kernel
theorem dX11_news_57 : decode cX11_news 57 = .ok (.invokevirtual 263, 3) := by decide +kernel
theorem dX11_news_60 : decode cX11_news 60 = .ok (.ifCond .eq 10, 3) := by decide +kernel
theorem dX11_news_63 : decode cX11_news 63 = .ok (.iconst 1, 1) := by decide +kernel
theorem dX11_news_64 : decode cX11_news 64 = .ok (.iload 4, 2) := by decide +kernel
theorem dX11_news_66 : decode cX11_news 66 = .ok (.ishl, 1) := by decide +kernel
theorem dX11_news_67 : decode cX11_news 67 = .ok (.goto 4, 3) := by decide +kernel
theorem dX11_news_70 : decode cX11_news 70 = .ok (.iconst 0, 1) := by decide +kernel
theorem dX11_news_71 : decode cX11_news 71 = .ok (.ior, 1) := by decide +kernel
theorem dX11_news_72 : decode cX11_news 72 = .ok (.istore_n 2, 1) := by decide +kernel
theorem dX11_news_73 : decode cX11_news 73 = .ok (.iinc 5 1, 3) := by decide +kernel
theorem dX11_news_76 : decode cX11_news 76 = .ok (.goto (-38), 3) := by decide +kernel
theorem dX11_news_79 : decode cX11_news 79 = .ok (.iinc 4 1, 3) := by decide +kernel
theorem dX11_news_82 : decode cX11_news 82 = .ok (.goto (-60), 3) := by decide +kernel
theorem dX11_news_85 : decode cX11_news 85 = .ok (.iload_n 2, 1) := by decide +kernel
theorem dX11_news_86 : decode cX11_news 86 = .ok (.ireturn, 1) := by decide +kernel
theorem dX11_ofTag_0 : decode cX11_ofTag 0 = .ok (.aload_n 0, 1) := by decide +kernel
theorem dX11_ofTag_1 : decode cX11_ofTag 1 = .ok (.aload_n 0, 1) := by decide +kernel
theorem dX11_ofTag_2 : decode cX11_ofTag 2 = .ok (.iload_n 1, 1) := by decide +kernel
theorem dX11_ofTag_3 : decode cX11_ofTag 3 = .ok (.invokevirtual 184, 3) := by decide +kernel
theorem dX11_ofTag_6 : decode cX11_ofTag 6 = .ok (.ifCond .ne 7, 3) := by decide +kernel
theorem dX11_ofTag_9 : decode cX11_ofTag 9 = .ok (.iconst 1, 1) := by decide +kernel
theorem dX11_ofTag_10 : decode cX11_ofTag 10 = .ok (.goto 17, 3) := by decide +kernel
theorem dX11_ofTag_13 : decode cX11_ofTag 13 = .ok (.iload_n 2, 1) := by decide +kernel
theorem dX11_ofTag_14 : decode cX11_ofTag 14 = .ok (.iconst 0, 1) := by decide +kernel
theorem dX11_ofTag_15 : decode cX11_ofTag 15 = .ok (.iconst 4, 1) := by decide +kernel
theorem dX11_ofTag_16 : decode cX11_ofTag 16 = .ok (.invokestatic 129, 3) := by decide +kernel
theorem dX11_ofTag_19 : decode cX11_ofTag 19 = .ok (.ifCond .eq 7, 3) := by decide +kernel
theorem dX11_ofTag_22 : decode cX11_ofTag 22 = .ok (.iconst 0, 1) := by decide +kernel
theorem dX11_ofTag_23 : decode cX11_ofTag 23 = .ok (.goto 4, 3) := by decide +kernel
theorem dX11_ofTag_26 : decode cX11_ofTag 26 = .ok (.iconst 2, 1) := by decide +kernel
theorem dX11_ofTag_27 : decode cX11_ofTag 27 = .ok (.invokevirtual 142, 3) := by decide +kernel
theorem dX11_ofTag_30 : decode cX11_ofTag 30 = .ok (.ifCond .ne 5, 3) := by decide +kernel
theorem dX11_ofTag_33 : decode cX11_ofTag 33 = .ok (.iconst 0, 1) := by decide +kernel
theorem dX11_ofTag_34 : decode cX11_ofTag 34 = .ok (.ireturn, 1) := by decide +kernel
theorem dX11_ofTag_35 : decode cX11_ofTag 35 = .ok (.iload_n 2, 1) := by decide +kernel
theorem dX11_ofTag_36 : decode cX11_ofTag 36 = .ok (.iconst 3, 1) := by decide +kernel
theorem dX11_ofTag_37 : decode cX11_ofTag 37 = .ok (.if_icmp .ge 35, 3) := by decide +kernel
theorem dX11_ofTag_40 : decode cX11_ofTag 40 = .ok (.iload_n 2, 1) := by decide +kernel
theorem dX11_ofTag_41 : decode cX11_ofTag 41 = .ok (.ifCond .ne 12, 3) := by decide +kernel
theorem dX11_ofTag_44 : decode cX11_ofTag 44 = .ok (.aload_n 0, 1) := by decide +kernel
theorem dX11_ofTag_45 : decode cX11_ofTag 45 = .ok (.getfield 59, 3) := by decide +kernel
theorem dX11_ofTag_48 : decode cX11_ofTag 48 = .ok (.iload_n 1, 1) := by decide +kernel
theorem dX11_ofTag_49 : decode cX11_ofTag 49 = .ok (.iaload, 1) := by decide +kernel
theorem dX11_ofTag_50 : decode cX11_ofTag 50 = .ok (.goto 21, 3) := by decide +kernel
theorem dX11_ofTag_53 : decode cX11_ofTag 53 = .ok (.iload_n 2, 1) := by decide +kernel
theorem dX11_ofTag_54 : decode cX11_ofTag 54 = .ok (.iconst 1, 1) := by decide +kernel
theorem dX11_ofTag_55 : decode cX11_ofTag 55 = .ok (.if_icmp .ne 11, 3) := by decide +kernel
theorem dX11_ofTag_58 : decode cX11_ofTag 58 = .ok (.aload_n 0, 1) := by decide +kernel
theorem dX11_ofTag_59 : decode cX11_ofTag 59 = .ok (.iload_n 1, 1) := by decide +kernel
theorem dX11_ofTag_60 : decode cX11_ofTag 60 = .ok (.invokevirtual 175, 3) := by decide +kernel
theorem dX11_ofTag_63 : decode cX11_ofTag 63 = .ok (.goto 8, 3) := by decide +kernel
theorem dX11_ofTag_66 : decode cX11_ofTag 66 = .ok (.aload_n 0, 1) := by decide +kernel
theorem dX11_ofTag_67 : decode cX11_ofTag 67 = .ok (.iload_n 1, 1) := by decide +kernel
theorem dX11_ofTag_68 : decode cX11_ofTag 68 = .ok (.invokevirtual 178, 3) := by decide +kernel
theorem dX11_ofTag_71 : decode cX11_ofTag 71 = .ok (.ireturn, 1) := by decide +kernel
theorem dX11_ofTag_72 : decode cX11_ofTag 72 = .ok (.iconst 0, 1) := by decide +kernel
theorem dX11_ofTag_73 : decode cX11_ofTag 73 = .ok (.istore_n 3, 1) := by decide +kernel
theorem dX11_ofTag_74 : decode cX11_ofTag 74 = .ok (.iconst 0, 1) := by decide +kernel
theorem dX11_ofTag_75 : decode cX11_ofTag 75 = .ok (.istore 4, 2) := by decide +kernel
theorem dX11_ofTag_77 : decode cX11_ofTag 77 = .ok (.iload 4, 2) := by decide +kernel
theorem dX11_ofTag_79 : decode cX11_ofTag 79 = .ok (.aload_n 0, 1) := by decide +kernel
theorem dX11_ofTag_80 : decode cX11_ofTag 80 = .ok (.getfield 133, 3) := by decide +kernel
theorem dX11_ofTag_83 : decode cX11_ofTag 83 = .ok (.if_icmp .ge 46, 3) := by decide +kernel
theorem dX11_ofTag_86 : decode cX11_ofTag 86 = .ok (.iload_n 3, 1) := by decide +kernel
theorem dX11_ofTag_87 : decode cX11_ofTag 87 = .ok (.iload_n 2, 1) := by decide +kernel
theorem dX11_ofTag_88 : decode cX11_ofTag 88 = .ok (.iconst 3, 1) := by decide +kernel
theorem dX11_ofTag_89 : decode cX11_ofTag 89 = .ok (.if_icmp .ne 13, 3) := by decide +kernel
theorem dX11_ofTag_92 : decode cX11_ofTag 92 = .ok (.aload_n 0, 1) := by decide +kernel
theorem dX11_ofTag_93 : decode cX11_ofTag 93 = .ok (.getfield 38, 3) := by decide +kernel
theorem dX11_ofTag_96 : decode cX11_ofTag 96 = .ok (.iload 4, 2) := by decide +kernel
theorem dX11_ofTag_98 : decode cX11_ofTag 98 = .ok (.iaload, 1) := by decide +kernel
theorem dX11_ofTag_99 : decode cX11_ofTag 99 = .ok (.goto 10, 3) := by decide +kernel
theorem dX11_ofTag_102 : decode cX11_ofTag 102 = .ok (.aload_n 0, 1) := by decide +kernel
theorem dX11_ofTag_103 : decode cX11_ofTag 103 = .ok (.getfield 41, 3) := by decide +kernel
theorem dX11_ofTag_106 : decode cX11_ofTag 106 = .ok (.iload 4, 2) := by decide +kernel
theorem dX11_ofTag_108 : decode cX11_ofTag 108 = .ok (.iaload, 1) := by decide +kernel
theorem dX11_ofTag_109 : decode cX11_ofTag 109 = .ok (.iload_n 1, 1) := by decide +kernel
theorem dX11_ofTag_110 : decode cX11_ofTag 110 = .ok (.invokestatic 155, 3) := by decide +kernel
theorem dX11_ofTag_113 : decode cX11_ofTag 113 = .ok (.ifCond .eq 7, 3) := by decide +kernel
theorem dX11_ofTag_116 : decode cX11_ofTag 116 = .ok (.iconst 1, 1) := by decide +kernel
theorem dX11_ofTag_117 : decode cX11_ofTag 117 = .ok (.goto 4, 3) := by decide +kernel
theorem dX11_ofTag_120 : decode cX11_ofTag 120 = .ok (.iconst 0, 1) := by decide +kernel
theorem dX11_ofTag_121 : decode cX11_ofTag 121 = .ok (.iadd, 1) := by decide +kernel
theorem dX11_ofTag_122 : decode cX11_ofTag 122 = .ok (.istore_n 3, 1) := by decide +kernel
theorem dX11_ofTag_123 : decode cX11_ofTag 123 = .ok (.iinc 4 1, 3) := by decide +kernel
theorem dX11_ofTag_126 : decode cX11_ofTag 126 = .ok (.goto (-49), 3) := by decide +kernel
theorem dX11_ofTag_129 : decode cX11_ofTag 129 = .ok (.iload_n 3, 1) := by decide +kernel
theorem dX11_ofTag_130 : decode cX11_ofTag 130 = .ok (.ireturn, 1) := by decide +kernel
theorem dX11_owners_0 : decode cX11_owners 0 = .ok (.aload_n 0, 1) := by decide +kernel
theorem dX11_owners_1 : decode cX11_owners 1 = .ok (.iload_n 1, 1) := by decide +kernel
theorem dX11_owners_2 : decode cX11_owners 2 = .ok (.invokestatic 149, 3) := by decide +kernel
theorem dX11_owners_5 : decode cX11_owners 5 = .ok (.ifCond .eq 15, 3) := by decide +kernel
theorem dX11_owners_8 : decode cX11_owners 8 = .ok (.aload_n 0, 1) := by decide +kernel
theorem dX11_owners_9 : decode cX11_owners 9 = .ok (.iload_n 2, 1) := by decide +kernel
theorem dX11_owners_10 : decode cX11_owners 10 = .ok (.invokevirtual 152, 3) := by decide +kernel
theorem dX11_owners_13 : decode cX11_owners 13 = .ok (.ifCond .eq 7, 3) := by decide +kernel
theorem dX11_owners_16 : decode cX11_owners 16 = .ok (.iconst 0, 1) := by decide +kernel
theorem dX11_owners_17 : decode cX11_owners 17 = .ok (.goto 4, 3) := by decide +kernel
theorem dX11_owners_20 : decode cX11_owners 20 = .ok (.iconst 1, 1) := by decide +kernel
theorem dX11_owners_21 : decode cX11_owners 21 = .ok (.invokevirtual 142, 3) := by decide +kernel
theorem dX11_owners_24 : decode cX11_owners 24 = .ok (.ifCond .eq 21, 3) := by decide +kernel
theorem dX11_owners_27 : decode cX11_owners 27 = .ok (.aload_n 0, 1) := by decide +kernel
theorem dX11_owners_28 : decode cX11_owners 28 = .ok (.iload_n 1, 1) := by decide +kernel
theorem dX11_owners_29 : decode cX11_owners 29 = .ok (.iload_n 2, 1) := by decide +kernel
theorem dX11_owners_30 : decode cX11_owners 30 = .ok (.invokevirtual 172, 3) := by decide +kernel
theorem dX11_owners_33 : decode cX11_owners 33 = .ok (.ifCond .eq 12, 3) := by decide +kernel
theorem dX11_owners_36 : decode cX11_owners 36 = .ok (.aload_n 0, 1) := by decide +kernel
theorem dX11_owners_37 : decode cX11_owners 37 = .ok (.getfield 20, 3) := by decide +kernel
theorem dX11_owners_40 : decode cX11_owners 40 = .ok (.iload_n 2, 1) := by decide +kernel
theorem dX11_owners_41 : decode cX11_owners 41 = .ok (.iaload, 1) := by decide +kernel
theorem dX11_owners_42 : decode cX11_owners 42 = .ok (.goto 4, 3) := by decide +kernel
theorem dX11_owners_45 : decode cX11_owners 45 = .ok (.iconst 0, 1) := by decide +kernel
theorem dX11_owners_46 : decode cX11_owners 46 = .ok (.ireturn, 1) := by decide +kernel
theorem dX11_parent_0 : decode cX11_parent 0 = .ok (.aload_n 0, 1) := by decide +kernel
theorem dX11_parent_1 : decode cX11_parent 1 = .ok (.iload_n 1, 1) := by decide +kernel
theorem dX11_parent_2 : decode cX11_parent 2 = .ok (.invokevirtual 184, 3) := by decide +kernel
theorem dX11_parent_5 : decode cX11_parent 5 = .ok (.ifCond .eq 15, 3) := by decide +kernel
theorem dX11_parent_8 : decode cX11_parent 8 = .ok (.aload_n 0, 1) := by decide +kernel
theorem dX11_parent_9 : decode cX11_parent 9 = .ok (.iload_n 2, 1) := by decide +kernel
theorem dX11_parent_10 : decode cX11_parent 10 = .ok (.invokevirtual 184, 3) := by decide +kernel
theorem dX11_parent_13 : decode cX11_parent 13 = .ok (.ifCond .eq 7, 3) := by decide +kernel
theorem dX11_parent_16 : decode cX11_parent 16 = .ok (.iconst 1, 1) := by decide +kernel
theorem dX11_parent_17 : decode cX11_parent 17 = .ok (.goto 4, 3) := by decide +kernel
theorem dX11_parent_20 : decode cX11_parent 20 = .ok (.iconst 0, 1) := by decide +kernel
theorem dX11_parent_21 : decode cX11_parent 21 = .ok (.istore 4, 2) := by decide +kernel
theorem dX11_parent_23 : decode cX11_parent 23 = .ok (.aload_n 0, 1) := by decide +kernel
theorem dX11_parent_24 : decode cX11_parent 24 = .ok (.iload 4, 2) := by decide +kernel
theorem dX11_parent_26 : decode cX11_parent 26 = .ok (.ifCond .ne 7, 3) := by decide +kernel
theorem dX11_parent_29 : decode cX11_parent 29 = .ok (.iconst 1, 1) := by decide +kernel
theorem dX11_parent_30 : decode cX11_parent 30 = .ok (.goto 13, 3) := by decide +kernel
theorem dX11_parent_33 : decode cX11_parent 33 = .ok (.iload_n 1, 1) := by decide +kernel
theorem dX11_parent_34 : decode cX11_parent 34 = .ok (.iload_n 2, 1) := by decide +kernel
theorem dX11_parent_35 : decode cX11_parent 35 = .ok (.if_icmp .ne 7, 3) := by decide +kernel
theorem dX11_parent_38 : decode cX11_parent 38 = .ok (.iconst 2, 1) := by decide +kernel
theorem dX11_parent_39 : decode cX11_parent 39 = .ok (.goto 4, 3) := by decide +kernel
theorem dX11_parent_42 : decode cX11_parent 42 = .ok (.iconst 0, 1) := by decide +kernel
theorem dX11_parent_43 : decode cX11_parent 43 = .ok (.invokevirtual 142, 3) := by decide +kernel
theorem dX11_parent_46 : decode cX11_parent 46 = .ok (.ifCond .ne 5, 3) := by decide +kernel
theorem dX11_parent_49 : decode cX11_parent 49 = .ok (.iconst 0, 1) := by decide +kernel
theorem dX11_parent_50 : decode cX11_parent 50 = .ok (.ireturn, 1) := by decide +kernel
theorem dX11_parent_51 : decode cX11_parent 51 = .ok (.aload_n 0, 1) := by decide +kernel
theorem dX11_parent_52 : decode cX11_parent 52 = .ok (.aload_n 0, 1) := by decide +kernel
theorem dX11_parent_53 : decode cX11_parent 53 = .ok (.getfield 59, 3) := by decide +kernel
theorem dX11_parent_56 : decode cX11_parent 56 = .ok (.iload_n 1, 1) := by decide +kernel
theorem dX11_parent_57 : decode cX11_parent 57 = .ok (.iaload, 1) := by decide +kernel
theorem dX11_parent_58 : decode cX11_parent 58 = .ok (.iconst 1, 1) := by decide +kernel
theorem dX11_parent_59 : decode cX11_parent 59 = .ok (.if_icmp .ne 29, 3) := by decide +kernel
theorem dX11_parent_62 : decode cX11_parent 62 = .ok (.aload_n 0, 1) := by decide +kernel
theorem dX11_parent_63 : decode cX11_parent 63 = .ok (.getfield 59, 3) := by decide +kernel
theorem dX11_parent_66 : decode cX11_parent 66 = .ok (.iload_n 2, 1) := by decide +kernel
theorem dX11_parent_67 : decode cX11_parent 67 = .ok (.iaload, 1) := by decide +kernel
theorem dX11_parent_68 : decode cX11_parent 68 = .ok (.iconst 1, 1) := by decide +kernel
theorem dX11_parent_69 : decode cX11_parent 69 = .ok (.if_icmp .ne 19, 3) := by decide +kernel
theorem dX11_parent_72 : decode cX11_parent 72 = .ok (.iload_n 3, 1) := by decide +kernel
theorem dX11_parent_73 : decode cX11_parent 73 = .ok (.ifCond .eq 19, 3) := by decide +kernel
theorem dX11_parent_76 : decode cX11_parent 76 = .ok (.aload_n 0, 1) := by decide +kernel
theorem dX11_parent_77 : decode cX11_parent 77 = .ok (.iload_n 2, 1) := by decide +kernel
theorem dX11_parent_78 : decode cX11_parent 78 = .ok (.invokevirtual 178, 3) := by decide +kernel
theorem dX11_parent_81 : decode cX11_parent 81 = .ok (.iload_n 1, 1) := by decide +kernel
theorem dX11_parent_82 : decode cX11_parent 82 = .ok (.invokestatic 155, 3) := by decide +kernel
theorem dX11_parent_85 : decode cX11_parent 85 = .ok (.ifCond .eq 7, 3) := by decide +kernel
theorem dX11_parent_88 : decode cX11_parent 88 = .ok (.iconst 3, 1) := by decide +kernel
theorem dX11_parent_89 : decode cX11_parent 89 = .ok (.goto 4, 3) := by decide +kernel
theorem dX11_parent_92 : decode cX11_parent 92 = .ok (.iconst 0, 1) := by decide +kernel
theorem dX11_parent_93 : decode cX11_parent 93 = .ok (.invokevirtual 142, 3) := by decide +kernel
theorem dX11_parent_96 : decode cX11_parent 96 = .ok (.ifCond .ne 5, 3) := by decide +kernel
theorem dX11_parent_99 : decode cX11_parent 99 = .ok (.iconst 0, 1) := by decide +kernel
theorem dX11_parent_100 : decode cX11_parent 100 = .ok (.ireturn, 1) := by decide +kernel
theorem dX11_parent_101 : decode cX11_parent 101 = .ok (.aload_n 0, 1) := by decide +kernel
theorem dX11_parent_102 : decode cX11_parent 102 = .ok (.getfield 65, 3) := by decide +kernel
theorem dX11_parent_105 : decode cX11_parent 105 = .ok (.iload_n 1, 1) := by decide +kernel
theorem dX11_parent_106 : decode cX11_parent 106 = .ok (.iaload, 1) := by decide +kernel
theorem dX11_parent_107 : decode cX11_parent 107 = .ok (.iload_n 2, 1) := by decide +kernel
theorem dX11_parent_108 : decode cX11_parent 108 = .ok (.invokestatic 155, 3) := by decide +kernel
theorem dX11_parent_111 : decode cX11_parent 111 = .ok (.istore 5, 2) := by decide +kernel
theorem dX11_parent_113 : decode cX11_parent 113 = .ok (.aload_n 0, 1) := by decide +kernel
theorem dX11_parent_114 : decode cX11_parent 114 = .ok (.getfield 65, 3) := by decide +kernel
theorem dX11_parent_117 : decode cX11_parent 117 = .ok (.iload_n 1, 1) := by decide +kernel
theorem dX11_parent_118 : decode cX11_parent 118 = .ok (.aload_n 0, 1) := by decide +kernel
theorem dX11_parent_119 : decode cX11_parent 119 = .ok (.getfield 65, 3) := by decide +kernel
theorem dX11_parent_122 : decode cX11_parent 122 = .ok (.iload_n 1, 1) := by decide +kernel
theorem dX11_parent_123 : decode cX11_parent 123 = .ok (.iaload, 1) := by decide +kernel
theorem dX11_parent_124 : decode cX11_parent 124 = .ok (.iconst 1, 1) := by decide +kernel
theorem dX11_parent_125 : decode cX11_parent 125 = .ok (.iload_n 2, 1) := by decide +kernel
theorem dX11_parent_126 : decode cX11_parent 126 = .ok (.ishl, 1) := by decide +kernel
theorem dX11_parent_127 : decode cX11_parent 127 = .ok (.iconst (-1), 1) := by decide +kernel
theorem dX11_parent_128 : decode cX11_parent 128 = .ok (.ixor, 1) := by decide +kernel
theorem dX11_parent_129 : decode cX11_parent 129 = .ok (.iand, 1) := by decide +kernel
theorem dX11_parent_130 : decode cX11_parent 130 = .ok (.iload_n 3, 1) := by decide +kernel
theorem dX11_parent_131 : decode cX11_parent 131 = .ok (.ifCond .eq 9, 3) := by decide +kernel
theorem dX11_parent_134 : decode cX11_parent 134 = .ok (.iconst 1, 1) := by decide +kernel
theorem dX11_parent_135 : decode cX11_parent 135 = .ok (.iload_n 2, 1) := by decide +kernel
theorem dX11_parent_136 : decode cX11_parent 136 = .ok (.ishl, 1) := by decide +kernel
theorem dX11_parent_137 : decode cX11_parent 137 = .ok (.goto 4, 3) := by decide +kernel
theorem dX11_parent_140 : decode cX11_parent 140 = .ok (.iconst 0, 1) := by decide +kernel
theorem dX11_parent_141 : decode cX11_parent 141 = .ok (.ior, 1) := by decide +kernel
theorem dX11_parent_142 : decode cX11_parent 142 = .ok (.iastore, 1) := by decide +kernel
theorem dX11_parent_143 : decode cX11_parent 143 = .ok (.iload 5, 2) := by decide +kernel
theorem dX11_parent_145 : decode cX11_parent 145 = .ok (.iload_n 3, 1) := by decide +kernel
theorem dX11_parent_146 : decode cX11_parent 146 = .ok (.if_icmp .eq 7, 3) := by decide +kernel
theorem dX11_parent_149 : decode cX11_parent 149 = .ok (.aload_n 0, 1) := by decide +kernel
theorem dX11_parent_150 : decode cX11_parent 150 = .ok (.invokevirtual 187, 3) := by decide +kernel
theorem dX11_parent_153 : decode cX11_parent 153 = .ok (.iload 5, 2) := by decide +kernel
theorem dX11_parent_155 : decode cX11_parent 155 = .ok (.ireturn, 1) := by decide +kernel
theorem dX11_pass_0 : decode cX11_pass 0 = .ok (.aload_n 0, 1) := by decide +kernel
theorem dX11_pass_1 : decode cX11_pass 1 = .ok (.iload_n 1, 1) := by decide +kernel
theorem dX11_pass_2 : decode cX11_pass 2 = .ok (.iconst 1, 1) := by decide +kernel
theorem dX11_pass_3 : decode cX11_pass 3 = .ok (.bipush 100, 2) := by decide +kernel
theorem dX11_pass_5 : decode cX11_pass 5 = .ok (.invokestatic 129, 3) := by decide +kernel
theorem dX11_pass_8 : decode cX11_pass 8 = .ok (.ifCond .ne 7, 3) := by decide +kernel
theorem dX11_pass_11 : decode cX11_pass 11 = .ok (.iconst 1, 1) := by decide +kernel
theorem dX11_pass_12 : decode cX11_pass 12 = .ok (.goto 20, 3) := by decide +kernel
theorem dX11_pass_15 : decode cX11_pass 15 = .ok (.aload_n 0, 1) := by decide +kernel
theorem dX11_pass_16 : decode cX11_pass 16 = .ok (.getfield 139, 3) := by decide +kernel
theorem dX11_pass_19 : decode cX11_pass 19 = .ok (.iload_n 1, 1) := by decide +kernel
theorem dX11_pass_20 : decode cX11_pass 20 = .ok (.iadd, 1) := by decide +kernel
theorem dX11_pass_21 : decode cX11_pass 21 = .ok (.sipush 2000, 3) := by decide +kernel
theorem dX11_pass_24 : decode cX11_pass 24 = .ok (.if_icmp .le 7, 3) := by decide +kernel
theorem dX11_pass_27 : decode cX11_pass 27 = .ok (.iconst 2, 1) := by decide +kernel
theorem dX11_pass_28 : decode cX11_pass 28 = .ok (.goto 4, 3) := by decide +kernel
theorem dX11_pass_31 : decode cX11_pass 31 = .ok (.iconst 0, 1) := by decide +kernel
theorem dX11_pass_32 : decode cX11_pass 32 = .ok (.invokevirtual 142, 3) := by decide +kernel
theorem dX11_pass_35 : decode cX11_pass 35 = .ok (.ifCond .ne 5, 3) := by decide +kernel
theorem dX11_pass_38 : decode cX11_pass 38 = .ok (.iconst 0, 1) := by decide +kernel
theorem dX11_pass_39 : decode cX11_pass 39 = .ok (.ireturn, 1) := by decide +kernel
theorem dX11_pass_40 : decode cX11_pass 40 = .ok (.aload_n 0, 1) := by decide +kernel
theorem dX11_pass_41 : decode cX11_pass 41 = .ok (.dup, 1) := by decide +kernel
theorem dX11_pass_42 : decode cX11_pass 42 = .ok (.getfield 139, 3) := by decide +kernel
theorem dX11_pass_45 : decode cX11_pass 45 = .ok (.iload_n 1, 1) := by decide +kernel
theorem dX11_pass_46 : decode cX11_pass 46 = .ok (.iadd, 1) := by decide +kernel
theorem dX11_pass_47 : decode cX11_pass 47 = .ok (.putfield 139, 3) := by decide +kernel
theorem dX11_pass_50 : decode cX11_pass 50 = .ok (.aload_n 0, 1) := by decide +kernel
theorem dX11_pass_51 : decode cX11_pass 51 = .ok (.getfield 139, 3) := by decide +kernel
theorem dX11_pass_54 : decode cX11_pass 54 = .ok (.ireturn, 1) := by decide +kernel
theorem dX11_post_0 : decode cX11_post 0 = .ok (.aload_n 0, 1) := by decide +kernel
theorem dX11_post_1 : decode cX11_post 1 = .ok (.iload_n 1, 1) := by decide +kernel
theorem dX11_post_2 : decode cX11_post 2 = .ok (.invokevirtual 152, 3) := by decide +kernel
theorem dX11_post_5 : decode cX11_post 5 = .ok (.istore_n 2, 1) := by decide +kernel
theorem dX11_post_6 : decode cX11_post 6 = .ok (.aload_n 0, 1) := by decide +kernel
theorem dX11_post_7 : decode cX11_post 7 = .ok (.iload_n 2, 1) := by decide +kernel
theorem dX11_post_8 : decode cX11_post 8 = .ok (.ifCond .ne 7, 3) := by decide +kernel
theorem dX11_post_11 : decode cX11_post 11 = .ok (.iconst 1, 1) := by decide +kernel
theorem dX11_post_12 : decode cX11_post 12 = .ok (.goto 27, 3) := by decide +kernel
theorem dX11_post_15 : decode cX11_post 15 = .ok (.aload_n 0, 1) := by decide +kernel
theorem dX11_post_16 : decode cX11_post 16 = .ok (.getfield 29, 3) := by decide +kernel
theorem dX11_post_19 : decode cX11_post 19 = .ok (.iload_n 1, 1) := by decide +kernel
theorem dX11_post_20 : decode cX11_post 20 = .ok (.iaload, 1) := by decide +kernel
theorem dX11_post_21 : decode cX11_post 21 = .ok (.iconst (-1), 1) := by decide +kernel
theorem dX11_post_22 : decode cX11_post 22 = .ok (.if_icmp .ne 12, 3) := by decide +kernel
theorem dX11_post_25 : decode cX11_post 25 = .ok (.aload_n 0, 1) := by decide +kernel
theorem dX11_post_26 : decode cX11_post 26 = .ok (.getfield 23, 3) := by decide +kernel
theorem dX11_post_29 : decode cX11_post 29 = .ok (.iload_n 1, 1) := by decide +kernel
theorem dX11_post_30 : decode cX11_post 30 = .ok (.iaload, 1) := by decide +kernel
theorem dX11_post_31 : decode cX11_post 31 = .ok (.ifCond .ne 7, 3) := by decide +kernel
theorem dX11_post_34 : decode cX11_post 34 = .ok (.iconst 2, 1) := by decide +kernel
theorem dX11_post_35 : decode cX11_post 35 = .ok (.goto 4, 3) := by decide +kernel
theorem dX11_post_38 : decode cX11_post 38 = .ok (.iconst 0, 1) := by decide +kernel
theorem dX11_post_39 : decode cX11_post 39 = .ok (.invokevirtual 142, 3) := by decide +kernel
theorem dX11_post_42 : decode cX11_post 42 = .ok (.ifCond .ne 5, 3) := by decide +kernel
theorem dX11_post_45 : decode cX11_post 45 = .ok (.iconst 0, 1) := by decide +kernel
theorem dX11_post_46 : decode cX11_post 46 = .ok (.ireturn, 1) := by decide +kernel
theorem dX11_post_47 : decode cX11_post 47 = .ok (.aload_n 0, 1) := by decide +kernel
theorem dX11_post_48 : decode cX11_post 48 = .ok (.getfield 29, 3) := by decide +kernel
theorem dX11_post_51 : decode cX11_post 51 = .ok (.iload_n 1, 1) := by decide +kernel
theorem dX11_post_52 : decode cX11_post 52 = .ok (.aload_n 0, 1) := by decide +kernel
theorem dX11_post_53 : decode cX11_post 53 = .ok (.getfield 139, 3) := by decide +kernel
theorem dX11_post_56 : decode cX11_post 56 = .ok (.iastore, 1) := by decide +kernel
theorem dX11_post_57 : decode cX11_post 57 = .ok (.aload_n 0, 1) := by decide +kernel
theorem dX11_post_58 : decode cX11_post 58 = .ok (.getfield 23, 3) := by decide +kernel
theorem dX11_post_61 : decode cX11_post 61 = .ok (.iload_n 1, 1) := by decide +kernel
theorem dX11_post_62 : decode cX11_post 62 = .ok (.iaload, 1) := by decide +kernel
theorem dX11_post_63 : decode cX11_post 63 = .ok (.ireturn, 1) := by decide +kernel
theorem dX11_belongs_0 : decode cX11_belongs 0 = .ok (.iconst 0, 1) := by decide +kernel
theorem dX11_belongs_1 : decode cX11_belongs 1 = .ok (.istore_n 2, 1) := by decide +kernel
theorem dX11_belongs_2 : decode cX11_belongs 2 = .ok (.iconst 0, 1) := by decide +kernel
theorem dX11_belongs_3 : decode cX11_belongs 3 = .ok (.istore_n 3, 1) := by decide +kernel
theorem dX11_belongs_4 : decode cX11_belongs 4 = .ok (.iload_n 3, 1) := by decide +kernel
