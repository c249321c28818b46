theorem dX10_put_18 : decode cX10_put 18 = .ok (.invokestatic 91, 3) := by decide +kernel
theorem dX10_put_21 : decode cX10_put 21 = .ok (.istore 5, 2) := by decide +kernel
theorem dX10_put_23 : decode cX10_put 23 = .ok (.aload 4, 2) := by decide +kernel
theorem dX10_put_25 : decode cX10_put 25 = .ok (.aload 4, 2) := by decide +kernel
theorem dX10_put_27 : decode cX10_put 27 = .ok (.getfield 234, 3) := by decide +kernel
theorem dX10_put_30 : decode cX10_put 30 = .ok (.iload_n 2, 1) := by decide +kernel
theorem dX10_put_31 : decode cX10_put 31 = .ok (.iload_n 3, 1) := by decide +kernel
theorem dX10_put_32 : decode cX10_put 32 = .ok (.invokestatic 95, 3) := by decide +kernel
theorem dX10_put_35 : decode cX10_put 35 = .ok (.putfield 234, 3) := by decide +kernel
theorem dX10_put_38 : decode cX10_put 38 = .ok (.aload 4, 2) := by decide +kernel
theorem dX10_put_40 : decode cX10_put 40 = .ok (.aload_n 0, 1) := by decide +kernel
theorem dX10_put_41 : decode cX10_put 41 = .ok (.getfield 34, 3) := by decide +kernel
theorem dX10_put_44 : decode cX10_put 44 = .ok (.aload 4, 2) := by decide +kernel
theorem dX10_put_46 : decode cX10_put 46 = .ok (.getfield 234, 3) := by decide +kernel
theorem dX10_put_49 : decode cX10_put 49 = .ok (.invokevirtual 236, 3) := by decide +kernel
theorem dX10_put_52 : decode cX10_put 52 = .ok (.invokevirtual 239, 3) := by decide +kernel
theorem dX10_put_55 : decode cX10_put 55 = .ok (.iload 5, 2) := by decide +kernel
theorem dX10_put_57 : decode cX10_put 57 = .ok (.ireturn, 1) := by decide +kernel
theorem dX4_isAtEnd_0 : decode cX4_isAtEnd 0 = .ok (.aload_n 0, 1) := by decide +kernel
theorem dX4_isAtEnd_1 : decode cX4_isAtEnd 1 = .ok (.getfield 9, 3) := by decide +kernel
theorem dX4_isAtEnd_4 : decode cX4_isAtEnd 4 = .ok (.ifCond .ne 21, 3) := by decide +kernel
theorem dX4_isAtEnd_7 : decode cX4_isAtEnd 7 = .ok (.aload_n 0, 1) := by decide +kernel
theorem dX4_isAtEnd_8 : decode cX4_isAtEnd 8 = .ok (.getfield 15, 3) := by decide +kernel
theorem dX4_isAtEnd_11 : decode cX4_isAtEnd 11 = .ok (.ifCond .ne 14, 3) := by decide +kernel
theorem dX4_isAtEnd_14 : decode cX4_isAtEnd 14 = .ok (.aload_n 0, 1) := by decide +kernel
theorem dX4_isAtEnd_15 : decode cX4_isAtEnd 15 = .ok (.getfield 19, 3) := by decide +kernel
theorem dX4_isAtEnd_18 : decode cX4_isAtEnd 18 = .ok (.ifCond .ne 7, 3) := by decide +kernel
theorem dX4_isAtEnd_21 : decode cX4_isAtEnd 21 = .ok (.iconst 1, 1) := by decide +kernel
theorem dX4_isAtEnd_22 : decode cX4_isAtEnd 22 = .ok (.goto 4, 3) := by decide +kernel
theorem dX4_isAtEnd_25 : decode cX4_isAtEnd 25 = .ok (.iconst 0, 1) := by decide +kernel
theorem dX4_isAtEnd_26 : decode cX4_isAtEnd 26 = .ok (.ireturn, 1) := by decide +kernel
theorem dX4_start_0 : decode cX4_start 0 = .ok (.aload_n 0, 1) := by decide +kernel
theorem dX4_start_1 : decode cX4_start 1 = .ok (.iconst 0, 1) := by decide +kernel
theorem dX4_start_2 : decode cX4_start 2 = .ok (.putfield 9, 3) := by decide +kernel
theorem dX4_start_5 : decode cX4_start 5 = .ok (.aload_n 0, 1) := by decide +kernel
theorem dX4_start_6 : decode cX4_start 6 = .ok (.iconst 1, 1) := by decide +kernel
theorem dX4_start_7 : decode cX4_start 7 = .ok (.putfield 15, 3) := by decide +kernel
theorem dX4_start_10 : decode cX4_start 10 = .ok (.aload_n 0, 1) := by decide +kernel
theorem dX4_start_11 : decode cX4_start 11 = .ok (.iconst 0, 1) := by decide +kernel
theorem dX4_start_12 : decode cX4_start 12 = .ok (.putfield 19, 3) := by decide +kernel
theorem dX4_start_15 : decode cX4_start 15 = .ok (.return_, 1) := by decide +kernel
theorem dX4_greatestOf_0 : decode cX4_greatestOf 0 = .ok (.iload_n 0, 1) := by decide +kernel
theorem dX4_greatestOf_1 : decode cX4_greatestOf 1 = .ok (.bipush 116, 2) := by decide +kernel
theorem dX4_greatestOf_3 : decode cX4_greatestOf 3 = .ok (.if_icmp .ne 6, 3) := by decide +kernel
theorem dX4_greatestOf_6 : decode cX4_greatestOf 6 = .ok (.bipush 29, 2) := by decide +kernel
theorem dX4_greatestOf_8 : decode cX4_greatestOf 8 = .ok (.ireturn, 1) := by decide +kernel
theorem dX4_greatestOf_9 : decode cX4_greatestOf 9 = .ok (.iload_n 0, 1) := by decide +kernel
theorem dX4_greatestOf_10 : decode cX4_greatestOf 10 = .ok (.bipush 97, 2) := by decide +kernel
theorem dX4_greatestOf_12 : decode cX4_greatestOf 12 = .ok (.if_icmp .ne 8, 3) := by decide +kernel
theorem dX4_greatestOf_15 : decode cX4_greatestOf 15 = .ok (.bipush 11, 2) := by decide +kernel
theorem dX4_greatestOf_17 : decode cX4_greatestOf 17 = .ok (.goto 4, 3) := by decide +kernel
theorem dX4_greatestOf_20 : decode cX4_greatestOf 20 = .ok (.iconst 3, 1) := by decide +kernel
theorem dX4_greatestOf_21 : decode cX4_greatestOf 21 = .ok (.ireturn, 1) := by decide +kernel
theorem dX4_isFigure_0 : decode cX4_isFigure 0 = .ok (.iload_n 0, 1) := by decide +kernel
theorem dX4_isFigure_1 : decode cX4_isFigure 1 = .ok (.bipush 48, 2) := by decide +kernel
theorem dX4_isFigure_3 : decode cX4_isFigure 3 = .ok (.if_icmp .lt 13, 3) := by decide +kernel
theorem dX4_isFigure_6 : decode cX4_isFigure 6 = .ok (.iload_n 0, 1) := by decide +kernel
theorem dX4_isFigure_7 : decode cX4_isFigure 7 = .ok (.bipush 57, 2) := by decide +kernel
theorem dX4_isFigure_9 : decode cX4_isFigure 9 = .ok (.if_icmp .gt 7, 3) := by decide +kernel
theorem dX4_isFigure_12 : decode cX4_isFigure 12 = .ok (.iconst 1, 1) := by decide +kernel
theorem dX4_isFigure_13 : decode cX4_isFigure 13 = .ok (.goto 4, 3) := by decide +kernel
theorem dX4_isFigure_16 : decode cX4_isFigure 16 = .ok (.iconst 0, 1) := by decide +kernel
theorem dX4_isFigure_17 : decode cX4_isFigure 17 = .ok (.ireturn, 1) := by decide +kernel
theorem dX4_takesFigure_0 : decode cX4_takesFigure 0 = .ok (.iload_n 1, 1) := by decide +kernel
theorem dX4_takesFigure_1 : decode cX4_takesFigure 1 = .ok (.invokestatic 32, 3) := by decide +kernel
theorem dX4_takesFigure_4 : decode cX4_takesFigure 4 = .ok (.ifCond .ne 5, 3) := by decide +kernel
theorem dX4_takesFigure_7 : decode cX4_takesFigure 7 = .ok (.iconst 0, 1) := by decide +kernel
theorem dX4_takesFigure_8 : decode cX4_takesFigure 8 = .ok (.ireturn, 1) := by decide +kernel
theorem dX4_takesFigure_9 : decode cX4_takesFigure 9 = .ok (.aload_n 0, 1) := by decide +kernel
theorem dX4_takesFigure_10 : decode cX4_takesFigure 10 = .ok (.aload_n 0, 1) := by decide +kernel
theorem dX4_takesFigure_11 : decode cX4_takesFigure 11 = .ok (.getfield 39, 3) := by decide +kernel
theorem dX4_takesFigure_14 : decode cX4_takesFigure 14 = .ok (.bipush 10, 2) := by decide +kernel
theorem dX4_takesFigure_16 : decode cX4_takesFigure 16 = .ok (.imul, 1) := by decide +kernel
theorem dX4_takesFigure_17 : decode cX4_takesFigure 17 = .ok (.iload_n 1, 1) := by decide +kernel
theorem dX4_takesFigure_18 : decode cX4_takesFigure 18 = .ok (.bipush 48, 2) := by decide +kernel
theorem dX4_takesFigure_20 : decode cX4_takesFigure 20 = .ok (.isub, 1) := by decide +kernel
theorem dX4_takesFigure_21 : decode cX4_takesFigure 21 = .ok (.iadd, 1) := by decide +kernel
theorem dX4_takesFigure_22 : decode cX4_takesFigure 22 = .ok (.putfield 39, 3) := by decide +kernel
theorem dX4_takesFigure_25 : decode cX4_takesFigure 25 = .ok (.aload_n 0, 1) := by decide +kernel
theorem dX4_takesFigure_26 : decode cX4_takesFigure 26 = .ok (.dup, 1) := by decide +kernel
theorem dX4_takesFigure_27 : decode cX4_takesFigure 27 = .ok (.getfield 19, 3) := by decide +kernel
theorem dX4_takesFigure_30 : decode cX4_takesFigure 30 = .ok (.iconst 1, 1) := by decide +kernel
theorem dX4_takesFigure_31 : decode cX4_takesFigure 31 = .ok (.isub, 1) := by decide +kernel
theorem dX4_takesFigure_32 : decode cX4_takesFigure 32 = .ok (.putfield 19, 3) := by decide +kernel
theorem dX4_takesFigure_35 : decode cX4_takesFigure 35 = .ok (.aload_n 0, 1) := by decide +kernel
theorem dX4_takesFigure_36 : decode cX4_takesFigure 36 = .ok (.getfield 19, 3) := by decide +kernel
theorem dX4_takesFigure_39 : decode cX4_takesFigure 39 = .ok (.ifCond .le 13, 3) := by decide +kernel
theorem dX4_takesFigure_42 : decode cX4_takesFigure 42 = .ok (.aload_n 0, 1) := by decide +kernel
theorem dX4_takesFigure_43 : decode cX4_takesFigure 43 = .ok (.getfield 39, 3) := by decide +kernel
theorem dX4_takesFigure_46 : decode cX4_takesFigure 46 = .ok (.bipush 10, 2) := by decide +kernel
theorem dX4_takesFigure_48 : decode cX4_takesFigure 48 = .ok (.imul, 1) := by decide +kernel
theorem dX4_takesFigure_49 : decode cX4_takesFigure 49 = .ok (.goto 7, 3) := by decide +kernel
theorem dX4_takesFigure_52 : decode cX4_takesFigure 52 = .ok (.aload_n 0, 1) := by decide +kernel
theorem dX4_takesFigure_53 : decode cX4_takesFigure 53 = .ok (.getfield 39, 3) := by decide +kernel
theorem dX4_takesFigure_56 : decode cX4_takesFigure 56 = .ok (.istore_n 2, 1) := by decide +kernel
theorem dX4_takesFigure_57 : decode cX4_takesFigure 57 = .ok (.iload_n 2, 1) := by decide +kernel
theorem dX4_takesFigure_58 : decode cX4_takesFigure 58 = .ok (.aload_n 0, 1) := by decide +kernel
theorem dX4_takesFigure_59 : decode cX4_takesFigure 59 = .ok (.getfield 35, 3) := by decide +kernel
theorem dX4_takesFigure_62 : decode cX4_takesFigure 62 = .ok (.invokestatic 46, 3) := by decide +kernel
theorem dX4_takesFigure_65 : decode cX4_takesFigure 65 = .ok (.if_icmp .gt 7, 3) := by decide +kernel
theorem dX4_takesFigure_68 : decode cX4_takesFigure 68 = .ok (.iconst 1, 1) := by decide +kernel
theorem dX4_takesFigure_69 : decode cX4_takesFigure 69 = .ok (.goto 4, 3) := by decide +kernel
theorem dX4_takesFigure_72 : decode cX4_takesFigure 72 = .ok (.iconst 0, 1) := by decide +kernel
theorem dX4_takesFigure_73 : decode cX4_takesFigure 73 = .ok (.ireturn, 1) := by decide +kernel
theorem dX4_figuresOf_0 : decode cX4_figuresOf 0 = .ok (.iload_n 0, 1) := by decide +kernel
theorem dX4_figuresOf_1 : decode cX4_figuresOf 1 = .ok (.bipush 116, 2) := by decide +kernel
theorem dX4_figuresOf_3 : decode cX4_figuresOf 3 = .ok (.if_icmp .eq 9, 3) := by decide +kernel
theorem dX4_figuresOf_6 : decode cX4_figuresOf 6 = .ok (.iload_n 0, 1) := by decide +kernel
theorem dX4_figuresOf_7 : decode cX4_figuresOf 7 = .ok (.bipush 97, 2) := by decide +kernel
theorem dX4_figuresOf_9 : decode cX4_figuresOf 9 = .ok (.if_icmp .ne 5, 3) := by decide +kernel
theorem dX4_figuresOf_12 : decode cX4_figuresOf 12 = .ok (.iconst 2, 1) := by decide +kernel
theorem dX4_figuresOf_13 : decode cX4_figuresOf 13 = .ok (.ireturn, 1) := by decide +kernel
theorem dX4_figuresOf_14 : decode cX4_figuresOf 14 = .ok (.iload_n 0, 1) := by decide +kernel
theorem dX4_figuresOf_15 : decode cX4_figuresOf 15 = .ok (.bipush 114, 2) := by decide +kernel
theorem dX4_figuresOf_17 : decode cX4_figuresOf 17 = .ok (.if_icmp .ne 7, 3) := by decide +kernel
theorem dX4_figuresOf_20 : decode cX4_figuresOf 20 = .ok (.iconst 1, 1) := by decide +kernel
theorem dX4_figuresOf_21 : decode cX4_figuresOf 21 = .ok (.goto 4, 3) := by decide +kernel
theorem dX4_figuresOf_24 : decode cX4_figuresOf 24 = .ok (.iconst 0, 1) := by decide +kernel
theorem dX4_figuresOf_25 : decode cX4_figuresOf 25 = .ok (.ireturn, 1) := by decide +kernel
theorem dX4_takesItem_0 : decode cX4_takesItem 0 = .ok (.iload_n 1, 1) := by decide +kernel
theorem dX4_takesItem_1 : decode cX4_takesItem 1 = .ok (.bipush 33, 2) := by decide +kernel
theorem dX4_takesItem_3 : decode cX4_takesItem 3 = .ok (.if_icmp .ne 5, 3) := by decide +kernel
theorem dX4_takesItem_6 : decode cX4_takesItem 6 = .ok (.iconst 1, 1) := by decide +kernel
theorem dX4_takesItem_7 : decode cX4_takesItem 7 = .ok (.ireturn, 1) := by decide +kernel
theorem dX4_takesItem_8 : decode cX4_takesItem 8 = .ok (.iload_n 1, 1) := by decide +kernel
theorem dX4_takesItem_9 : decode cX4_takesItem 9 = .ok (.bipush 40, 2) := by decide +kernel
theorem dX4_takesItem_11 : decode cX4_takesItem 11 = .ok (.if_icmp .ne 15, 3) := by decide +kernel
theorem dX4_takesItem_14 : decode cX4_takesItem 14 = .ok (.aload_n 0, 1) := by decide +kernel
theorem dX4_takesItem_15 : decode cX4_takesItem 15 = .ok (.dup, 1) := by decide +kernel
theorem dX4_takesItem_16 : decode cX4_takesItem 16 = .ok (.getfield 9, 3) := by decide +kernel
theorem dX4_takesItem_19 : decode cX4_takesItem 19 = .ok (.iconst 1, 1) := by decide +kernel
theorem dX4_takesItem_20 : decode cX4_takesItem 20 = .ok (.iadd, 1) := by decide +kernel
theorem dX4_takesItem_21 : decode cX4_takesItem 21 = .ok (.putfield 9, 3) := by decide +kernel
theorem dX4_takesItem_24 : decode cX4_takesItem 24 = .ok (.iconst 1, 1) := by decide +kernel
theorem dX4_takesItem_25 : decode cX4_takesItem 25 = .ok (.ireturn, 1) := by decide +kernel
theorem dX4_takesItem_26 : decode cX4_takesItem 26 = .ok (.aload_n 0, 1) := by decide +kernel
theorem dX4_takesItem_27 : decode cX4_takesItem 27 = .ok (.iload_n 1, 1) := by decide +kernel
theorem dX4_takesItem_28 : decode cX4_takesItem 28 = .ok (.putfield 35, 3) := by decide +kernel
theorem dX4_takesItem_31 : decode cX4_takesItem 31 = .ok (.aload_n 0, 1) := by decide +kernel
theorem dX4_takesItem_32 : decode cX4_takesItem 32 = .ok (.iconst 0, 1) := by decide +kernel
theorem dX4_takesItem_33 : decode cX4_takesItem 33 = .ok (.putfield 39, 3) := by decide +kernel
theorem dX4_takesItem_36 : decode cX4_takesItem 36 = .ok (.aload_n 0, 1) := by decide +kernel
theorem dX4_takesItem_37 : decode cX4_takesItem 37 = .ok (.iload_n 1, 1) := by decide +kernel
theorem dX4_takesItem_38 : decode cX4_takesItem 38 = .ok (.invokestatic 42, 3) := by decide +kernel
theorem dX4_takesItem_41 : decode cX4_takesItem 41 = .ok (.putfield 19, 3) := by decide +kernel
theorem dX4_takesItem_44 : decode cX4_takesItem 44 = .ok (.aload_n 0, 1) := by decide +kernel
theorem dX4_takesItem_45 : decode cX4_takesItem 45 = .ok (.iconst 0, 1) := by decide +kernel
theorem dX4_takesItem_46 : decode cX4_takesItem 46 = .ok (.putfield 15, 3) := by decide +kernel
theorem dX4_takesItem_49 : decode cX4_takesItem 49 = .ok (.aload_n 0, 1) := by decide +kernel
theorem dX4_takesItem_50 : decode cX4_takesItem 50 = .ok (.getfield 19, 3) := by decide +kernel
theorem dX4_takesItem_53 : decode cX4_takesItem 53 = .ok (.ifCond .le 7, 3) := by decide +kernel
theorem dX4_takesItem_56 : decode cX4_takesItem 56 = .ok (.iconst 1, 1) := by decide +kernel
theorem dX4_takesItem_57 : decode cX4_takesItem 57 = .ok (.goto 4, 3) := by decide +kernel
theorem dX4_takesItem_60 : decode cX4_takesItem 60 = .ok (.iconst 0, 1) := by decide +kernel
theorem dX4_takesItem_61 : decode cX4_takesItem 61 = .ok (.ireturn, 1) := by decide +kernel
theorem dX4_takesLink_0 : decode cX4_takesLink 0 = .ok (.iload_n 1, 1) := by decide +kernel
theorem dX4_takesLink_1 : decode cX4_takesLink 1 = .ok (.bipush 41, 2) := by decide +kernel
theorem dX4_takesLink_3 : decode cX4_takesLink 3 = .ok (.if_icmp .ne 26, 3) := by decide +kernel
theorem dX4_takesLink_6 : decode cX4_takesLink 6 = .ok (.aload_n 0, 1) := by decide +kernel
theorem dX4_takesLink_7 : decode cX4_takesLink 7 = .ok (.dup, 1) := by decide +kernel
theorem dX4_takesLink_8 : decode cX4_takesLink 8 = .ok (.getfield 9, 3) := by decide +kernel
theorem dX4_takesLink_11 : decode cX4_takesLink 11 = .ok (.iconst 1, 1) := by decide +kernel
theorem dX4_takesLink_12 : decode cX4_takesLink 12 = .ok (.isub, 1) := by decide +kernel
theorem dX4_takesLink_13 : decode cX4_takesLink 13 = .ok (.putfield 9, 3) := by decide +kernel
theorem dX4_takesLink_16 : decode cX4_takesLink 16 = .ok (.aload_n 0, 1) := by decide +kernel
theorem dX4_takesLink_17 : decode cX4_takesLink 17 = .ok (.getfield 9, 3) := by decide +kernel
theorem dX4_takesLink_20 : decode cX4_takesLink 20 = .ok (.ifCond .lt 7, 3) := by decide +kernel
theorem dX4_takesLink_23 : decode cX4_takesLink 23 = .ok (.iconst 1, 1) := by decide +kernel
theorem dX4_takesLink_24 : decode cX4_takesLink 24 = .ok (.goto 4, 3) := by decide +kernel
theorem dX4_takesLink_27 : decode cX4_takesLink 27 = .ok (.iconst 0, 1) := by decide +kernel
theorem dX4_takesLink_28 : decode cX4_takesLink 28 = .ok (.ireturn, 1) := by decide +kernel
theorem dX4_takesLink_29 : decode cX4_takesLink 29 = .ok (.aload_n 0, 1) := by decide +kernel
theorem dX4_takesLink_30 : decode cX4_takesLink 30 = .ok (.iconst 1, 1) := by decide +kernel
theorem dX4_takesLink_31 : decode cX4_takesLink 31 = .ok (.putfield 15, 3) := by decide +kernel
theorem dX4_takesLink_34 : decode cX4_takesLink 34 = .ok (.iload_n 1, 1) := by decide +kernel
theorem dX4_takesLink_35 : decode cX4_takesLink 35 = .ok (.bipush 38, 2) := by decide +kernel
theorem dX4_takesLink_37 : decode cX4_takesLink 37 = .ok (.if_icmp .eq 9, 3) := by decide +kernel
theorem dX4_takesLink_40 : decode cX4_takesLink 40 = .ok (.iload_n 1, 1) := by decide +kernel
theorem dX4_takesLink_41 : decode cX4_takesLink 41 = .ok (.bipush 124, 2) := by decide +kernel
theorem dX4_takesLink_43 : decode cX4_takesLink 43 = .ok (.if_icmp .ne 7, 3) := by decide +kernel
theorem dX4_takesLink_46 : decode cX4_takesLink 46 = .ok (.iconst 1, 1) := by decide +kernel
theorem dX4_takesLink_47 : decode cX4_takesLink 47 = .ok (.goto 4, 3) := by decide +kernel
theorem dX4_takesLink_50 : decode cX4_takesLink 50 = .ok (.iconst 0, 1) := by decide +kernel
theorem dX4_takesLink_51 : decode cX4_takesLink 51 = .ok (.ireturn, 1) := by decide +kernel
theorem dX4_takes_0 : decode cX4_takes 0 = .ok (.aload_n 0, 1) := by decide +kernel
theorem dX4_takes_1 : decode cX4_takes 1 = .ok (.getfield 19, 3) := by decide +kernel
theorem dX4_takes_4 : decode cX4_takes 4 = .ok (.ifCond .le 9, 3) := by decide +kernel
theorem dX4_takes_7 : decode cX4_takes 7 = .ok (.aload_n 0, 1) := by decide +kernel
theorem dX4_takes_8 : decode cX4_takes 8 = .ok (.iload_n 1, 1) := by decide +kernel
theorem dX4_takes_9 : decode cX4_takes 9 = .ok (.invokevirtual 22, 3) := by decide +kernel
theorem dX4_takes_12 : decode cX4_takes 12 = .ok (.ireturn, 1) := by decide +kernel
theorem dX4_takes_13 : decode cX4_takes 13 = .ok (.aload_n 0, 1) := by decide +kernel
theorem dX4_takes_14 : decode cX4_takes 14 = .ok (.getfield 15, 3) := by decide +kernel
theorem dX4_takes_17 : decode cX4_takes 17 = .ok (.ifCond .eq 11, 3) := by decide +kernel
theorem dX4_takes_20 : decode cX4_takes 20 = .ok (.aload_n 0, 1) := by decide +kernel
theorem dX4_takes_21 : decode cX4_takes 21 = .ok (.iload_n 1, 1) := by decide +kernel
theorem dX4_takes_22 : decode cX4_takes 22 = .ok (.invokevirtual 26, 3) := by decide +kernel
theorem dX4_takes_25 : decode cX4_takes 25 = .ok (.goto 8, 3) := by decide +kernel
theorem dX4_takes_28 : decode cX4_takes 28 = .ok (.aload_n 0, 1) := by decide +kernel
theorem dX4_takes_29 : decode cX4_takes 29 = .ok (.iload_n 1, 1) := by decide +kernel
theorem dX4_takes_30 : decode cX4_takes 30 = .ok (.invokevirtual 29, 3) := by decide +kernel
theorem dX4_takes_33 : decode cX4_takes 33 = .ok (.ireturn, 1) := by decide +kernel
theorem dX8_firstFault_0 : decode cX8_firstFault 0 = .ok (.aload_n 0, 1) := by decide +kernel
theorem dX8_firstFault_1 : decode cX8_firstFault 1 = .ok (.getfield 18, 3) := by decide +kernel
theorem dX8_firstFault_4 : decode cX8_firstFault 4 = .ok (.invokevirtual 34, 3) := by decide +kernel
theorem dX8_firstFault_7 : decode cX8_firstFault 7 = .ok (.iconst 0, 1) := by decide +kernel
theorem dX8_firstFault_8 : decode cX8_firstFault 8 = .ok (.istore_n 1, 1) := by decide +kernel
theorem dX8_firstFault_9 : decode cX8_firstFault 9 = .ok (.iload_n 1, 1) := by decide +kernel
theorem dX8_firstFault_10 : decode cX8_firstFault 10 = .ok (.aload_n 0, 1) := by decide +kernel
theorem dX8_firstFault_11 : decode cX8_firstFault 11 = .ok (.getfield 30, 3) := by decide +kernel
theorem dX8_firstFault_14 : decode cX8_firstFault 14 = .ok (.if_icmp .ge 27, 3) := by decide +kernel
theorem dX8_firstFault_17 : decode cX8_firstFault 17 = .ok (.aload_n 0, 1) := by decide +kernel
theorem dX8_firstFault_18 : decode cX8_firstFault 18 = .ok (.getfield 18, 3) := by decide +kernel
theorem dX8_firstFault_21 : decode cX8_firstFault 21 = .ok (.aload_n 0, 1) := by decide +kernel
theorem dX8_firstFault_22 : decode cX8_firstFault 22 = .ok (.getfield 9, 3) := by decide +kernel
theorem dX8_firstFault_25 : decode cX8_firstFault 25 = .ok (.iload_n 1, 1) := by decide +kernel
theorem dX8_firstFault_26 : decode cX8_firstFault 26 = .ok (.caload, 1) := by decide +kernel
theorem dX8_firstFault_27 : decode cX8_firstFault 27 = .ok (.invokevirtual 37, 3) := by decide +kernel
theorem dX8_firstFault_30 : decode cX8_firstFault 30 = .ok (.ifCond .ne 5, 3) := by decide +kernel
theorem dX8_firstFault_33 : decode cX8_firstFault 33 = .ok (.iload_n 1, 1) := by decide +kernel
theorem dX8_firstFault_34 : decode cX8_firstFault 34 = .ok (.ireturn, 1) := by decide +kernel
theorem dX8_firstFault_35 : decode cX8_firstFault 35 = .ok (.iinc 1 1, 3) := by decide +kernel
theorem dX8_firstFault_38 : decode cX8_firstFault 38 = .ok (.goto (-29), 3) := by decide +kernel
theorem dX8_firstFault_41 : decode cX8_firstFault 41 = .ok (.aload_n 0, 1) := by decide +kernel
theorem dX8_firstFault_42 : decode cX8_firstFault 42 = .ok (.getfield 18, 3) := by decide +kernel
theorem dX8_firstFault_45 : decode cX8_firstFault 45 = .ok (.invokevirtual 40, 3) := by decide +kernel
theorem dX8_firstFault_48 : decode cX8_firstFault 48 = .ok (.ifCond .eq 7, 3) := by decide +kernel
theorem dX8_firstFault_51 : decode cX8_firstFault 51 = .ok (.iconst (-1), 1) := by decide +kernel
theorem dX8_firstFault_52 : decode cX8_firstFault 52 = .ok (.goto 7, 3) := by decide +kernel
theorem dX8_firstFault_55 : decode cX8_firstFault 55 = .ok (.aload_n 0, 1) := by decide +kernel
theorem dX8_firstFault_56 : decode cX8_firstFault 56 = .ok (.getfield 30, 3) := by decide +kernel
theorem dX8_firstFault_59 : decode cX8_firstFault 59 = .ok (.ireturn, 1) := by decide +kernel
theorem dX10_checkQuery_0 : decode cX10_checkQuery 0 = .ok (.aload_n 0, 1) := by decide +kernel
theorem dX10_checkQuery_1 : decode cX10_checkQuery 1 = .ok (.getfield 41, 3) := by decide +kernel
theorem dX10_checkQuery_4 : decode cX10_checkQuery 4 = .ok (.invokevirtual 271, 3) := by decide +kernel
theorem dX10_checkQuery_7 : decode cX10_checkQuery 7 = .ok (.iconst (-1), 1) := by decide +kernel
theorem dX10_checkQuery_8 : decode cX10_checkQuery 8 = .ok (.if_icmp .eq 14, 3) := by decide +kernel
theorem dX10_checkQuery_11 : decode cX10_checkQuery 11 = .ok (.new 66, 3) := by decide +kernel
theorem dX10_checkQuery_14 : decode cX10_checkQuery 14 = .ok (.dup, 1) := by decide +kernel
theorem dX10_checkQuery_15 : decode cX10_checkQuery 15 = .ok (.ldc_w 382, 3) := by decide +kernel
theorem dX10_checkQuery_18 : decode cX10_checkQuery 18 = .ok (.invokespecial 70, 3) := by decide +kernel
theorem dX10_checkQuery_21 : decode cX10_checkQuery 21 = .ok (.athrow, 1) := by decide +kernel
theorem dX10_checkQuery_22 : decode cX10_checkQuery 22 = .ok (.return_, 1) := by decide +kernel
theorem dX9_outDay_0 : decode cX9_outDay 0 = .ok (.aload_n 0, 1) := by decide +kernel
theorem dX9_outDay_1 : decode cX9_outDay 1 = .ok (.getfield 9, 3) := by decide +kernel
theorem dX9_outDay_4 : decode cX9_outDay 4 = .ok (.iload_n 1, 1) := by decide +kernel
theorem dX9_outDay_5 : decode cX9_outDay 5 = .ok (.iaload, 1) := by decide +kernel
theorem dX9_outDay_6 : decode cX9_outDay 6 = .ok (.aload_n 0, 1) := by decide +kernel
theorem dX9_outDay_7 : decode cX9_outDay 7 = .ok (.getfield 15, 3) := by decide +kernel
theorem dX9_outDay_10 : decode cX9_outDay 10 = .ok (.invokestatic 56, 3) := by decide +kernel
theorem dX9_outDay_13 : decode cX9_outDay 13 = .ok (.ireturn, 1) := by decide +kernel
theorem dX9_latest_0 : decode cX9_latest 0 = .ok (.aload_n 0, 1) := by decide +kernel
theorem dX9_latest_1 : decode cX9_latest 1 = .ok (.invokevirtual 42, 3) := by decide +kernel
theorem dX9_latest_4 : decode cX9_latest 4 = .ok (.ifCond .eq 23, 3) := by decide +kernel
theorem dX9_latest_7 : decode cX9_latest 7 = .ok (.aload_n 0, 1) := by decide +kernel
theorem dX9_latest_8 : decode cX9_latest 8 = .ok (.getfield 62, 3) := by decide +kernel
theorem dX9_latest_11 : decode cX9_latest 11 = .ok (.ifCond .le 16, 3) := by decide +kernel
theorem dX9_latest_14 : decode cX9_latest 14 = .ok (.aload_n 0, 1) := by decide +kernel
theorem dX9_latest_15 : decode cX9_latest 15 = .ok (.aload_n 0, 1) := by decide +kernel
theorem dX9_latest_16 : decode cX9_latest 16 = .ok (.getfield 62, 3) := by decide +kernel
theorem dX9_latest_19 : decode cX9_latest 19 = .ok (.iconst 1, 1) := by decide +kernel
theorem dX9_latest_20 : decode cX9_latest 20 = .ok (.isub, 1) := by decide +kernel
theorem dX9_latest_21 : decode cX9_latest 21 = .ok (.invokevirtual 65, 3) := by decide +kernel
theorem dX9_latest_24 : decode cX9_latest 24 = .ok (.goto 4, 3) := by decide +kernel
theorem dX9_latest_27 : decode cX9_latest 27 = .ok (.iconst (-1), 1) := by decide +kernel
theorem dX9_latest_28 : decode cX9_latest 28 = .ok (.ireturn, 1) := by decide +kernel
theorem dX10_countAheadOf_0 : decode cX10_countAheadOf 0 = .ok (.aload_n 0, 1) := by decide +kernel
theorem dX10_countAheadOf_1 : decode cX10_countAheadOf 1 = .ok (.getfield 21, 3) := by decide +kernel
theorem dX10_countAheadOf_4 : decode cX10_countAheadOf 4 = .ok (.iload_n 1, 1) := by decide +kernel
theorem dX10_countAheadOf_5 : decode cX10_countAheadOf 5 = .ok (.aaload, 1) := by decide +kernel
theorem dX10_countAheadOf_6 : decode cX10_countAheadOf 6 = .ok (.invokevirtual 443, 3) := by decide +kernel
theorem dX10_countAheadOf_9 : decode cX10_countAheadOf 9 = .ok (.istore_n 3, 1) := by decide +kernel
theorem dX10_countAheadOf_10 : decode cX10_countAheadOf 10 = .ok (.iconst 0, 1) := by decide +kernel
theorem dX10_countAheadOf_11 : decode cX10_countAheadOf 11 = .ok (.istore 4, 2) := by decide +kernel
theorem dX10_countAheadOf_13 : decode cX10_countAheadOf 13 = .ok (.iconst 0, 1) := by decide +kernel
theorem dX10_countAheadOf_14 : decode cX10_countAheadOf 14 = .ok (.istore 5, 2) := by decide +kernel
theorem dX10_countAheadOf_16 : decode cX10_countAheadOf 16 = .ok (.iload 5, 2) := by decide +kernel
theorem dX10_countAheadOf_18 : decode cX10_countAheadOf 18 = .ok (.aload_n 0, 1) := by decide +kernel
theorem dX10_countAheadOf_19 : decode cX10_countAheadOf 19 = .ok (.getfield 104, 3) := by decide +kernel
theorem dX10_countAheadOf_22 : decode cX10_countAheadOf 22 = .ok (.if_icmp .ge 63, 3) := by decide +kernel
theorem dX10_countAheadOf_25 : decode cX10_countAheadOf 25 = .ok (.aload_n 0, 1) := by decide +kernel
theorem dX10_countAheadOf_26 : decode cX10_countAheadOf 26 = .ok (.getfield 21, 3) := by decide +kernel
theorem dX10_countAheadOf_29 : decode cX10_countAheadOf 29 = .ok (.iload 5, 2) := by decide +kernel
theorem dX10_countAheadOf_31 : decode cX10_countAheadOf 31 = .ok (.aaload, 1) := by decide +kernel
theorem dX10_countAheadOf_32 : decode cX10_countAheadOf 32 = .ok (.invokevirtual 443, 3) := by decide +kernel
theorem dX10_countAheadOf_35 : decode cX10_countAheadOf 35 = .ok (.istore 6, 2) := by decide +kernel
theorem dX10_countAheadOf_37 : decode cX10_countAheadOf 37 = .ok (.iload 6, 2) := by decide +kernel
theorem dX10_countAheadOf_39 : decode cX10_countAheadOf 39 = .ok (.iload_n 3, 1) := by decide +kernel
theorem dX10_countAheadOf_40 : decode cX10_countAheadOf 40 = .ok (.if_icmp .gt 15, 3) := by decide +kernel
theorem dX10_countAheadOf_43 : decode cX10_countAheadOf 43 = .ok (.iload 6, 2) := by decide +kernel
theorem dX10_countAheadOf_45 : decode cX10_countAheadOf 45 = .ok (.iload_n 3, 1) := by decide +kernel
theorem dX10_countAheadOf_46 : decode cX10_countAheadOf 46 = .ok (.if_icmp .ne 13, 3) := by decide +kernel
theorem dX10_countAheadOf_49 : decode cX10_countAheadOf 49 = .ok (.iload 5, 2) := by decide +kernel
theorem dX10_countAheadOf_51 : decode cX10_countAheadOf 51 = .ok (.iload_n 1, 1) := by decide +kernel
theorem dX10_countAheadOf_52 : decode cX10_countAheadOf 52 = .ok (.if_icmp .ge 7, 3) := by decide +kernel
theorem dX10_countAheadOf_55 : decode cX10_countAheadOf 55 = .ok (.iconst 1, 1) := by decide +kernel
theorem dX10_countAheadOf_56 : decode cX10_countAheadOf 56 = .ok (.goto 4, 3) := by decide +kernel
theorem dX10_countAheadOf_59 : decode cX10_countAheadOf 59 = .ok (.iconst 0, 1) := by decide +kernel
theorem dX10_countAheadOf_60 : decode cX10_countAheadOf 60 = .ok (.istore 7, 2) := by decide +kernel
theorem dX10_countAheadOf_62 : decode cX10_countAheadOf 62 = .ok (.iload 7, 2) := by decide +kernel
theorem dX10_countAheadOf_64 : decode cX10_countAheadOf 64 = .ok (.ifCond .eq 15, 3) := by decide +kernel
theorem dX10_countAheadOf_67 : decode cX10_countAheadOf 67 = .ok (.iload_n 2, 1) := by decide +kernel
theorem dX10_countAheadOf_68 : decode cX10_countAheadOf 68 = .ok (.iload 5, 2) := by decide +kernel
theorem dX10_countAheadOf_70 : decode cX10_countAheadOf 70 = .ok (.invokestatic 91, 3) := by decide +kernel
theorem dX10_countAheadOf_73 : decode cX10_countAheadOf 73 = .ok (.ifCond .eq 6, 3) := by decide +kernel
theorem dX10_countAheadOf_76 : decode cX10_countAheadOf 76 = .ok (.iinc 4 1, 3) := by decide +kernel
theorem dX10_countAheadOf_79 : decode cX10_countAheadOf 79 = .ok (.iinc 5 1, 3) := by decide +kernel
theorem dX10_countAheadOf_82 : decode cX10_countAheadOf 82 = .ok (.goto (-66), 3) := by decide +kernel
theorem dX10_countAheadOf_85 : decode cX10_countAheadOf 85 = .ok (.iload 4, 2) := by decide +kernel
theorem dX10_countAheadOf_87 : decode cX10_countAheadOf 87 = .ok (.ireturn, 1) := by decide +kernel
theorem dX10_placesOf_0 : decode cX10_placesOf 0 = .ok (.iload_n 2, 1) := by decide +kernel
theorem dX10_placesOf_1 : decode cX10_placesOf 1 = .ok (.ifCond .eq 17, 3) := by decide +kernel
theorem dX10_placesOf_4 : decode cX10_placesOf 4 = .ok (.aload_n 0, 1) := by decide +kernel
theorem dX10_placesOf_5 : decode cX10_placesOf 5 = .ok (.getfield 34, 3) := by decide +kernel
theorem dX10_placesOf_8 : decode cX10_placesOf 8 = .ok (.aload_n 1, 1) := by decide +kernel
theorem dX10_placesOf_9 : decode cX10_placesOf 9 = .ok (.getfield 234, 3) := by decide +kernel
theorem dX10_placesOf_12 : decode cX10_placesOf 12 = .ok (.invokevirtual 236, 3) := by decide +kernel
theorem dX10_placesOf_15 : decode cX10_placesOf 15 = .ok (.goto 7, 3) := by decide +kernel
theorem dX10_placesOf_18 : decode cX10_placesOf 18 = .ok (.aload_n 1, 1) := by decide +kernel
theorem dX10_placesOf_19 : decode cX10_placesOf 19 = .ok (.getfield 388, 3) := by decide +kernel
theorem dX10_placesOf_22 : decode cX10_placesOf 22 = .ok (.ireturn, 1) := by decide +kernel
theorem dX10_isTagSo_0 : decode cX10_isTagSo 0 = .ok (.iload_n 2, 1) := by decide +kernel
theorem dX10_isTagSo_1 : decode cX10_isTagSo 1 = .ok (.aload_n 0, 1) := by decide +kernel
theorem dX10_isTagSo_2 : decode cX10_isTagSo 2 = .ok (.getfield 34, 3) := by decide +kernel
theorem dX10_isTagSo_5 : decode cX10_isTagSo 5 = .ok (.getfield 180, 3) := by decide +kernel
theorem dX10_isTagSo_8 : decode cX10_isTagSo 8 = .ok (.if_icmp .lt 5, 3) := by decide +kernel
theorem dX10_isTagSo_11 : decode cX10_isTagSo 11 = .ok (.iconst 0, 1) := by decide +kernel
theorem dX10_isTagSo_12 : decode cX10_isTagSo 12 = .ok (.ireturn, 1) := by decide +kernel
theorem dX10_isTagSo_13 : decode cX10_isTagSo 13 = .ok (.aload_n 0, 1) := by decide +kernel
theorem dX10_isTagSo_14 : decode cX10_isTagSo 14 = .ok (.getfield 34, 3) := by decide +kernel
theorem dX10_isTagSo_17 : decode cX10_isTagSo 17 = .ok (.iload_n 2, 1) := by decide +kernel
theorem dX10_isTagSo_18 : decode cX10_isTagSo 18 = .ok (.invokevirtual 220, 3) := by decide +kernel
theorem dX10_isTagSo_21 : decode cX10_isTagSo 21 = .ok (.istore 4, 2) := by decide +kernel
theorem dX10_isTagSo_23 : decode cX10_isTagSo 23 = .ok (.iload 4, 2) := by decide +kernel
theorem dX10_isTagSo_25 : decode cX10_isTagSo 25 = .ok (.iconst (-1), 1) := by decide +kernel
theorem dX10_isTagSo_26 : decode cX10_isTagSo 26 = .ok (.if_icmp .ne 14, 3) := by decide +kernel
theorem dX10_isTagSo_29 : decode cX10_isTagSo 29 = .ok (.aload_n 1, 1) := by decide +kernel
theorem dX10_isTagSo_30 : decode cX10_isTagSo 30 = .ok (.getfield 234, 3) := by decide +kernel
theorem dX10_isTagSo_33 : decode cX10_isTagSo 33 = .ok (.iload_n 2, 1) := by decide +kernel
theorem dX10_isTagSo_34 : decode cX10_isTagSo 34 = .ok (.invokestatic 91, 3) := by decide +kernel
theorem dX10_isTagSo_37 : decode cX10_isTagSo 37 = .ok (.goto 14, 3) := by decide +kernel
theorem dX10_isTagSo_40 : decode cX10_isTagSo 40 = .ok (.aload_n 0, 1) := by decide +kernel
theorem dX10_isTagSo_41 : decode cX10_isTagSo 41 = .ok (.aload_n 1, 1) := by decide +kernel
theorem dX10_isTagSo_42 : decode cX10_isTagSo 42 = .ok (.iload_n 3, 1) := by decide +kernel
theorem dX10_isTagSo_43 : decode cX10_isTagSo 43 = .ok (.invokevirtual 247, 3) := by decide +kernel
theorem dX10_isTagSo_46 : decode cX10_isTagSo 46 = .ok (.iload 4, 2) := by decide +kernel
theorem dX10_isTagSo_48 : decode cX10_isTagSo 48 = .ok (.invokestatic 91, 3) := by decide +kernel
theorem dX10_isTagSo_51 : decode cX10_isTagSo 51 = .ok (.ireturn, 1) := by decide +kernel
theorem dX10_worksOfItem_0 : decode cX10_worksOfItem 0 = .ok (.iconst 0, 1) := by decide +kernel
theorem dX10_worksOfItem_1 : decode cX10_worksOfItem 1 = .ok (.istore 5, 2) := by decide +kernel
theorem dX10_worksOfItem_3 : decode cX10_worksOfItem 3 = .ok (.iconst 0, 1) := by decide +kernel
theorem dX10_worksOfItem_4 : decode cX10_worksOfItem 4 = .ok (.istore 6, 2) := by decide +kernel
theorem dX10_worksOfItem_6 : decode cX10_worksOfItem 6 = .ok (.iload 6, 2) := by decide +kernel
theorem dX10_worksOfItem_8 : decode cX10_worksOfItem 8 = .ok (.aload_n 0, 1) := by decide +kernel
theorem dX10_worksOfItem_9 : decode cX10_worksOfItem 9 = .ok (.getfield 104, 3) := by decide +kernel
theorem dX10_worksOfItem_12 : decode cX10_worksOfItem 12 = .ok (.if_icmp .ge 86, 3) := by decide +kernel
theorem dX10_worksOfItem_15 : decode cX10_worksOfItem 15 = .ok (.aload_n 0, 1) := by decide +kernel
theorem dX10_worksOfItem_16 : decode cX10_worksOfItem 16 = .ok (.getfield 21, 3) := by decide +kernel
theorem dX10_worksOfItem_19 : decode cX10_worksOfItem 19 = .ok (.iload 6, 2) := by decide +kernel
theorem dX10_worksOfItem_21 : decode cX10_worksOfItem 21 = .ok (.aaload, 1) := by decide +kernel
theorem dX10_worksOfItem_22 : decode cX10_worksOfItem 22 = .ok (.astore 7, 2) := by decide +kernel
theorem dX10_worksOfItem_24 : decode cX10_worksOfItem 24 = .ok (.iload_n 1, 1) := by decide +kernel
theorem dX10_worksOfItem_25 : decode cX10_worksOfItem 25 = .ok (.bipush 116, 2) := by decide +kernel
theorem dX10_worksOfItem_27 : decode cX10_worksOfItem 27 = .ok (.if_icmp .ne 15, 3) := by decide +kernel
theorem dX10_worksOfItem_30 : decode cX10_worksOfItem 30 = .ok (.aload_n 0, 1) := by decide +kernel
theorem dX10_worksOfItem_31 : decode cX10_worksOfItem 31 = .ok (.aload 7, 2) := by decide +kernel
theorem dX10_worksOfItem_33 : decode cX10_worksOfItem 33 = .ok (.iload_n 2, 1) := by decide +kernel
theorem dX10_worksOfItem_34 : decode cX10_worksOfItem 34 = .ok (.iload 4, 2) := by decide +kernel
theorem dX10_worksOfItem_36 : decode cX10_worksOfItem 36 = .ok (.invokevirtual 436, 3) := by decide +kernel
theorem dX10_worksOfItem_39 : decode cX10_worksOfItem 39 = .ok (.goto 40, 3) := by decide +kernel
theorem dX10_worksOfItem_42 : decode cX10_worksOfItem 42 = .ok (.iload_n 1, 1) := by decide +kernel
theorem dX10_worksOfItem_43 : decode cX10_worksOfItem 43 = .ok (.bipush 97, 2) := by decide +kernel
theorem dX10_worksOfItem_45 : decode cX10_worksOfItem 45 = .ok (.if_icmp .ne 20, 3) := by decide +kernel
theorem dX10_worksOfItem_48 : decode cX10_worksOfItem 48 = .ok (.aload 7, 2) := by decide +kernel
theorem dX10_worksOfItem_50 : decode cX10_worksOfItem 50 = .ok (.iload_n 3, 1) := by decide +kernel
theorem dX10_worksOfItem_51 : decode cX10_worksOfItem 51 = .ok (.aload_n 0, 1) := by decide +kernel
theorem dX10_worksOfItem_52 : decode cX10_worksOfItem 52 = .ok (.getfield 73, 3) := by decide +kernel
theorem dX10_worksOfItem_55 : decode cX10_worksOfItem 55 = .ok (.invokevirtual 176, 3) := by decide +kernel
theorem dX10_worksOfItem_58 : decode cX10_worksOfItem 58 = .ok (.iload_n 2, 1) := by decide +kernel
theorem dX10_worksOfItem_59 : decode cX10_worksOfItem 59 = .ok (.invokestatic 91, 3) := by decide +kernel
theorem dX10_worksOfItem_62 : decode cX10_worksOfItem 62 = .ok (.goto 17, 3) := by decide +kernel
theorem dX10_worksOfItem_65 : decode cX10_worksOfItem 65 = .ok (.aload 7, 2) := by decide +kernel
theorem dX10_worksOfItem_67 : decode cX10_worksOfItem 67 = .ok (.getfield 440, 3) := by decide +kernel
theorem dX10_worksOfItem_70 : decode cX10_worksOfItem 70 = .ok (.iload_n 2, 1) := by decide +kernel
theorem dX10_worksOfItem_71 : decode cX10_worksOfItem 71 = .ok (.if_icmp .gt 7, 3) := by decide +kernel
theorem dX10_worksOfItem_74 : decode cX10_worksOfItem 74 = .ok (.iconst 1, 1) := by decide +kernel
theorem dX10_worksOfItem_75 : decode cX10_worksOfItem 75 = .ok (.goto 4, 3) := by decide +kernel
theorem dX10_worksOfItem_78 : decode cX10_worksOfItem 78 = .ok (.iconst 0, 1) := by decide +kernel
theorem dX10_worksOfItem_79 : decode cX10_worksOfItem 79 = .ok (.istore 8, 2) := by decide +kernel
theorem dX10_worksOfItem_81 : decode cX10_worksOfItem 81 = .ok (.iload 5, 2) := by decide +kernel
theorem dX10_worksOfItem_83 : decode cX10_worksOfItem 83 = .ok (.iload 6, 2) := by decide +kernel
theorem dX10_worksOfItem_85 : decode cX10_worksOfItem 85 = .ok (.iload 8, 2) := by decide +kernel
theorem dX10_worksOfItem_87 : decode cX10_worksOfItem 87 = .ok (.invokestatic 95, 3) := by decide +kernel
theorem dX10_worksOfItem_90 : decode cX10_worksOfItem 90 = .ok (.istore 5, 2) := by decide +kernel
theorem dX10_worksOfItem_92 : decode cX10_worksOfItem 92 = .ok (.iinc 6 1, 3) := by decide +kernel
theorem dX10_worksOfItem_95 : decode cX10_worksOfItem 95 = .ok (.goto (-89), 3) := by decide +kernel
theorem dX10_worksOfItem_98 : decode cX10_worksOfItem 98 = .ok (.iload 5, 2) := by decide +kernel
theorem dX10_worksOfItem_100 : decode cX10_worksOfItem 100 = .ok (.ireturn, 1) := by decide +kernel
theorem dX10_worksSeenBy_0 : decode cX10_worksSeenBy 0 = .ok (.iconst 0, 1) := by decide +kernel
theorem dX10_worksSeenBy_1 : decode cX10_worksSeenBy 1 = .ok (.istore_n 2, 1) := by decide +kernel
theorem dX10_worksSeenBy_2 : decode cX10_worksSeenBy 2 = .ok (.iconst 0, 1) := by decide +kernel
theorem dX10_worksSeenBy_3 : decode cX10_worksSeenBy 3 = .ok (.istore_n 3, 1) := by decide +kernel
theorem dX10_worksSeenBy_4 : decode cX10_worksSeenBy 4 = .ok (.iload_n 3, 1) := by decide +kernel
theorem dX10_worksSeenBy_5 : decode cX10_worksSeenBy 5 = .ok (.aload_n 0, 1) := by decide +kernel
theorem dX10_worksSeenBy_6 : decode cX10_worksSeenBy 6 = .ok (.getfield 104, 3) := by decide +kernel
theorem dX10_worksSeenBy_9 : decode cX10_worksSeenBy 9 = .ok (.if_icmp .ge 29, 3) := by decide +kernel
theorem dX10_worksSeenBy_12 : decode cX10_worksSeenBy 12 = .ok (.iload_n 2, 1) := by decide +kernel
theorem dX10_worksSeenBy_13 : decode cX10_worksSeenBy 13 = .ok (.iload_n 3, 1) := by decide +kernel
theorem dX10_worksSeenBy_14 : decode cX10_worksSeenBy 14 = .ok (.aload_n 0, 1) := by decide +kernel
theorem dX10_worksSeenBy_15 : decode cX10_worksSeenBy 15 = .ok (.getfield 21, 3) := by decide +kernel
theorem dX10_worksSeenBy_18 : decode cX10_worksSeenBy 18 = .ok (.iload_n 3, 1) := by decide +kernel
theorem dX10_worksSeenBy_19 : decode cX10_worksSeenBy 19 = .ok (.aaload, 1) := by decide +kernel
theorem dX10_worksSeenBy_20 : decode cX10_worksSeenBy 20 = .ok (.iload_n 1, 1) := by decide +kernel
theorem dX10_worksSeenBy_21 : decode cX10_worksSeenBy 21 = .ok (.aload_n 0, 1) := by decide +kernel
theorem dX10_worksSeenBy_22 : decode cX10_worksSeenBy 22 = .ok (.getfield 73, 3) := by decide +kernel
theorem dX10_worksSeenBy_25 : decode cX10_worksSeenBy 25 = .ok (.invokevirtual 173, 3) := by decide +kernel
theorem dX10_worksSeenBy_28 : decode cX10_worksSeenBy 28 = .ok (.invokestatic 95, 3) := by decide +kernel
theorem dX10_worksSeenBy_31 : decode cX10_worksSeenBy 31 = .ok (.istore_n 2, 1) := by decide +kernel
theorem dX10_worksSeenBy_32 : decode cX10_worksSeenBy 32 = .ok (.iinc 3 1, 3) := by decide +kernel
theorem dX10_worksSeenBy_35 : decode cX10_worksSeenBy 35 = .ok (.goto (-31), 3) := by decide +kernel
theorem dX10_worksSeenBy_38 : decode cX10_worksSeenBy 38 = .ok (.iload_n 2, 1) := by decide +kernel
theorem dX10_worksSeenBy_39 : decode cX10_worksSeenBy 39 = .ok (.ireturn, 1) := by decide +kernel
theorem dX4_hasItem_0 : decode cX4_hasItem 0 = .ok (.aload_n 0, 1) := by decide +kernel
theorem dX4_hasItem_1 : decode cX4_hasItem 1 = .ok (.getfield 19, 3) := by decide +kernel
theorem dX4_hasItem_4 : decode cX4_hasItem 4 = .ok (.ifCond .ne 14, 3) := by decide +kernel
theorem dX4_hasItem_7 : decode cX4_hasItem 7 = .ok (.iload_n 1, 1) := by decide +kernel
theorem dX4_hasItem_8 : decode cX4_hasItem 8 = .ok (.invokestatic 32, 3) := by decide +kernel
theorem dX4_hasItem_11 : decode cX4_hasItem 11 = .ok (.ifCond .eq 7, 3) := by decide +kernel
theorem dX4_hasItem_14 : decode cX4_hasItem 14 = .ok (.iconst 1, 1) := by decide +kernel
theorem dX4_hasItem_15 : decode cX4_hasItem 15 = .ok (.goto 4, 3) := by decide +kernel
theorem dX4_hasItem_18 : decode cX4_hasItem 18 = .ok (.iconst 0, 1) := by decide +kernel
theorem dX4_hasItem_19 : decode cX4_hasItem 19 = .ok (.ireturn, 1) := by decide +kernel
theorem dX5_end_0 : decode cX5_end 0 = .ok (.aload_n 0, 1) := by decide +kernel
theorem dX5_end_1 : decode cX5_end 1 = .ok (.getfield 9, 3) := by decide +kernel
theorem dX5_end_4 : decode cX5_end 4 = .ok (.aload_n 0, 1) := by decide +kernel
theorem dX5_end_5 : decode cX5_end 5 = .ok (.getfield 22, 3) := by decide +kernel
theorem dX5_end_8 : decode cX5_end 8 = .ok (.iaload, 1) := by decide +kernel
theorem dX5_end_9 : decode cX5_end 9 = .ok (.aload_n 0, 1) := by decide +kernel
theorem dX5_end_10 : decode cX5_end 10 = .ok (.getfield 15, 3) := by decide +kernel
theorem dX5_end_13 : decode cX5_end 13 = .ok (.aload_n 0, 1) := by decide +kernel
theorem dX5_end_14 : decode cX5_end 14 = .ok (.getfield 22, 3) := by decide +kernel
theorem dX5_end_17 : decode cX5_end 17 = .ok (.iaload, 1) := by decide +kernel
theorem dX5_end_18 : decode cX5_end 18 = .ok (.ior, 1) := by decide +kernel
theorem dX5_end_19 : decode cX5_end 19 = .ok (.ireturn, 1) := by decide +kernel
theorem dX5_item_0 : decode cX5_item 0 = .ok (.aload_n 0, 1) := by decide +kernel
theorem dX5_item_1 : decode cX5_item 1 = .ok (.getfield 15, 3) := by decide +kernel
theorem dX5_item_4 : decode cX5_item 4 = .ok (.aload_n 0, 1) := by decide +kernel
theorem dX5_item_5 : decode cX5_item 5 = .ok (.getfield 22, 3) := by decide +kernel
theorem dX5_item_8 : decode cX5_item 8 = .ok (.dup2, 1) := by decide +kernel
theorem dX5_item_9 : decode cX5_item 9 = .ok (.iaload, 1) := by decide +kernel
theorem dX5_item_10 : decode cX5_item 10 = .ok (.aload_n 0, 1) := by decide +kernel
theorem dX5_item_11 : decode cX5_item 11 = .ok (.getfield 18, 3) := by decide +kernel
theorem dX5_item_14 : decode cX5_item 14 = .ok (.aload_n 0, 1) := by decide +kernel
theorem dX5_item_15 : decode cX5_item 15 = .ok (.getfield 22, 3) := by decide +kernel
theorem dX5_item_18 : decode cX5_item 18 = .ok (.baload, 1) := by decide +kernel
theorem dX5_item_19 : decode cX5_item 19 = .ok (.ifCond .eq 9, 3) := by decide +kernel
theorem dX5_item_22 : decode cX5_item 22 = .ok (.iload_n 1, 1) := by decide +kernel
theorem dX5_item_23 : decode cX5_item 23 = .ok (.iconst (-1), 1) := by decide +kernel
theorem dX5_item_24 : decode cX5_item 24 = .ok (.ixor, 1) := by decide +kernel
theorem dX5_item_25 : decode cX5_item 25 = .ok (.goto 4, 3) := by decide +kernel
theorem dX5_item_28 : decode cX5_item 28 = .ok (.iload_n 1, 1) := by decide +kernel
theorem dX5_item_29 : decode cX5_item 29 = .ok (.iand, 1) := by decide +kernel
theorem dX5_item_30 : decode cX5_item 30 = .ok (.iastore, 1) := by decide +kernel
theorem dX5_item_31 : decode cX5_item 31 = .ok (.aload_n 0, 1) := by decide +kernel
theorem dX5_item_32 : decode cX5_item 32 = .ok (.getfield 18, 3) := by decide +kernel
theorem dX5_item_35 : decode cX5_item 35 = .ok (.aload_n 0, 1) := by decide +kernel
theorem dX5_item_36 : decode cX5_item 36 = .ok (.getfield 22, 3) := by decide +kernel
theorem dX5_item_39 : decode cX5_item 39 = .ok (.iconst 0, 1) := by decide +kernel
theorem dX5_item_40 : decode cX5_item 40 = .ok (.bastore, 1) := by decide +kernel
theorem dX5_item_41 : decode cX5_item 41 = .ok (.return_, 1) := by decide +kernel
theorem dX5_clear_0 : decode cX5_clear 0 = .ok (.aload_n 0, 1) := by decide +kernel
theorem dX5_clear_1 : decode cX5_clear 1 = .ok (.getfield 9, 3) := by decide +kernel
theorem dX5_clear_4 : decode cX5_clear 4 = .ok (.aload_n 0, 1) := by decide +kernel
theorem dX5_clear_5 : decode cX5_clear 5 = .ok (.getfield 22, 3) := by decide +kernel
theorem dX5_clear_8 : decode cX5_clear 8 = .ok (.iconst 0, 1) := by decide +kernel
theorem dX5_clear_9 : decode cX5_clear 9 = .ok (.iastore, 1) := by decide +kernel
theorem dX5_clear_10 : decode cX5_clear 10 = .ok (.aload_n 0, 1) := by decide +kernel
theorem dX5_clear_11 : decode cX5_clear 11 = .ok (.getfield 15, 3) := by decide +kernel
theorem dX5_clear_14 : decode cX5_clear 14 = .ok (.aload_n 0, 1) := by decide +kernel
theorem dX5_clear_15 : decode cX5_clear 15 = .ok (.getfield 22, 3) := by decide +kernel
theorem dX5_clear_18 : decode cX5_clear 18 = .ok (.iconst (-1), 1) := by decide +kernel
theorem dX5_clear_19 : decode cX5_clear 19 = .ok (.iastore, 1) := by decide +kernel
theorem dX5_clear_20 : decode cX5_clear 20 = .ok (.aload_n 0, 1) := by decide +kernel
theorem dX5_clear_21 : decode cX5_clear 21 = .ok (.getfield 18, 3) := by decide +kernel
theorem dX5_clear_24 : decode cX5_clear 24 = .ok (.aload_n 0, 1) := by decide +kernel
theorem dX5_clear_25 : decode cX5_clear 25 = .ok (.getfield 22, 3) := by decide +kernel
theorem dX5_clear_28 : decode cX5_clear 28 = .ok (.iconst 0, 1) := by decide +kernel
theorem dX5_clear_29 : decode cX5_clear 29 = .ok (.bastore, 1) := by decide +kernel
theorem dX5_clear_30 : decode cX5_clear 30 = .ok (.return_, 1) := by decide +kernel
theorem dX5_mark_0 : decode cX5_mark 0 = .ok (.iload_n 1, 1) := by decide +kernel
theorem dX5_mark_1 : decode cX5_mark 1 = .ok (.bipush 33, 2) := by decide +kernel
theorem dX5_mark_3 : decode cX5_mark 3 = .ok (.if_icmp .ne 32, 3) := by decide +kernel
theorem dX5_mark_6 : decode cX5_mark 6 = .ok (.aload_n 0, 1) := by decide +kernel
theorem dX5_mark_7 : decode cX5_mark 7 = .ok (.getfield 18, 3) := by decide +kernel
theorem dX5_mark_10 : decode cX5_mark 10 = .ok (.aload_n 0, 1) := by decide +kernel
theorem dX5_mark_11 : decode cX5_mark 11 = .ok (.getfield 22, 3) := by decide +kernel
theorem dX5_mark_14 : decode cX5_mark 14 = .ok (.aload_n 0, 1) := by decide +kernel
theorem dX5_mark_15 : decode cX5_mark 15 = .ok (.getfield 18, 3) := by decide +kernel
theorem dX5_mark_18 : decode cX5_mark 18 = .ok (.aload_n 0, 1) := by decide +kernel
theorem dX5_mark_19 : decode cX5_mark 19 = .ok (.getfield 22, 3) := by decide +kernel
theorem dX5_mark_22 : decode cX5_mark 22 = .ok (.baload, 1) := by decide +kernel
theorem dX5_mark_23 : decode cX5_mark 23 = .ok (.ifCond .ne 7, 3) := by decide +kernel
theorem dX5_mark_26 : decode cX5_mark 26 = .ok (.iconst 1, 1) := by decide +kernel
theorem dX5_mark_27 : decode cX5_mark 27 = .ok (.goto 4, 3) := by decide +kernel
theorem dX5_mark_30 : decode cX5_mark 30 = .ok (.iconst 0, 1) := by decide +kernel
theorem dX5_mark_31 : decode cX5_mark 31 = .ok (.bastore, 1) := by decide +kernel
theorem dX5_mark_32 : decode cX5_mark 32 = .ok (.goto 108, 3) := by decide +kernel
theorem dX5_mark_35 : decode cX5_mark 35 = .ok (.iload_n 1, 1) := by decide +kernel
theorem dX5_mark_36 : decode cX5_mark 36 = .ok (.bipush 40, 2) := by decide +kernel
theorem dX5_mark_38 : decode cX5_mark 38 = .ok (.if_icmp .ne 29, 3) := by decide +kernel
theorem dX5_mark_41 : decode cX5_mark 41 = .ok (.aload_n 0, 1) := by decide +kernel
theorem dX5_mark_42 : decode cX5_mark 42 = .ok (.getfield 22, 3) := by decide +kernel
theorem dX5_mark_45 : decode cX5_mark 45 = .ok (.bipush 60, 2) := by decide +kernel
theorem dX5_mark_47 : decode cX5_mark 47 = .ok (.if_icmp .ge 20, 3) := by decide +kernel
theorem dX5_mark_50 : decode cX5_mark 50 = .ok (.aload_n 0, 1) := by decide +kernel
theorem dX5_mark_51 : decode cX5_mark 51 = .ok (.dup, 1) := by decide +kernel
theorem dX5_mark_52 : decode cX5_mark 52 = .ok (.getfield 22, 3) := by decide +kernel
theorem dX5_mark_55 : decode cX5_mark 55 = .ok (.iconst 1, 1) := by decide +kernel
theorem dX5_mark_56 : decode cX5_mark 56 = .ok (.iadd, 1) := by decide +kernel
theorem dX5_mark_57 : decode cX5_mark 57 = .ok (.putfield 22, 3) := by decide +kernel
theorem dX5_mark_60 : decode cX5_mark 60 = .ok (.aload_n 0, 1) := by decide +kernel
theorem dX5_mark_61 : decode cX5_mark 61 = .ok (.invokevirtual 26, 3) := by decide +kernel
theorem dX5_mark_64 : decode cX5_mark 64 = .ok (.goto 76, 3) := by decide +kernel
theorem dX5_mark_67 : decode cX5_mark 67 = .ok (.iload_n 1, 1) := by decide +kernel
theorem dX5_mark_68 : decode cX5_mark 68 = .ok (.bipush 41, 2) := by decide +kernel
theorem dX5_mark_70 : decode cX5_mark 70 = .ok (.if_icmp .ne 33, 3) := by decide +kernel
theorem dX5_mark_73 : decode cX5_mark 73 = .ok (.aload_n 0, 1) := by decide +kernel
theorem dX5_mark_74 : decode cX5_mark 74 = .ok (.getfield 22, 3) := by decide +kernel
theorem dX5_mark_77 : decode cX5_mark 77 = .ok (.ifCond .le 26, 3) := by decide +kernel
theorem dX5_mark_80 : decode cX5_mark 80 = .ok (.aload_n 0, 1) := by decide +kernel
theorem dX5_mark_81 : decode cX5_mark 81 = .ok (.invokevirtual 29, 3) := by decide +kernel
theorem dX5_mark_84 : decode cX5_mark 84 = .ok (.istore_n 2, 1) := by decide +kernel
theorem dX5_mark_85 : decode cX5_mark 85 = .ok (.aload_n 0, 1) := by decide +kernel
theorem dX5_mark_86 : decode cX5_mark 86 = .ok (.dup, 1) := by decide +kernel
theorem dX5_mark_87 : decode cX5_mark 87 = .ok (.getfield 22, 3) := by decide +kernel
theorem dX5_mark_90 : decode cX5_mark 90 = .ok (.iconst 1, 1) := by decide +kernel
theorem dX5_mark_91 : decode cX5_mark 91 = .ok (.isub, 1) := by decide +kernel
theorem dX5_mark_92 : decode cX5_mark 92 = .ok (.putfield 22, 3) := by decide +kernel
theorem dX5_mark_95 : decode cX5_mark 95 = .ok (.aload_n 0, 1) := by decide +kernel
theorem dX5_mark_96 : decode cX5_mark 96 = .ok (.iload_n 2, 1) := by decide +kernel
theorem dX5_mark_97 : decode cX5_mark 97 = .ok (.invokevirtual 33, 3) := by decide +kernel
theorem dX5_mark_100 : decode cX5_mark 100 = .ok (.goto 40, 3) := by decide +kernel
theorem dX5_mark_103 : decode cX5_mark 103 = .ok (.iload_n 1, 1) := by decide +kernel
theorem dX5_mark_104 : decode cX5_mark 104 = .ok (.bipush 124, 2) := by decide +kernel
theorem dX5_mark_106 : decode cX5_mark 106 = .ok (.if_icmp .ne 34, 3) := by decide +kernel
theorem dX5_mark_109 : decode cX5_mark 109 = .ok (.aload_n 0, 1) := by decide +kernel
theorem dX5_mark_110 : decode cX5_mark 110 = .ok (.getfield 9, 3) := by decide +kernel
theorem dX5_mark_113 : decode cX5_mark 113 = .ok (.aload_n 0, 1) := by decide +kernel
theorem dX5_mark_114 : decode cX5_mark 114 = .ok (.getfield 22, 3) := by decide +kernel
theorem dX5_mark_117 : decode cX5_mark 117 = .ok (.dup2, 1) := by decide +kernel
theorem dX5_mark_118 : decode cX5_mark 118 = .ok (.iaload, 1) := by decide +kernel
theorem dX5_mark_119 : decode cX5_mark 119 = .ok (.aload_n 0, 1) := by decide +kernel
theorem dX5_mark_120 : decode cX5_mark 120 = .ok (.getfield 15, 3) := by decide +kernel
theorem dX5_mark_123 : decode cX5_mark 123 = .ok (.aload_n 0, 1) := by decide +kernel
theorem dX5_mark_124 : decode cX5_mark 124 = .ok (.getfield 22, 3) := by decide +kernel
theorem dX5_mark_127 : decode cX5_mark 127 = .ok (.iaload, 1) := by decide +kernel
theorem dX5_mark_128 : decode cX5_mark 128 = .ok (.ior, 1) := by decide +kernel
theorem dX5_mark_129 : decode cX5_mark 129 = .ok (.iastore, 1) := by decide +kernel
theorem dX5_mark_130 : decode cX5_mark 130 = .ok (.aload_n 0, 1) := by decide +kernel
theorem dX5_mark_131 : decode cX5_mark 131 = .ok (.getfield 15, 3) := by decide +kernel
theorem dX5_mark_134 : decode cX5_mark 134 = .ok (.aload_n 0, 1) := by decide +kernel
theorem dX5_mark_135 : decode cX5_mark 135 = .ok (.getfield 22, 3) := by decide +kernel
theorem dX5_mark_138 : decode cX5_mark 138 = .ok (.iconst (-1), 1) := by decide +kernel
theorem dX5_mark_139 : decode cX5_mark 139 = .ok (.iastore, 1) := by decide +kernel
theorem dX5_mark_140 : decode cX5_mark 140 = .ok (.return_, 1) := by decide +kernel
theorem dX5_start_0 : decode cX5_start 0 = .ok (.aload_n 0, 1) := by decide +kernel
theorem dX5_start_1 : decode cX5_start 1 = .ok (.iconst 0, 1) := by decide +kernel
theorem dX5_start_2 : decode cX5_start 2 = .ok (.putfield 22, 3) := by decide +kernel
theorem dX5_start_5 : decode cX5_start 5 = .ok (.aload_n 0, 1) := by decide +kernel
theorem dX5_start_6 : decode cX5_start 6 = .ok (.invokevirtual 26, 3) := by decide +kernel
theorem dX5_start_9 : decode cX5_start 9 = .ok (.return_, 1) := by decide +kernel
theorem dX10_found_0 : decode cX10_found 0 = .ok (.aload_n 0, 1) := by decide +kernel
theorem dX10_found_1 : decode cX10_found 1 = .ok (.getfield 41, 3) := by decide +kernel
theorem dX10_found_4 : decode cX10_found 4 = .ok (.getfield 393, 3) := by decide +kernel
theorem dX10_found_7 : decode cX10_found 7 = .ok (.astore_n 3, 1) := by decide +kernel
theorem dX10_found_8 : decode cX10_found 8 = .ok (.aload_n 3, 1) := by decide +kernel
theorem dX10_found_9 : decode cX10_found 9 = .ok (.invokevirtual 397, 3) := by decide +kernel
theorem dX10_found_12 : decode cX10_found 12 = .ok (.aload_n 0, 1) := by decide +kernel
theorem dX10_found_13 : decode cX10_found 13 = .ok (.getfield 48, 3) := by decide +kernel
theorem dX10_found_16 : decode cX10_found 16 = .ok (.invokevirtual 402, 3) := by decide +kernel
theorem dX10_found_19 : decode cX10_found 19 = .ok (.iconst 0, 1) := by decide +kernel
theorem dX10_found_20 : decode cX10_found 20 = .ok (.istore 4, 2) := by decide +kernel
theorem dX10_found_22 : decode cX10_found 22 = .ok (.iload 4, 2) := by decide +kernel
theorem dX10_found_24 : decode cX10_found 24 = .ok (.aload_n 0, 1) := by decide +kernel
theorem dX10_found_25 : decode cX10_found 25 = .ok (.getfield 41, 3) := by decide +kernel
theorem dX10_found_28 : decode cX10_found 28 = .ok (.getfield 263, 3) := by decide +kernel
theorem dX10_found_31 : decode cX10_found 31 = .ok (.if_icmp .ge 67, 3) := by decide +kernel
theorem dX10_found_34 : decode cX10_found 34 = .ok (.aload_n 0, 1) := by decide +kernel
theorem dX10_found_35 : decode cX10_found 35 = .ok (.getfield 41, 3) := by decide +kernel
theorem dX10_found_38 : decode cX10_found 38 = .ok (.getfield 403, 3) := by decide +kernel
theorem dX10_found_41 : decode cX10_found 41 = .ok (.iload 4, 2) := by decide +kernel
theorem dX10_found_43 : decode cX10_found 43 = .ok (.caload, 1) := by decide +kernel
theorem dX10_found_44 : decode cX10_found 44 = .ok (.istore 5, 2) := by decide +kernel
theorem dX10_found_46 : decode cX10_found 46 = .ok (.aload_n 3, 1) := by decide +kernel
theorem dX10_found_47 : decode cX10_found 47 = .ok (.iload 5, 2) := by decide +kernel
theorem dX10_found_49 : decode cX10_found 49 = .ok (.invokevirtual 407, 3) := by decide +kernel
theorem dX10_found_52 : decode cX10_found 52 = .ok (.pop, 1) := by decide +kernel
theorem dX10_found_53 : decode cX10_found 53 = .ok (.aload_n 0, 1) := by decide +kernel
theorem dX10_found_54 : decode cX10_found 54 = .ok (.getfield 48, 3) := by decide +kernel
theorem dX10_found_57 : decode cX10_found 57 = .ok (.iload 5, 2) := by decide +kernel
theorem dX10_found_59 : decode cX10_found 59 = .ok (.invokevirtual 410, 3) := by decide +kernel
theorem dX10_found_62 : decode cX10_found 62 = .ok (.aload_n 3, 1) := by decide +kernel
theorem dX10_found_63 : decode cX10_found 63 = .ok (.iload 5, 2) := by decide +kernel
theorem dX10_found_65 : decode cX10_found 65 = .ok (.invokevirtual 413, 3) := by decide +kernel
theorem dX10_found_68 : decode cX10_found 68 = .ok (.ifCond .eq 24, 3) := by decide +kernel
theorem dX10_found_71 : decode cX10_found 71 = .ok (.aload_n 0, 1) := by decide +kernel
theorem dX10_found_72 : decode cX10_found 72 = .ok (.getfield 48, 3) := by decide +kernel
theorem dX10_found_75 : decode cX10_found 75 = .ok (.aload_n 0, 1) := by decide +kernel
theorem dX10_found_76 : decode cX10_found 76 = .ok (.aload_n 3, 1) := by decide +kernel
theorem dX10_found_77 : decode cX10_found 77 = .ok (.getfield 416, 3) := by decide +kernel
theorem dX10_found_80 : decode cX10_found 80 = .ok (.aload_n 3, 1) := by decide +kernel
theorem dX10_found_81 : decode cX10_found 81 = .ok (.getfield 420, 3) := by decide +kernel
theorem dX10_found_84 : decode cX10_found 84 = .ok (.iload_n 1, 1) := by decide +kernel
theorem dX10_found_85 : decode cX10_found 85 = .ok (.iload_n 2, 1) := by decide +kernel
theorem dX10_found_86 : decode cX10_found 86 = .ok (.invokevirtual 423, 3) := by decide +kernel
theorem dX10_found_89 : decode cX10_found 89 = .ok (.invokevirtual 427, 3) := by decide +kernel
theorem dX10_found_92 : decode cX10_found 92 = .ok (.iinc 4 1, 3) := by decide +kernel
theorem dX10_found_95 : decode cX10_found 95 = .ok (.goto (-73), 3) := by decide +kernel
theorem dX10_found_98 : decode cX10_found 98 = .ok (.aload_n 0, 1) := by decide +kernel
theorem dX10_found_99 : decode cX10_found 99 = .ok (.getfield 48, 3) := by decide +kernel
theorem dX10_found_102 : decode cX10_found 102 = .ok (.invokevirtual 430, 3) := by decide +kernel
theorem dX10_found_105 : decode cX10_found 105 = .ok (.aload_n 0, 1) := by decide +kernel
theorem dX10_found_106 : decode cX10_found 106 = .ok (.iload_n 1, 1) := by decide +kernel
theorem dX10_found_107 : decode cX10_found 107 = .ok (.invokevirtual 433, 3) := by decide +kernel
theorem dX10_found_110 : decode cX10_found 110 = .ok (.iand, 1) := by decide +kernel
theorem dX10_found_111 : decode cX10_found 111 = .ok (.ireturn, 1) := by decide +kernel
theorem dX10_result_0 : decode cX10_result 0 = .ok (.iload_n 1, 1) := by decide +kernel
theorem dX10_result_1 : decode cX10_result 1 = .ok (.invokestatic 99, 3) := by decide +kernel
theorem dX10_result_4 : decode cX10_result 4 = .ok (.iload_n 2, 1) := by decide +kernel
theorem dX10_result_5 : decode cX10_result 5 = .ok (.ifCond .ge 14, 3) := by decide +kernel
theorem dX10_result_8 : decode cX10_result 8 = .ok (.new 162, 3) := by decide +kernel
theorem dX10_result_11 : decode cX10_result 11 = .ok (.dup, 1) := by decide +kernel
theorem dX10_result_12 : decode cX10_result 12 = .ok (.ldc_w 281, 3) := by decide +kernel
theorem dX10_result_15 : decode cX10_result 15 = .ok (.invokespecial 166, 3) := by decide +kernel
theorem dX10_result_18 : decode cX10_result 18 = .ok (.athrow, 1) := by decide +kernel
theorem dX10_result_19 : decode cX10_result 19 = .ok (.aload_n 0, 1) := by decide +kernel
theorem dX10_result_20 : decode cX10_result 20 = .ok (.invokevirtual 274, 3) := by decide +kernel
theorem dX10_result_23 : decode cX10_result 23 = .ok (.aload_n 0, 1) := by decide +kernel
theorem dX10_result_24 : decode cX10_result 24 = .ok (.iload_n 1, 1) := by decide +kernel
theorem dX10_result_25 : decode cX10_result 25 = .ok (.iconst 0, 1) := by decide +kernel
theorem dX10_result_26 : decode cX10_result 26 = .ok (.invokevirtual 277, 3) := by decide +kernel
theorem dX10_result_29 : decode cX10_result 29 = .ok (.istore_n 3, 1) := by decide +kernel
theorem dX10_result_30 : decode cX10_result 30 = .ok (.iconst 0, 1) := by decide +kernel
theorem dX10_result_31 : decode cX10_result 31 = .ok (.istore 4, 2) := by decide +kernel
theorem dX10_result_33 : decode cX10_result 33 = .ok (.iload 4, 2) := by decide +kernel
theorem dX10_result_35 : decode cX10_result 35 = .ok (.aload_n 0, 1) := by decide +kernel
theorem dX10_result_36 : decode cX10_result 36 = .ok (.getfield 104, 3) := by decide +kernel
theorem dX10_result_39 : decode cX10_result 39 = .ok (.if_icmp .ge 32, 3) := by decide +kernel
theorem dX10_result_42 : decode cX10_result 42 = .ok (.iload_n 3, 1) := by decide +kernel
theorem dX10_result_43 : decode cX10_result 43 = .ok (.iload 4, 2) := by decide +kernel
theorem dX10_result_45 : decode cX10_result 45 = .ok (.invokestatic 91, 3) := by decide +kernel
theorem dX10_result_48 : decode cX10_result 48 = .ok (.ifCond .eq 17, 3) := by decide +kernel
theorem dX10_result_51 : decode cX10_result 51 = .ok (.aload_n 0, 1) := by decide +kernel
theorem dX10_result_52 : decode cX10_result 52 = .ok (.iload 4, 2) := by decide +kernel
theorem dX10_result_54 : decode cX10_result 54 = .ok (.iload_n 3, 1) := by decide +kernel
theorem dX10_result_55 : decode cX10_result 55 = .ok (.invokevirtual 283, 3) := by decide +kernel
theorem dX10_result_58 : decode cX10_result 58 = .ok (.iload_n 2, 1) := by decide +kernel
theorem dX10_result_59 : decode cX10_result 59 = .ok (.if_icmp .ne 6, 3) := by decide +kernel
theorem dX10_result_62 : decode cX10_result 62 = .ok (.iload 4, 2) := by decide +kernel
theorem dX10_result_64 : decode cX10_result 64 = .ok (.ireturn, 1) := by decide +kernel
theorem dX10_result_65 : decode cX10_result 65 = .ok (.iinc 4 1, 3) := by decide +kernel
theorem dX10_result_68 : decode cX10_result 68 = .ok (.goto (-35), 3) := by decide +kernel
theorem dX10_result_71 : decode cX10_result 71 = .ok (.iconst (-1), 1) := by decide +kernel
theorem dX10_result_72 : decode cX10_result 72 = .ok (.ireturn, 1) := by decide +kernel
theorem dX10_search_0 : decode cX10_search 0 = .ok (.iload_n 1, 1) := by decide +kernel
theorem dX10_search_1 : decode cX10_search 1 = .ok (.invokestatic 99, 3) := by decide +kernel
theorem dX10_search_4 : decode cX10_search 4 = .ok (.aload_n 0, 1) := by decide +kernel
theorem dX10_search_5 : decode cX10_search 5 = .ok (.invokevirtual 274, 3) := by decide +kernel
theorem dX10_search_8 : decode cX10_search 8 = .ok (.aload_n 0, 1) := by decide +kernel
theorem dX10_search_9 : decode cX10_search 9 = .ok (.iload_n 1, 1) := by decide +kernel
theorem dX10_search_10 : decode cX10_search 10 = .ok (.iload_n 2, 1) := by decide +kernel
theorem dX10_search_11 : decode cX10_search 11 = .ok (.invokevirtual 277, 3) := by decide +kernel
theorem dX10_search_14 : decode cX10_search 14 = .ok (.ireturn, 1) := by decide +kernel
theorem dX10_isWithin_0 : decode cX10_isWithin 0 = .ok (.iload_n 0, 1) := by decide +kernel
theorem dX10_isWithin_1 : decode cX10_isWithin 1 = .ok (.iload_n 1, 1) := by decide +kernel
theorem dX10_isWithin_2 : decode cX10_isWithin 2 = .ok (.iushr, 1) := by decide +kernel
theorem dX10_isWithin_3 : decode cX10_isWithin 3 = .ok (.ifCond .ne 7, 3) := by decide +kernel
theorem dX10_isWithin_6 : decode cX10_isWithin 6 = .ok (.iconst 1, 1) := by decide +kernel
theorem dX10_isWithin_7 : decode cX10_isWithin 7 = .ok (.goto 4, 3) := by decide +kernel
theorem dX10_isWithin_10 : decode cX10_isWithin 10 = .ok (.iconst 0, 1) := by decide +kernel
theorem dX10_isWithin_11 : decode cX10_isWithin 11 = .ok (.ireturn, 1) := by decide +kernel
theorem dX2_add_0 : decode cX2_add 0 = .ok (.aload_n 0, 1) := by decide +kernel
theorem dX2_add_1 : decode cX2_add 1 = .ok (.getfield 11, 3) := by decide +kernel
theorem dX2_add_4 : decode cX2_add 4 = .ok (.aload_n 0, 1) := by decide +kernel
theorem dX2_add_5 : decode cX2_add 5 = .ok (.getfield 24, 3) := by decide +kernel
theorem dX2_add_8 : decode cX2_add 8 = .ok (.aload_n 1, 1) := by decide +kernel
theorem dX2_add_9 : decode cX2_add 9 = .ok (.aastore, 1) := by decide +kernel
theorem dX2_add_10 : decode cX2_add 10 = .ok (.aload_n 0, 1) := by decide +kernel
theorem dX2_add_11 : decode cX2_add 11 = .ok (.dup, 1) := by decide +kernel
theorem dX2_add_12 : decode cX2_add 12 = .ok (.getfield 24, 3) := by decide +kernel
theorem dX2_add_15 : decode cX2_add 15 = .ok (.iconst 1, 1) := by decide +kernel
theorem dX2_add_16 : decode cX2_add 16 = .ok (.iadd, 1) := by decide +kernel
theorem dX2_add_17 : decode cX2_add 17 = .ok (.putfield 24, 3) := by decide +kernel
theorem dX2_add_20 : decode cX2_add 20 = .ok (.aload_n 0, 1) := by decide +kernel
theorem dX2_add_21 : decode cX2_add 21 = .ok (.getfield 24, 3) := by decide +kernel
theorem dX2_add_24 : decode cX2_add 24 = .ok (.iconst 1, 1) := by decide +kernel
theorem dX2_add_25 : decode cX2_add 25 = .ok (.isub, 1) := by decide +kernel
theorem dX2_add_26 : decode cX2_add 26 = .ok (.ireturn, 1) := by decide +kernel
theorem dX2_hasSignOf_0 : decode cX2_hasSignOf 0 = .ok (.iconst 0, 1) := by decide +kernel
theorem dX2_hasSignOf_1 : decode cX2_hasSignOf 1 = .ok (.istore_n 2, 1) := by decide +kernel
theorem dX2_hasSignOf_2 : decode cX2_hasSignOf 2 = .ok (.iload_n 2, 1) := by decide +kernel
theorem dX2_hasSignOf_3 : decode cX2_hasSignOf 3 = .ok (.aload_n 0, 1) := by decide +kernel
theorem dX2_hasSignOf_4 : decode cX2_hasSignOf 4 = .ok (.getfield 24, 3) := by decide +kernel
theorem dX2_hasSignOf_7 : decode cX2_hasSignOf 7 = .ok (.if_icmp .ge 24, 3) := by decide +kernel
theorem dX2_hasSignOf_10 : decode cX2_hasSignOf 10 = .ok (.aload_n 0, 1) := by decide +kernel
theorem dX2_hasSignOf_11 : decode cX2_hasSignOf 11 = .ok (.getfield 11, 3) := by decide +kernel
theorem dX2_hasSignOf_14 : decode cX2_hasSignOf 14 = .ok (.iload_n 2, 1) := by decide +kernel
theorem dX2_hasSignOf_15 : decode cX2_hasSignOf 15 = .ok (.aaload, 1) := by decide +kernel
theorem dX2_hasSignOf_16 : decode cX2_hasSignOf 16 = .ok (.getfield 28, 3) := by decide +kernel
theorem dX2_hasSignOf_19 : decode cX2_hasSignOf 19 = .ok (.iload_n 1, 1) := by decide +kernel
theorem dX2_hasSignOf_20 : decode cX2_hasSignOf 20 = .ok (.if_icmp .ne 5, 3) := by decide +kernel
theorem dX2_hasSignOf_23 : decode cX2_hasSignOf 23 = .ok (.iconst 1, 1) := by decide +kernel
theorem dX2_hasSignOf_24 : decode cX2_hasSignOf 24 = .ok (.ireturn, 1) := by decide +kernel
theorem dX2_hasSignOf_25 : decode cX2_hasSignOf 25 = .ok (.iinc 2 1, 3) := by decide +kernel
theorem dX2_hasSignOf_28 : decode cX2_hasSignOf 28 = .ok (.goto (-26), 3) := by decide +kernel
theorem dX2_hasSignOf_31 : decode cX2_hasSignOf 31 = .ok (.iconst 0, 1) := by decide +kernel
theorem dX2_hasSignOf_32 : decode cX2_hasSignOf 32 = .ok (.ireturn, 1) := by decide +kernel
theorem dX6_init_0 : decode cX6_init 0 = .ok (.aload_n 0, 1) := by decide +kernel
theorem dX6_init_1 : decode cX6_init 1 = .ok (.invokespecial 1, 3) := by decide +kernel
theorem dX6_init_4 : decode cX6_init 4 = .ok (.aload_n 0, 1) := by decide +kernel
theorem dX6_init_5 : decode cX6_init 5 = .ok (.iload_n 1, 1) := by decide +kernel
theorem dX6_init_6 : decode cX6_init 6 = .ok (.putfield 7, 3) := by decide +kernel
theorem dX6_init_9 : decode cX6_init 9 = .ok (.aload_n 0, 1) := by decide +kernel
theorem dX6_init_10 : decode cX6_init 10 = .ok (.iload_n 2, 1) := by decide +kernel
theorem dX6_init_11 : decode cX6_init 11 = .ok (.putfield 13, 3) := by decide +kernel
theorem dX6_init_14 : decode cX6_init 14 = .ok (.aload_n 0, 1) := by decide +kernel
theorem dX6_init_15 : decode cX6_init 15 = .ok (.iload_n 3, 1) := by decide +kernel
theorem dX6_init_16 : decode cX6_init 16 = .ok (.putfield 16, 3) := by decide +kernel
theorem dX6_init_19 : decode cX6_init 19 = .ok (.aload_n 0, 1) := by decide +kernel
theorem dX6_init_20 : decode cX6_init 20 = .ok (.iload 4, 2) := by decide +kernel
theorem dX6_init_22 : decode cX6_init 22 = .ok (.putfield 19, 3) := by decide +kernel
theorem dX6_init_25 : decode cX6_init 25 = .ok (.return_, 1) := by decide +kernel
theorem dX10_sign_0 : decode cX10_sign 0 = .ok (.iload_n 1, 1) := by decide +kernel
theorem dX10_sign_1 : decode cX10_sign 1 = .ok (.invokestatic 82, 3) := by decide +kernel
theorem dX10_sign_4 : decode cX10_sign 4 = .ok (.iload_n 2, 1) := by decide +kernel
theorem dX10_sign_5 : decode cX10_sign 5 = .ok (.aload_n 0, 1) := by decide +kernel
theorem dX10_sign_6 : decode cX10_sign 6 = .ok (.getfield 34, 3) := by decide +kernel
theorem dX10_sign_9 : decode cX10_sign 9 = .ok (.getfield 180, 3) := by decide +kernel
theorem dX10_sign_12 : decode cX10_sign 12 = .ok (.invokestatic 286, 3) := by decide +kernel
theorem dX10_sign_15 : decode cX10_sign 15 = .ok (.ifCond .eq 27, 3) := by decide +kernel
theorem dX10_sign_18 : decode cX10_sign 18 = .ok (.iload_n 3, 1) := by decide +kernel
theorem dX10_sign_19 : decode cX10_sign 19 = .ok (.aload_n 0, 1) := by decide +kernel
theorem dX10_sign_20 : decode cX10_sign 20 = .ok (.getfield 34, 3) := by decide +kernel
theorem dX10_sign_23 : decode cX10_sign 23 = .ok (.getfield 180, 3) := by decide +kernel
theorem dX10_sign_26 : decode cX10_sign 26 = .ok (.invokestatic 286, 3) := by decide +kernel
theorem dX10_sign_29 : decode cX10_sign 29 = .ok (.ifCond .eq 13, 3) := by decide +kernel
theorem dX10_sign_32 : decode cX10_sign 32 = .ok (.iload 4, 2) := by decide +kernel
theorem dX10_sign_34 : decode cX10_sign 34 = .ok (.bipush 12, 2) := by decide +kernel
theorem dX10_sign_36 : decode cX10_sign 36 = .ok (.invokestatic 286, 3) := by decide +kernel
theorem dX10_sign_39 : decode cX10_sign 39 = .ok (.ifCond .ne 14, 3) := by decide +kernel
theorem dX10_sign_42 : decode cX10_sign 42 = .ok (.new 66, 3) := by decide +kernel
theorem dX10_sign_45 : decode cX10_sign 45 = .ok (.dup, 1) := by decide +kernel
theorem dX10_sign_46 : decode cX10_sign 46 = .ok (.ldc_w 289, 3) := by decide +kernel
theorem dX10_sign_49 : decode cX10_sign 49 = .ok (.invokespecial 70, 3) := by decide +kernel
theorem dX10_sign_52 : decode cX10_sign 52 = .ok (.athrow, 1) := by decide +kernel
theorem dX10_sign_53 : decode cX10_sign 53 = .ok (.aload_n 0, 1) := by decide +kernel
theorem dX10_sign_54 : decode cX10_sign 54 = .ok (.getfield 55, 3) := by decide +kernel
theorem dX10_sign_57 : decode cX10_sign 57 = .ok (.iload_n 1, 1) := by decide +kernel
theorem dX10_sign_58 : decode cX10_sign 58 = .ok (.invokevirtual 291, 3) := by decide +kernel
theorem dX10_sign_61 : decode cX10_sign 61 = .ok (.ifCond .ne 15, 3) := by decide +kernel
theorem dX10_sign_64 : decode cX10_sign 64 = .ok (.aload_n 0, 1) := by decide +kernel
theorem dX10_sign_65 : decode cX10_sign 65 = .ok (.getfield 55, 3) := by decide +kernel
theorem dX10_sign_68 : decode cX10_sign 68 = .ok (.getfield 294, 3) := by decide +kernel
theorem dX10_sign_71 : decode cX10_sign 71 = .ok (.bipush 8, 2) := by decide +kernel
theorem dX10_sign_73 : decode cX10_sign 73 = .ok (.if_icmp .lt 14, 3) := by decide +kernel
theorem dX10_sign_76 : decode cX10_sign 76 = .ok (.new 77, 3) := by decide +kernel
theorem dX10_sign_79 : decode cX10_sign 79 = .ok (.dup, 1) := by decide +kernel
theorem dX10_sign_80 : decode cX10_sign 80 = .ok (.ldc_w 295, 3) := by decide +kernel
theorem dX10_sign_83 : decode cX10_sign 83 = .ok (.invokespecial 81, 3) := by decide +kernel
theorem dX10_sign_86 : decode cX10_sign 86 = .ok (.athrow, 1) := by decide +kernel
theorem dX10_sign_87 : decode cX10_sign 87 = .ok (.aload_n 0, 1) := by decide +kernel
theorem dX10_sign_88 : decode cX10_sign 88 = .ok (.getfield 55, 3) := by decide +kernel
theorem dX10_sign_91 : decode cX10_sign 91 = .ok (.new 297, 3) := by decide +kernel
theorem dX10_sign_94 : decode cX10_sign 94 = .ok (.dup, 1) := by decide +kernel
theorem dX10_sign_95 : decode cX10_sign 95 = .ok (.iload_n 1, 1) := by decide +kernel
theorem dX10_sign_96 : decode cX10_sign 96 = .ok (.iload_n 2, 1) := by decide +kernel
theorem dX10_sign_97 : decode cX10_sign 97 = .ok (.iload_n 3, 1) := by decide +kernel
theorem dX10_sign_98 : decode cX10_sign 98 = .ok (.iload 4, 2) := by decide +kernel
theorem dX10_sign_100 : decode cX10_sign 100 = .ok (.invokespecial 299, 3) := by decide +kernel
theorem dX10_sign_103 : decode cX10_sign 103 = .ok (.invokevirtual 302, 3) := by decide +kernel
theorem dX10_sign_106 : decode cX10_sign 106 = .ok (.ireturn, 1) := by decide +kernel
theorem dX10_characterAt_0 : decode cX10_characterAt 0 = .ok (.lload_n 0, 1) := by decide +kernel
theorem dX10_characterAt_1 : decode cX10_characterAt 1 = .ok (.bipush 8, 2) := by decide +kernel
theorem dX10_characterAt_3 : decode cX10_characterAt 3 = .ok (.iload_n 2, 1) := by decide +kernel
theorem dX10_characterAt_4 : decode cX10_characterAt 4 = .ok (.imul, 1) := by decide +kernel
theorem dX10_characterAt_5 : decode cX10_characterAt 5 = .ok (.lushr, 1) := by decide +kernel
theorem dX10_characterAt_6 : decode cX10_characterAt 6 = .ok (.ldc2_w 391, 3) := by decide +kernel
theorem dX10_characterAt_9 : decode cX10_characterAt 9 = .ok (.land, 1) := by decide +kernel
theorem dX10_characterAt_10 : decode cX10_characterAt 10 = .ok (.l2i, 1) := by decide +kernel
theorem dX10_characterAt_11 : decode cX10_characterAt 11 = .ok (.i2c, 1) := by decide +kernel
theorem dX10_characterAt_12 : decode cX10_characterAt 12 = .ok (.ireturn, 1) := by decide +kernel
theorem dX8_add_0 : decode cX8_add 0 = .ok (.aload_n 0, 1) := by decide +kernel
theorem dX8_add_1 : decode cX8_add 1 = .ok (.getfield 9, 3) := by decide +kernel
theorem dX8_add_4 : decode cX8_add 4 = .ok (.aload_n 0, 1) := by decide +kernel
theorem dX8_add_5 : decode cX8_add 5 = .ok (.getfield 30, 3) := by decide +kernel
theorem dX8_add_8 : decode cX8_add 8 = .ok (.iload_n 1, 1) := by decide +kernel
theorem dX8_add_9 : decode cX8_add 9 = .ok (.castore, 1) := by decide +kernel
theorem dX8_add_10 : decode cX8_add 10 = .ok (.aload_n 0, 1) := by decide +kernel
theorem dX8_add_11 : decode cX8_add 11 = .ok (.dup, 1) := by decide +kernel
theorem dX8_add_12 : decode cX8_add 12 = .ok (.getfield 30, 3) := by decide +kernel
theorem dX8_add_15 : decode cX8_add 15 = .ok (.iconst 1, 1) := by decide +kernel
theorem dX8_add_16 : decode cX8_add 16 = .ok (.iadd, 1) := by decide +kernel
theorem dX8_add_17 : decode cX8_add 17 = .ok (.putfield 30, 3) := by decide +kernel
theorem dX8_add_20 : decode cX8_add 20 = .ok (.return_, 1) := by decide +kernel
theorem dX8_holds_0 : decode cX8_holds 0 = .ok (.iload_n 0, 1) := by decide +kernel
theorem dX8_holds_1 : decode cX8_holds 1 = .ok (.invokestatic 22, 3) := by decide +kernel
theorem dX8_holds_4 : decode cX8_holds 4 = .ok (.ifCond .ne 40, 3) := by decide +kernel
theorem dX8_holds_7 : decode cX8_holds 7 = .ok (.iload_n 0, 1) := by decide +kernel
theorem dX8_holds_8 : decode cX8_holds 8 = .ok (.invokestatic 26, 3) := by decide +kernel
theorem dX8_holds_11 : decode cX8_holds 11 = .ok (.ifCond .gt 33, 3) := by decide +kernel
theorem dX8_holds_14 : decode cX8_holds 14 = .ok (.iload_n 0, 1) := by decide +kernel
theorem dX8_holds_15 : decode cX8_holds 15 = .ok (.bipush 38, 2) := by decide +kernel
theorem dX8_holds_17 : decode cX8_holds 17 = .ok (.if_icmp .eq 27, 3) := by decide +kernel
theorem dX8_holds_20 : decode cX8_holds 20 = .ok (.iload_n 0, 1) := by decide +kernel
theorem dX8_holds_21 : decode cX8_holds 21 = .ok (.bipush 124, 2) := by decide +kernel
theorem dX8_holds_23 : decode cX8_holds 23 = .ok (.if_icmp .eq 21, 3) := by decide +kernel
theorem dX8_holds_26 : decode cX8_holds 26 = .ok (.iload_n 0, 1) := by decide +kernel
theorem dX8_holds_27 : decode cX8_holds 27 = .ok (.bipush 33, 2) := by decide +kernel
theorem dX8_holds_29 : decode cX8_holds 29 = .ok (.if_icmp .eq 15, 3) := by decide +kernel
theorem dX8_holds_32 : decode cX8_holds 32 = .ok (.iload_n 0, 1) := by decide +kernel
theorem dX8_holds_33 : decode cX8_holds 33 = .ok (.bipush 40, 2) := by decide +kernel
theorem dX8_holds_35 : decode cX8_holds 35 = .ok (.if_icmp .eq 9, 3) := by decide +kernel
theorem dX8_holds_38 : decode cX8_holds 38 = .ok (.iload_n 0, 1) := by decide +kernel
theorem dX8_holds_39 : decode cX8_holds 39 = .ok (.bipush 41, 2) := by decide +kernel
theorem dX8_holds_41 : decode cX8_holds 41 = .ok (.if_icmp .ne 7, 3) := by decide +kernel
theorem dX8_holds_44 : decode cX8_holds 44 = .ok (.iconst 1, 1) := by decide +kernel
theorem dX8_holds_45 : decode cX8_holds 45 = .ok (.goto 4, 3) := by decide +kernel
theorem dX8_holds_48 : decode cX8_holds 48 = .ok (.iconst 0, 1) := by decide +kernel
theorem dX8_holds_49 : decode cX8_holds 49 = .ok (.ireturn, 1) := by decide +kernel
theorem dX10_type_0 : decode cX10_type 0 = .ok (.iload_n 3, 1) := by decide +kernel
theorem dX10_type_1 : decode cX10_type 1 = .ok (.iconst 1, 1) := by decide +kernel
theorem dX10_type_2 : decode cX10_type 2 = .ok (.if_icmp .lt 9, 3) := by decide +kernel
theorem dX10_type_5 : decode cX10_type 5 = .ok (.iload_n 3, 1) := by decide +kernel
theorem dX10_type_6 : decode cX10_type 6 = .ok (.bipush 8, 2) := by decide +kernel
theorem dX10_type_8 : decode cX10_type 8 = .ok (.if_icmp .le 13, 3) := by decide +kernel
theorem dX10_type_11 : decode cX10_type 11 = .ok (.new 66, 3) := by decide +kernel
theorem dX10_type_14 : decode cX10_type 14 = .ok (.dup, 1) := by decide +kernel
theorem dX10_type_15 : decode cX10_type 15 = .ok (.ldc 251, 2) := by decide +kernel
theorem dX10_type_17 : decode cX10_type 17 = .ok (.invokespecial 70, 3) := by decide +kernel
theorem dX10_type_20 : decode cX10_type 20 = .ok (.athrow, 1) := by decide +kernel
theorem dX10_type_21 : decode cX10_type 21 = .ok (.iconst 0, 1) := by decide +kernel
theorem dX10_type_22 : decode cX10_type 22 = .ok (.istore 4, 2) := by decide +kernel
theorem dX10_type_24 : decode cX10_type 24 = .ok (.iload 4, 2) := by decide +kernel
theorem dX10_type_26 : decode cX10_type 26 = .ok (.iload_n 3, 1) := by decide +kernel
theorem dX10_type_27 : decode cX10_type 27 = .ok (.if_icmp .ge 32, 3) := by decide +kernel
theorem dX10_type_30 : decode cX10_type 30 = .ok (.lload_n 1, 1) := by decide +kernel
theorem dX10_type_31 : decode cX10_type 31 = .ok (.iload 4, 2) := by decide +kernel
theorem dX10_type_33 : decode cX10_type 33 = .ok (.invokestatic 253, 3) := by decide +kernel
theorem dX10_type_36 : decode cX10_type 36 = .ok (.invokestatic 257, 3) := by decide +kernel
theorem dX10_type_39 : decode cX10_type 39 = .ok (.ifCond .ne 14, 3) := by decide +kernel
theorem dX10_type_42 : decode cX10_type 42 = .ok (.new 66, 3) := by decide +kernel
theorem dX10_type_45 : decode cX10_type 45 = .ok (.dup, 1) := by decide +kernel
theorem dX10_type_46 : decode cX10_type 46 = .ok (.ldc_w 261, 3) := by decide +kernel
theorem dX10_type_49 : decode cX10_type 49 = .ok (.invokespecial 70, 3) := by decide +kernel
theorem dX10_type_52 : decode cX10_type 52 = .ok (.athrow, 1) := by decide +kernel
theorem dX10_type_53 : decode cX10_type 53 = .ok (.iinc 4 1, 3) := by decide +kernel
theorem dX10_type_56 : decode cX10_type 56 = .ok (.goto (-32), 3) := by decide +kernel
theorem dX10_type_59 : decode cX10_type 59 = .ok (.aload_n 0, 1) := by decide +kernel
theorem dX10_type_60 : decode cX10_type 60 = .ok (.getfield 41, 3) := by decide +kernel
theorem dX10_type_63 : decode cX10_type 63 = .ok (.getfield 263, 3) := by decide +kernel
theorem dX10_type_66 : decode cX10_type 66 = .ok (.iload_n 3, 1) := by decide +kernel
theorem dX10_type_67 : decode cX10_type 67 = .ok (.iadd, 1) := by decide +kernel
theorem dX10_type_68 : decode cX10_type 68 = .ok (.bipush 60, 2) := by decide +kernel
theorem dX10_type_70 : decode cX10_type 70 = .ok (.if_icmp .le 14, 3) := by decide +kernel
theorem dX10_type_73 : decode cX10_type 73 = .ok (.new 77, 3) := by decide +kernel
theorem dX10_type_76 : decode cX10_type 76 = .ok (.dup, 1) := by decide +kernel
theorem dX10_type_77 : decode cX10_type 77 = .ok (.ldc_w 266, 3) := by decide +kernel
theorem dX10_type_80 : decode cX10_type 80 = .ok (.invokespecial 81, 3) := by decide +kernel
theorem dX10_type_83 : decode cX10_type 83 = .ok (.athrow, 1) := by decide +kernel
theorem dX10_type_84 : decode cX10_type 84 = .ok (.iconst 0, 1) := by decide +kernel
theorem dX10_type_85 : decode cX10_type 85 = .ok (.istore 4, 2) := by decide +kernel
theorem dX10_type_87 : decode cX10_type 87 = .ok (.iload 4, 2) := by decide +kernel
theorem dX10_type_89 : decode cX10_type 89 = .ok (.iload_n 3, 1) := by decide +kernel
theorem dX10_type_90 : decode cX10_type 90 = .ok (.if_icmp .ge 22, 3) := by decide +kernel
theorem dX10_type_93 : decode cX10_type 93 = .ok (.aload_n 0, 1) := by decide +kernel
theorem dX10_type_94 : decode cX10_type 94 = .ok (.getfield 41, 3) := by decide +kernel
theorem dX10_type_97 : decode cX10_type 97 = .ok (.lload_n 1, 1) := by decide +kernel
theorem dX10_type_98 : decode cX10_type 98 = .ok (.iload 4, 2) := by decide +kernel
theorem dX10_type_100 : decode cX10_type 100 = .ok (.invokestatic 253, 3) := by decide +kernel
theorem dX10_type_103 : decode cX10_type 103 = .ok (.invokevirtual 268, 3) := by decide +kernel
theorem dX10_type_106 : decode cX10_type 106 = .ok (.iinc 4 1, 3) := by decide +kernel
theorem dX10_type_109 : decode cX10_type 109 = .ok (.goto (-22), 3) := by decide +kernel
theorem dX10_type_112 : decode cX10_type 112 = .ok (.aload_n 0, 1) := by decide +kernel
theorem dX10_type_113 : decode cX10_type 113 = .ok (.getfield 41, 3) := by decide +kernel
theorem dX10_type_116 : decode cX10_type 116 = .ok (.getfield 263, 3) := by decide +kernel
theorem dX10_type_119 : decode cX10_type 119 = .ok (.ireturn, 1) := by decide +kernel
theorem dX10_under_0 : decode cX10_under 0 = .ok (.aload_n 0, 1) := by decide +kernel
theorem dX10_under_1 : decode cX10_under 1 = .ok (.aload_n 0, 1) := by decide +kernel
theorem dX10_under_2 : decode cX10_under 2 = .ok (.iload_n 1, 1) := by decide +kernel
theorem dX10_under_3 : decode cX10_under 3 = .ok (.invokevirtual 112, 3) := by decide +kernel
theorem dX10_under_6 : decode cX10_under 6 = .ok (.iload_n 2, 1) := by decide +kernel
theorem dX10_under_7 : decode cX10_under 7 = .ok (.invokevirtual 247, 3) := by decide +kernel
theorem dX10_under_10 : decode cX10_under 10 = .ok (.ireturn, 1) := by decide +kernel
theorem dX10_wave_0 : decode cX10_wave 0 = .ok (.iload_n 1, 1) := by decide +kernel
theorem dX10_wave_1 : decode cX10_wave 1 = .ok (.iconst 1, 1) := by decide +kernel
theorem dX10_wave_2 : decode cX10_wave 2 = .ok (.if_icmp .lt 9, 3) := by decide +kernel
theorem dX10_wave_5 : decode cX10_wave 5 = .ok (.iload_n 1, 1) := by decide +kernel
theorem dX10_wave_6 : decode cX10_wave 6 = .ok (.bipush 20, 2) := by decide +kernel
theorem dX10_wave_8 : decode cX10_wave 8 = .ok (.if_icmp .le 13, 3) := by decide +kernel
theorem dX10_wave_11 : decode cX10_wave 11 = .ok (.new 66, 3) := by decide +kernel
theorem dX10_wave_14 : decode cX10_wave 14 = .ok (.dup, 1) := by decide +kernel
theorem dX10_wave_15 : decode cX10_wave 15 = .ok (.ldc 242, 2) := by decide +kernel
theorem dX10_wave_17 : decode cX10_wave 17 = .ok (.invokespecial 70, 3) := by decide +kernel
theorem dX10_wave_20 : decode cX10_wave 20 = .ok (.athrow, 1) := by decide +kernel
theorem dX10_wave_21 : decode cX10_wave 21 = .ok (.iconst 0, 1) := by decide +kernel
theorem dX10_wave_22 : decode cX10_wave 22 = .ok (.istore_n 2, 1) := by decide +kernel
theorem dX10_wave_23 : decode cX10_wave 23 = .ok (.iconst 0, 1) := by decide +kernel
theorem dX10_wave_24 : decode cX10_wave 24 = .ok (.istore_n 3, 1) := by decide +kernel
theorem dX10_wave_25 : decode cX10_wave 25 = .ok (.iload_n 3, 1) := by decide +kernel
theorem dX10_wave_26 : decode cX10_wave 26 = .ok (.aload_n 0, 1) := by decide +kernel
theorem dX10_wave_27 : decode cX10_wave 27 = .ok (.getfield 104, 3) := by decide +kernel
theorem dX10_wave_30 : decode cX10_wave 30 = .ok (.if_icmp .ge 50, 3) := by decide +kernel
theorem dX10_wave_33 : decode cX10_wave 33 = .ok (.iload_n 2, 1) := by decide +kernel
theorem dX10_wave_34 : decode cX10_wave 34 = .ok (.iload_n 1, 1) := by decide +kernel
theorem dX10_wave_35 : decode cX10_wave 35 = .ok (.if_icmp .ge 45, 3) := by decide +kernel
theorem dX10_wave_38 : decode cX10_wave 38 = .ok (.aload_n 0, 1) := by decide +kernel
theorem dX10_wave_39 : decode cX10_wave 39 = .ok (.getfield 21, 3) := by decide +kernel
theorem dX10_wave_42 : decode cX10_wave 42 = .ok (.iload_n 3, 1) := by decide +kernel
theorem dX10_wave_43 : decode cX10_wave 43 = .ok (.aaload, 1) := by decide +kernel
theorem dX10_wave_44 : decode cX10_wave 44 = .ok (.astore 4, 2) := by decide +kernel
theorem dX10_wave_46 : decode cX10_wave 46 = .ok (.aload 4, 2) := by decide +kernel
theorem dX10_wave_48 : decode cX10_wave 48 = .ok (.getfield 244, 3) := by decide +kernel
theorem dX10_wave_51 : decode cX10_wave 51 = .ok (.ifCond .eq 23, 3) := by decide +kernel
theorem dX10_wave_54 : decode cX10_wave 54 = .ok (.aload 4, 2) := by decide +kernel
theorem dX10_wave_56 : decode cX10_wave 56 = .ok (.aload_n 0, 1) := by decide +kernel
theorem dX10_wave_57 : decode cX10_wave 57 = .ok (.getfield 34, 3) := by decide +kernel
theorem dX10_wave_60 : decode cX10_wave 60 = .ok (.aload 4, 2) := by decide +kernel
theorem dX10_wave_62 : decode cX10_wave 62 = .ok (.getfield 234, 3) := by decide +kernel
theorem dX10_wave_65 : decode cX10_wave 65 = .ok (.invokevirtual 236, 3) := by decide +kernel
theorem dX10_wave_68 : decode cX10_wave 68 = .ok (.invokevirtual 239, 3) := by decide +kernel
theorem dX10_wave_71 : decode cX10_wave 71 = .ok (.iinc 2 1, 3) := by decide +kernel
theorem dX10_wave_74 : decode cX10_wave 74 = .ok (.iinc 3 1, 3) := by decide +kernel
theorem dX10_wave_77 : decode cX10_wave 77 = .ok (.goto (-52), 3) := by decide +kernel
theorem dX10_wave_80 : decode cX10_wave 80 = .ok (.iload_n 2, 1) := by decide +kernel
theorem dX10_wave_81 : decode cX10_wave 81 = .ok (.ireturn, 1) := by decide +kernel
theorem dL_middle_0 : decode cL_middle 0 = .ok (.iload_n 1, 1) := by decide +kernel
theorem dL_middle_1 : decode cL_middle 1 = .ok (.bipush 17, 2) := by decide +kernel
theorem dL_middle_3 : decode cL_middle 3 = .ok (.if_icmp .ne 12, 3) := by decide +kernel
theorem dL_middle_6 : decode cL_middle 6 = .ok (.aload_n 0, 1) := by decide +kernel
theorem dL_middle_7 : decode cL_middle 7 = .ok (.iload_n 2, 1) := by decide +kernel
theorem dL_middle_8 : decode cL_middle 8 = .ok (.iload_n 3, 1) := by decide +kernel
theorem dL_middle_9 : decode cL_middle 9 = .ok (.invokevirtual 118, 3) := by decide +kernel
theorem dL_middle_12 : decode cL_middle 12 = .ok (.goto 149, 3) := by decide +kernel
theorem dL_middle_15 : decode cL_middle 15 = .ok (.iload_n 1, 1) := by decide +kernel
theorem dL_middle_16 : decode cL_middle 16 = .ok (.bipush 18, 2) := by decide +kernel
theorem dL_middle_18 : decode cL_middle 18 = .ok (.if_icmp .ne 26, 3) := by decide +kernel
theorem dL_middle_21 : decode cL_middle 21 = .ok (.aload_n 0, 1) := by decide +kernel
theorem dL_middle_22 : decode cL_middle 22 = .ok (.iload_n 2, 1) := by decide +kernel
theorem dL_middle_23 : decode cL_middle 23 = .ok (.iload_n 3, 1) := by decide +kernel
theorem dL_middle_24 : decode cL_middle 24 = .ok (.iload 4, 2) := by decide +kernel
theorem dL_middle_26 : decode cL_middle 26 = .ok (.iconst 1, 1) := by decide +kernel
theorem dL_middle_27 : decode cL_middle 27 = .ok (.if_icmp .ne 7, 3) := by decide +kernel
theorem dL_middle_30 : decode cL_middle 30 = .ok (.iconst 1, 1) := by decide +kernel
theorem dL_middle_31 : decode cL_middle 31 = .ok (.goto 4, 3) := by decide +kernel
theorem dL_middle_34 : decode cL_middle 34 = .ok (.iconst 0, 1) := by decide +kernel
theorem dL_middle_35 : decode cL_middle 35 = .ok (.invokevirtual 121, 3) := by decide +kernel
theorem dL_middle_38 : decode cL_middle 38 = .ok (.invokestatic 24, 3) := by decide +kernel
theorem dL_middle_41 : decode cL_middle 41 = .ok (.goto 120, 3) := by decide +kernel
theorem dL_middle_44 : decode cL_middle 44 = .ok (.iload_n 1, 1) := by decide +kernel
theorem dL_middle_45 : decode cL_middle 45 = .ok (.bipush 19, 2) := by decide +kernel
theorem dL_middle_47 : decode cL_middle 47 = .ok (.if_icmp .ne 11, 3) := by decide +kernel
theorem dL_middle_50 : decode cL_middle 50 = .ok (.aload_n 0, 1) := by decide +kernel
theorem dL_middle_51 : decode cL_middle 51 = .ok (.iload_n 2, 1) := by decide +kernel
theorem dL_middle_52 : decode cL_middle 52 = .ok (.invokevirtual 124, 3) := by decide +kernel
theorem dL_middle_55 : decode cL_middle 55 = .ok (.goto 106, 3) := by decide +kernel
theorem dL_middle_58 : decode cL_middle 58 = .ok (.iload_n 1, 1) := by decide +kernel
theorem dL_middle_59 : decode cL_middle 59 = .ok (.bipush 20, 2) := by decide +kernel
theorem dL_middle_61 : decode cL_middle 61 = .ok (.if_icmp .ne 21, 3) := by decide +kernel
theorem dL_middle_64 : decode cL_middle 64 = .ok (.aload_n 0, 1) := by decide +kernel
theorem dL_middle_65 : decode cL_middle 65 = .ok (.iload_n 2, 1) := by decide +kernel
theorem dL_middle_66 : decode cL_middle 66 = .ok (.iload_n 3, 1) := by decide +kernel
theorem dL_middle_67 : decode cL_middle 67 = .ok (.iconst 1, 1) := by decide +kernel
theorem dL_middle_68 : decode cL_middle 68 = .ok (.if_icmp .ne 7, 3) := by decide +kernel
theorem dL_middle_71 : decode cL_middle 71 = .ok (.iconst 1, 1) := by decide +kernel
theorem dL_middle_72 : decode cL_middle 72 = .ok (.goto 4, 3) := by decide +kernel
theorem dL_middle_75 : decode cL_middle 75 = .ok (.iconst 0, 1) := by decide +kernel
theorem dL_middle_76 : decode cL_middle 76 = .ok (.invokevirtual 127, 3) := by decide +kernel
theorem dL_middle_79 : decode cL_middle 79 = .ok (.goto 82, 3) := by decide +kernel
theorem dL_middle_82 : decode cL_middle 82 = .ok (.iload_n 1, 1) := by decide +kernel
theorem dL_middle_83 : decode cL_middle 83 = .ok (.bipush 21, 2) := by decide +kernel
theorem dL_middle_85 : decode cL_middle 85 = .ok (.if_icmp .ne 13, 3) := by decide +kernel
theorem dL_middle_88 : decode cL_middle 88 = .ok (.aload_n 0, 1) := by decide +kernel
theorem dL_middle_89 : decode cL_middle 89 = .ok (.iload_n 2, 1) := by decide +kernel
theorem dL_middle_90 : decode cL_middle 90 = .ok (.i2l, 1) := by decide +kernel
theorem dL_middle_91 : decode cL_middle 91 = .ok (.iload_n 3, 1) := by decide +kernel
theorem dL_middle_92 : decode cL_middle 92 = .ok (.invokevirtual 131, 3) := by decide +kernel
theorem dL_middle_95 : decode cL_middle 95 = .ok (.goto 66, 3) := by decide +kernel
theorem dL_middle_98 : decode cL_middle 98 = .ok (.iload_n 1, 1) := by decide +kernel
theorem dL_middle_99 : decode cL_middle 99 = .ok (.bipush 22, 2) := by decide +kernel
theorem dL_middle_101 : decode cL_middle 101 = .ok (.if_icmp .ne 21, 3) := by decide +kernel
theorem dL_middle_104 : decode cL_middle 104 = .ok (.aload_n 0, 1) := by decide +kernel
theorem dL_middle_105 : decode cL_middle 105 = .ok (.iload_n 2, 1) := by decide +kernel
theorem dL_middle_106 : decode cL_middle 106 = .ok (.iload_n 3, 1) := by decide +kernel
theorem dL_middle_107 : decode cL_middle 107 = .ok (.iconst 1, 1) := by decide +kernel
theorem dL_middle_108 : decode cL_middle 108 = .ok (.if_icmp .ne 7, 3) := by decide +kernel
theorem dL_middle_111 : decode cL_middle 111 = .ok (.iconst 1, 1) := by decide +kernel
theorem dL_middle_112 : decode cL_middle 112 = .ok (.goto 4, 3) := by decide +kernel
theorem dL_middle_115 : decode cL_middle 115 = .ok (.iconst 0, 1) := by decide +kernel
theorem dL_middle_116 : decode cL_middle 116 = .ok (.invokevirtual 135, 3) := by decide +kernel
theorem dL_middle_119 : decode cL_middle 119 = .ok (.goto 42, 3) := by decide +kernel
theorem dL_middle_122 : decode cL_middle 122 = .ok (.iload_n 1, 1) := by decide +kernel
theorem dL_middle_123 : decode cL_middle 123 = .ok (.bipush 23, 2) := by decide +kernel
theorem dL_middle_125 : decode cL_middle 125 = .ok (.if_icmp .ne 12, 3) := by decide +kernel
theorem dL_middle_128 : decode cL_middle 128 = .ok (.aload_n 0, 1) := by decide +kernel
theorem dL_middle_129 : decode cL_middle 129 = .ok (.iload_n 2, 1) := by decide +kernel
theorem dL_middle_130 : decode cL_middle 130 = .ok (.iload_n 3, 1) := by decide +kernel
theorem dL_middle_131 : decode cL_middle 131 = .ok (.invokevirtual 138, 3) := by decide +kernel
theorem dL_middle_134 : decode cL_middle 134 = .ok (.goto 27, 3) := by decide +kernel
theorem dL_middle_137 : decode cL_middle 137 = .ok (.iload_n 1, 1) := by decide +kernel
theorem dL_middle_138 : decode cL_middle 138 = .ok (.bipush 24, 2) := by decide +kernel
theorem dL_middle_140 : decode cL_middle 140 = .ok (.if_icmp .ne 16, 3) := by decide +kernel
theorem dL_middle_143 : decode cL_middle 143 = .ok (.aload_n 0, 1) := by decide +kernel
theorem dL_middle_144 : decode cL_middle 144 = .ok (.iload_n 2, 1) := by decide +kernel
theorem dL_middle_145 : decode cL_middle 145 = .ok (.iload_n 3, 1) := by decide +kernel
theorem dL_middle_146 : decode cL_middle 146 = .ok (.iload 4, 2) := by decide +kernel
theorem dL_middle_148 : decode cL_middle 148 = .ok (.iload 5, 2) := by decide +kernel
theorem dL_middle_150 : decode cL_middle 150 = .ok (.invokevirtual 141, 3) := by decide +kernel
theorem dL_middle_153 : decode cL_middle 153 = .ok (.goto 8, 3) := by decide +kernel
theorem dL_middle_156 : decode cL_middle 156 = .ok (.aload_n 0, 1) := by decide +kernel
theorem dL_middle_157 : decode cL_middle 157 = .ok (.iload_n 2, 1) := by decide +kernel
theorem dL_middle_158 : decode cL_middle 158 = .ok (.invokevirtual 145, 3) := by decide +kernel
theorem dL_middle_161 : decode cL_middle 161 = .ok (.ireturn, 1) := by decide +kernel
theorem dX10_commentAt_0 : decode cX10_commentAt 0 = .ok (.iload_n 1, 1) := by decide +kernel
theorem dX10_commentAt_1 : decode cX10_commentAt 1 = .ok (.ifCond .lt 11, 3) := by decide +kernel
theorem dX10_commentAt_4 : decode cX10_commentAt 4 = .ok (.iload_n 1, 1) := by decide +kernel
theorem dX10_commentAt_5 : decode cX10_commentAt 5 = .ok (.aload_n 0, 1) := by decide +kernel
theorem dX10_commentAt_6 : decode cX10_commentAt 6 = .ok (.getfield 327, 3) := by decide +kernel
theorem dX10_commentAt_9 : decode cX10_commentAt 9 = .ok (.if_icmp .lt 14, 3) := by decide +kernel
theorem dX10_commentAt_12 : decode cX10_commentAt 12 = .ok (.new 162, 3) := by decide +kernel
theorem dX10_commentAt_15 : decode cX10_commentAt 15 = .ok (.dup, 1) := by decide +kernel
theorem dX10_commentAt_16 : decode cX10_commentAt 16 = .ok (.ldc_w 386, 3) := by decide +kernel
theorem dX10_commentAt_19 : decode cX10_commentAt 19 = .ok (.invokespecial 166, 3) := by decide +kernel
theorem dX10_commentAt_22 : decode cX10_commentAt 22 = .ok (.athrow, 1) := by decide +kernel
theorem dX10_commentAt_23 : decode cX10_commentAt 23 = .ok (.aload_n 0, 1) := by decide +kernel
theorem dX10_commentAt_24 : decode cX10_commentAt 24 = .ok (.getfield 61, 3) := by decide +kernel
theorem dX10_commentAt_27 : decode cX10_commentAt 27 = .ok (.iload_n 1, 1) := by decide +kernel
theorem dX10_commentAt_28 : decode cX10_commentAt 28 = .ok (.aaload, 1) := by decide +kernel
theorem dX10_commentAt_29 : decode cX10_commentAt 29 = .ok (.areturn, 1) := by decide +kernel
theorem dX10_change_0 : decode cX10_change 0 = .ok (.aload_n 0, 1) := by decide +kernel
theorem dX10_change_1 : decode cX10_change 1 = .ok (.iload_n 1, 1) := by decide +kernel
theorem dX10_change_2 : decode cX10_change 2 = .ok (.invokevirtual 318, 3) := by decide +kernel
theorem dX10_change_5 : decode cX10_change 5 = .ok (.astore_n 3, 1) := by decide +kernel
theorem dX10_change_6 : decode cX10_change 6 = .ok (.iload_n 2, 1) := by decide +kernel
theorem dX10_change_7 : decode cX10_change 7 = .ok (.tableswitch 101 0 3 #[29, 51, 65, 79], 29) := by decide +kernel
theorem dX10_change_36 : decode cX10_change 36 = .ok (.aload_n 3, 1) := by decide +kernel
theorem dX10_change_37 : decode cX10_change 37 = .ok (.getfield 339, 3) := by decide +kernel
theorem dX10_change_40 : decode cX10_change 40 = .ok (.ifCond .ne 7, 3) := by decide +kernel
theorem dX10_change_43 : decode cX10_change 43 = .ok (.iconst 1, 1) := by decide +kernel
theorem dX10_change_44 : decode cX10_change 44 = .ok (.goto 4, 3) := by decide +kernel
theorem dX10_change_47 : decode cX10_change 47 = .ok (.iconst 0, 1) := by decide +kernel
theorem dX10_change_48 : decode cX10_change 48 = .ok (.istore 4, 2) := by decide +kernel
theorem dX10_change_50 : decode cX10_change 50 = .ok (.aload_n 3, 1) := by decide +kernel
theorem dX10_change_51 : decode cX10_change 51 = .ok (.iconst 1, 1) := by decide +kernel
theorem dX10_change_52 : decode cX10_change 52 = .ok (.putfield 339, 3) := by decide +kernel
theorem dX10_change_55 : decode cX10_change 55 = .ok (.iload 4, 2) := by decide +kernel
theorem dX10_change_57 : decode cX10_change 57 = .ok (.ireturn, 1) := by decide +kernel
theorem dX10_change_58 : decode cX10_change 58 = .ok (.aload_n 3, 1) := by decide +kernel
theorem dX10_change_59 : decode cX10_change 59 = .ok (.getfield 339, 3) := by decide +kernel
theorem dX10_change_62 : decode cX10_change 62 = .ok (.istore 4, 2) := by decide +kernel
theorem dX10_change_64 : decode cX10_change 64 = .ok (.aload_n 3, 1) := by decide +kernel
theorem dX10_change_65 : decode cX10_change 65 = .ok (.iconst 0, 1) := by decide +kernel
theorem dX10_change_66 : decode cX10_change 66 = .ok (.putfield 339, 3) := by decide +kernel
theorem dX10_change_69 : decode cX10_change 69 = .ok (.iload 4, 2) := by decide +kernel
theorem dX10_change_71 : decode cX10_change 71 = .ok (.ireturn, 1) := by decide +kernel
theorem dX10_change_72 : decode cX10_change 72 = .ok (.aload_n 3, 1) := by decide +kernel
theorem dX10_change_73 : decode cX10_change 73 = .ok (.getfield 342, 3) := by decide +kernel
theorem dX10_change_76 : decode cX10_change 76 = .ok (.istore 4, 2) := by decide +kernel
theorem dX10_change_78 : decode cX10_change 78 = .ok (.aload_n 3, 1) := by decide +kernel
theorem dX10_change_79 : decode cX10_change 79 = .ok (.iconst 0, 1) := by decide +kernel
theorem dX10_change_80 : decode cX10_change 80 = .ok (.putfield 342, 3) := by decide +kernel
theorem dX10_change_83 : decode cX10_change 83 = .ok (.iload 4, 2) := by decide +kernel
theorem dX10_change_85 : decode cX10_change 85 = .ok (.ireturn, 1) := by decide +kernel
theorem dX10_change_86 : decode cX10_change 86 = .ok (.aload_n 3, 1) := by decide +kernel
theorem dX10_change_87 : decode cX10_change 87 = .ok (.getfield 345, 3) := by decide +kernel
theorem dX10_change_90 : decode cX10_change 90 = .ok (.ifCond .ne 7, 3) := by decide +kernel
theorem dX10_change_93 : decode cX10_change 93 = .ok (.iconst 1, 1) := by decide +kernel
theorem dX10_change_94 : decode cX10_change 94 = .ok (.goto 4, 3) := by decide +kernel
theorem dX10_change_97 : decode cX10_change 97 = .ok (.iconst 0, 1) := by decide +kernel
theorem dX10_change_98 : decode cX10_change 98 = .ok (.istore 4, 2) := by decide +kernel
theorem dX10_change_100 : decode cX10_change 100 = .ok (.aload_n 3, 1) := by decide +kernel
theorem dX10_change_101 : decode cX10_change 101 = .ok (.iconst 1, 1) := by decide +kernel
theorem dX10_change_102 : decode cX10_change 102 = .ok (.putfield 345, 3) := by decide +kernel
theorem dX10_change_105 : decode cX10_change 105 = .ok (.iload 4, 2) := by decide +kernel
theorem dX10_change_107 : decode cX10_change 107 = .ok (.ireturn, 1) := by decide +kernel
theorem dX10_change_108 : decode cX10_change 108 = .ok (.new 66, 3) := by decide +kernel
theorem dX10_change_111 : decode cX10_change 111 = .ok (.dup, 1) := by decide +kernel
theorem dX10_change_112 : decode cX10_change 112 = .ok (.ldc 232, 2) := by decide +kernel
theorem dX10_change_114 : decode cX10_change 114 = .ok (.invokespecial 70, 3) := by decide +kernel
theorem dX10_change_117 : decode cX10_change 117 = .ok (.athrow, 1) := by decide +kernel
theorem dX10_isBlockedBy_0 : decode cX10_isBlockedBy 0 = .ok (.iload_n 1, 1) := by decide +kernel
theorem dX10_isBlockedBy_1 : decode cX10_isBlockedBy 1 = .ok (.ifCond .lt 29, 3) := by decide +kernel
theorem dX10_isBlockedBy_4 : decode cX10_isBlockedBy 4 = .ok (.iload_n 1, 1) := by decide +kernel
theorem dX10_isBlockedBy_5 : decode cX10_isBlockedBy 5 = .ok (.bipush 12, 2) := by decide +kernel
theorem dX10_isBlockedBy_7 : decode cX10_isBlockedBy 7 = .ok (.if_icmp .ge 23, 3) := by decide +kernel
theorem dX10_isBlockedBy_10 : decode cX10_isBlockedBy 10 = .ok (.aload_n 0, 1) := by decide +kernel
theorem dX10_isBlockedBy_11 : decode cX10_isBlockedBy 11 = .ok (.getfield 15, 3) := by decide +kernel
theorem dX10_isBlockedBy_14 : decode cX10_isBlockedBy 14 = .ok (.iload_n 1, 1) := by decide +kernel
theorem dX10_isBlockedBy_15 : decode cX10_isBlockedBy 15 = .ok (.aaload, 1) := by decide +kernel
theorem dX10_isBlockedBy_16 : decode cX10_isBlockedBy 16 = .ok (.getfield 88, 3) := by decide +kernel
theorem dX10_isBlockedBy_19 : decode cX10_isBlockedBy 19 = .ok (.iload_n 2, 1) := by decide +kernel
theorem dX10_isBlockedBy_20 : decode cX10_isBlockedBy 20 = .ok (.invokestatic 91, 3) := by decide +kernel
theorem dX10_isBlockedBy_23 : decode cX10_isBlockedBy 23 = .ok (.ifCond .eq 7, 3) := by decide +kernel
theorem dX10_isBlockedBy_26 : decode cX10_isBlockedBy 26 = .ok (.iconst 1, 1) := by decide +kernel
theorem dX10_isBlockedBy_27 : decode cX10_isBlockedBy 27 = .ok (.goto 4, 3) := by decide +kernel
theorem dX10_isBlockedBy_30 : decode cX10_isBlockedBy 30 = .ok (.iconst 0, 1) := by decide +kernel
theorem dX10_isBlockedBy_31 : decode cX10_isBlockedBy 31 = .ok (.ireturn, 1) := by decide +kernel
theorem dX10_isBlockedByAny_0 : decode cX10_isBlockedByAny 0 = .ok (.iconst 0, 1) := by decide +kernel
theorem dX10_isBlockedByAny_1 : decode cX10_isBlockedByAny 1 = .ok (.istore_n 3, 1) := by decide +kernel
theorem dX10_isBlockedByAny_2 : decode cX10_isBlockedByAny 2 = .ok (.iload_n 3, 1) := by decide +kernel
theorem dX10_isBlockedByAny_3 : decode cX10_isBlockedByAny 3 = .ok (.bipush 12, 2) := by decide +kernel
theorem dX10_isBlockedByAny_5 : decode cX10_isBlockedByAny 5 = .ok (.if_icmp .ge 28, 3) := by decide +kernel
theorem dX10_isBlockedByAny_8 : decode cX10_isBlockedByAny 8 = .ok (.iload_n 1, 1) := by decide +kernel
theorem dX10_isBlockedByAny_9 : decode cX10_isBlockedByAny 9 = .ok (.iload_n 3, 1) := by decide +kernel
theorem dX10_isBlockedByAny_10 : decode cX10_isBlockedByAny 10 = .ok (.invokestatic 91, 3) := by decide +kernel
theorem dX10_isBlockedByAny_13 : decode cX10_isBlockedByAny 13 = .ok (.ifCond .eq 14, 3) := by decide +kernel
theorem dX10_isBlockedByAny_16 : decode cX10_isBlockedByAny 16 = .ok (.aload_n 0, 1) := by decide +kernel
theorem dX10_isBlockedByAny_17 : decode cX10_isBlockedByAny 17 = .ok (.iload_n 3, 1) := by decide +kernel
theorem dX10_isBlockedByAny_18 : decode cX10_isBlockedByAny 18 = .ok (.iload_n 2, 1) := by decide +kernel
theorem dX10_isBlockedByAny_19 : decode cX10_isBlockedByAny 19 = .ok (.invokevirtual 455, 3) := by decide +kernel
theorem dX10_isBlockedByAny_22 : decode cX10_isBlockedByAny 22 = .ok (.ifCond .eq 5, 3) := by decide +kernel
theorem dX10_isBlockedByAny_25 : decode cX10_isBlockedByAny 25 = .ok (.iconst 1, 1) := by decide +kernel
theorem dX10_isBlockedByAny_26 : decode cX10_isBlockedByAny 26 = .ok (.ireturn, 1) := by decide +kernel
theorem dX10_isBlockedByAny_27 : decode cX10_isBlockedByAny 27 = .ok (.iinc 3 1, 3) := by decide +kernel
theorem dX10_isBlockedByAny_30 : decode cX10_isBlockedByAny 30 = .ok (.goto (-28), 3) := by decide +kernel
theorem dX10_isBlockedByAny_33 : decode cX10_isBlockedByAny 33 = .ok (.iconst 0, 1) := by decide +kernel
theorem dX10_isBlockedByAny_34 : decode cX10_isBlockedByAny 34 = .ok (.ireturn, 1) := by decide +kernel
theorem dX10_isReadBy_0 : decode cX10_isReadBy 0 = .ok (.aload_n 2, 1) := by decide +kernel
theorem dX10_isReadBy_1 : decode cX10_isReadBy 1 = .ok (.getfield 345, 3) := by decide +kernel
theorem dX10_isReadBy_4 : decode cX10_isReadBy 4 = .ok (.ifCond .ne 15, 3) := by decide +kernel
theorem dX10_isReadBy_7 : decode cX10_isReadBy 7 = .ok (.aload_n 3, 1) := by decide +kernel
theorem dX10_isReadBy_8 : decode cX10_isReadBy 8 = .ok (.iload_n 1, 1) := by decide +kernel
theorem dX10_isReadBy_9 : decode cX10_isReadBy 9 = .ok (.aload_n 0, 1) := by decide +kernel
theorem dX10_isReadBy_10 : decode cX10_isReadBy 10 = .ok (.getfield 73, 3) := by decide +kernel
theorem dX10_isReadBy_13 : decode cX10_isReadBy 13 = .ok (.invokevirtual 173, 3) := by decide +kernel
theorem dX10_isReadBy_16 : decode cX10_isReadBy 16 = .ok (.ifCond .ne 5, 3) := by decide +kernel
theorem dX10_isReadBy_19 : decode cX10_isReadBy 19 = .ok (.iconst 0, 1) := by decide +kernel
theorem dX10_isReadBy_20 : decode cX10_isReadBy 20 = .ok (.ireturn, 1) := by decide +kernel
theorem dX10_isReadBy_21 : decode cX10_isReadBy 21 = .ok (.aload_n 2, 1) := by decide +kernel
theorem dX10_isReadBy_22 : decode cX10_isReadBy 22 = .ok (.getfield 342, 3) := by decide +kernel
theorem dX10_isReadBy_25 : decode cX10_isReadBy 25 = .ok (.ifCond .eq 19, 3) := by decide +kernel
theorem dX10_isReadBy_28 : decode cX10_isReadBy 28 = .ok (.aload_n 2, 1) := by decide +kernel
theorem dX10_isReadBy_29 : decode cX10_isReadBy 29 = .ok (.getfield 446, 3) := by decide +kernel
theorem dX10_isReadBy_32 : decode cX10_isReadBy 32 = .ok (.iload_n 1, 1) := by decide +kernel
theorem dX10_isReadBy_33 : decode cX10_isReadBy 33 = .ok (.if_icmp .eq 11, 3) := by decide +kernel
theorem dX10_isReadBy_36 : decode cX10_isReadBy 36 = .ok (.aload_n 3, 1) := by decide +kernel
theorem dX10_isReadBy_37 : decode cX10_isReadBy 37 = .ok (.iload_n 1, 1) := by decide +kernel
theorem dX10_isReadBy_38 : decode cX10_isReadBy 38 = .ok (.invokevirtual 125, 3) := by decide +kernel
theorem dX10_isReadBy_41 : decode cX10_isReadBy 41 = .ok (.ifCond .eq 7, 3) := by decide +kernel
theorem dX10_isReadBy_44 : decode cX10_isReadBy 44 = .ok (.iconst 1, 1) := by decide +kernel
theorem dX10_isReadBy_45 : decode cX10_isReadBy 45 = .ok (.goto 4, 3) := by decide +kernel
theorem dX10_isReadBy_48 : decode cX10_isReadBy 48 = .ok (.iconst 0, 1) := by decide +kernel
theorem dX10_isReadBy_49 : decode cX10_isReadBy 49 = .ok (.ireturn, 1) := by decide +kernel
theorem dX1_isFrozenHereOrAbove_0 : decode cX1_isFrozenHereOrAbove 0 = .ok (.aload_n 0, 1) := by decide +kernel
theorem dX1_isFrozenHereOrAbove_1 : decode cX1_isFrozenHereOrAbove 1 = .ok (.astore_n 1, 1) := by decide +kernel
theorem dX1_isFrozenHereOrAbove_2 : decode cX1_isFrozenHereOrAbove 2 = .ok (.aload_n 1, 1) := by decide +kernel
theorem dX1_isFrozenHereOrAbove_3 : decode cX1_isFrozenHereOrAbove 3 = .ok (.ifnull 20, 3) := by decide +kernel
theorem dX1_isFrozenHereOrAbove_6 : decode cX1_isFrozenHereOrAbove 6 = .ok (.aload_n 1, 1) := by decide +kernel
theorem dX1_isFrozenHereOrAbove_7 : decode cX1_isFrozenHereOrAbove 7 = .ok (.getfield 24, 3) := by decide +kernel
theorem dX1_isFrozenHereOrAbove_10 : decode cX1_isFrozenHereOrAbove 10 = .ok (.ifCond .eq 5, 3) := by decide +kernel
theorem dX1_isFrozenHereOrAbove_13 : decode cX1_isFrozenHereOrAbove 13 = .ok (.iconst 1, 1) := by decide +kernel
theorem dX1_isFrozenHereOrAbove_14 : decode cX1_isFrozenHereOrAbove 14 = .ok (.ireturn, 1) := by decide +kernel
theorem dX1_isFrozenHereOrAbove_15 : decode cX1_isFrozenHereOrAbove 15 = .ok (.aload_n 1, 1) := by decide +kernel
theorem dX1_isFrozenHereOrAbove_16 : decode cX1_isFrozenHereOrAbove 16 = .ok (.getfield 16, 3) := by decide +kernel
theorem dX1_isFrozenHereOrAbove_19 : decode cX1_isFrozenHereOrAbove 19 = .ok (.astore_n 1, 1) := by decide +kernel
theorem dX1_isFrozenHereOrAbove_20 : decode cX1_isFrozenHereOrAbove 20 = .ok (.goto (-18), 3) := by decide +kernel
theorem dX1_isFrozenHereOrAbove_23 : decode cX1_isFrozenHereOrAbove 23 = .ok (.iconst 0, 1) := by decide +kernel
theorem dX1_isFrozenHereOrAbove_24 : decode cX1_isFrozenHereOrAbove 24 = .ok (.ireturn, 1) := by decide +kernel
theorem dX10_mayComment_0 : decode cX10_mayComment 0 = .ok (.aload_n 1, 1) := by decide +kernel
theorem dX10_mayComment_1 : decode cX10_mayComment 1 = .ok (.iload_n 2, 1) := by decide +kernel
theorem dX10_mayComment_2 : decode cX10_mayComment 2 = .ok (.aload_n 0, 1) := by decide +kernel
theorem dX10_mayComment_3 : decode cX10_mayComment 3 = .ok (.getfield 73, 3) := by decide +kernel
theorem dX10_mayComment_6 : decode cX10_mayComment 6 = .ok (.invokevirtual 173, 3) := by decide +kernel
theorem dX10_mayComment_9 : decode cX10_mayComment 9 = .ok (.ifCond .eq 15, 3) := by decide +kernel
theorem dX10_mayComment_12 : decode cX10_mayComment 12 = .ok (.aload_n 0, 1) := by decide +kernel
theorem dX10_mayComment_13 : decode cX10_mayComment 13 = .ok (.aload_n 1, 1) := by decide +kernel
theorem dX10_mayComment_14 : decode cX10_mayComment 14 = .ok (.getfield 116, 3) := by decide +kernel
theorem dX10_mayComment_17 : decode cX10_mayComment 17 = .ok (.iload_n 2, 1) := by decide +kernel
theorem dX10_mayComment_18 : decode cX10_mayComment 18 = .ok (.invokevirtual 449, 3) := by decide +kernel
theorem dX10_mayComment_21 : decode cX10_mayComment 21 = .ok (.ifCond .eq 5, 3) := by decide +kernel
theorem dX10_mayComment_24 : decode cX10_mayComment 24 = .ok (.iconst 0, 1) := by decide +kernel
theorem dX10_mayComment_25 : decode cX10_mayComment 25 = .ok (.ireturn, 1) := by decide +kernel
theorem dX10_mayComment_26 : decode cX10_mayComment 26 = .ok (.aload_n 3, 1) := by decide +kernel
theorem dX10_mayComment_27 : decode cX10_mayComment 27 = .ok (.ifnonnull 5, 3) := by decide +kernel
theorem dX10_mayComment_30 : decode cX10_mayComment 30 = .ok (.iconst 1, 1) := by decide +kernel
theorem dX10_mayComment_31 : decode cX10_mayComment 31 = .ok (.ireturn, 1) := by decide +kernel
theorem dX10_mayComment_32 : decode cX10_mayComment 32 = .ok (.aload_n 0, 1) := by decide +kernel
theorem dX10_mayComment_33 : decode cX10_mayComment 33 = .ok (.iload_n 2, 1) := by decide +kernel
theorem dX10_mayComment_34 : decode cX10_mayComment 34 = .ok (.aload_n 3, 1) := by decide +kernel
theorem dX10_mayComment_35 : decode cX10_mayComment 35 = .ok (.aload_n 1, 1) := by decide +kernel
theorem dX10_mayComment_36 : decode cX10_mayComment 36 = .ok (.invokevirtual 348, 3) := by decide +kernel
theorem dX10_mayComment_39 : decode cX10_mayComment 39 = .ok (.ifCond .eq 26, 3) := by decide +kernel
theorem dX10_mayComment_42 : decode cX10_mayComment 42 = .ok (.aload_n 3, 1) := by decide +kernel
theorem dX10_mayComment_43 : decode cX10_mayComment 43 = .ok (.invokevirtual 452, 3) := by decide +kernel
theorem dX10_mayComment_46 : decode cX10_mayComment 46 = .ok (.ifCond .ne 19, 3) := by decide +kernel
theorem dX10_mayComment_49 : decode cX10_mayComment 49 = .ok (.aload_n 0, 1) := by decide +kernel
theorem dX10_mayComment_50 : decode cX10_mayComment 50 = .ok (.aload_n 3, 1) := by decide +kernel
theorem dX10_mayComment_51 : decode cX10_mayComment 51 = .ok (.getfield 446, 3) := by decide +kernel
theorem dX10_mayComment_54 : decode cX10_mayComment 54 = .ok (.iload_n 2, 1) := by decide +kernel
theorem dX10_mayComment_55 : decode cX10_mayComment 55 = .ok (.invokevirtual 455, 3) := by decide +kernel
theorem dX10_mayComment_58 : decode cX10_mayComment 58 = .ok (.ifCond .ne 7, 3) := by decide +kernel
theorem dX10_mayComment_61 : decode cX10_mayComment 61 = .ok (.iconst 1, 1) := by decide +kernel
theorem dX10_mayComment_62 : decode cX10_mayComment 62 = .ok (.goto 4, 3) := by decide +kernel
theorem dX10_mayComment_65 : decode cX10_mayComment 65 = .ok (.iconst 0, 1) := by decide +kernel
theorem dX10_mayComment_66 : decode cX10_mayComment 66 = .ok (.ireturn, 1) := by decide +kernel
theorem dX1_init_0 : decode cX1_init 0 = .ok (.aload_n 0, 1) := by decide +kernel
theorem dX1_init_1 : decode cX1_init 1 = .ok (.invokespecial 1, 3) := by decide +kernel
theorem dX1_init_4 : decode cX1_init 4 = .ok (.aload_n 0, 1) := by decide +kernel
theorem dX1_init_5 : decode cX1_init 5 = .ok (.iload_n 1, 1) := by decide +kernel
theorem dX1_init_6 : decode cX1_init 6 = .ok (.putfield 7, 3) := by decide +kernel
theorem dX1_init_9 : decode cX1_init 9 = .ok (.aload_n 0, 1) := by decide +kernel
theorem dX1_init_10 : decode cX1_init 10 = .ok (.iload_n 2, 1) := by decide +kernel
theorem dX1_init_11 : decode cX1_init 11 = .ok (.putfield 13, 3) := by decide +kernel
theorem dX1_init_14 : decode cX1_init 14 = .ok (.aload_n 0, 1) := by decide +kernel
theorem dX1_init_15 : decode cX1_init 15 = .ok (.aload_n 3, 1) := by decide +kernel
theorem dX1_init_16 : decode cX1_init 16 = .ok (.putfield 16, 3) := by decide +kernel
theorem dX1_init_19 : decode cX1_init 19 = .ok (.aload_n 0, 1) := by decide +kernel
theorem dX1_init_20 : decode cX1_init 20 = .ok (.iload 4, 2) := by decide +kernel
theorem dX1_init_22 : decode cX1_init 22 = .ok (.putfield 20, 3) := by decide +kernel
theorem dX1_init_25 : decode cX1_init 25 = .ok (.return_, 1) := by decide +kernel
theorem dX10_comment_0 : decode cX10_comment 0 = .ok (.aload_n 0, 1) := by decide +kernel
theorem dX10_comment_1 : decode cX10_comment 1 = .ok (.iload_n 1, 1) := by decide +kernel
theorem dX10_comment_2 : decode cX10_comment 2 = .ok (.invokevirtual 112, 3) := by decide +kernel
theorem dX10_comment_5 : decode cX10_comment 5 = .ok (.astore 4, 2) := by decide +kernel
theorem dX10_comment_7 : decode cX10_comment 7 = .ok (.iload_n 2, 1) := by decide +kernel
theorem dX10_comment_8 : decode cX10_comment 8 = .ok (.invokestatic 99, 3) := by decide +kernel
theorem dX10_comment_11 : decode cX10_comment 11 = .ok (.iload_n 3, 1) := by decide +kernel
theorem dX10_comment_12 : decode cX10_comment 12 = .ok (.iconst (-1), 1) := by decide +kernel
theorem dX10_comment_13 : decode cX10_comment 13 = .ok (.if_icmp .ne 7, 3) := by decide +kernel
theorem dX10_comment_16 : decode cX10_comment 16 = .ok (.aconst_null, 1) := by decide +kernel
theorem dX10_comment_17 : decode cX10_comment 17 = .ok (.goto 8, 3) := by decide +kernel
theorem dX10_comment_20 : decode cX10_comment 20 = .ok (.aload_n 0, 1) := by decide +kernel
theorem dX10_comment_21 : decode cX10_comment 21 = .ok (.iload_n 3, 1) := by decide +kernel
theorem dX10_comment_22 : decode cX10_comment 22 = .ok (.invokevirtual 318, 3) := by decide +kernel
theorem dX10_comment_25 : decode cX10_comment 25 = .ok (.astore 5, 2) := by decide +kernel
theorem dX10_comment_27 : decode cX10_comment 27 = .ok (.aload 5, 2) := by decide +kernel
theorem dX10_comment_29 : decode cX10_comment 29 = .ok (.ifnull 23, 3) := by decide +kernel
theorem dX10_comment_32 : decode cX10_comment 32 = .ok (.aload 5, 2) := by decide +kernel
theorem dX10_comment_34 : decode cX10_comment 34 = .ok (.getfield 322, 3) := by decide +kernel
theorem dX10_comment_37 : decode cX10_comment 37 = .ok (.iload_n 1, 1) := by decide +kernel
theorem dX10_comment_38 : decode cX10_comment 38 = .ok (.if_icmp .eq 14, 3) := by decide +kernel
theorem dX10_comment_41 : decode cX10_comment 41 = .ok (.new 66, 3) := by decide +kernel
theorem dX10_comment_44 : decode cX10_comment 44 = .ok (.dup, 1) := by decide +kernel
theorem dX10_comment_45 : decode cX10_comment 45 = .ok (.ldc_w 325, 3) := by decide +kernel
theorem dX10_comment_48 : decode cX10_comment 48 = .ok (.invokespecial 70, 3) := by decide +kernel
theorem dX10_comment_51 : decode cX10_comment 51 = .ok (.athrow, 1) := by decide +kernel
theorem dX10_comment_52 : decode cX10_comment 52 = .ok (.aload_n 0, 1) := by decide +kernel
theorem dX10_comment_53 : decode cX10_comment 53 = .ok (.getfield 327, 3) := by decide +kernel
theorem dX10_comment_56 : decode cX10_comment 56 = .ok (.bipush 60, 2) := by decide +kernel
theorem dX10_comment_58 : decode cX10_comment 58 = .ok (.if_icmp .ge 15, 3) := by decide +kernel
theorem dX10_comment_61 : decode cX10_comment 61 = .ok (.aload_n 0, 1) := by decide +kernel
theorem dX10_comment_62 : decode cX10_comment 62 = .ok (.aload 4, 2) := by decide +kernel
theorem dX10_comment_64 : decode cX10_comment 64 = .ok (.iload_n 2, 1) := by decide +kernel
theorem dX10_comment_65 : decode cX10_comment 65 = .ok (.aload 5, 2) := by decide +kernel
theorem dX10_comment_67 : decode cX10_comment 67 = .ok (.invokevirtual 330, 3) := by decide +kernel
theorem dX10_comment_70 : decode cX10_comment 70 = .ok (.ifCond .ne 14, 3) := by decide +kernel
theorem dX10_comment_73 : decode cX10_comment 73 = .ok (.new 77, 3) := by decide +kernel
theorem dX10_comment_76 : decode cX10_comment 76 = .ok (.dup, 1) := by decide +kernel
theorem dX10_comment_77 : decode cX10_comment 77 = .ok (.ldc_w 334, 3) := by decide +kernel
theorem dX10_comment_80 : decode cX10_comment 80 = .ok (.invokespecial 81, 3) := by decide +kernel
theorem dX10_comment_83 : decode cX10_comment 83 = .ok (.athrow, 1) := by decide +kernel
theorem dX10_comment_84 : decode cX10_comment 84 = .ok (.aload 4, 2) := by decide +kernel
theorem dX10_comment_86 : decode cX10_comment 86 = .ok (.getfield 315, 3) := by decide +kernel
theorem dX10_comment_89 : decode cX10_comment 89 = .ok (.ifCond .eq 16, 3) := by decide +kernel
theorem dX10_comment_92 : decode cX10_comment 92 = .ok (.aload 4, 2) := by decide +kernel
theorem dX10_comment_94 : decode cX10_comment 94 = .ok (.iload_n 2, 1) := by decide +kernel
theorem dX10_comment_95 : decode cX10_comment 95 = .ok (.invokevirtual 125, 3) := by decide +kernel
theorem dX10_comment_98 : decode cX10_comment 98 = .ok (.ifCond .ne 7, 3) := by decide +kernel
theorem dX10_comment_101 : decode cX10_comment 101 = .ok (.iconst 1, 1) := by decide +kernel
theorem dX10_comment_102 : decode cX10_comment 102 = .ok (.goto 4, 3) := by decide +kernel
theorem dX10_comment_105 : decode cX10_comment 105 = .ok (.iconst 0, 1) := by decide +kernel
theorem dX10_comment_106 : decode cX10_comment 106 = .ok (.istore 6, 2) := by decide +kernel
theorem dX10_comment_108 : decode cX10_comment 108 = .ok (.aload_n 0, 1) := by decide +kernel
theorem dX10_comment_109 : decode cX10_comment 109 = .ok (.getfield 61, 3) := by decide +kernel
theorem dX10_comment_112 : decode cX10_comment 112 = .ok (.aload_n 0, 1) := by decide +kernel
theorem dX10_comment_113 : decode cX10_comment 113 = .ok (.getfield 327, 3) := by decide +kernel
theorem dX10_comment_116 : decode cX10_comment 116 = .ok (.new 59, 3) := by decide +kernel
theorem dX10_comment_119 : decode cX10_comment 119 = .ok (.dup, 1) := by decide +kernel
theorem dX10_comment_120 : decode cX10_comment 120 = .ok (.iload_n 1, 1) := by decide +kernel
theorem dX10_comment_121 : decode cX10_comment 121 = .ok (.iload_n 2, 1) := by decide +kernel
theorem dX10_comment_122 : decode cX10_comment 122 = .ok (.aload 5, 2) := by decide +kernel
theorem dX10_comment_124 : decode cX10_comment 124 = .ok (.iload 6, 2) := by decide +kernel
theorem dX10_comment_126 : decode cX10_comment 126 = .ok (.invokespecial 336, 3) := by decide +kernel
theorem dX10_comment_129 : decode cX10_comment 129 = .ok (.aastore, 1) := by decide +kernel
theorem dX10_comment_130 : decode cX10_comment 130 = .ok (.aload_n 0, 1) := by decide +kernel
theorem dX10_comment_131 : decode cX10_comment 131 = .ok (.dup, 1) := by decide +kernel
theorem dX10_comment_132 : decode cX10_comment 132 = .ok (.getfield 327, 3) := by decide +kernel
theorem dX10_comment_135 : decode cX10_comment 135 = .ok (.iconst 1, 1) := by decide +kernel
theorem dX10_comment_136 : decode cX10_comment 136 = .ok (.iadd, 1) := by decide +kernel
theorem dX10_comment_137 : decode cX10_comment 137 = .ok (.putfield 327, 3) := by decide +kernel
theorem dX10_comment_140 : decode cX10_comment 140 = .ok (.aload_n 0, 1) := by decide +kernel
theorem dX10_comment_141 : decode cX10_comment 141 = .ok (.getfield 327, 3) := by decide +kernel
theorem dX10_comment_144 : decode cX10_comment 144 = .ok (.iconst 1, 1) := by decide +kernel
theorem dX10_comment_145 : decode cX10_comment 145 = .ok (.isub, 1) := by decide +kernel
theorem dX10_comment_146 : decode cX10_comment 146 = .ok (.ireturn, 1) := by decide +kernel
theorem dX3_firstDayOfAny_0 : decode cX3_firstDayOfAny 0 = .ok (.sipush 2001, 3) := by decide +kernel
theorem dX3_firstDayOfAny_3 : decode cX3_firstDayOfAny 3 = .ok (.istore_n 2, 1) := by decide +kernel
theorem dX3_firstDayOfAny_4 : decode cX3_firstDayOfAny 4 = .ok (.iconst 0, 1) := by decide +kernel
theorem dX3_firstDayOfAny_5 : decode cX3_firstDayOfAny 5 = .ok (.istore_n 3, 1) := by decide +kernel
theorem dX3_firstDayOfAny_6 : decode cX3_firstDayOfAny 6 = .ok (.iload_n 3, 1) := by decide +kernel
theorem dX3_firstDayOfAny_7 : decode cX3_firstDayOfAny 7 = .ok (.bipush 12, 2) := by decide +kernel
theorem dX3_firstDayOfAny_9 : decode cX3_firstDayOfAny 9 = .ok (.if_icmp .ge 28, 3) := by decide +kernel
theorem dX3_firstDayOfAny_12 : decode cX3_firstDayOfAny 12 = .ok (.iload_n 1, 1) := by decide +kernel
theorem dX3_firstDayOfAny_13 : decode cX3_firstDayOfAny 13 = .ok (.iload_n 3, 1) := by decide +kernel
theorem dX3_firstDayOfAny_14 : decode cX3_firstDayOfAny 14 = .ok (.invokestatic 27, 3) := by decide +kernel
theorem dX3_firstDayOfAny_17 : decode cX3_firstDayOfAny 17 = .ok (.ifCond .eq 14, 3) := by decide +kernel
theorem dX3_firstDayOfAny_20 : decode cX3_firstDayOfAny 20 = .ok (.iload_n 2, 1) := by decide +kernel
theorem dX3_firstDayOfAny_21 : decode cX3_firstDayOfAny 21 = .ok (.aload_n 0, 1) := by decide +kernel
theorem dX3_firstDayOfAny_22 : decode cX3_firstDayOfAny 22 = .ok (.getfield 15, 3) := by decide +kernel
theorem dX3_firstDayOfAny_25 : decode cX3_firstDayOfAny 25 = .ok (.iload_n 3, 1) := by decide +kernel
theorem dX3_firstDayOfAny_26 : decode cX3_firstDayOfAny 26 = .ok (.iaload, 1) := by decide +kernel
theorem dX3_firstDayOfAny_27 : decode cX3_firstDayOfAny 27 = .ok (.invokestatic 31, 3) := by decide +kernel
theorem dX3_firstDayOfAny_30 : decode cX3_firstDayOfAny 30 = .ok (.istore_n 2, 1) := by decide +kernel
theorem dX3_firstDayOfAny_31 : decode cX3_firstDayOfAny 31 = .ok (.iinc 3 1, 3) := by decide +kernel
theorem dX3_firstDayOfAny_34 : decode cX3_firstDayOfAny 34 = .ok (.goto (-28), 3) := by decide +kernel
theorem dX3_firstDayOfAny_37 : decode cX3_firstDayOfAny 37 = .ok (.iload_n 2, 1) := by decide +kernel
theorem dX3_firstDayOfAny_38 : decode cX3_firstDayOfAny 38 = .ok (.ireturn, 1) := by decide +kernel
theorem dX9_chaptersOutFrom_0 : decode cX9_chaptersOutFrom 0 = .ok (.iconst 0, 1) := by decide +kernel
theorem dX9_chaptersOutFrom_1 : decode cX9_chaptersOutFrom 1 = .ok (.istore_n 2, 1) := by decide +kernel
theorem dX9_chaptersOutFrom_2 : decode cX9_chaptersOutFrom 2 = .ok (.iconst 0, 1) := by decide +kernel
theorem dX9_chaptersOutFrom_3 : decode cX9_chaptersOutFrom 3 = .ok (.istore_n 3, 1) := by decide +kernel
theorem dX9_chaptersOutFrom_4 : decode cX9_chaptersOutFrom 4 = .ok (.iload_n 3, 1) := by decide +kernel
theorem dX9_chaptersOutFrom_5 : decode cX9_chaptersOutFrom 5 = .ok (.aload_n 0, 1) := by decide +kernel
theorem dX9_chaptersOutFrom_6 : decode cX9_chaptersOutFrom 6 = .ok (.getfield 62, 3) := by decide +kernel
theorem dX9_chaptersOutFrom_9 : decode cX9_chaptersOutFrom 9 = .ok (.if_icmp .ge 29, 3) := by decide +kernel
theorem dX9_chaptersOutFrom_12 : decode cX9_chaptersOutFrom 12 = .ok (.iload_n 2, 1) := by decide +kernel
theorem dX9_chaptersOutFrom_13 : decode cX9_chaptersOutFrom 13 = .ok (.iload_n 3, 1) := by decide +kernel
theorem dX9_chaptersOutFrom_14 : decode cX9_chaptersOutFrom 14 = .ok (.aload_n 0, 1) := by decide +kernel
theorem dX9_chaptersOutFrom_15 : decode cX9_chaptersOutFrom 15 = .ok (.iload_n 3, 1) := by decide +kernel
theorem dX9_chaptersOutFrom_16 : decode cX9_chaptersOutFrom 16 = .ok (.invokevirtual 65, 3) := by decide +kernel
theorem dX9_chaptersOutFrom_19 : decode cX9_chaptersOutFrom 19 = .ok (.iload_n 1, 1) := by decide +kernel
theorem dX9_chaptersOutFrom_20 : decode cX9_chaptersOutFrom 20 = .ok (.if_icmp .lt 7, 3) := by decide +kernel
theorem dX9_chaptersOutFrom_23 : decode cX9_chaptersOutFrom 23 = .ok (.iconst 1, 1) := by decide +kernel
theorem dX9_chaptersOutFrom_24 : decode cX9_chaptersOutFrom 24 = .ok (.goto 4, 3) := by decide +kernel
theorem dX9_chaptersOutFrom_27 : decode cX9_chaptersOutFrom 27 = .ok (.iconst 0, 1) := by decide +kernel
theorem dX9_chaptersOutFrom_28 : decode cX9_chaptersOutFrom 28 = .ok (.invokestatic 69, 3) := by decide +kernel
theorem dX9_chaptersOutFrom_31 : decode cX9_chaptersOutFrom 31 = .ok (.istore_n 2, 1) := by decide +kernel
theorem dX9_chaptersOutFrom_32 : decode cX9_chaptersOutFrom 32 = .ok (.iinc 3 1, 3) := by decide +kernel
theorem dX9_chaptersOutFrom_35 : decode cX9_chaptersOutFrom 35 = .ok (.goto (-31), 3) := by decide +kernel
theorem dX9_chaptersOutFrom_38 : decode cX9_chaptersOutFrom 38 = .ok (.iload_n 2, 1) := by decide +kernel
theorem dX9_chaptersOutFrom_39 : decode cX9_chaptersOutFrom 39 = .ok (.ireturn, 1) := by decide +kernel
theorem dX10_newChapters_0 : decode cX10_newChapters 0 = .ok (.aload_n 0, 1) := by decide +kernel
theorem dX10_newChapters_1 : decode cX10_newChapters 1 = .ok (.getfield 21, 3) := by decide +kernel
theorem dX10_newChapters_4 : decode cX10_newChapters 4 = .ok (.iload_n 2, 1) := by decide +kernel
theorem dX10_newChapters_5 : decode cX10_newChapters 5 = .ok (.aaload, 1) := by decide +kernel
theorem dX10_newChapters_6 : decode cX10_newChapters 6 = .ok (.astore_n 3, 1) := by decide +kernel
theorem dX10_newChapters_7 : decode cX10_newChapters 7 = .ok (.aload_n 0, 1) := by decide +kernel
theorem dX10_newChapters_8 : decode cX10_newChapters 8 = .ok (.getfield 15, 3) := by decide +kernel
theorem dX10_newChapters_11 : decode cX10_newChapters 11 = .ok (.iload_n 1, 1) := by decide +kernel
theorem dX10_newChapters_12 : decode cX10_newChapters 12 = .ok (.aaload, 1) := by decide +kernel
theorem dX10_newChapters_13 : decode cX10_newChapters 13 = .ok (.astore 4, 2) := by decide +kernel
theorem dX10_newChapters_15 : decode cX10_newChapters 15 = .ok (.aload_n 3, 1) := by decide +kernel
theorem dX10_newChapters_16 : decode cX10_newChapters 16 = .ok (.invokevirtual 141, 3) := by decide +kernel
theorem dX10_newChapters_19 : decode cX10_newChapters 19 = .ok (.ifCond .eq 23, 3) := by decide +kernel
theorem dX10_newChapters_22 : decode cX10_newChapters 22 = .ok (.aload_n 3, 1) := by decide +kernel
theorem dX10_newChapters_23 : decode cX10_newChapters 23 = .ok (.iload_n 1, 1) := by decide +kernel
theorem dX10_newChapters_24 : decode cX10_newChapters 24 = .ok (.aload_n 0, 1) := by decide +kernel
theorem dX10_newChapters_25 : decode cX10_newChapters 25 = .ok (.getfield 73, 3) := by decide +kernel
theorem dX10_newChapters_28 : decode cX10_newChapters 28 = .ok (.invokevirtual 173, 3) := by decide +kernel
theorem dX10_newChapters_31 : decode cX10_newChapters 31 = .ok (.ifCond .eq 11, 3) := by decide +kernel
theorem dX10_newChapters_34 : decode cX10_newChapters 34 = .ok (.aload_n 3, 1) := by decide +kernel
theorem dX10_newChapters_35 : decode cX10_newChapters 35 = .ok (.iload_n 1, 1) := by decide +kernel
theorem dX10_newChapters_36 : decode cX10_newChapters 36 = .ok (.invokevirtual 125, 3) := by decide +kernel
theorem dX10_newChapters_39 : decode cX10_newChapters 39 = .ok (.ifCond .eq 5, 3) := by decide +kernel
theorem dX10_newChapters_42 : decode cX10_newChapters 42 = .ok (.iconst 0, 1) := by decide +kernel
theorem dX10_newChapters_43 : decode cX10_newChapters 43 = .ok (.ireturn, 1) := by decide +kernel
theorem dX10_newChapters_44 : decode cX10_newChapters 44 = .ok (.aload 4, 2) := by decide +kernel
theorem dX10_newChapters_46 : decode cX10_newChapters 46 = .ok (.getfield 367, 3) := by decide +kernel
theorem dX10_newChapters_49 : decode cX10_newChapters 49 = .ok (.iload_n 2, 1) := by decide +kernel
theorem dX10_newChapters_50 : decode cX10_newChapters 50 = .ok (.iaload, 1) := by decide +kernel
theorem dX10_newChapters_51 : decode cX10_newChapters 51 = .ok (.aload 4, 2) := by decide +kernel
theorem dX10_newChapters_53 : decode cX10_newChapters 53 = .ok (.aload_n 3, 1) := by decide +kernel
theorem dX10_newChapters_54 : decode cX10_newChapters 54 = .ok (.iload_n 1, 1) := by decide +kernel
theorem dX10_newChapters_55 : decode cX10_newChapters 55 = .ok (.aload_n 0, 1) := by decide +kernel
theorem dX10_newChapters_56 : decode cX10_newChapters 56 = .ok (.getfield 73, 3) := by decide +kernel
theorem dX10_newChapters_59 : decode cX10_newChapters 59 = .ok (.invokevirtual 176, 3) := by decide +kernel
theorem dX10_newChapters_62 : decode cX10_newChapters 62 = .ok (.invokevirtual 458, 3) := by decide +kernel
theorem dX10_newChapters_65 : decode cX10_newChapters 65 = .ok (.invokestatic 461, 3) := by decide +kernel
theorem dX10_newChapters_68 : decode cX10_newChapters 68 = .ok (.istore 5, 2) := by decide +kernel
theorem dX10_newChapters_70 : decode cX10_newChapters 70 = .ok (.aload_n 3, 1) := by decide +kernel
theorem dX10_newChapters_71 : decode cX10_newChapters 71 = .ok (.iload 5, 2) := by decide +kernel
theorem dX10_newChapters_73 : decode cX10_newChapters 73 = .ok (.invokevirtual 466, 3) := by decide +kernel
theorem dX10_newChapters_76 : decode cX10_newChapters 76 = .ok (.aload 4, 2) := by decide +kernel
theorem dX10_newChapters_78 : decode cX10_newChapters 78 = .ok (.getfield 373, 3) := by decide +kernel
theorem dX10_newChapters_81 : decode cX10_newChapters 81 = .ok (.iload_n 2, 1) := by decide +kernel
theorem dX10_newChapters_82 : decode cX10_newChapters 82 = .ok (.iaload, 1) := by decide +kernel
theorem dX10_newChapters_83 : decode cX10_newChapters 83 = .ok (.iconst (-1), 1) := by decide +kernel
theorem dX10_newChapters_84 : decode cX10_newChapters 84 = .ok (.ixor, 1) := by decide +kernel
theorem dX10_newChapters_85 : decode cX10_newChapters 85 = .ok (.iand, 1) := by decide +kernel
theorem dX10_newChapters_86 : decode cX10_newChapters 86 = .ok (.ireturn, 1) := by decide +kernel
theorem dX10_digest_0 : decode cX10_digest 0 = .ok (.iload_n 1, 1) := by decide +kernel
theorem dX10_digest_1 : decode cX10_digest 1 = .ok (.invokestatic 82, 3) := by decide +kernel
theorem dX10_digest_4 : decode cX10_digest 4 = .ok (.aload_n 0, 1) := by decide +kernel
theorem dX10_digest_5 : decode cX10_digest 5 = .ok (.getfield 15, 3) := by decide +kernel
theorem dX10_digest_8 : decode cX10_digest 8 = .ok (.iload_n 1, 1) := by decide +kernel
theorem dX10_digest_9 : decode cX10_digest 9 = .ok (.aaload, 1) := by decide +kernel
theorem dX10_digest_10 : decode cX10_digest 10 = .ok (.astore_n 2, 1) := by decide +kernel
theorem dX10_digest_11 : decode cX10_digest 11 = .ok (.iconst 0, 1) := by decide +kernel
theorem dX10_digest_12 : decode cX10_digest 12 = .ok (.istore_n 3, 1) := by decide +kernel
theorem dX10_digest_13 : decode cX10_digest 13 = .ok (.iconst 0, 1) := by decide +kernel
theorem dX10_digest_14 : decode cX10_digest 14 = .ok (.istore 4, 2) := by decide +kernel
theorem dX10_digest_16 : decode cX10_digest 16 = .ok (.iload 4, 2) := by decide +kernel
theorem dX10_digest_18 : decode cX10_digest 18 = .ok (.aload_n 0, 1) := by decide +kernel
theorem dX10_digest_19 : decode cX10_digest 19 = .ok (.getfield 104, 3) := by decide +kernel
theorem dX10_digest_22 : decode cX10_digest 22 = .ok (.if_icmp .ge 38, 3) := by decide +kernel
theorem dX10_digest_25 : decode cX10_digest 25 = .ok (.aload_n 0, 1) := by decide +kernel
theorem dX10_digest_26 : decode cX10_digest 26 = .ok (.iload_n 1, 1) := by decide +kernel
theorem dX10_digest_27 : decode cX10_digest 27 = .ok (.iload 4, 2) := by decide +kernel
theorem dX10_digest_29 : decode cX10_digest 29 = .ok (.invokevirtual 370, 3) := by decide +kernel
theorem dX10_digest_32 : decode cX10_digest 32 = .ok (.istore 5, 2) := by decide +kernel
theorem dX10_digest_34 : decode cX10_digest 34 = .ok (.aload_n 2, 1) := by decide +kernel
theorem dX10_digest_35 : decode cX10_digest 35 = .ok (.getfield 373, 3) := by decide +kernel
theorem dX10_digest_38 : decode cX10_digest 38 = .ok (.iload 4, 2) := by decide +kernel
theorem dX10_digest_40 : decode cX10_digest 40 = .ok (.dup2, 1) := by decide +kernel
theorem dX10_digest_41 : decode cX10_digest 41 = .ok (.iaload, 1) := by decide +kernel
theorem dX10_digest_42 : decode cX10_digest 42 = .ok (.iload 5, 2) := by decide +kernel
theorem dX10_digest_44 : decode cX10_digest 44 = .ok (.ior, 1) := by decide +kernel
theorem dX10_digest_45 : decode cX10_digest 45 = .ok (.iastore, 1) := by decide +kernel
theorem dX10_digest_46 : decode cX10_digest 46 = .ok (.iload_n 3, 1) := by decide +kernel
theorem dX10_digest_47 : decode cX10_digest 47 = .ok (.iload 5, 2) := by decide +kernel
theorem dX10_digest_49 : decode cX10_digest 49 = .ok (.invokestatic 119, 3) := by decide +kernel
theorem dX10_digest_52 : decode cX10_digest 52 = .ok (.iadd, 1) := by decide +kernel
theorem dX10_digest_53 : decode cX10_digest 53 = .ok (.istore_n 3, 1) := by decide +kernel
theorem dX10_digest_54 : decode cX10_digest 54 = .ok (.iinc 4 1, 3) := by decide +kernel
theorem dX10_digest_57 : decode cX10_digest 57 = .ok (.goto (-41), 3) := by decide +kernel
theorem dX10_digest_60 : decode cX10_digest 60 = .ok (.iload_n 3, 1) := by decide +kernel
theorem dX10_digest_61 : decode cX10_digest 61 = .ok (.ireturn, 1) := by decide +kernel
theorem dX10_countKudos_0 : decode cX10_countKudos 0 = .ok (.iconst 0, 1) := by decide +kernel
theorem dX10_countKudos_1 : decode cX10_countKudos 1 = .ok (.istore_n 2, 1) := by decide +kernel
theorem dX10_countKudos_2 : decode cX10_countKudos 2 = .ok (.iconst 0, 1) := by decide +kernel
theorem dX10_countKudos_3 : decode cX10_countKudos 3 = .ok (.istore_n 3, 1) := by decide +kernel
theorem dX10_countKudos_4 : decode cX10_countKudos 4 = .ok (.iload_n 3, 1) := by decide +kernel
theorem dX10_countKudos_5 : decode cX10_countKudos 5 = .ok (.bipush 32, 2) := by decide +kernel
theorem dX10_countKudos_7 : decode cX10_countKudos 7 = .ok (.if_icmp .ge 47, 3) := by decide +kernel
theorem dX10_countKudos_10 : decode cX10_countKudos 10 = .ok (.iconst 1, 1) := by decide +kernel
theorem dX10_countKudos_11 : decode cX10_countKudos 11 = .ok (.iload_n 3, 1) := by decide +kernel
theorem dX10_countKudos_12 : decode cX10_countKudos 12 = .ok (.ishl, 1) := by decide +kernel
theorem dX10_countKudos_13 : decode cX10_countKudos 13 = .ok (.iconst 1, 1) := by decide +kernel
theorem dX10_countKudos_14 : decode cX10_countKudos 14 = .ok (.isub, 1) := by decide +kernel
theorem dX10_countKudos_15 : decode cX10_countKudos 15 = .ok (.istore 4, 2) := by decide +kernel
theorem dX10_countKudos_17 : decode cX10_countKudos 17 = .ok (.aload_n 1, 1) := by decide +kernel
theorem dX10_countKudos_18 : decode cX10_countKudos 18 = .ok (.getfield 352, 3) := by decide +kernel
theorem dX10_countKudos_21 : decode cX10_countKudos 21 = .ok (.iload_n 3, 1) := by decide +kernel
theorem dX10_countKudos_22 : decode cX10_countKudos 22 = .ok (.invokestatic 91, 3) := by decide +kernel
theorem dX10_countKudos_25 : decode cX10_countKudos 25 = .ok (.ifCond .eq 23, 3) := by decide +kernel
theorem dX10_countKudos_28 : decode cX10_countKudos 28 = .ok (.aload_n 1, 1) := by decide +kernel
theorem dX10_countKudos_29 : decode cX10_countKudos 29 = .ok (.getfield 352, 3) := by decide +kernel
theorem dX10_countKudos_32 : decode cX10_countKudos 32 = .ok (.aload_n 0, 1) := by decide +kernel
theorem dX10_countKudos_33 : decode cX10_countKudos 33 = .ok (.getfield 9, 3) := by decide +kernel
theorem dX10_countKudos_36 : decode cX10_countKudos 36 = .ok (.iload_n 3, 1) := by decide +kernel
theorem dX10_countKudos_37 : decode cX10_countKudos 37 = .ok (.iaload, 1) := by decide +kernel
theorem dX10_countKudos_38 : decode cX10_countKudos 38 = .ok (.iand, 1) := by decide +kernel
theorem dX10_countKudos_39 : decode cX10_countKudos 39 = .ok (.iload 4, 2) := by decide +kernel
theorem dX10_countKudos_41 : decode cX10_countKudos 41 = .ok (.iand, 1) := by decide +kernel
theorem dX10_countKudos_42 : decode cX10_countKudos 42 = .ok (.ifCond .ne 6, 3) := by decide +kernel
theorem dX10_countKudos_45 : decode cX10_countKudos 45 = .ok (.iinc 2 1, 3) := by decide +kernel
theorem dX10_countKudos_48 : decode cX10_countKudos 48 = .ok (.iinc 3 1, 3) := by decide +kernel
theorem dX10_countKudos_51 : decode cX10_countKudos 51 = .ok (.goto (-47), 3) := by decide +kernel
theorem dX10_countKudos_54 : decode cX10_countKudos 54 = .ok (.iload_n 2, 1) := by decide +kernel
theorem dX10_countKudos_55 : decode cX10_countKudos 55 = .ok (.ireturn, 1) := by decide +kernel
theorem dX10_kudos_0 : decode cX10_kudos 0 = .ok (.aload_n 0, 1) := by decide +kernel
theorem dX10_kudos_1 : decode cX10_kudos 1 = .ok (.iload_n 1, 1) := by decide +kernel
theorem dX10_kudos_2 : decode cX10_kudos 2 = .ok (.invokevirtual 112, 3) := by decide +kernel
theorem dX10_kudos_5 : decode cX10_kudos 5 = .ok (.astore_n 3, 1) := by decide +kernel
theorem dX10_kudos_6 : decode cX10_kudos 6 = .ok (.iload_n 2, 1) := by decide +kernel
theorem dX10_kudos_7 : decode cX10_kudos 7 = .ok (.invokestatic 99, 3) := by decide +kernel
theorem dX10_kudos_10 : decode cX10_kudos 10 = .ok (.aload_n 3, 1) := by decide +kernel
theorem dX10_kudos_11 : decode cX10_kudos 11 = .ok (.iload_n 2, 1) := by decide +kernel
theorem dX10_kudos_12 : decode cX10_kudos 12 = .ok (.aload_n 0, 1) := by decide +kernel
theorem dX10_kudos_13 : decode cX10_kudos 13 = .ok (.getfield 73, 3) := by decide +kernel
theorem dX10_kudos_16 : decode cX10_kudos 16 = .ok (.invokevirtual 173, 3) := by decide +kernel
theorem dX10_kudos_19 : decode cX10_kudos 19 = .ok (.ifCond .eq 25, 3) := by decide +kernel
theorem dX10_kudos_22 : decode cX10_kudos 22 = .ok (.aload_n 3, 1) := by decide +kernel
theorem dX10_kudos_23 : decode cX10_kudos 23 = .ok (.iload_n 2, 1) := by decide +kernel
theorem dX10_kudos_24 : decode cX10_kudos 24 = .ok (.invokevirtual 125, 3) := by decide +kernel
theorem dX10_kudos_27 : decode cX10_kudos 27 = .ok (.ifCond .ne 17, 3) := by decide +kernel
theorem dX10_kudos_30 : decode cX10_kudos 30 = .ok (.aload_n 3, 1) := by decide +kernel
theorem dX10_kudos_31 : decode cX10_kudos 31 = .ok (.getfield 352, 3) := by decide +kernel
theorem dX10_kudos_34 : decode cX10_kudos 34 = .ok (.aload_n 0, 1) := by decide +kernel
theorem dX10_kudos_35 : decode cX10_kudos 35 = .ok (.getfield 9, 3) := by decide +kernel
theorem dX10_kudos_38 : decode cX10_kudos 38 = .ok (.iload_n 2, 1) := by decide +kernel
theorem dX10_kudos_39 : decode cX10_kudos 39 = .ok (.iaload, 1) := by decide +kernel
theorem dX10_kudos_40 : decode cX10_kudos 40 = .ok (.iand, 1) := by decide +kernel
theorem dX10_kudos_41 : decode cX10_kudos 41 = .ok (.ifCond .eq 14, 3) := by decide +kernel
theorem dX10_kudos_44 : decode cX10_kudos 44 = .ok (.new 77, 3) := by decide +kernel
theorem dX10_kudos_47 : decode cX10_kudos 47 = .ok (.dup, 1) := by decide +kernel
theorem dX10_kudos_48 : decode cX10_kudos 48 = .ok (.ldc_w 355, 3) := by decide +kernel
theorem dX10_kudos_51 : decode cX10_kudos 51 = .ok (.invokespecial 81, 3) := by decide +kernel
theorem dX10_kudos_54 : decode cX10_kudos 54 = .ok (.athrow, 1) := by decide +kernel
theorem dX10_kudos_55 : decode cX10_kudos 55 = .ok (.aload_n 3, 1) := by decide +kernel
theorem dX10_kudos_56 : decode cX10_kudos 56 = .ok (.aload_n 3, 1) := by decide +kernel
theorem dX10_kudos_57 : decode cX10_kudos 57 = .ok (.getfield 352, 3) := by decide +kernel
theorem dX10_kudos_60 : decode cX10_kudos 60 = .ok (.iload_n 2, 1) := by decide +kernel
theorem dX10_kudos_61 : decode cX10_kudos 61 = .ok (.iconst 1, 1) := by decide +kernel
theorem dX10_kudos_62 : decode cX10_kudos 62 = .ok (.invokestatic 95, 3) := by decide +kernel
theorem dX10_kudos_65 : decode cX10_kudos 65 = .ok (.putfield 352, 3) := by decide +kernel
theorem dX10_kudos_68 : decode cX10_kudos 68 = .ok (.aload_n 0, 1) := by decide +kernel
theorem dX10_kudos_69 : decode cX10_kudos 69 = .ok (.aload_n 3, 1) := by decide +kernel
theorem dX10_kudos_70 : decode cX10_kudos 70 = .ok (.invokevirtual 357, 3) := by decide +kernel
theorem dX10_kudos_73 : decode cX10_kudos 73 = .ok (.ireturn, 1) := by decide +kernel
theorem dX10_liked_0 : decode cX10_liked 0 = .ok (.aload_n 0, 1) := by decide +kernel
