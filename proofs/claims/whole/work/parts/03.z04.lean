theorem dX11_belongs_5 : decode cX11_belongs 5 = .ok (.aload_n 0, 1) := by decide +kernel
theorem dX11_belongs_6 : decode cX11_belongs 6 = .ok (.getfield 136, 3) := by decide +kernel
theorem dX11_belongs_9 : decode cX11_belongs 9 = .ok (.if_icmp .ge 57, 3) := by decide +kernel
theorem dX11_belongs_12 : decode cX11_belongs 12 = .ok (.aload_n 0, 1) := by decide +kernel
theorem dX11_belongs_13 : decode cX11_belongs 13 = .ok (.getfield 38, 3) := by decide +kernel
theorem dX11_belongs_16 : decode cX11_belongs 16 = .ok (.iload_n 1, 1) := by decide +kernel
theorem dX11_belongs_17 : decode cX11_belongs 17 = .ok (.iaload, 1) := by decide +kernel
theorem dX11_belongs_18 : decode cX11_belongs 18 = .ok (.iload_n 3, 1) := by decide +kernel
theorem dX11_belongs_19 : decode cX11_belongs 19 = .ok (.invokestatic 155, 3) := by decide +kernel
theorem dX11_belongs_22 : decode cX11_belongs 22 = .ok (.ifCond .eq 11, 3) := by decide +kernel
theorem dX11_belongs_25 : decode cX11_belongs 25 = .ok (.aload_n 0, 1) := by decide +kernel
theorem dX11_belongs_26 : decode cX11_belongs 26 = .ok (.iload_n 3, 1) := by decide +kernel
theorem dX11_belongs_27 : decode cX11_belongs 27 = .ok (.invokevirtual 175, 3) := by decide +kernel
theorem dX11_belongs_30 : decode cX11_belongs 30 = .ok (.goto 4, 3) := by decide +kernel
theorem dX11_belongs_33 : decode cX11_belongs 33 = .ok (.iconst (-1), 1) := by decide +kernel
theorem dX11_belongs_34 : decode cX11_belongs 34 = .ok (.istore 4, 2) := by decide +kernel
theorem dX11_belongs_36 : decode cX11_belongs 36 = .ok (.iload_n 2, 1) := by decide +kernel
theorem dX11_belongs_37 : decode cX11_belongs 37 = .ok (.iload 4, 2) := by decide +kernel
theorem dX11_belongs_39 : decode cX11_belongs 39 = .ok (.iconst (-1), 1) := by decide +kernel
theorem dX11_belongs_40 : decode cX11_belongs 40 = .ok (.if_icmp .ne 7, 3) := by decide +kernel
theorem dX11_belongs_43 : decode cX11_belongs 43 = .ok (.iconst 0, 1) := by decide +kernel
theorem dX11_belongs_44 : decode cX11_belongs 44 = .ok (.goto 14, 3) := by decide +kernel
theorem dX11_belongs_47 : decode cX11_belongs 47 = .ok (.iconst 1, 1) := by decide +kernel
theorem dX11_belongs_48 : decode cX11_belongs 48 = .ok (.iload 4, 2) := by decide +kernel
theorem dX11_belongs_50 : decode cX11_belongs 50 = .ok (.ishl, 1) := by decide +kernel
theorem dX11_belongs_51 : decode cX11_belongs 51 = .ok (.aload_n 0, 1) := by decide +kernel
theorem dX11_belongs_52 : decode cX11_belongs 52 = .ok (.iload 4, 2) := by decide +kernel
theorem dX11_belongs_54 : decode cX11_belongs 54 = .ok (.invokevirtual 178, 3) := by decide +kernel
theorem dX11_belongs_57 : decode cX11_belongs 57 = .ok (.ior, 1) := by decide +kernel
theorem dX11_belongs_58 : decode cX11_belongs 58 = .ok (.ior, 1) := by decide +kernel
theorem dX11_belongs_59 : decode cX11_belongs 59 = .ok (.istore_n 2, 1) := by decide +kernel
theorem dX11_belongs_60 : decode cX11_belongs 60 = .ok (.iinc 3 1, 3) := by decide +kernel
theorem dX11_belongs_63 : decode cX11_belongs 63 = .ok (.goto (-59), 3) := by decide +kernel
theorem dX11_belongs_66 : decode cX11_belongs 66 = .ok (.iload_n 2, 1) := by decide +kernel
theorem dX11_belongs_67 : decode cX11_belongs 67 = .ok (.ireturn, 1) := by decide +kernel
theorem dX11_files_0 : decode cX11_files 0 = .ok (.aload_n 0, 1) := by decide +kernel
theorem dX11_files_1 : decode cX11_files 1 = .ok (.getfield 41, 3) := by decide +kernel
theorem dX11_files_4 : decode cX11_files 4 = .ok (.iload_n 1, 1) := by decide +kernel
theorem dX11_files_5 : decode cX11_files 5 = .ok (.aload_n 0, 1) := by decide +kernel
theorem dX11_files_6 : decode cX11_files 6 = .ok (.iload_n 1, 1) := by decide +kernel
theorem dX11_files_7 : decode cX11_files 7 = .ok (.invokevirtual 181, 3) := by decide +kernel
theorem dX11_files_10 : decode cX11_files 10 = .ok (.iastore, 1) := by decide +kernel
theorem dX11_files_11 : decode cX11_files 11 = .ok (.aload_n 0, 1) := by decide +kernel
theorem dX11_files_12 : decode cX11_files 12 = .ok (.getfield 44, 3) := by decide +kernel
theorem dX11_files_15 : decode cX11_files 15 = .ok (.iload_n 1, 1) := by decide +kernel
theorem dX11_files_16 : decode cX11_files 16 = .ok (.iconst 0, 1) := by decide +kernel
theorem dX11_files_17 : decode cX11_files 17 = .ok (.bastore, 1) := by decide +kernel
theorem dX11_files_18 : decode cX11_files 18 = .ok (.return_, 1) := by decide +kernel
theorem dX11_put_0 : decode cX11_put 0 = .ok (.aload_n 0, 1) := by decide +kernel
theorem dX11_put_1 : decode cX11_put 1 = .ok (.aload_n 0, 1) := by decide +kernel
theorem dX11_put_2 : decode cX11_put 2 = .ok (.iload_n 1, 1) := by decide +kernel
theorem dX11_put_3 : decode cX11_put 3 = .ok (.invokevirtual 152, 3) := by decide +kernel
theorem dX11_put_6 : decode cX11_put 6 = .ok (.ifCond .eq 15, 3) := by decide +kernel
theorem dX11_put_9 : decode cX11_put 9 = .ok (.aload_n 0, 1) := by decide +kernel
theorem dX11_put_10 : decode cX11_put 10 = .ok (.iload_n 2, 1) := by decide +kernel
theorem dX11_put_11 : decode cX11_put 11 = .ok (.invokevirtual 184, 3) := by decide +kernel
theorem dX11_put_14 : decode cX11_put 14 = .ok (.ifCond .eq 7, 3) := by decide +kernel
theorem dX11_put_17 : decode cX11_put 17 = .ok (.iconst 0, 1) := by decide +kernel
theorem dX11_put_18 : decode cX11_put 18 = .ok (.goto 4, 3) := by decide +kernel
theorem dX11_put_21 : decode cX11_put 21 = .ok (.iconst 1, 1) := by decide +kernel
theorem dX11_put_22 : decode cX11_put 22 = .ok (.invokevirtual 142, 3) := by decide +kernel
theorem dX11_put_25 : decode cX11_put 25 = .ok (.ifCond .ne 5, 3) := by decide +kernel
theorem dX11_put_28 : decode cX11_put 28 = .ok (.iconst 0, 1) := by decide +kernel
theorem dX11_put_29 : decode cX11_put 29 = .ok (.ireturn, 1) := by decide +kernel
theorem dX11_put_30 : decode cX11_put 30 = .ok (.aload_n 0, 1) := by decide +kernel
theorem dX11_put_31 : decode cX11_put 31 = .ok (.getfield 38, 3) := by decide +kernel
theorem dX11_put_34 : decode cX11_put 34 = .ok (.iload_n 1, 1) := by decide +kernel
theorem dX11_put_35 : decode cX11_put 35 = .ok (.iaload, 1) := by decide +kernel
theorem dX11_put_36 : decode cX11_put 36 = .ok (.iload_n 2, 1) := by decide +kernel
theorem dX11_put_37 : decode cX11_put 37 = .ok (.invokestatic 155, 3) := by decide +kernel
theorem dX11_put_40 : decode cX11_put 40 = .ok (.istore 4, 2) := by decide +kernel
theorem dX11_put_42 : decode cX11_put 42 = .ok (.aload_n 0, 1) := by decide +kernel
theorem dX11_put_43 : decode cX11_put 43 = .ok (.getfield 38, 3) := by decide +kernel
theorem dX11_put_46 : decode cX11_put 46 = .ok (.iload_n 1, 1) := by decide +kernel
theorem dX11_put_47 : decode cX11_put 47 = .ok (.aload_n 0, 1) := by decide +kernel
theorem dX11_put_48 : decode cX11_put 48 = .ok (.getfield 38, 3) := by decide +kernel
theorem dX11_put_51 : decode cX11_put 51 = .ok (.iload_n 1, 1) := by decide +kernel
theorem dX11_put_52 : decode cX11_put 52 = .ok (.iaload, 1) := by decide +kernel
theorem dX11_put_53 : decode cX11_put 53 = .ok (.iconst 1, 1) := by decide +kernel
theorem dX11_put_54 : decode cX11_put 54 = .ok (.iload_n 2, 1) := by decide +kernel
theorem dX11_put_55 : decode cX11_put 55 = .ok (.ishl, 1) := by decide +kernel
theorem dX11_put_56 : decode cX11_put 56 = .ok (.iconst (-1), 1) := by decide +kernel
theorem dX11_put_57 : decode cX11_put 57 = .ok (.ixor, 1) := by decide +kernel
theorem dX11_put_58 : decode cX11_put 58 = .ok (.iand, 1) := by decide +kernel
theorem dX11_put_59 : decode cX11_put 59 = .ok (.iload_n 3, 1) := by decide +kernel
theorem dX11_put_60 : decode cX11_put 60 = .ok (.ifCond .eq 9, 3) := by decide +kernel
theorem dX11_put_63 : decode cX11_put 63 = .ok (.iconst 1, 1) := by decide +kernel
theorem dX11_put_64 : decode cX11_put 64 = .ok (.iload_n 2, 1) := by decide +kernel
theorem dX11_put_65 : decode cX11_put 65 = .ok (.ishl, 1) := by decide +kernel
theorem dX11_put_66 : decode cX11_put 66 = .ok (.goto 4, 3) := by decide +kernel
theorem dX11_put_69 : decode cX11_put 69 = .ok (.iconst 0, 1) := by decide +kernel
theorem dX11_put_70 : decode cX11_put 70 = .ok (.ior, 1) := by decide +kernel
theorem dX11_put_71 : decode cX11_put 71 = .ok (.iastore, 1) := by decide +kernel
theorem dX11_put_72 : decode cX11_put 72 = .ok (.aload_n 0, 1) := by decide +kernel
theorem dX11_put_73 : decode cX11_put 73 = .ok (.iload_n 1, 1) := by decide +kernel
theorem dX11_put_74 : decode cX11_put 74 = .ok (.invokevirtual 190, 3) := by decide +kernel
theorem dX11_put_77 : decode cX11_put 77 = .ok (.iload 4, 2) := by decide +kernel
theorem dX11_put_79 : decode cX11_put 79 = .ok (.ireturn, 1) := by decide +kernel
theorem dX11_reads_0 : decode cX11_reads 0 = .ok (.aload_n 0, 1) := by decide +kernel
theorem dX11_reads_1 : decode cX11_reads 1 = .ok (.aload_n 0, 1) := by decide +kernel
theorem dX11_reads_2 : decode cX11_reads 2 = .ok (.iload_n 1, 1) := by decide +kernel
theorem dX11_reads_3 : decode cX11_reads 3 = .ok (.invokevirtual 152, 3) := by decide +kernel
theorem dX11_reads_6 : decode cX11_reads 6 = .ok (.ifCond .eq 14, 3) := by decide +kernel
theorem dX11_reads_9 : decode cX11_reads 9 = .ok (.iload_n 2, 1) := by decide +kernel
theorem dX11_reads_10 : decode cX11_reads 10 = .ok (.invokestatic 149, 3) := by decide +kernel
theorem dX11_reads_13 : decode cX11_reads 13 = .ok (.ifCond .eq 7, 3) := by decide +kernel
theorem dX11_reads_16 : decode cX11_reads 16 = .ok (.iconst 0, 1) := by decide +kernel
theorem dX11_reads_17 : decode cX11_reads 17 = .ok (.goto 4, 3) := by decide +kernel
theorem dX11_reads_20 : decode cX11_reads 20 = .ok (.iconst 1, 1) := by decide +kernel
theorem dX11_reads_21 : decode cX11_reads 21 = .ok (.invokevirtual 142, 3) := by decide +kernel
theorem dX11_reads_24 : decode cX11_reads 24 = .ok (.ifCond .ne 5, 3) := by decide +kernel
theorem dX11_reads_27 : decode cX11_reads 27 = .ok (.iconst 0, 1) := by decide +kernel
theorem dX11_reads_28 : decode cX11_reads 28 = .ok (.ireturn, 1) := by decide +kernel
theorem dX11_reads_29 : decode cX11_reads 29 = .ok (.iconst 0, 1) := by decide +kernel
theorem dX11_reads_30 : decode cX11_reads 30 = .ok (.istore_n 3, 1) := by decide +kernel
theorem dX11_reads_31 : decode cX11_reads 31 = .ok (.iconst 0, 1) := by decide +kernel
theorem dX11_reads_32 : decode cX11_reads 32 = .ok (.istore 4, 2) := by decide +kernel
theorem dX11_reads_34 : decode cX11_reads 34 = .ok (.iload 4, 2) := by decide +kernel
theorem dX11_reads_36 : decode cX11_reads 36 = .ok (.aload_n 0, 1) := by decide +kernel
theorem dX11_reads_37 : decode cX11_reads 37 = .ok (.getfield 248, 3) := by decide +kernel
theorem dX11_reads_40 : decode cX11_reads 40 = .ok (.if_icmp .ge 38, 3) := by decide +kernel
theorem dX11_reads_43 : decode cX11_reads 43 = .ok (.iload_n 3, 1) := by decide +kernel
theorem dX11_reads_44 : decode cX11_reads 44 = .ok (.aload_n 0, 1) := by decide +kernel
theorem dX11_reads_45 : decode cX11_reads 45 = .ok (.getfield 98, 3) := by decide +kernel
theorem dX11_reads_48 : decode cX11_reads 48 = .ok (.iload 4, 2) := by decide +kernel
theorem dX11_reads_50 : decode cX11_reads 50 = .ok (.iaload, 1) := by decide +kernel
theorem dX11_reads_51 : decode cX11_reads 51 = .ok (.iload_n 1, 1) := by decide +kernel
theorem dX11_reads_52 : decode cX11_reads 52 = .ok (.if_icmp .ne 17, 3) := by decide +kernel
theorem dX11_reads_55 : decode cX11_reads 55 = .ok (.aload_n 0, 1) := by decide +kernel
theorem dX11_reads_56 : decode cX11_reads 56 = .ok (.iload 4, 2) := by decide +kernel
theorem dX11_reads_58 : decode cX11_reads 58 = .ok (.iload_n 2, 1) := by decide +kernel
theorem dX11_reads_59 : decode cX11_reads 59 = .ok (.invokevirtual 254, 3) := by decide +kernel
theorem dX11_reads_62 : decode cX11_reads 62 = .ok (.ifCond .eq 7, 3) := by decide +kernel
theorem dX11_reads_65 : decode cX11_reads 65 = .ok (.iconst 1, 1) := by decide +kernel
theorem dX11_reads_66 : decode cX11_reads 66 = .ok (.goto 4, 3) := by decide +kernel
theorem dX11_reads_69 : decode cX11_reads 69 = .ok (.iconst 0, 1) := by decide +kernel
theorem dX11_reads_70 : decode cX11_reads 70 = .ok (.iadd, 1) := by decide +kernel
theorem dX11_reads_71 : decode cX11_reads 71 = .ok (.istore_n 3, 1) := by decide +kernel
theorem dX11_reads_72 : decode cX11_reads 72 = .ok (.iinc 4 1, 3) := by decide +kernel
theorem dX11_reads_75 : decode cX11_reads 75 = .ok (.goto (-41), 3) := by decide +kernel
theorem dX11_reads_78 : decode cX11_reads 78 = .ok (.iload_n 3, 1) := by decide +kernel
theorem dX11_reads_79 : decode cX11_reads 79 = .ok (.ireturn, 1) := by decide +kernel
theorem dX11_latest_0 : decode cX11_latest 0 = .ok (.aload_n 0, 1) := by decide +kernel
theorem dX11_latest_1 : decode cX11_latest 1 = .ok (.getfield 29, 3) := by decide +kernel
theorem dX11_latest_4 : decode cX11_latest 4 = .ok (.iload_n 1, 1) := by decide +kernel
theorem dX11_latest_5 : decode cX11_latest 5 = .ok (.iaload, 1) := by decide +kernel
theorem dX11_latest_6 : decode cX11_latest 6 = .ok (.iconst (-1), 1) := by decide +kernel
theorem dX11_latest_7 : decode cX11_latest 7 = .ok (.if_icmp .ne 7, 3) := by decide +kernel
theorem dX11_latest_10 : decode cX11_latest 10 = .ok (.iconst (-1), 1) := by decide +kernel
theorem dX11_latest_11 : decode cX11_latest 11 = .ok (.goto 16, 3) := by decide +kernel
theorem dX11_latest_14 : decode cX11_latest 14 = .ok (.aload_n 0, 1) := by decide +kernel
theorem dX11_latest_15 : decode cX11_latest 15 = .ok (.iload_n 1, 1) := by decide +kernel
theorem dX11_latest_16 : decode cX11_latest 16 = .ok (.aload_n 0, 1) := by decide +kernel
theorem dX11_latest_17 : decode cX11_latest 17 = .ok (.getfield 23, 3) := by decide +kernel
theorem dX11_latest_20 : decode cX11_latest 20 = .ok (.iload_n 1, 1) := by decide +kernel
theorem dX11_latest_21 : decode cX11_latest 21 = .ok (.iaload, 1) := by decide +kernel
theorem dX11_latest_22 : decode cX11_latest 22 = .ok (.iconst 1, 1) := by decide +kernel
theorem dX11_latest_23 : decode cX11_latest 23 = .ok (.isub, 1) := by decide +kernel
theorem dX11_latest_24 : decode cX11_latest 24 = .ok (.invokevirtual 233, 3) := by decide +kernel
theorem dX11_latest_27 : decode cX11_latest 27 = .ok (.ireturn, 1) := by decide +kernel
theorem dX11_gets_0 : decode cX11_gets 0 = .ok (.aload_n 0, 1) := by decide +kernel
theorem dX11_gets_1 : decode cX11_gets 1 = .ok (.getfield 74, 3) := by decide +kernel
theorem dX11_gets_4 : decode cX11_gets 4 = .ok (.aload_n 0, 1) := by decide +kernel
theorem dX11_gets_5 : decode cX11_gets 5 = .ok (.getfield 213, 3) := by decide +kernel
theorem dX11_gets_8 : decode cX11_gets 8 = .ok (.aload_n 0, 1) := by decide +kernel
theorem dX11_gets_9 : decode cX11_gets 9 = .ok (.getfield 74, 3) := by decide +kernel
theorem dX11_gets_12 : decode cX11_gets 12 = .ok (.aload_n 0, 1) := by decide +kernel
theorem dX11_gets_13 : decode cX11_gets 13 = .ok (.getfield 213, 3) := by decide +kernel
theorem dX11_gets_16 : decode cX11_gets 16 = .ok (.baload, 1) := by decide +kernel
theorem dX11_gets_17 : decode cX11_gets 17 = .ok (.ifCond .eq 20, 3) := by decide +kernel
theorem dX11_gets_20 : decode cX11_gets 20 = .ok (.iload_n 1, 1) := by decide +kernel
theorem dX11_gets_21 : decode cX11_gets 21 = .ok (.aload_n 0, 1) := by decide +kernel
theorem dX11_gets_22 : decode cX11_gets 22 = .ok (.getfield 77, 3) := by decide +kernel
theorem dX11_gets_25 : decode cX11_gets 25 = .ok (.aload_n 0, 1) := by decide +kernel
theorem dX11_gets_26 : decode cX11_gets 26 = .ok (.getfield 213, 3) := by decide +kernel
theorem dX11_gets_29 : decode cX11_gets 29 = .ok (.baload, 1) := by decide +kernel
theorem dX11_gets_30 : decode cX11_gets 30 = .ok (.if_icmp .eq 7, 3) := by decide +kernel
theorem dX11_gets_33 : decode cX11_gets 33 = .ok (.iconst 1, 1) := by decide +kernel
theorem dX11_gets_34 : decode cX11_gets 34 = .ok (.goto 4, 3) := by decide +kernel
theorem dX11_gets_37 : decode cX11_gets 37 = .ok (.iconst 0, 1) := by decide +kernel
theorem dX11_gets_38 : decode cX11_gets 38 = .ok (.bastore, 1) := by decide +kernel
theorem dX11_gets_39 : decode cX11_gets 39 = .ok (.aload_n 0, 1) := by decide +kernel
theorem dX11_gets_40 : decode cX11_gets 40 = .ok (.getfield 77, 3) := by decide +kernel
theorem dX11_gets_43 : decode cX11_gets 43 = .ok (.aload_n 0, 1) := by decide +kernel
theorem dX11_gets_44 : decode cX11_gets 44 = .ok (.getfield 213, 3) := by decide +kernel
theorem dX11_gets_47 : decode cX11_gets 47 = .ok (.iconst 0, 1) := by decide +kernel
theorem dX11_gets_48 : decode cX11_gets 48 = .ok (.bastore, 1) := by decide +kernel
theorem dX11_gets_49 : decode cX11_gets 49 = .ok (.return_, 1) := by decide +kernel
theorem dX11_isOfTag_0 : decode cX11_isOfTag 0 = .ok (.aload_n 0, 1) := by decide +kernel
theorem dX11_isOfTag_1 : decode cX11_isOfTag 1 = .ok (.iload_n 2, 1) := by decide +kernel
theorem dX11_isOfTag_2 : decode cX11_isOfTag 2 = .ok (.invokevirtual 184, 3) := by decide +kernel
theorem dX11_isOfTag_5 : decode cX11_isOfTag 5 = .ok (.ifCond .ne 5, 3) := by decide +kernel
theorem dX11_isOfTag_8 : decode cX11_isOfTag 8 = .ok (.iconst 0, 1) := by decide +kernel
theorem dX11_isOfTag_9 : decode cX11_isOfTag 9 = .ok (.ireturn, 1) := by decide +kernel
theorem dX11_isOfTag_10 : decode cX11_isOfTag 10 = .ok (.aload_n 0, 1) := by decide +kernel
theorem dX11_isOfTag_11 : decode cX11_isOfTag 11 = .ok (.iload_n 2, 1) := by decide +kernel
theorem dX11_isOfTag_12 : decode cX11_isOfTag 12 = .ok (.invokevirtual 175, 3) := by decide +kernel
theorem dX11_isOfTag_15 : decode cX11_isOfTag 15 = .ok (.istore 4, 2) := by decide +kernel
theorem dX11_isOfTag_17 : decode cX11_isOfTag 17 = .ok (.iload 4, 2) := by decide +kernel
theorem dX11_isOfTag_19 : decode cX11_isOfTag 19 = .ok (.iconst (-1), 1) := by decide +kernel
theorem dX11_isOfTag_20 : decode cX11_isOfTag 20 = .ok (.if_icmp .ne 16, 3) := by decide +kernel
theorem dX11_isOfTag_23 : decode cX11_isOfTag 23 = .ok (.aload_n 0, 1) := by decide +kernel
theorem dX11_isOfTag_24 : decode cX11_isOfTag 24 = .ok (.getfield 38, 3) := by decide +kernel
theorem dX11_isOfTag_27 : decode cX11_isOfTag 27 = .ok (.iload_n 1, 1) := by decide +kernel
theorem dX11_isOfTag_28 : decode cX11_isOfTag 28 = .ok (.iaload, 1) := by decide +kernel
theorem dX11_isOfTag_29 : decode cX11_isOfTag 29 = .ok (.iload_n 2, 1) := by decide +kernel
theorem dX11_isOfTag_30 : decode cX11_isOfTag 30 = .ok (.invokestatic 155, 3) := by decide +kernel
theorem dX11_isOfTag_33 : decode cX11_isOfTag 33 = .ok (.goto 26, 3) := by decide +kernel
theorem dX11_isOfTag_36 : decode cX11_isOfTag 36 = .ok (.iload_n 3, 1) := by decide +kernel
theorem dX11_isOfTag_37 : decode cX11_isOfTag 37 = .ok (.ifCond .eq 11, 3) := by decide +kernel
theorem dX11_isOfTag_40 : decode cX11_isOfTag 40 = .ok (.aload_n 0, 1) := by decide +kernel
theorem dX11_isOfTag_41 : decode cX11_isOfTag 41 = .ok (.iload_n 1, 1) := by decide +kernel
theorem dX11_isOfTag_42 : decode cX11_isOfTag 42 = .ok (.invokevirtual 181, 3) := by decide +kernel
theorem dX11_isOfTag_45 : decode cX11_isOfTag 45 = .ok (.goto 9, 3) := by decide +kernel
theorem dX11_isOfTag_48 : decode cX11_isOfTag 48 = .ok (.aload_n 0, 1) := by decide +kernel
theorem dX11_isOfTag_49 : decode cX11_isOfTag 49 = .ok (.getfield 41, 3) := by decide +kernel
theorem dX11_isOfTag_52 : decode cX11_isOfTag 52 = .ok (.iload_n 1, 1) := by decide +kernel
theorem dX11_isOfTag_53 : decode cX11_isOfTag 53 = .ok (.iaload, 1) := by decide +kernel
theorem dX11_isOfTag_54 : decode cX11_isOfTag 54 = .ok (.iload 4, 2) := by decide +kernel
theorem dX11_isOfTag_56 : decode cX11_isOfTag 56 = .ok (.invokestatic 155, 3) := by decide +kernel
theorem dX11_isOfTag_59 : decode cX11_isOfTag 59 = .ok (.ireturn, 1) := by decide +kernel
theorem dX11_opens_0 : decode cX11_opens 0 = .ok (.aload_n 0, 1) := by decide +kernel
theorem dX11_opens_1 : decode cX11_opens 1 = .ok (.dup, 1) := by decide +kernel
theorem dX11_opens_2 : decode cX11_opens 2 = .ok (.getfield 213, 3) := by decide +kernel
theorem dX11_opens_5 : decode cX11_opens 5 = .ok (.iconst 1, 1) := by decide +kernel
theorem dX11_opens_6 : decode cX11_opens 6 = .ok (.iadd, 1) := by decide +kernel
theorem dX11_opens_7 : decode cX11_opens 7 = .ok (.putfield 213, 3) := by decide +kernel
theorem dX11_opens_10 : decode cX11_opens 10 = .ok (.aload_n 0, 1) := by decide +kernel
theorem dX11_opens_11 : decode cX11_opens 11 = .ok (.getfield 71, 3) := by decide +kernel
theorem dX11_opens_14 : decode cX11_opens 14 = .ok (.aload_n 0, 1) := by decide +kernel
theorem dX11_opens_15 : decode cX11_opens 15 = .ok (.getfield 213, 3) := by decide +kernel
theorem dX11_opens_18 : decode cX11_opens 18 = .ok (.iconst 0, 1) := by decide +kernel
theorem dX11_opens_19 : decode cX11_opens 19 = .ok (.bastore, 1) := by decide +kernel
theorem dX11_opens_20 : decode cX11_opens 20 = .ok (.aload_n 0, 1) := by decide +kernel
theorem dX11_opens_21 : decode cX11_opens 21 = .ok (.getfield 74, 3) := by decide +kernel
theorem dX11_opens_24 : decode cX11_opens 24 = .ok (.aload_n 0, 1) := by decide +kernel
theorem dX11_opens_25 : decode cX11_opens 25 = .ok (.getfield 213, 3) := by decide +kernel
theorem dX11_opens_28 : decode cX11_opens 28 = .ok (.iconst 1, 1) := by decide +kernel
theorem dX11_opens_29 : decode cX11_opens 29 = .ok (.bastore, 1) := by decide +kernel
theorem dX11_opens_30 : decode cX11_opens 30 = .ok (.aload_n 0, 1) := by decide +kernel
theorem dX11_opens_31 : decode cX11_opens 31 = .ok (.getfield 77, 3) := by decide +kernel
theorem dX11_opens_34 : decode cX11_opens 34 = .ok (.aload_n 0, 1) := by decide +kernel
theorem dX11_opens_35 : decode cX11_opens 35 = .ok (.getfield 213, 3) := by decide +kernel
theorem dX11_opens_38 : decode cX11_opens 38 = .ok (.iconst 0, 1) := by decide +kernel
theorem dX11_opens_39 : decode cX11_opens 39 = .ok (.bastore, 1) := by decide +kernel
theorem dX11_opens_40 : decode cX11_opens 40 = .ok (.return_, 1) := by decide +kernel
theorem dX11_isSo_0 : decode cX11_isSo 0 = .ok (.aload_n 0, 1) := by decide +kernel
theorem dX11_isSo_1 : decode cX11_isSo 1 = .ok (.iconst (-1), 1) := by decide +kernel
theorem dX11_isSo_2 : decode cX11_isSo 2 = .ok (.putfield 213, 3) := by decide +kernel
theorem dX11_isSo_5 : decode cX11_isSo 5 = .ok (.aload_n 0, 1) := by decide +kernel
theorem dX11_isSo_6 : decode cX11_isSo 6 = .ok (.invokevirtual 216, 3) := by decide +kernel
theorem dX11_isSo_9 : decode cX11_isSo 9 = .ok (.iconst 0, 1) := by decide +kernel
theorem dX11_isSo_10 : decode cX11_isSo 10 = .ok (.istore 4, 2) := by decide +kernel
theorem dX11_isSo_12 : decode cX11_isSo 12 = .ok (.iload 4, 2) := by decide +kernel
theorem dX11_isSo_14 : decode cX11_isSo 14 = .ok (.aload_n 0, 1) := by decide +kernel
theorem dX11_isSo_15 : decode cX11_isSo 15 = .ok (.getfield 202, 3) := by decide +kernel
theorem dX11_isSo_18 : decode cX11_isSo 18 = .ok (.if_icmp .ge 348, 3) := by decide +kernel
theorem dX11_isSo_21 : decode cX11_isSo 21 = .ok (.iload 4, 2) := by decide +kernel
theorem dX11_isSo_23 : decode cX11_isSo 23 = .ok (.iconst 2, 1) := by decide +kernel
theorem dX11_isSo_24 : decode cX11_isSo 24 = .ok (.iadd, 1) := by decide +kernel
theorem dX11_isSo_25 : decode cX11_isSo 25 = .ok (.aload_n 0, 1) := by decide +kernel
theorem dX11_isSo_26 : decode cX11_isSo 26 = .ok (.getfield 202, 3) := by decide +kernel
theorem dX11_isSo_29 : decode cX11_isSo 29 = .ok (.if_icmp .ge 34, 3) := by decide +kernel
theorem dX11_isSo_32 : decode cX11_isSo 32 = .ok (.bipush 10, 2) := by decide +kernel
theorem dX11_isSo_34 : decode cX11_isSo 34 = .ok (.aload_n 0, 1) := by decide +kernel
theorem dX11_isSo_35 : decode cX11_isSo 35 = .ok (.getfield 68, 3) := by decide +kernel
theorem dX11_isSo_38 : decode cX11_isSo 38 = .ok (.iload 4, 2) := by decide +kernel
theorem dX11_isSo_40 : decode cX11_isSo 40 = .ok (.iconst 1, 1) := by decide +kernel
theorem dX11_isSo_41 : decode cX11_isSo 41 = .ok (.iadd, 1) := by decide +kernel
theorem dX11_isSo_42 : decode cX11_isSo 42 = .ok (.iaload, 1) := by decide +kernel
theorem dX11_isSo_43 : decode cX11_isSo 43 = .ok (.bipush 48, 2) := by decide +kernel
theorem dX11_isSo_45 : decode cX11_isSo 45 = .ok (.isub, 1) := by decide +kernel
theorem dX11_isSo_46 : decode cX11_isSo 46 = .ok (.imul, 1) := by decide +kernel
theorem dX11_isSo_47 : decode cX11_isSo 47 = .ok (.aload_n 0, 1) := by decide +kernel
theorem dX11_isSo_48 : decode cX11_isSo 48 = .ok (.getfield 68, 3) := by decide +kernel
theorem dX11_isSo_51 : decode cX11_isSo 51 = .ok (.iload 4, 2) := by decide +kernel
theorem dX11_isSo_53 : decode cX11_isSo 53 = .ok (.iconst 2, 1) := by decide +kernel
theorem dX11_isSo_54 : decode cX11_isSo 54 = .ok (.iadd, 1) := by decide +kernel
theorem dX11_isSo_55 : decode cX11_isSo 55 = .ok (.iaload, 1) := by decide +kernel
theorem dX11_isSo_56 : decode cX11_isSo 56 = .ok (.iadd, 1) := by decide +kernel
theorem dX11_isSo_57 : decode cX11_isSo 57 = .ok (.bipush 48, 2) := by decide +kernel
theorem dX11_isSo_59 : decode cX11_isSo 59 = .ok (.isub, 1) := by decide +kernel
theorem dX11_isSo_60 : decode cX11_isSo 60 = .ok (.goto 4, 3) := by decide +kernel
theorem dX11_isSo_63 : decode cX11_isSo 63 = .ok (.iconst 0, 1) := by decide +kernel
theorem dX11_isSo_64 : decode cX11_isSo 64 = .ok (.istore 5, 2) := by decide +kernel
theorem dX11_isSo_66 : decode cX11_isSo 66 = .ok (.aload_n 0, 1) := by decide +kernel
theorem dX11_isSo_67 : decode cX11_isSo 67 = .ok (.getfield 68, 3) := by decide +kernel
theorem dX11_isSo_70 : decode cX11_isSo 70 = .ok (.iload 4, 2) := by decide +kernel
theorem dX11_isSo_72 : decode cX11_isSo 72 = .ok (.iaload, 1) := by decide +kernel
theorem dX11_isSo_73 : decode cX11_isSo 73 = .ok (.lookupswitch 287 #[(33, 124), (40, 67), (41, 74), (97, 219), (114, 254), (116, 204), (124, 153)], 67) := by decide +kernel
theorem dX11_isSo_140 : decode cX11_isSo 140 = .ok (.aload_n 0, 1) := by decide +kernel
theorem dX11_isSo_141 : decode cX11_isSo 141 = .ok (.invokevirtual 216, 3) := by decide +kernel
theorem dX11_isSo_144 : decode cX11_isSo 144 = .ok (.goto 216, 3) := by decide +kernel
theorem dX11_isSo_147 : decode cX11_isSo 147 = .ok (.aload_n 0, 1) := by decide +kernel
theorem dX11_isSo_148 : decode cX11_isSo 148 = .ok (.dup, 1) := by decide +kernel
theorem dX11_isSo_149 : decode cX11_isSo 149 = .ok (.getfield 213, 3) := by decide +kernel
theorem dX11_isSo_152 : decode cX11_isSo 152 = .ok (.iconst 1, 1) := by decide +kernel
theorem dX11_isSo_153 : decode cX11_isSo 153 = .ok (.isub, 1) := by decide +kernel
theorem dX11_isSo_154 : decode cX11_isSo 154 = .ok (.putfield 213, 3) := by decide +kernel
theorem dX11_isSo_157 : decode cX11_isSo 157 = .ok (.aload_n 0, 1) := by decide +kernel
theorem dX11_isSo_158 : decode cX11_isSo 158 = .ok (.aload_n 0, 1) := by decide +kernel
theorem dX11_isSo_159 : decode cX11_isSo 159 = .ok (.getfield 71, 3) := by decide +kernel
theorem dX11_isSo_162 : decode cX11_isSo 162 = .ok (.aload_n 0, 1) := by decide +kernel
theorem dX11_isSo_163 : decode cX11_isSo 163 = .ok (.getfield 213, 3) := by decide +kernel
theorem dX11_isSo_166 : decode cX11_isSo 166 = .ok (.iconst 1, 1) := by decide +kernel
theorem dX11_isSo_167 : decode cX11_isSo 167 = .ok (.iadd, 1) := by decide +kernel
theorem dX11_isSo_168 : decode cX11_isSo 168 = .ok (.baload, 1) := by decide +kernel
theorem dX11_isSo_169 : decode cX11_isSo 169 = .ok (.ifCond .ne 17, 3) := by decide +kernel
theorem dX11_isSo_172 : decode cX11_isSo 172 = .ok (.aload_n 0, 1) := by decide +kernel
theorem dX11_isSo_173 : decode cX11_isSo 173 = .ok (.getfield 74, 3) := by decide +kernel
theorem dX11_isSo_176 : decode cX11_isSo 176 = .ok (.aload_n 0, 1) := by decide +kernel
theorem dX11_isSo_177 : decode cX11_isSo 177 = .ok (.getfield 213, 3) := by decide +kernel
theorem dX11_isSo_180 : decode cX11_isSo 180 = .ok (.iconst 1, 1) := by decide +kernel
theorem dX11_isSo_181 : decode cX11_isSo 181 = .ok (.iadd, 1) := by decide +kernel
theorem dX11_isSo_182 : decode cX11_isSo 182 = .ok (.baload, 1) := by decide +kernel
theorem dX11_isSo_183 : decode cX11_isSo 183 = .ok (.ifCond .eq 7, 3) := by decide +kernel
theorem dX11_isSo_186 : decode cX11_isSo 186 = .ok (.iconst 1, 1) := by decide +kernel
theorem dX11_isSo_187 : decode cX11_isSo 187 = .ok (.goto 4, 3) := by decide +kernel
theorem dX11_isSo_190 : decode cX11_isSo 190 = .ok (.iconst 0, 1) := by decide +kernel
theorem dX11_isSo_191 : decode cX11_isSo 191 = .ok (.invokevirtual 218, 3) := by decide +kernel
theorem dX11_isSo_194 : decode cX11_isSo 194 = .ok (.goto 166, 3) := by decide +kernel
theorem dX11_isSo_197 : decode cX11_isSo 197 = .ok (.aload_n 0, 1) := by decide +kernel
theorem dX11_isSo_198 : decode cX11_isSo 198 = .ok (.getfield 77, 3) := by decide +kernel
theorem dX11_isSo_201 : decode cX11_isSo 201 = .ok (.aload_n 0, 1) := by decide +kernel
theorem dX11_isSo_202 : decode cX11_isSo 202 = .ok (.getfield 213, 3) := by decide +kernel
theorem dX11_isSo_205 : decode cX11_isSo 205 = .ok (.aload_n 0, 1) := by decide +kernel
theorem dX11_isSo_206 : decode cX11_isSo 206 = .ok (.getfield 77, 3) := by decide +kernel
theorem dX11_isSo_209 : decode cX11_isSo 209 = .ok (.aload_n 0, 1) := by decide +kernel
theorem dX11_isSo_210 : decode cX11_isSo 210 = .ok (.getfield 213, 3) := by decide +kernel
theorem dX11_isSo_213 : decode cX11_isSo 213 = .ok (.baload, 1) := by decide +kernel
theorem dX11_isSo_214 : decode cX11_isSo 214 = .ok (.ifCond .ne 7, 3) := by decide +kernel
theorem dX11_isSo_217 : decode cX11_isSo 217 = .ok (.iconst 1, 1) := by decide +kernel
theorem dX11_isSo_218 : decode cX11_isSo 218 = .ok (.goto 4, 3) := by decide +kernel
theorem dX11_isSo_221 : decode cX11_isSo 221 = .ok (.iconst 0, 1) := by decide +kernel
theorem dX11_isSo_222 : decode cX11_isSo 222 = .ok (.bastore, 1) := by decide +kernel
theorem dX11_isSo_223 : decode cX11_isSo 223 = .ok (.goto 137, 3) := by decide +kernel
theorem dX11_isSo_226 : decode cX11_isSo 226 = .ok (.aload_n 0, 1) := by decide +kernel
theorem dX11_isSo_227 : decode cX11_isSo 227 = .ok (.getfield 71, 3) := by decide +kernel
theorem dX11_isSo_230 : decode cX11_isSo 230 = .ok (.aload_n 0, 1) := by decide +kernel
theorem dX11_isSo_231 : decode cX11_isSo 231 = .ok (.getfield 213, 3) := by decide +kernel
theorem dX11_isSo_234 : decode cX11_isSo 234 = .ok (.aload_n 0, 1) := by decide +kernel
theorem dX11_isSo_235 : decode cX11_isSo 235 = .ok (.getfield 71, 3) := by decide +kernel
theorem dX11_isSo_238 : decode cX11_isSo 238 = .ok (.aload_n 0, 1) := by decide +kernel
theorem dX11_isSo_239 : decode cX11_isSo 239 = .ok (.getfield 213, 3) := by decide +kernel
theorem dX11_isSo_242 : decode cX11_isSo 242 = .ok (.baload, 1) := by decide +kernel
theorem dX11_isSo_243 : decode cX11_isSo 243 = .ok (.ifCond .ne 15, 3) := by decide +kernel
theorem dX11_isSo_246 : decode cX11_isSo 246 = .ok (.aload_n 0, 1) := by decide +kernel
theorem dX11_isSo_247 : decode cX11_isSo 247 = .ok (.getfield 74, 3) := by decide +kernel
theorem dX11_isSo_250 : decode cX11_isSo 250 = .ok (.aload_n 0, 1) := by decide +kernel
theorem dX11_isSo_251 : decode cX11_isSo 251 = .ok (.getfield 213, 3) := by decide +kernel
theorem dX11_isSo_254 : decode cX11_isSo 254 = .ok (.baload, 1) := by decide +kernel
theorem dX11_isSo_255 : decode cX11_isSo 255 = .ok (.ifCond .eq 7, 3) := by decide +kernel
theorem dX11_isSo_258 : decode cX11_isSo 258 = .ok (.iconst 1, 1) := by decide +kernel
theorem dX11_isSo_259 : decode cX11_isSo 259 = .ok (.goto 4, 3) := by decide +kernel
theorem dX11_isSo_262 : decode cX11_isSo 262 = .ok (.iconst 0, 1) := by decide +kernel
theorem dX11_isSo_263 : decode cX11_isSo 263 = .ok (.bastore, 1) := by decide +kernel
theorem dX11_isSo_264 : decode cX11_isSo 264 = .ok (.aload_n 0, 1) := by decide +kernel
theorem dX11_isSo_265 : decode cX11_isSo 265 = .ok (.getfield 74, 3) := by decide +kernel
theorem dX11_isSo_268 : decode cX11_isSo 268 = .ok (.aload_n 0, 1) := by decide +kernel
theorem dX11_isSo_269 : decode cX11_isSo 269 = .ok (.getfield 213, 3) := by decide +kernel
theorem dX11_isSo_272 : decode cX11_isSo 272 = .ok (.iconst 1, 1) := by decide +kernel
theorem dX11_isSo_273 : decode cX11_isSo 273 = .ok (.bastore, 1) := by decide +kernel
theorem dX11_isSo_274 : decode cX11_isSo 274 = .ok (.goto 86, 3) := by decide +kernel
theorem dX11_isSo_277 : decode cX11_isSo 277 = .ok (.aload_n 0, 1) := by decide +kernel
theorem dX11_isSo_278 : decode cX11_isSo 278 = .ok (.aload_n 0, 1) := by decide +kernel
theorem dX11_isSo_279 : decode cX11_isSo 279 = .ok (.iload_n 2, 1) := by decide +kernel
theorem dX11_isSo_280 : decode cX11_isSo 280 = .ok (.iload 5, 2) := by decide +kernel
theorem dX11_isSo_282 : decode cX11_isSo 282 = .ok (.iload_n 3, 1) := by decide +kernel
theorem dX11_isSo_283 : decode cX11_isSo 283 = .ok (.invokevirtual 222, 3) := by decide +kernel
theorem dX11_isSo_286 : decode cX11_isSo 286 = .ok (.invokevirtual 218, 3) := by decide +kernel
theorem dX11_isSo_289 : decode cX11_isSo 289 = .ok (.goto 71, 3) := by decide +kernel
theorem dX11_isSo_292 : decode cX11_isSo 292 = .ok (.aload_n 0, 1) := by decide +kernel
theorem dX11_isSo_293 : decode cX11_isSo 293 = .ok (.aload_n 0, 1) := by decide +kernel
theorem dX11_isSo_294 : decode cX11_isSo 294 = .ok (.iload_n 1, 1) := by decide +kernel
theorem dX11_isSo_295 : decode cX11_isSo 295 = .ok (.iload_n 2, 1) := by decide +kernel
theorem dX11_isSo_296 : decode cX11_isSo 296 = .ok (.invokevirtual 172, 3) := by decide +kernel
theorem dX11_isSo_299 : decode cX11_isSo 299 = .ok (.ifCond .eq 21, 3) := by decide +kernel
theorem dX11_isSo_302 : decode cX11_isSo 302 = .ok (.aload_n 0, 1) := by decide +kernel
theorem dX11_isSo_303 : decode cX11_isSo 303 = .ok (.getfield 20, 3) := by decide +kernel
theorem dX11_isSo_306 : decode cX11_isSo 306 = .ok (.iload_n 2, 1) := by decide +kernel
theorem dX11_isSo_307 : decode cX11_isSo 307 = .ok (.iaload, 1) := by decide +kernel
theorem dX11_isSo_308 : decode cX11_isSo 308 = .ok (.iload 5, 2) := by decide +kernel
theorem dX11_isSo_310 : decode cX11_isSo 310 = .ok (.invokestatic 155, 3) := by decide +kernel
theorem dX11_isSo_313 : decode cX11_isSo 313 = .ok (.ifCond .eq 7, 3) := by decide +kernel
theorem dX11_isSo_316 : decode cX11_isSo 316 = .ok (.iconst 1, 1) := by decide +kernel
theorem dX11_isSo_317 : decode cX11_isSo 317 = .ok (.goto 4, 3) := by decide +kernel
theorem dX11_isSo_320 : decode cX11_isSo 320 = .ok (.iconst 0, 1) := by decide +kernel
theorem dX11_isSo_321 : decode cX11_isSo 321 = .ok (.invokevirtual 218, 3) := by decide +kernel
theorem dX11_isSo_324 : decode cX11_isSo 324 = .ok (.goto 36, 3) := by decide +kernel
theorem dX11_isSo_327 : decode cX11_isSo 327 = .ok (.aload_n 0, 1) := by decide +kernel
theorem dX11_isSo_328 : decode cX11_isSo 328 = .ok (.aload_n 0, 1) := by decide +kernel
theorem dX11_isSo_329 : decode cX11_isSo 329 = .ok (.getfield 17, 3) := by decide +kernel
theorem dX11_isSo_332 : decode cX11_isSo 332 = .ok (.iload_n 2, 1) := by decide +kernel
theorem dX11_isSo_333 : decode cX11_isSo 333 = .ok (.iaload, 1) := by decide +kernel
theorem dX11_isSo_334 : decode cX11_isSo 334 = .ok (.aload_n 0, 1) := by decide +kernel
theorem dX11_isSo_335 : decode cX11_isSo 335 = .ok (.getfield 68, 3) := by decide +kernel
theorem dX11_isSo_338 : decode cX11_isSo 338 = .ok (.iload 4, 2) := by decide +kernel
theorem dX11_isSo_340 : decode cX11_isSo 340 = .ok (.iconst 1, 1) := by decide +kernel
theorem dX11_isSo_341 : decode cX11_isSo 341 = .ok (.iadd, 1) := by decide +kernel
theorem dX11_isSo_342 : decode cX11_isSo 342 = .ok (.iaload, 1) := by decide +kernel
theorem dX11_isSo_343 : decode cX11_isSo 343 = .ok (.bipush 48, 2) := by decide +kernel
theorem dX11_isSo_345 : decode cX11_isSo 345 = .ok (.isub, 1) := by decide +kernel
theorem dX11_isSo_346 : decode cX11_isSo 346 = .ok (.if_icmp .gt 7, 3) := by decide +kernel
theorem dX11_isSo_349 : decode cX11_isSo 349 = .ok (.iconst 1, 1) := by decide +kernel
theorem dX11_isSo_350 : decode cX11_isSo 350 = .ok (.goto 4, 3) := by decide +kernel
theorem dX11_isSo_353 : decode cX11_isSo 353 = .ok (.iconst 0, 1) := by decide +kernel
theorem dX11_isSo_354 : decode cX11_isSo 354 = .ok (.invokevirtual 218, 3) := by decide +kernel
theorem dX11_isSo_357 : decode cX11_isSo 357 = .ok (.goto 3, 3) := by decide +kernel
theorem dX11_isSo_360 : decode cX11_isSo 360 = .ok (.iinc 4 1, 3) := by decide +kernel
theorem dX11_isSo_363 : decode cX11_isSo 363 = .ok (.goto (-351), 3) := by decide +kernel
theorem dX11_isSo_366 : decode cX11_isSo 366 = .ok (.aload_n 0, 1) := by decide +kernel
theorem dX11_isSo_367 : decode cX11_isSo 367 = .ok (.getfield 71, 3) := by decide +kernel
theorem dX11_isSo_370 : decode cX11_isSo 370 = .ok (.iconst 0, 1) := by decide +kernel
theorem dX11_isSo_371 : decode cX11_isSo 371 = .ok (.baload, 1) := by decide +kernel
theorem dX11_isSo_372 : decode cX11_isSo 372 = .ok (.ifCond .ne 12, 3) := by decide +kernel
theorem dX11_isSo_375 : decode cX11_isSo 375 = .ok (.aload_n 0, 1) := by decide +kernel
theorem dX11_isSo_376 : decode cX11_isSo 376 = .ok (.getfield 74, 3) := by decide +kernel
theorem dX11_isSo_379 : decode cX11_isSo 379 = .ok (.iconst 0, 1) := by decide +kernel
theorem dX11_isSo_380 : decode cX11_isSo 380 = .ok (.baload, 1) := by decide +kernel
theorem dX11_isSo_381 : decode cX11_isSo 381 = .ok (.ifCond .eq 7, 3) := by decide +kernel
theorem dX11_isSo_384 : decode cX11_isSo 384 = .ok (.iconst 1, 1) := by decide +kernel
theorem dX11_isSo_385 : decode cX11_isSo 385 = .ok (.goto 4, 3) := by decide +kernel
theorem dX11_isSo_388 : decode cX11_isSo 388 = .ok (.iconst 0, 1) := by decide +kernel
theorem dX11_isSo_389 : decode cX11_isSo 389 = .ok (.ireturn, 1) := by decide +kernel
theorem dX11_searchOf_0 : decode cX11_searchOf 0 = .ok (.iconst 0, 1) := by decide +kernel
theorem dX11_searchOf_1 : decode cX11_searchOf 1 = .ok (.istore_n 3, 1) := by decide +kernel
theorem dX11_searchOf_2 : decode cX11_searchOf 2 = .ok (.iconst 0, 1) := by decide +kernel
theorem dX11_searchOf_3 : decode cX11_searchOf 3 = .ok (.istore 4, 2) := by decide +kernel
theorem dX11_searchOf_5 : decode cX11_searchOf 5 = .ok (.iload 4, 2) := by decide +kernel
theorem dX11_searchOf_7 : decode cX11_searchOf 7 = .ok (.aload_n 0, 1) := by decide +kernel
theorem dX11_searchOf_8 : decode cX11_searchOf 8 = .ok (.getfield 133, 3) := by decide +kernel
theorem dX11_searchOf_11 : decode cX11_searchOf 11 = .ok (.if_icmp .ge 41, 3) := by decide +kernel
theorem dX11_searchOf_14 : decode cX11_searchOf 14 = .ok (.iload_n 3, 1) := by decide +kernel
theorem dX11_searchOf_15 : decode cX11_searchOf 15 = .ok (.aload_n 0, 1) := by decide +kernel
theorem dX11_searchOf_16 : decode cX11_searchOf 16 = .ok (.iload_n 1, 1) := by decide +kernel
theorem dX11_searchOf_17 : decode cX11_searchOf 17 = .ok (.iload 4, 2) := by decide +kernel
theorem dX11_searchOf_19 : decode cX11_searchOf 19 = .ok (.invokevirtual 169, 3) := by decide +kernel
theorem dX11_searchOf_22 : decode cX11_searchOf 22 = .ok (.ifCond .eq 21, 3) := by decide +kernel
theorem dX11_searchOf_25 : decode cX11_searchOf 25 = .ok (.aload_n 0, 1) := by decide +kernel
theorem dX11_searchOf_26 : decode cX11_searchOf 26 = .ok (.iload_n 1, 1) := by decide +kernel
theorem dX11_searchOf_27 : decode cX11_searchOf 27 = .ok (.iload 4, 2) := by decide +kernel
theorem dX11_searchOf_29 : decode cX11_searchOf 29 = .ok (.iload_n 2, 1) := by decide +kernel
theorem dX11_searchOf_30 : decode cX11_searchOf 30 = .ok (.invokevirtual 226, 3) := by decide +kernel
theorem dX11_searchOf_33 : decode cX11_searchOf 33 = .ok (.ifCond .eq 10, 3) := by decide +kernel
theorem dX11_searchOf_36 : decode cX11_searchOf 36 = .ok (.iconst 1, 1) := by decide +kernel
theorem dX11_searchOf_37 : decode cX11_searchOf 37 = .ok (.iload 4, 2) := by decide +kernel
theorem dX11_searchOf_39 : decode cX11_searchOf 39 = .ok (.ishl, 1) := by decide +kernel
theorem dX11_searchOf_40 : decode cX11_searchOf 40 = .ok (.goto 4, 3) := by decide +kernel
theorem dX11_searchOf_43 : decode cX11_searchOf 43 = .ok (.iconst 0, 1) := by decide +kernel
theorem dX11_searchOf_44 : decode cX11_searchOf 44 = .ok (.ior, 1) := by decide +kernel
theorem dX11_searchOf_45 : decode cX11_searchOf 45 = .ok (.istore_n 3, 1) := by decide +kernel
theorem dX11_searchOf_46 : decode cX11_searchOf 46 = .ok (.iinc 4 1, 3) := by decide +kernel
theorem dX11_searchOf_49 : decode cX11_searchOf 49 = .ok (.goto (-44), 3) := by decide +kernel
theorem dX11_searchOf_52 : decode cX11_searchOf 52 = .ok (.iload_n 3, 1) := by decide +kernel
theorem dX11_searchOf_53 : decode cX11_searchOf 53 = .ok (.ireturn, 1) := by decide +kernel
theorem dX11_result_0 : decode cX11_result 0 = .ok (.aload_n 0, 1) := by decide +kernel
theorem dX11_result_1 : decode cX11_result 1 = .ok (.iload_n 1, 1) := by decide +kernel
theorem dX11_result_2 : decode cX11_result 2 = .ok (.invokestatic 149, 3) := by decide +kernel
theorem dX11_result_5 : decode cX11_result 5 = .ok (.ifCond .eq 7, 3) := by decide +kernel
theorem dX11_result_8 : decode cX11_result 8 = .ok (.iload_n 2, 1) := by decide +kernel
theorem dX11_result_9 : decode cX11_result 9 = .ok (.ifCond .ge 7, 3) := by decide +kernel
theorem dX11_result_12 : decode cX11_result 12 = .ok (.iconst 1, 1) := by decide +kernel
theorem dX11_result_13 : decode cX11_result 13 = .ok (.goto 16, 3) := by decide +kernel
theorem dX11_result_16 : decode cX11_result 16 = .ok (.aload_n 0, 1) := by decide +kernel
theorem dX11_result_17 : decode cX11_result 17 = .ok (.invokevirtual 209, 3) := by decide +kernel
theorem dX11_result_20 : decode cX11_result 20 = .ok (.iconst (-1), 1) := by decide +kernel
theorem dX11_result_21 : decode cX11_result 21 = .ok (.if_icmp .eq 7, 3) := by decide +kernel
theorem dX11_result_24 : decode cX11_result 24 = .ok (.iconst 2, 1) := by decide +kernel
theorem dX11_result_25 : decode cX11_result 25 = .ok (.goto 4, 3) := by decide +kernel
theorem dX11_result_28 : decode cX11_result 28 = .ok (.iconst 0, 1) := by decide +kernel
theorem dX11_result_29 : decode cX11_result 29 = .ok (.invokevirtual 142, 3) := by decide +kernel
theorem dX11_result_32 : decode cX11_result 32 = .ok (.ifCond .ne 5, 3) := by decide +kernel
theorem dX11_result_35 : decode cX11_result 35 = .ok (.iconst 0, 1) := by decide +kernel
theorem dX11_result_36 : decode cX11_result 36 = .ok (.ireturn, 1) := by decide +kernel
theorem dX11_result_37 : decode cX11_result 37 = .ok (.aload_n 0, 1) := by decide +kernel
theorem dX11_result_38 : decode cX11_result 38 = .ok (.iload_n 1, 1) := by decide +kernel
theorem dX11_result_39 : decode cX11_result 39 = .ok (.iconst 0, 1) := by decide +kernel
theorem dX11_result_40 : decode cX11_result 40 = .ok (.invokevirtual 229, 3) := by decide +kernel
theorem dX11_result_43 : decode cX11_result 43 = .ok (.istore_n 3, 1) := by decide +kernel
theorem dX11_result_44 : decode cX11_result 44 = .ok (.iconst (-1), 1) := by decide +kernel
theorem dX11_result_45 : decode cX11_result 45 = .ok (.istore 4, 2) := by decide +kernel
theorem dX11_result_47 : decode cX11_result 47 = .ok (.iconst 0, 1) := by decide +kernel
theorem dX11_result_48 : decode cX11_result 48 = .ok (.istore 5, 2) := by decide +kernel
theorem dX11_result_50 : decode cX11_result 50 = .ok (.iload 5, 2) := by decide +kernel
theorem dX11_result_52 : decode cX11_result 52 = .ok (.iload_n 2, 1) := by decide +kernel
theorem dX11_result_53 : decode cX11_result 53 = .ok (.if_icmp .gt 96, 3) := by decide +kernel
theorem dX11_result_56 : decode cX11_result 56 = .ok (.iload_n 3, 1) := by decide +kernel
theorem dX11_result_57 : decode cX11_result 57 = .ok (.ifCond .eq 92, 3) := by decide +kernel
theorem dX11_result_60 : decode cX11_result 60 = .ok (.iconst (-1), 1) := by decide +kernel
theorem dX11_result_61 : decode cX11_result 61 = .ok (.istore 4, 2) := by decide +kernel
theorem dX11_result_63 : decode cX11_result 63 = .ok (.iconst 0, 1) := by decide +kernel
theorem dX11_result_64 : decode cX11_result 64 = .ok (.istore 6, 2) := by decide +kernel
theorem dX11_result_66 : decode cX11_result 66 = .ok (.iload 6, 2) := by decide +kernel
theorem dX11_result_68 : decode cX11_result 68 = .ok (.aload_n 0, 1) := by decide +kernel
theorem dX11_result_69 : decode cX11_result 69 = .ok (.getfield 133, 3) := by decide +kernel
theorem dX11_result_72 : decode cX11_result 72 = .ok (.if_icmp .ge 48, 3) := by decide +kernel
theorem dX11_result_75 : decode cX11_result 75 = .ok (.iload_n 3, 1) := by decide +kernel
theorem dX11_result_76 : decode cX11_result 76 = .ok (.iload 6, 2) := by decide +kernel
theorem dX11_result_78 : decode cX11_result 78 = .ok (.invokestatic 155, 3) := by decide +kernel
theorem dX11_result_81 : decode cX11_result 81 = .ok (.ifCond .eq 29, 3) := by decide +kernel
theorem dX11_result_84 : decode cX11_result 84 = .ok (.iload 4, 2) := by decide +kernel
theorem dX11_result_86 : decode cX11_result 86 = .ok (.iconst (-1), 1) := by decide +kernel
theorem dX11_result_87 : decode cX11_result 87 = .ok (.if_icmp .eq 18, 3) := by decide +kernel
theorem dX11_result_90 : decode cX11_result 90 = .ok (.aload_n 0, 1) := by decide +kernel
theorem dX11_result_91 : decode cX11_result 91 = .ok (.iload 6, 2) := by decide +kernel
theorem dX11_result_93 : decode cX11_result 93 = .ok (.invokevirtual 236, 3) := by decide +kernel
theorem dX11_result_96 : decode cX11_result 96 = .ok (.aload_n 0, 1) := by decide +kernel
theorem dX11_result_97 : decode cX11_result 97 = .ok (.iload 4, 2) := by decide +kernel
theorem dX11_result_99 : decode cX11_result 99 = .ok (.invokevirtual 236, 3) := by decide +kernel
theorem dX11_result_102 : decode cX11_result 102 = .ok (.if_icmp .le 8, 3) := by decide +kernel
theorem dX11_result_105 : decode cX11_result 105 = .ok (.iload 6, 2) := by decide +kernel
theorem dX11_result_107 : decode cX11_result 107 = .ok (.goto 5, 3) := by decide +kernel
theorem dX11_result_110 : decode cX11_result 110 = .ok (.iload 4, 2) := by decide +kernel
theorem dX11_result_112 : decode cX11_result 112 = .ok (.istore 4, 2) := by decide +kernel
theorem dX11_result_114 : decode cX11_result 114 = .ok (.iinc 6 1, 3) := by decide +kernel
theorem dX11_result_117 : decode cX11_result 117 = .ok (.goto (-51), 3) := by decide +kernel
theorem dX11_result_120 : decode cX11_result 120 = .ok (.iload_n 3, 1) := by decide +kernel
theorem dX11_result_121 : decode cX11_result 121 = .ok (.iconst 1, 1) := by decide +kernel
theorem dX11_result_122 : decode cX11_result 122 = .ok (.iload 4, 2) := by decide +kernel
theorem dX11_result_124 : decode cX11_result 124 = .ok (.ishl, 1) := by decide +kernel
theorem dX11_result_125 : decode cX11_result 125 = .ok (.iconst (-1), 1) := by decide +kernel
theorem dX11_result_126 : decode cX11_result 126 = .ok (.ixor, 1) := by decide +kernel
theorem dX11_result_127 : decode cX11_result 127 = .ok (.iand, 1) := by decide +kernel
theorem dX11_result_128 : decode cX11_result 128 = .ok (.istore_n 3, 1) := by decide +kernel
theorem dX11_result_129 : decode cX11_result 129 = .ok (.iload 5, 2) := by decide +kernel
theorem dX11_result_131 : decode cX11_result 131 = .ok (.iload_n 2, 1) := by decide +kernel
theorem dX11_result_132 : decode cX11_result 132 = .ok (.if_icmp .ne 8, 3) := by decide +kernel
theorem dX11_result_135 : decode cX11_result 135 = .ok (.iload 4, 2) := by decide +kernel
theorem dX11_result_137 : decode cX11_result 137 = .ok (.goto 4, 3) := by decide +kernel
theorem dX11_result_140 : decode cX11_result 140 = .ok (.iconst (-1), 1) := by decide +kernel
theorem dX11_result_141 : decode cX11_result 141 = .ok (.istore 4, 2) := by decide +kernel
theorem dX11_result_143 : decode cX11_result 143 = .ok (.iinc 5 1, 3) := by decide +kernel
theorem dX11_result_146 : decode cX11_result 146 = .ok (.goto (-96), 3) := by decide +kernel
theorem dX11_result_149 : decode cX11_result 149 = .ok (.iload 4, 2) := by decide +kernel
theorem dX11_result_151 : decode cX11_result 151 = .ok (.ireturn, 1) := by decide +kernel
theorem dX11_same_0 : decode cX11_same 0 = .ok (.aload_n 0, 1) := by decide +kernel
theorem dX11_same_1 : decode cX11_same 1 = .ok (.iload_n 1, 1) := by decide +kernel
theorem dX11_same_2 : decode cX11_same 2 = .ok (.invokestatic 149, 3) := by decide +kernel
theorem dX11_same_5 : decode cX11_same 5 = .ok (.ifCond .eq 14, 3) := by decide +kernel
theorem dX11_same_8 : decode cX11_same 8 = .ok (.iload_n 2, 1) := by decide +kernel
theorem dX11_same_9 : decode cX11_same 9 = .ok (.invokestatic 149, 3) := by decide +kernel
theorem dX11_same_12 : decode cX11_same 12 = .ok (.ifCond .eq 7, 3) := by decide +kernel
theorem dX11_same_15 : decode cX11_same 15 = .ok (.iconst 0, 1) := by decide +kernel
theorem dX11_same_16 : decode cX11_same 16 = .ok (.goto 4, 3) := by decide +kernel
theorem dX11_same_19 : decode cX11_same 19 = .ok (.iconst 1, 1) := by decide +kernel
theorem dX11_same_20 : decode cX11_same 20 = .ok (.invokevirtual 142, 3) := by decide +kernel
theorem dX11_same_23 : decode cX11_same 23 = .ok (.ifCond .ne 5, 3) := by decide +kernel
theorem dX11_same_26 : decode cX11_same 26 = .ok (.iconst 0, 1) := by decide +kernel
theorem dX11_same_27 : decode cX11_same 27 = .ok (.ireturn, 1) := by decide +kernel
theorem dX11_same_28 : decode cX11_same 28 = .ok (.aload_n 0, 1) := by decide +kernel
theorem dX11_same_29 : decode cX11_same 29 = .ok (.getfield 13, 3) := by decide +kernel
theorem dX11_same_32 : decode cX11_same 32 = .ok (.iload_n 1, 1) := by decide +kernel
theorem dX11_same_33 : decode cX11_same 33 = .ok (.iaload, 1) := by decide +kernel
theorem dX11_same_34 : decode cX11_same 34 = .ok (.istore_n 3, 1) := by decide +kernel
theorem dX11_same_35 : decode cX11_same 35 = .ok (.aload_n 0, 1) := by decide +kernel
theorem dX11_same_36 : decode cX11_same 36 = .ok (.getfield 13, 3) := by decide +kernel
theorem dX11_same_39 : decode cX11_same 39 = .ok (.iload_n 2, 1) := by decide +kernel
theorem dX11_same_40 : decode cX11_same 40 = .ok (.iaload, 1) := by decide +kernel
theorem dX11_same_41 : decode cX11_same 41 = .ok (.istore 4, 2) := by decide +kernel
theorem dX11_same_43 : decode cX11_same 43 = .ok (.iconst 0, 1) := by decide +kernel
theorem dX11_same_44 : decode cX11_same 44 = .ok (.istore 5, 2) := by decide +kernel
theorem dX11_same_46 : decode cX11_same 46 = .ok (.iload 5, 2) := by decide +kernel
theorem dX11_same_48 : decode cX11_same 48 = .ok (.bipush 32, 2) := by decide +kernel
theorem dX11_same_50 : decode cX11_same 50 = .ok (.if_icmp .ge 39, 3) := by decide +kernel
theorem dX11_same_53 : decode cX11_same 53 = .ok (.aload_n 0, 1) := by decide +kernel
theorem dX11_same_54 : decode cX11_same 54 = .ok (.getfield 13, 3) := by decide +kernel
theorem dX11_same_57 : decode cX11_same 57 = .ok (.iload 5, 2) := by decide +kernel
theorem dX11_same_59 : decode cX11_same 59 = .ok (.aload_n 0, 1) := by decide +kernel
theorem dX11_same_60 : decode cX11_same 60 = .ok (.getfield 13, 3) := by decide +kernel
theorem dX11_same_63 : decode cX11_same 63 = .ok (.iload 5, 2) := by decide +kernel
theorem dX11_same_65 : decode cX11_same 65 = .ok (.iaload, 1) := by decide +kernel
theorem dX11_same_66 : decode cX11_same 66 = .ok (.iload 4, 2) := by decide +kernel
theorem dX11_same_68 : decode cX11_same 68 = .ok (.if_icmp .ne 7, 3) := by decide +kernel
theorem dX11_same_71 : decode cX11_same 71 = .ok (.iload_n 3, 1) := by decide +kernel
theorem dX11_same_72 : decode cX11_same 72 = .ok (.goto 10, 3) := by decide +kernel
theorem dX11_same_75 : decode cX11_same 75 = .ok (.aload_n 0, 1) := by decide +kernel
theorem dX11_same_76 : decode cX11_same 76 = .ok (.getfield 13, 3) := by decide +kernel
theorem dX11_same_79 : decode cX11_same 79 = .ok (.iload 5, 2) := by decide +kernel
theorem dX11_same_81 : decode cX11_same 81 = .ok (.iaload, 1) := by decide +kernel
theorem dX11_same_82 : decode cX11_same 82 = .ok (.iastore, 1) := by decide +kernel
theorem dX11_same_83 : decode cX11_same 83 = .ok (.iinc 5 1, 3) := by decide +kernel
theorem dX11_same_86 : decode cX11_same 86 = .ok (.goto (-40), 3) := by decide +kernel
theorem dX11_same_89 : decode cX11_same 89 = .ok (.iload_n 3, 1) := by decide +kernel
theorem dX11_same_90 : decode cX11_same 90 = .ok (.iload 4, 2) := by decide +kernel
theorem dX11_same_92 : decode cX11_same 92 = .ok (.if_icmp .eq 7, 3) := by decide +kernel
theorem dX11_same_95 : decode cX11_same 95 = .ok (.iconst 1, 1) := by decide +kernel
theorem dX11_same_96 : decode cX11_same 96 = .ok (.goto 4, 3) := by decide +kernel
theorem dX11_same_99 : decode cX11_same 99 = .ok (.iconst 0, 1) := by decide +kernel
theorem dX11_same_100 : decode cX11_same 100 = .ok (.ireturn, 1) := by decide +kernel
theorem dX11_screen_0 : decode cX11_screen 0 = .ok (.aload_n 0, 1) := by decide +kernel
theorem dX11_screen_1 : decode cX11_screen 1 = .ok (.aload_n 0, 1) := by decide +kernel
theorem dX11_screen_2 : decode cX11_screen 2 = .ok (.iload_n 1, 1) := by decide +kernel
theorem dX11_screen_3 : decode cX11_screen 3 = .ok (.invokevirtual 152, 3) := by decide +kernel
theorem dX11_screen_6 : decode cX11_screen 6 = .ok (.ifCond .eq 7, 3) := by decide +kernel
theorem dX11_screen_9 : decode cX11_screen 9 = .ok (.iconst 0, 1) := by decide +kernel
theorem dX11_screen_10 : decode cX11_screen 10 = .ok (.goto 4, 3) := by decide +kernel
theorem dX11_screen_13 : decode cX11_screen 13 = .ok (.iconst 1, 1) := by decide +kernel
theorem dX11_screen_14 : decode cX11_screen 14 = .ok (.invokevirtual 142, 3) := by decide +kernel
theorem dX11_screen_17 : decode cX11_screen 17 = .ok (.ifCond .ne 5, 3) := by decide +kernel
theorem dX11_screen_20 : decode cX11_screen 20 = .ok (.iconst 0, 1) := by decide +kernel
theorem dX11_screen_21 : decode cX11_screen 21 = .ok (.ireturn, 1) := by decide +kernel
theorem dX11_screen_22 : decode cX11_screen 22 = .ok (.aload_n 0, 1) := by decide +kernel
theorem dX11_screen_23 : decode cX11_screen 23 = .ok (.getfield 47, 3) := by decide +kernel
theorem dX11_screen_26 : decode cX11_screen 26 = .ok (.iload_n 1, 1) := by decide +kernel
theorem dX11_screen_27 : decode cX11_screen 27 = .ok (.baload, 1) := by decide +kernel
theorem dX11_screen_28 : decode cX11_screen 28 = .ok (.istore_n 3, 1) := by decide +kernel
theorem dX11_screen_29 : decode cX11_screen 29 = .ok (.aload_n 0, 1) := by decide +kernel
theorem dX11_screen_30 : decode cX11_screen 30 = .ok (.getfield 47, 3) := by decide +kernel
theorem dX11_screen_33 : decode cX11_screen 33 = .ok (.iload_n 1, 1) := by decide +kernel
theorem dX11_screen_34 : decode cX11_screen 34 = .ok (.iload_n 2, 1) := by decide +kernel
theorem dX11_screen_35 : decode cX11_screen 35 = .ok (.bastore, 1) := by decide +kernel
theorem dX11_screen_36 : decode cX11_screen 36 = .ok (.iload_n 3, 1) := by decide +kernel
theorem dX11_screen_37 : decode cX11_screen 37 = .ok (.ireturn, 1) := by decide +kernel
theorem dX11_search_0 : decode cX11_search 0 = .ok (.aload_n 0, 1) := by decide +kernel
theorem dX11_search_1 : decode cX11_search 1 = .ok (.iload_n 1, 1) := by decide +kernel
theorem dX11_search_2 : decode cX11_search 2 = .ok (.invokestatic 149, 3) := by decide +kernel
theorem dX11_search_5 : decode cX11_search 5 = .ok (.ifCond .ne 7, 3) := by decide +kernel
theorem dX11_search_8 : decode cX11_search 8 = .ok (.iconst 1, 1) := by decide +kernel
theorem dX11_search_9 : decode cX11_search 9 = .ok (.goto 16, 3) := by decide +kernel
theorem dX11_search_12 : decode cX11_search 12 = .ok (.aload_n 0, 1) := by decide +kernel
theorem dX11_search_13 : decode cX11_search 13 = .ok (.invokevirtual 209, 3) := by decide +kernel
theorem dX11_search_16 : decode cX11_search 16 = .ok (.iconst (-1), 1) := by decide +kernel
theorem dX11_search_17 : decode cX11_search 17 = .ok (.if_icmp .eq 7, 3) := by decide +kernel
theorem dX11_search_20 : decode cX11_search 20 = .ok (.iconst 2, 1) := by decide +kernel
theorem dX11_search_21 : decode cX11_search 21 = .ok (.goto 4, 3) := by decide +kernel
theorem dX11_search_24 : decode cX11_search 24 = .ok (.iconst 0, 1) := by decide +kernel
theorem dX11_search_25 : decode cX11_search 25 = .ok (.invokevirtual 142, 3) := by decide +kernel
theorem dX11_search_28 : decode cX11_search 28 = .ok (.ifCond .eq 12, 3) := by decide +kernel
theorem dX11_search_31 : decode cX11_search 31 = .ok (.aload_n 0, 1) := by decide +kernel
theorem dX11_search_32 : decode cX11_search 32 = .ok (.iload_n 1, 1) := by decide +kernel
theorem dX11_search_33 : decode cX11_search 33 = .ok (.iload_n 2, 1) := by decide +kernel
theorem dX11_search_34 : decode cX11_search 34 = .ok (.invokevirtual 229, 3) := by decide +kernel
theorem dX11_search_37 : decode cX11_search 37 = .ok (.goto 4, 3) := by decide +kernel
theorem dX11_search_40 : decode cX11_search 40 = .ok (.iconst 0, 1) := by decide +kernel
theorem dX11_search_41 : decode cX11_search 41 = .ok (.ireturn, 1) := by decide +kernel
theorem dX11_sees_0 : decode cX11_sees 0 = .ok (.aload_n 0, 1) := by decide +kernel
theorem dX11_sees_1 : decode cX11_sees 1 = .ok (.iload_n 1, 1) := by decide +kernel
theorem dX11_sees_2 : decode cX11_sees 2 = .ok (.invokestatic 149, 3) := by decide +kernel
theorem dX11_sees_5 : decode cX11_sees 5 = .ok (.ifCond .eq 15, 3) := by decide +kernel
theorem dX11_sees_8 : decode cX11_sees 8 = .ok (.aload_n 0, 1) := by decide +kernel
theorem dX11_sees_9 : decode cX11_sees 9 = .ok (.iload_n 2, 1) := by decide +kernel
theorem dX11_sees_10 : decode cX11_sees 10 = .ok (.invokevirtual 152, 3) := by decide +kernel
theorem dX11_sees_13 : decode cX11_sees 13 = .ok (.ifCond .eq 7, 3) := by decide +kernel
theorem dX11_sees_16 : decode cX11_sees 16 = .ok (.iconst 0, 1) := by decide +kernel
theorem dX11_sees_17 : decode cX11_sees 17 = .ok (.goto 4, 3) := by decide +kernel
theorem dX11_sees_20 : decode cX11_sees 20 = .ok (.iconst 1, 1) := by decide +kernel
theorem dX11_sees_21 : decode cX11_sees 21 = .ok (.invokevirtual 142, 3) := by decide +kernel
theorem dX11_sees_24 : decode cX11_sees 24 = .ok (.ifCond .eq 16, 3) := by decide +kernel
theorem dX11_sees_27 : decode cX11_sees 27 = .ok (.aload_n 0, 1) := by decide +kernel
theorem dX11_sees_28 : decode cX11_sees 28 = .ok (.iload_n 1, 1) := by decide +kernel
theorem dX11_sees_29 : decode cX11_sees 29 = .ok (.iload_n 2, 1) := by decide +kernel
theorem dX11_sees_30 : decode cX11_sees 30 = .ok (.invokevirtual 169, 3) := by decide +kernel
theorem dX11_sees_33 : decode cX11_sees 33 = .ok (.ifCond .eq 7, 3) := by decide +kernel
theorem dX11_sees_36 : decode cX11_sees 36 = .ok (.iconst 1, 1) := by decide +kernel
theorem dX11_sees_37 : decode cX11_sees 37 = .ok (.goto 4, 3) := by decide +kernel
theorem dX11_sees_40 : decode cX11_sees 40 = .ok (.iconst 0, 1) := by decide +kernel
theorem dX11_sees_41 : decode cX11_sees 41 = .ok (.ireturn, 1) := by decide +kernel
theorem dX11_sign_0 : decode cX11_sign 0 = .ok (.iload_n 1, 1) := by decide +kernel
theorem dX11_sign_1 : decode cX11_sign 1 = .ok (.invokestatic 146, 3) := by decide +kernel
theorem dX11_sign_4 : decode cX11_sign 4 = .ok (.istore 5, 2) := by decide +kernel
theorem dX11_sign_6 : decode cX11_sign 6 = .ok (.iload_n 2, 1) := by decide +kernel
theorem dX11_sign_7 : decode cX11_sign 7 = .ok (.aload_n 0, 1) := by decide +kernel
theorem dX11_sign_8 : decode cX11_sign 8 = .ok (.getfield 136, 3) := by decide +kernel
theorem dX11_sign_11 : decode cX11_sign 11 = .ok (.ishr, 1) := by decide +kernel
theorem dX11_sign_12 : decode cX11_sign 12 = .ok (.ifCond .ne 24, 3) := by decide +kernel
theorem dX11_sign_15 : decode cX11_sign 15 = .ok (.iload_n 3, 1) := by decide +kernel
theorem dX11_sign_16 : decode cX11_sign 16 = .ok (.aload_n 0, 1) := by decide +kernel
theorem dX11_sign_17 : decode cX11_sign 17 = .ok (.getfield 136, 3) := by decide +kernel
theorem dX11_sign_20 : decode cX11_sign 20 = .ok (.ishr, 1) := by decide +kernel
theorem dX11_sign_21 : decode cX11_sign 21 = .ok (.ifCond .ne 15, 3) := by decide +kernel
theorem dX11_sign_24 : decode cX11_sign 24 = .ok (.iload 4, 2) := by decide +kernel
theorem dX11_sign_26 : decode cX11_sign 26 = .ok (.bipush 12, 2) := by decide +kernel
theorem dX11_sign_28 : decode cX11_sign 28 = .ok (.ishr, 1) := by decide +kernel
theorem dX11_sign_29 : decode cX11_sign 29 = .ok (.ifCond .ne 7, 3) := by decide +kernel
theorem dX11_sign_32 : decode cX11_sign 32 = .ok (.iconst 1, 1) := by decide +kernel
theorem dX11_sign_33 : decode cX11_sign 33 = .ok (.goto 4, 3) := by decide +kernel
theorem dX11_sign_36 : decode cX11_sign 36 = .ok (.iconst 0, 1) := by decide +kernel
theorem dX11_sign_37 : decode cX11_sign 37 = .ok (.istore 6, 2) := by decide +kernel
theorem dX11_sign_39 : decode cX11_sign 39 = .ok (.iconst 0, 1) := by decide +kernel
theorem dX11_sign_40 : decode cX11_sign 40 = .ok (.istore 7, 2) := by decide +kernel
theorem dX11_sign_42 : decode cX11_sign 42 = .ok (.iconst 0, 1) := by decide +kernel
theorem dX11_sign_43 : decode cX11_sign 43 = .ok (.istore 8, 2) := by decide +kernel
theorem dX11_sign_45 : decode cX11_sign 45 = .ok (.iload 8, 2) := by decide +kernel
theorem dX11_sign_47 : decode cX11_sign 47 = .ok (.aload_n 0, 1) := by decide +kernel
theorem dX11_sign_48 : decode cX11_sign 48 = .ok (.getfield 239, 3) := by decide +kernel
theorem dX11_sign_51 : decode cX11_sign 51 = .ok (.if_icmp .ge 32, 3) := by decide +kernel
theorem dX11_sign_54 : decode cX11_sign 54 = .ok (.iload 7, 2) := by decide +kernel
theorem dX11_sign_56 : decode cX11_sign 56 = .ok (.ifCond .ne 14, 3) := by decide +kernel
theorem dX11_sign_59 : decode cX11_sign 59 = .ok (.aload_n 0, 1) := by decide +kernel
theorem dX11_sign_60 : decode cX11_sign 60 = .ok (.getfield 80, 3) := by decide +kernel
theorem dX11_sign_63 : decode cX11_sign 63 = .ok (.iload 8, 2) := by decide +kernel
theorem dX11_sign_65 : decode cX11_sign 65 = .ok (.iaload, 1) := by decide +kernel
theorem dX11_sign_66 : decode cX11_sign 66 = .ok (.iload_n 1, 1) := by decide +kernel
theorem dX11_sign_67 : decode cX11_sign 67 = .ok (.if_icmp .ne 7, 3) := by decide +kernel
theorem dX11_sign_70 : decode cX11_sign 70 = .ok (.iconst 1, 1) := by decide +kernel
theorem dX11_sign_71 : decode cX11_sign 71 = .ok (.goto 4, 3) := by decide +kernel
theorem dX11_sign_74 : decode cX11_sign 74 = .ok (.iconst 0, 1) := by decide +kernel
theorem dX11_sign_75 : decode cX11_sign 75 = .ok (.istore 7, 2) := by decide +kernel
theorem dX11_sign_77 : decode cX11_sign 77 = .ok (.iinc 8 1, 3) := by decide +kernel
theorem dX11_sign_80 : decode cX11_sign 80 = .ok (.goto (-35), 3) := by decide +kernel
theorem dX11_sign_83 : decode cX11_sign 83 = .ok (.aload_n 0, 1) := by decide +kernel
theorem dX11_sign_84 : decode cX11_sign 84 = .ok (.iload 5, 2) := by decide +kernel
theorem dX11_sign_86 : decode cX11_sign 86 = .ok (.ifCond .ne 7, 3) := by decide +kernel
theorem dX11_sign_89 : decode cX11_sign 89 = .ok (.iconst 1, 1) := by decide +kernel
theorem dX11_sign_90 : decode cX11_sign 90 = .ok (.goto 31, 3) := by decide +kernel
theorem dX11_sign_93 : decode cX11_sign 93 = .ok (.iload 6, 2) := by decide +kernel
theorem dX11_sign_95 : decode cX11_sign 95 = .ok (.ifCond .ne 7, 3) := by decide +kernel
theorem dX11_sign_98 : decode cX11_sign 98 = .ok (.iconst 2, 1) := by decide +kernel
theorem dX11_sign_99 : decode cX11_sign 99 = .ok (.goto 22, 3) := by decide +kernel
theorem dX11_sign_102 : decode cX11_sign 102 = .ok (.iload 7, 2) := by decide +kernel
theorem dX11_sign_104 : decode cX11_sign 104 = .ok (.ifCond .ne 12, 3) := by decide +kernel
theorem dX11_sign_107 : decode cX11_sign 107 = .ok (.aload_n 0, 1) := by decide +kernel
theorem dX11_sign_108 : decode cX11_sign 108 = .ok (.getfield 239, 3) := by decide +kernel
theorem dX11_sign_111 : decode cX11_sign 111 = .ok (.bipush 8, 2) := by decide +kernel
theorem dX11_sign_113 : decode cX11_sign 113 = .ok (.if_icmp .ne 7, 3) := by decide +kernel
theorem dX11_sign_116 : decode cX11_sign 116 = .ok (.iconst 3, 1) := by decide +kernel
theorem dX11_sign_117 : decode cX11_sign 117 = .ok (.goto 4, 3) := by decide +kernel
theorem dX11_sign_120 : decode cX11_sign 120 = .ok (.iconst 0, 1) := by decide +kernel
theorem dX11_sign_121 : decode cX11_sign 121 = .ok (.invokevirtual 142, 3) := by decide +kernel
theorem dX11_sign_124 : decode cX11_sign 124 = .ok (.ifCond .ne 5, 3) := by decide +kernel
theorem dX11_sign_127 : decode cX11_sign 127 = .ok (.iconst 0, 1) := by decide +kernel
theorem dX11_sign_128 : decode cX11_sign 128 = .ok (.ireturn, 1) := by decide +kernel
theorem dX11_sign_129 : decode cX11_sign 129 = .ok (.aload_n 0, 1) := by decide +kernel
theorem dX11_sign_130 : decode cX11_sign 130 = .ok (.getfield 80, 3) := by decide +kernel
theorem dX11_sign_133 : decode cX11_sign 133 = .ok (.aload_n 0, 1) := by decide +kernel
theorem dX11_sign_134 : decode cX11_sign 134 = .ok (.getfield 239, 3) := by decide +kernel
theorem dX11_sign_137 : decode cX11_sign 137 = .ok (.iload_n 1, 1) := by decide +kernel
theorem dX11_sign_138 : decode cX11_sign 138 = .ok (.iastore, 1) := by decide +kernel
theorem dX11_sign_139 : decode cX11_sign 139 = .ok (.aload_n 0, 1) := by decide +kernel
theorem dX11_sign_140 : decode cX11_sign 140 = .ok (.getfield 83, 3) := by decide +kernel
theorem dX11_sign_143 : decode cX11_sign 143 = .ok (.aload_n 0, 1) := by decide +kernel
theorem dX11_sign_144 : decode cX11_sign 144 = .ok (.getfield 239, 3) := by decide +kernel
theorem dX11_sign_147 : decode cX11_sign 147 = .ok (.iload_n 2, 1) := by decide +kernel
theorem dX11_sign_148 : decode cX11_sign 148 = .ok (.iastore, 1) := by decide +kernel
theorem dX11_sign_149 : decode cX11_sign 149 = .ok (.aload_n 0, 1) := by decide +kernel
theorem dX11_sign_150 : decode cX11_sign 150 = .ok (.getfield 86, 3) := by decide +kernel
theorem dX11_sign_153 : decode cX11_sign 153 = .ok (.aload_n 0, 1) := by decide +kernel
theorem dX11_sign_154 : decode cX11_sign 154 = .ok (.getfield 239, 3) := by decide +kernel
theorem dX11_sign_157 : decode cX11_sign 157 = .ok (.iload_n 3, 1) := by decide +kernel
theorem dX11_sign_158 : decode cX11_sign 158 = .ok (.iastore, 1) := by decide +kernel
theorem dX11_sign_159 : decode cX11_sign 159 = .ok (.aload_n 0, 1) := by decide +kernel
theorem dX11_sign_160 : decode cX11_sign 160 = .ok (.getfield 89, 3) := by decide +kernel
theorem dX11_sign_163 : decode cX11_sign 163 = .ok (.aload_n 0, 1) := by decide +kernel
theorem dX11_sign_164 : decode cX11_sign 164 = .ok (.getfield 239, 3) := by decide +kernel
theorem dX11_sign_167 : decode cX11_sign 167 = .ok (.iload 4, 2) := by decide +kernel
theorem dX11_sign_169 : decode cX11_sign 169 = .ok (.iastore, 1) := by decide +kernel
theorem dX11_sign_170 : decode cX11_sign 170 = .ok (.aload_n 0, 1) := by decide +kernel
theorem dX11_sign_171 : decode cX11_sign 171 = .ok (.dup, 1) := by decide +kernel
theorem dX11_sign_172 : decode cX11_sign 172 = .ok (.getfield 239, 3) := by decide +kernel
theorem dX11_sign_175 : decode cX11_sign 175 = .ok (.iconst 1, 1) := by decide +kernel
theorem dX11_sign_176 : decode cX11_sign 176 = .ok (.iadd, 1) := by decide +kernel
theorem dX11_sign_177 : decode cX11_sign 177 = .ok (.putfield 239, 3) := by decide +kernel
theorem dX11_sign_180 : decode cX11_sign 180 = .ok (.aload_n 0, 1) := by decide +kernel
theorem dX11_sign_181 : decode cX11_sign 181 = .ok (.getfield 239, 3) := by decide +kernel
theorem dX11_sign_184 : decode cX11_sign 184 = .ok (.iconst 1, 1) := by decide +kernel
theorem dX11_sign_185 : decode cX11_sign 185 = .ok (.isub, 1) := by decide +kernel
theorem dX11_sign_186 : decode cX11_sign 186 = .ok (.ireturn, 1) := by decide +kernel
theorem dX11_subscribe_0 : decode cX11_subscribe 0 = .ok (.iload_n 1, 1) := by decide +kernel
theorem dX11_subscribe_1 : decode cX11_subscribe 1 = .ok (.invokestatic 146, 3) := by decide +kernel
theorem dX11_subscribe_4 : decode cX11_subscribe 4 = .ok (.ifCond .eq 29, 3) := by decide +kernel
theorem dX11_subscribe_7 : decode cX11_subscribe 7 = .ok (.iload_n 2, 1) := by decide +kernel
theorem dX11_subscribe_8 : decode cX11_subscribe 8 = .ok (.ifCond .eq 13, 3) := by decide +kernel
theorem dX11_subscribe_11 : decode cX11_subscribe 11 = .ok (.iload_n 3, 1) := by decide +kernel
theorem dX11_subscribe_12 : decode cX11_subscribe 12 = .ok (.invokestatic 146, 3) := by decide +kernel
theorem dX11_subscribe_15 : decode cX11_subscribe 15 = .ok (.ifCond .eq 18, 3) := by decide +kernel
theorem dX11_subscribe_18 : decode cX11_subscribe 18 = .ok (.goto 11, 3) := by decide +kernel
theorem dX11_subscribe_21 : decode cX11_subscribe 21 = .ok (.aload_n 0, 1) := by decide +kernel
theorem dX11_subscribe_22 : decode cX11_subscribe 22 = .ok (.iload_n 3, 1) := by decide +kernel
theorem dX11_subscribe_23 : decode cX11_subscribe 23 = .ok (.invokevirtual 152, 3) := by decide +kernel
theorem dX11_subscribe_26 : decode cX11_subscribe 26 = .ok (.ifCond .eq 7, 3) := by decide +kernel
theorem dX11_subscribe_29 : decode cX11_subscribe 29 = .ok (.iconst 1, 1) := by decide +kernel
theorem dX11_subscribe_30 : decode cX11_subscribe 30 = .ok (.goto 4, 3) := by decide +kernel
theorem dX11_subscribe_33 : decode cX11_subscribe 33 = .ok (.iconst 0, 1) := by decide +kernel
theorem dX11_subscribe_34 : decode cX11_subscribe 34 = .ok (.istore 4, 2) := by decide +kernel
theorem dX11_subscribe_36 : decode cX11_subscribe 36 = .ok (.aload_n 0, 1) := by decide +kernel
theorem dX11_subscribe_37 : decode cX11_subscribe 37 = .ok (.iload 4, 2) := by decide +kernel
theorem dX11_subscribe_39 : decode cX11_subscribe 39 = .ok (.ifCond .eq 7, 3) := by decide +kernel
theorem dX11_subscribe_42 : decode cX11_subscribe 42 = .ok (.iconst 0, 1) := by decide +kernel
theorem dX11_subscribe_43 : decode cX11_subscribe 43 = .ok (.goto 4, 3) := by decide +kernel
theorem dX11_subscribe_46 : decode cX11_subscribe 46 = .ok (.iconst 1, 1) := by decide +kernel
theorem dX11_subscribe_47 : decode cX11_subscribe 47 = .ok (.invokevirtual 142, 3) := by decide +kernel
theorem dX11_subscribe_50 : decode cX11_subscribe 50 = .ok (.ifCond .ne 5, 3) := by decide +kernel
theorem dX11_subscribe_53 : decode cX11_subscribe 53 = .ok (.iconst 0, 1) := by decide +kernel
theorem dX11_subscribe_54 : decode cX11_subscribe 54 = .ok (.ireturn, 1) := by decide +kernel
theorem dX11_subscribe_55 : decode cX11_subscribe 55 = .ok (.iload_n 2, 1) := by decide +kernel
theorem dX11_subscribe_56 : decode cX11_subscribe 56 = .ok (.ifCond .eq 17, 3) := by decide +kernel
theorem dX11_subscribe_59 : decode cX11_subscribe 59 = .ok (.aload_n 0, 1) := by decide +kernel
theorem dX11_subscribe_60 : decode cX11_subscribe 60 = .ok (.getfield 119, 3) := by decide +kernel
theorem dX11_subscribe_63 : decode cX11_subscribe 63 = .ok (.bipush 12, 2) := by decide +kernel
theorem dX11_subscribe_65 : decode cX11_subscribe 65 = .ok (.iload_n 1, 1) := by decide +kernel
theorem dX11_subscribe_66 : decode cX11_subscribe 66 = .ok (.imul, 1) := by decide +kernel
theorem dX11_subscribe_67 : decode cX11_subscribe 67 = .ok (.iload_n 3, 1) := by decide +kernel
theorem dX11_subscribe_68 : decode cX11_subscribe 68 = .ok (.iadd, 1) := by decide +kernel
theorem dX11_subscribe_69 : decode cX11_subscribe 69 = .ok (.iaload, 1) := by decide +kernel
theorem dX11_subscribe_70 : decode cX11_subscribe 70 = .ok (.goto 14, 3) := by decide +kernel
theorem dX11_subscribe_73 : decode cX11_subscribe 73 = .ok (.aload_n 0, 1) := by decide +kernel
theorem dX11_subscribe_74 : decode cX11_subscribe 74 = .ok (.getfield 116, 3) := by decide +kernel
theorem dX11_subscribe_77 : decode cX11_subscribe 77 = .ok (.bipush 20, 2) := by decide +kernel
theorem dX11_subscribe_79 : decode cX11_subscribe 79 = .ok (.iload_n 1, 1) := by decide +kernel
theorem dX11_subscribe_80 : decode cX11_subscribe 80 = .ok (.imul, 1) := by decide +kernel
theorem dX11_subscribe_81 : decode cX11_subscribe 81 = .ok (.iload_n 3, 1) := by decide +kernel
theorem dX11_subscribe_82 : decode cX11_subscribe 82 = .ok (.iadd, 1) := by decide +kernel
theorem dX11_subscribe_83 : decode cX11_subscribe 83 = .ok (.iaload, 1) := by decide +kernel
theorem dX11_subscribe_84 : decode cX11_subscribe 84 = .ok (.istore 5, 2) := by decide +kernel
theorem dX11_subscribe_86 : decode cX11_subscribe 86 = .ok (.iload 5, 2) := by decide +kernel
theorem dX11_subscribe_88 : decode cX11_subscribe 88 = .ok (.iconst (-1), 1) := by decide +kernel
theorem dX11_subscribe_89 : decode cX11_subscribe 89 = .ok (.if_icmp .ne 25, 3) := by decide +kernel
theorem dX11_subscribe_92 : decode cX11_subscribe 92 = .ok (.iload_n 2, 1) := by decide +kernel
theorem dX11_subscribe_93 : decode cX11_subscribe 93 = .ok (.ifCond .eq 21, 3) := by decide +kernel
theorem dX11_subscribe_96 : decode cX11_subscribe 96 = .ok (.aload_n 0, 1) := by decide +kernel
theorem dX11_subscribe_97 : decode cX11_subscribe 97 = .ok (.getfield 119, 3) := by decide +kernel
theorem dX11_subscribe_100 : decode cX11_subscribe 100 = .ok (.bipush 12, 2) := by decide +kernel
theorem dX11_subscribe_102 : decode cX11_subscribe 102 = .ok (.iload_n 1, 1) := by decide +kernel
theorem dX11_subscribe_103 : decode cX11_subscribe 103 = .ok (.imul, 1) := by decide +kernel
theorem dX11_subscribe_104 : decode cX11_subscribe 104 = .ok (.iload_n 3, 1) := by decide +kernel
theorem dX11_subscribe_105 : decode cX11_subscribe 105 = .ok (.iadd, 1) := by decide +kernel
theorem dX11_subscribe_106 : decode cX11_subscribe 106 = .ok (.aload_n 0, 1) := by decide +kernel
theorem dX11_subscribe_107 : decode cX11_subscribe 107 = .ok (.getfield 139, 3) := by decide +kernel
theorem dX11_subscribe_110 : decode cX11_subscribe 110 = .ok (.iastore, 1) := by decide +kernel
theorem dX11_subscribe_111 : decode cX11_subscribe 111 = .ok (.goto 24, 3) := by decide +kernel
theorem dX11_subscribe_114 : decode cX11_subscribe 114 = .ok (.iload 5, 2) := by decide +kernel
theorem dX11_subscribe_116 : decode cX11_subscribe 116 = .ok (.iconst (-1), 1) := by decide +kernel
theorem dX11_subscribe_117 : decode cX11_subscribe 117 = .ok (.if_icmp .ne 18, 3) := by decide +kernel
theorem dX11_subscribe_120 : decode cX11_subscribe 120 = .ok (.aload_n 0, 1) := by decide +kernel
theorem dX11_subscribe_121 : decode cX11_subscribe 121 = .ok (.getfield 116, 3) := by decide +kernel
theorem dX11_subscribe_124 : decode cX11_subscribe 124 = .ok (.bipush 20, 2) := by decide +kernel
theorem dX11_subscribe_126 : decode cX11_subscribe 126 = .ok (.iload_n 1, 1) := by decide +kernel
theorem dX11_subscribe_127 : decode cX11_subscribe 127 = .ok (.imul, 1) := by decide +kernel
theorem dX11_subscribe_128 : decode cX11_subscribe 128 = .ok (.iload_n 3, 1) := by decide +kernel
theorem dX11_subscribe_129 : decode cX11_subscribe 129 = .ok (.iadd, 1) := by decide +kernel
theorem dX11_subscribe_130 : decode cX11_subscribe 130 = .ok (.aload_n 0, 1) := by decide +kernel
theorem dX11_subscribe_131 : decode cX11_subscribe 131 = .ok (.getfield 139, 3) := by decide +kernel
theorem dX11_subscribe_134 : decode cX11_subscribe 134 = .ok (.iastore, 1) := by decide +kernel
theorem dX11_subscribe_135 : decode cX11_subscribe 135 = .ok (.iload 5, 2) := by decide +kernel
theorem dX11_subscribe_137 : decode cX11_subscribe 137 = .ok (.iconst (-1), 1) := by decide +kernel
theorem dX11_subscribe_138 : decode cX11_subscribe 138 = .ok (.if_icmp .ne 7, 3) := by decide +kernel
theorem dX11_subscribe_141 : decode cX11_subscribe 141 = .ok (.iconst 1, 1) := by decide +kernel
theorem dX11_subscribe_142 : decode cX11_subscribe 142 = .ok (.goto 4, 3) := by decide +kernel
theorem dX11_subscribe_145 : decode cX11_subscribe 145 = .ok (.iconst 0, 1) := by decide +kernel
theorem dX11_subscribe_146 : decode cX11_subscribe 146 = .ok (.ireturn, 1) := by decide +kernel
theorem dX11_tag_0 : decode cX11_tag 0 = .ok (.aload_n 0, 1) := by decide +kernel
theorem dX11_tag_1 : decode cX11_tag 1 = .ok (.aload_n 0, 1) := by decide +kernel
theorem dX11_tag_2 : decode cX11_tag 2 = .ok (.getfield 136, 3) := by decide +kernel
theorem dX11_tag_5 : decode cX11_tag 5 = .ok (.bipush 30, 2) := by decide +kernel
theorem dX11_tag_7 : decode cX11_tag 7 = .ok (.if_icmp .ne 7, 3) := by decide +kernel
theorem dX11_tag_10 : decode cX11_tag 10 = .ok (.iconst 1, 1) := by decide +kernel
theorem dX11_tag_11 : decode cX11_tag 11 = .ok (.goto 4, 3) := by decide +kernel
theorem dX11_tag_14 : decode cX11_tag 14 = .ok (.iconst 0, 1) := by decide +kernel
theorem dX11_tag_15 : decode cX11_tag 15 = .ok (.invokevirtual 142, 3) := by decide +kernel
theorem dX11_tag_18 : decode cX11_tag 18 = .ok (.ifCond .ne 5, 3) := by decide +kernel
theorem dX11_tag_21 : decode cX11_tag 21 = .ok (.iconst 0, 1) := by decide +kernel
theorem dX11_tag_22 : decode cX11_tag 22 = .ok (.ireturn, 1) := by decide +kernel
theorem dX11_tag_23 : decode cX11_tag 23 = .ok (.aload_n 0, 1) := by decide +kernel
theorem dX11_tag_24 : decode cX11_tag 24 = .ok (.dup, 1) := by decide +kernel
theorem dX11_tag_25 : decode cX11_tag 25 = .ok (.getfield 136, 3) := by decide +kernel
theorem dX11_tag_28 : decode cX11_tag 28 = .ok (.iconst 1, 1) := by decide +kernel
theorem dX11_tag_29 : decode cX11_tag 29 = .ok (.iadd, 1) := by decide +kernel
theorem dX11_tag_30 : decode cX11_tag 30 = .ok (.putfield 136, 3) := by decide +kernel
theorem dX11_tag_33 : decode cX11_tag 33 = .ok (.aload_n 0, 1) := by decide +kernel
theorem dX11_tag_34 : decode cX11_tag 34 = .ok (.getfield 136, 3) := by decide +kernel
theorem dX11_tag_37 : decode cX11_tag 37 = .ok (.iconst 1, 1) := by decide +kernel
theorem dX11_tag_38 : decode cX11_tag 38 = .ok (.isub, 1) := by decide +kernel
theorem dX11_tag_39 : decode cX11_tag 39 = .ok (.ireturn, 1) := by decide +kernel
theorem dX11_thrown_0 : decode cX11_thrown 0 = .ok (.aload_n 0, 1) := by decide +kernel
theorem dX11_thrown_1 : decode cX11_thrown 1 = .ok (.getfield 125, 3) := by decide +kernel
theorem dX11_thrown_4 : decode cX11_thrown 4 = .ok (.ireturn, 1) := by decide +kernel
theorem dX11_canBe_0 : decode cX11_canBe 0 = .ok (.iload_n 0, 1) := by decide +kernel
theorem dX11_canBe_1 : decode cX11_canBe 1 = .ok (.invokestatic 194, 3) := by decide +kernel
theorem dX11_canBe_4 : decode cX11_canBe 4 = .ok (.ifCond .ne 51, 3) := by decide +kernel
theorem dX11_canBe_7 : decode cX11_canBe 7 = .ok (.iload_n 0, 1) := by decide +kernel
theorem dX11_canBe_8 : decode cX11_canBe 8 = .ok (.bipush 116, 2) := by decide +kernel
theorem dX11_canBe_10 : decode cX11_canBe 10 = .ok (.if_icmp .eq 45, 3) := by decide +kernel
theorem dX11_canBe_13 : decode cX11_canBe 13 = .ok (.iload_n 0, 1) := by decide +kernel
theorem dX11_canBe_14 : decode cX11_canBe 14 = .ok (.bipush 97, 2) := by decide +kernel
theorem dX11_canBe_16 : decode cX11_canBe 16 = .ok (.if_icmp .eq 39, 3) := by decide +kernel
theorem dX11_canBe_19 : decode cX11_canBe 19 = .ok (.iload_n 0, 1) := by decide +kernel
theorem dX11_canBe_20 : decode cX11_canBe 20 = .ok (.bipush 114, 2) := by decide +kernel
theorem dX11_canBe_22 : decode cX11_canBe 22 = .ok (.if_icmp .eq 33, 3) := by decide +kernel
theorem dX11_canBe_25 : decode cX11_canBe 25 = .ok (.iload_n 0, 1) := by decide +kernel
theorem dX11_canBe_26 : decode cX11_canBe 26 = .ok (.bipush 38, 2) := by decide +kernel
theorem dX11_canBe_28 : decode cX11_canBe 28 = .ok (.if_icmp .eq 27, 3) := by decide +kernel
theorem dX11_canBe_31 : decode cX11_canBe 31 = .ok (.iload_n 0, 1) := by decide +kernel
theorem dX11_canBe_32 : decode cX11_canBe 32 = .ok (.bipush 124, 2) := by decide +kernel
theorem dX11_canBe_34 : decode cX11_canBe 34 = .ok (.if_icmp .eq 21, 3) := by decide +kernel
theorem dX11_canBe_37 : decode cX11_canBe 37 = .ok (.iload_n 0, 1) := by decide +kernel
theorem dX11_canBe_38 : decode cX11_canBe 38 = .ok (.bipush 33, 2) := by decide +kernel
theorem dX11_canBe_40 : decode cX11_canBe 40 = .ok (.if_icmp .eq 15, 3) := by decide +kernel
theorem dX11_canBe_43 : decode cX11_canBe 43 = .ok (.iload_n 0, 1) := by decide +kernel
theorem dX11_canBe_44 : decode cX11_canBe 44 = .ok (.bipush 40, 2) := by decide +kernel
theorem dX11_canBe_46 : decode cX11_canBe 46 = .ok (.if_icmp .eq 9, 3) := by decide +kernel
theorem dX11_canBe_49 : decode cX11_canBe 49 = .ok (.iload_n 0, 1) := by decide +kernel
theorem dX11_canBe_50 : decode cX11_canBe 50 = .ok (.bipush 41, 2) := by decide +kernel
theorem dX11_canBe_52 : decode cX11_canBe 52 = .ok (.if_icmp .ne 7, 3) := by decide +kernel
theorem dX11_canBe_55 : decode cX11_canBe 55 = .ok (.iconst 1, 1) := by decide +kernel
theorem dX11_canBe_56 : decode cX11_canBe 56 = .ok (.goto 4, 3) := by decide +kernel
theorem dX11_canBe_59 : decode cX11_canBe 59 = .ok (.iconst 0, 1) := by decide +kernel
theorem dX11_canBe_60 : decode cX11_canBe 60 = .ok (.ireturn, 1) := by decide +kernel
theorem dX11_type_0 : decode cX11_type 0 = .ok (.iload_n 3, 1) := by decide +kernel
theorem dX11_type_1 : decode cX11_type 1 = .ok (.iconst 1, 1) := by decide +kernel
theorem dX11_type_2 : decode cX11_type 2 = .ok (.bipush 8, 2) := by decide +kernel
theorem dX11_type_4 : decode cX11_type 4 = .ok (.invokestatic 129, 3) := by decide +kernel
theorem dX11_type_7 : decode cX11_type 7 = .ok (.istore 4, 2) := by decide +kernel
theorem dX11_type_9 : decode cX11_type 9 = .ok (.iconst 0, 1) := by decide +kernel
theorem dX11_type_10 : decode cX11_type 10 = .ok (.istore 5, 2) := by decide +kernel
theorem dX11_type_12 : decode cX11_type 12 = .ok (.iload 5, 2) := by decide +kernel
theorem dX11_type_14 : decode cX11_type 14 = .ok (.iload_n 3, 1) := by decide +kernel
theorem dX11_type_15 : decode cX11_type 15 = .ok (.if_icmp .ge 31, 3) := by decide +kernel
theorem dX11_type_18 : decode cX11_type 18 = .ok (.iload 4, 2) := by decide +kernel
theorem dX11_type_20 : decode cX11_type 20 = .ok (.ifCond .eq 26, 3) := by decide +kernel
theorem dX11_type_23 : decode cX11_type 23 = .ok (.lload_n 1, 1) := by decide +kernel
theorem dX11_type_24 : decode cX11_type 24 = .ok (.bipush 8, 2) := by decide +kernel
theorem dX11_type_26 : decode cX11_type 26 = .ok (.iload 5, 2) := by decide +kernel
theorem dX11_type_28 : decode cX11_type 28 = .ok (.imul, 1) := by decide +kernel
theorem dX11_type_29 : decode cX11_type 29 = .ok (.lushr, 1) := by decide +kernel
theorem dX11_type_30 : decode cX11_type 30 = .ok (.ldc2_w 197, 3) := by decide +kernel
theorem dX11_type_33 : decode cX11_type 33 = .ok (.land, 1) := by decide +kernel
theorem dX11_type_34 : decode cX11_type 34 = .ok (.l2i, 1) := by decide +kernel
theorem dX11_type_35 : decode cX11_type 35 = .ok (.invokestatic 199, 3) := by decide +kernel
theorem dX11_type_38 : decode cX11_type 38 = .ok (.istore 4, 2) := by decide +kernel
theorem dX11_type_40 : decode cX11_type 40 = .ok (.iinc 5 1, 3) := by decide +kernel
theorem dX11_type_43 : decode cX11_type 43 = .ok (.goto (-31), 3) := by decide +kernel
theorem dX11_type_46 : decode cX11_type 46 = .ok (.aload_n 0, 1) := by decide +kernel
theorem dX11_type_47 : decode cX11_type 47 = .ok (.iload 4, 2) := by decide +kernel
theorem dX11_type_49 : decode cX11_type 49 = .ok (.ifCond .ne 7, 3) := by decide +kernel
theorem dX11_type_52 : decode cX11_type 52 = .ok (.iconst 1, 1) := by decide +kernel
theorem dX11_type_53 : decode cX11_type 53 = .ok (.goto 19, 3) := by decide +kernel
theorem dX11_type_56 : decode cX11_type 56 = .ok (.aload_n 0, 1) := by decide +kernel
theorem dX11_type_57 : decode cX11_type 57 = .ok (.getfield 202, 3) := by decide +kernel
theorem dX11_type_60 : decode cX11_type 60 = .ok (.iload_n 3, 1) := by decide +kernel
theorem dX11_type_61 : decode cX11_type 61 = .ok (.iadd, 1) := by decide +kernel
theorem dX11_type_62 : decode cX11_type 62 = .ok (.bipush 60, 2) := by decide +kernel
theorem dX11_type_64 : decode cX11_type 64 = .ok (.if_icmp .le 7, 3) := by decide +kernel
theorem dX11_type_67 : decode cX11_type 67 = .ok (.iconst 2, 1) := by decide +kernel
theorem dX11_type_68 : decode cX11_type 68 = .ok (.goto 4, 3) := by decide +kernel
theorem dX11_type_71 : decode cX11_type 71 = .ok (.iconst 0, 1) := by decide +kernel
theorem dX11_type_72 : decode cX11_type 72 = .ok (.invokevirtual 142, 3) := by decide +kernel
theorem dX11_type_75 : decode cX11_type 75 = .ok (.ifCond .ne 5, 3) := by decide +kernel
theorem dX11_type_78 : decode cX11_type 78 = .ok (.iconst 0, 1) := by decide +kernel
theorem dX11_type_79 : decode cX11_type 79 = .ok (.ireturn, 1) := by decide +kernel
theorem dX11_type_80 : decode cX11_type 80 = .ok (.iconst 0, 1) := by decide +kernel
theorem dX11_type_81 : decode cX11_type 81 = .ok (.istore 5, 2) := by decide +kernel
theorem dX11_type_83 : decode cX11_type 83 = .ok (.iload 5, 2) := by decide +kernel
theorem dX11_type_85 : decode cX11_type 85 = .ok (.iload_n 3, 1) := by decide +kernel
theorem dX11_type_86 : decode cX11_type 86 = .ok (.if_icmp .ge 40, 3) := by decide +kernel
theorem dX11_type_89 : decode cX11_type 89 = .ok (.aload_n 0, 1) := by decide +kernel
theorem dX11_type_90 : decode cX11_type 90 = .ok (.getfield 68, 3) := by decide +kernel
theorem dX11_type_93 : decode cX11_type 93 = .ok (.aload_n 0, 1) := by decide +kernel
theorem dX11_type_94 : decode cX11_type 94 = .ok (.getfield 202, 3) := by decide +kernel
theorem dX11_type_97 : decode cX11_type 97 = .ok (.lload_n 1, 1) := by decide +kernel
theorem dX11_type_98 : decode cX11_type 98 = .ok (.bipush 8, 2) := by decide +kernel
theorem dX11_type_100 : decode cX11_type 100 = .ok (.iload 5, 2) := by decide +kernel
theorem dX11_type_102 : decode cX11_type 102 = .ok (.imul, 1) := by decide +kernel
theorem dX11_type_103 : decode cX11_type 103 = .ok (.lushr, 1) := by decide +kernel
theorem dX11_type_104 : decode cX11_type 104 = .ok (.ldc2_w 197, 3) := by decide +kernel
theorem dX11_type_107 : decode cX11_type 107 = .ok (.land, 1) := by decide +kernel
theorem dX11_type_108 : decode cX11_type 108 = .ok (.l2i, 1) := by decide +kernel
theorem dX11_type_109 : decode cX11_type 109 = .ok (.iastore, 1) := by decide +kernel
theorem dX11_type_110 : decode cX11_type 110 = .ok (.aload_n 0, 1) := by decide +kernel
theorem dX11_type_111 : decode cX11_type 111 = .ok (.dup, 1) := by decide +kernel
theorem dX11_type_112 : decode cX11_type 112 = .ok (.getfield 202, 3) := by decide +kernel
theorem dX11_type_115 : decode cX11_type 115 = .ok (.iconst 1, 1) := by decide +kernel
theorem dX11_type_116 : decode cX11_type 116 = .ok (.iadd, 1) := by decide +kernel
theorem dX11_type_117 : decode cX11_type 117 = .ok (.putfield 202, 3) := by decide +kernel
theorem dX11_type_120 : decode cX11_type 120 = .ok (.iinc 5 1, 3) := by decide +kernel
theorem dX11_type_123 : decode cX11_type 123 = .ok (.goto (-40), 3) := by decide +kernel
theorem dX11_type_126 : decode cX11_type 126 = .ok (.aload_n 0, 1) := by decide +kernel
theorem dX11_type_127 : decode cX11_type 127 = .ok (.getfield 202, 3) := by decide +kernel
theorem dX11_type_130 : decode cX11_type 130 = .ok (.ireturn, 1) := by decide +kernel
theorem dX11_under_0 : decode cX11_under 0 = .ok (.aload_n 0, 1) := by decide +kernel
theorem dX11_under_1 : decode cX11_under 1 = .ok (.aload_n 0, 1) := by decide +kernel
theorem dX11_under_2 : decode cX11_under 2 = .ok (.iload_n 1, 1) := by decide +kernel
theorem dX11_under_3 : decode cX11_under 3 = .ok (.invokevirtual 152, 3) := by decide +kernel
theorem dX11_under_6 : decode cX11_under 6 = .ok (.ifCond .eq 7, 3) := by decide +kernel
theorem dX11_under_9 : decode cX11_under 9 = .ok (.iconst 0, 1) := by decide +kernel
theorem dX11_under_10 : decode cX11_under 10 = .ok (.goto 4, 3) := by decide +kernel
theorem dX11_under_13 : decode cX11_under 13 = .ok (.iconst 1, 1) := by decide +kernel
theorem dX11_under_14 : decode cX11_under 14 = .ok (.invokevirtual 142, 3) := by decide +kernel
theorem dX11_under_17 : decode cX11_under 17 = .ok (.ifCond .ne 5, 3) := by decide +kernel
theorem dX11_under_20 : decode cX11_under 20 = .ok (.iconst 0, 1) := by decide +kernel
theorem dX11_under_21 : decode cX11_under 21 = .ok (.ireturn, 1) := by decide +kernel
theorem dX11_under_22 : decode cX11_under 22 = .ok (.iload_n 2, 1) := by decide +kernel
theorem dX11_under_23 : decode cX11_under 23 = .ok (.ifCond .eq 11, 3) := by decide +kernel
theorem dX11_under_26 : decode cX11_under 26 = .ok (.aload_n 0, 1) := by decide +kernel
theorem dX11_under_27 : decode cX11_under 27 = .ok (.iload_n 1, 1) := by decide +kernel
theorem dX11_under_28 : decode cX11_under 28 = .ok (.invokevirtual 181, 3) := by decide +kernel
theorem dX11_under_31 : decode cX11_under 31 = .ok (.goto 9, 3) := by decide +kernel
theorem dX11_under_34 : decode cX11_under 34 = .ok (.aload_n 0, 1) := by decide +kernel
theorem dX11_under_35 : decode cX11_under 35 = .ok (.getfield 41, 3) := by decide +kernel
theorem dX11_under_38 : decode cX11_under 38 = .ok (.iload_n 1, 1) := by decide +kernel
theorem dX11_under_39 : decode cX11_under 39 = .ok (.iaload, 1) := by decide +kernel
theorem dX11_under_40 : decode cX11_under 40 = .ok (.ireturn, 1) := by decide +kernel
theorem dX11_waiting_0 : decode cX11_waiting 0 = .ok (.aload_n 0, 1) := by decide +kernel
theorem dX11_waiting_1 : decode cX11_waiting 1 = .ok (.iconst 0, 1) := by decide +kernel
theorem dX11_waiting_2 : decode cX11_waiting 2 = .ok (.putfield 125, 3) := by decide +kernel
theorem dX11_waiting_5 : decode cX11_waiting 5 = .ok (.iconst 0, 1) := by decide +kernel
theorem dX11_waiting_6 : decode cX11_waiting 6 = .ok (.istore_n 1, 1) := by decide +kernel
theorem dX11_waiting_7 : decode cX11_waiting 7 = .ok (.iconst 0, 1) := by decide +kernel
theorem dX11_waiting_8 : decode cX11_waiting 8 = .ok (.istore_n 2, 1) := by decide +kernel
theorem dX11_waiting_9 : decode cX11_waiting 9 = .ok (.iload_n 2, 1) := by decide +kernel
theorem dX11_waiting_10 : decode cX11_waiting 10 = .ok (.aload_n 0, 1) := by decide +kernel
theorem dX11_waiting_11 : decode cX11_waiting 11 = .ok (.getfield 133, 3) := by decide +kernel
theorem dX11_waiting_14 : decode cX11_waiting 14 = .ok (.if_icmp .ge 28, 3) := by decide +kernel
theorem dX11_waiting_17 : decode cX11_waiting 17 = .ok (.iload_n 1, 1) := by decide +kernel
theorem dX11_waiting_18 : decode cX11_waiting 18 = .ok (.aload_n 0, 1) := by decide +kernel
theorem dX11_waiting_19 : decode cX11_waiting 19 = .ok (.getfield 44, 3) := by decide +kernel
theorem dX11_waiting_22 : decode cX11_waiting 22 = .ok (.iload_n 2, 1) := by decide +kernel
theorem dX11_waiting_23 : decode cX11_waiting 23 = .ok (.baload, 1) := by decide +kernel
theorem dX11_waiting_24 : decode cX11_waiting 24 = .ok (.ifCond .eq 9, 3) := by decide +kernel
theorem dX11_waiting_27 : decode cX11_waiting 27 = .ok (.iconst 1, 1) := by decide +kernel
theorem dX11_waiting_28 : decode cX11_waiting 28 = .ok (.iload_n 2, 1) := by decide +kernel
theorem dX11_waiting_29 : decode cX11_waiting 29 = .ok (.ishl, 1) := by decide +kernel
theorem dX11_waiting_30 : decode cX11_waiting 30 = .ok (.goto 4, 3) := by decide +kernel
theorem dX11_waiting_33 : decode cX11_waiting 33 = .ok (.iconst 0, 1) := by decide +kernel
theorem dX11_waiting_34 : decode cX11_waiting 34 = .ok (.ior, 1) := by decide +kernel
theorem dX11_waiting_35 : decode cX11_waiting 35 = .ok (.istore_n 1, 1) := by decide +kernel
theorem dX11_waiting_36 : decode cX11_waiting 36 = .ok (.iinc 2 1, 3) := by decide +kernel
theorem dX11_waiting_39 : decode cX11_waiting 39 = .ok (.goto (-30), 3) := by decide +kernel
theorem dX11_waiting_42 : decode cX11_waiting 42 = .ok (.iload_n 1, 1) := by decide +kernel
theorem dX11_waiting_43 : decode cX11_waiting 43 = .ok (.ireturn, 1) := by decide +kernel
theorem dX11_wave_0 : decode cX11_wave 0 = .ok (.aload_n 0, 1) := by decide +kernel
theorem dX11_wave_1 : decode cX11_wave 1 = .ok (.iload_n 1, 1) := by decide +kernel
theorem dX11_wave_2 : decode cX11_wave 2 = .ok (.iconst 1, 1) := by decide +kernel
theorem dX11_wave_3 : decode cX11_wave 3 = .ok (.bipush 20, 2) := by decide +kernel
theorem dX11_wave_5 : decode cX11_wave 5 = .ok (.invokestatic 129, 3) := by decide +kernel
theorem dX11_wave_8 : decode cX11_wave 8 = .ok (.ifCond .eq 7, 3) := by decide +kernel
theorem dX11_wave_11 : decode cX11_wave 11 = .ok (.iconst 0, 1) := by decide +kernel
theorem dX11_wave_12 : decode cX11_wave 12 = .ok (.goto 4, 3) := by decide +kernel
theorem dX11_wave_15 : decode cX11_wave 15 = .ok (.iconst 1, 1) := by decide +kernel
theorem dX11_wave_16 : decode cX11_wave 16 = .ok (.invokevirtual 142, 3) := by decide +kernel
theorem dX11_wave_19 : decode cX11_wave 19 = .ok (.ifCond .ne 5, 3) := by decide +kernel
theorem dX11_wave_22 : decode cX11_wave 22 = .ok (.iconst 0, 1) := by decide +kernel
theorem dX11_wave_23 : decode cX11_wave 23 = .ok (.ireturn, 1) := by decide +kernel
theorem dX11_wave_24 : decode cX11_wave 24 = .ok (.iconst 0, 1) := by decide +kernel
theorem dX11_wave_25 : decode cX11_wave 25 = .ok (.istore_n 2, 1) := by decide +kernel
theorem dX11_wave_26 : decode cX11_wave 26 = .ok (.iconst 0, 1) := by decide +kernel
theorem dX11_wave_27 : decode cX11_wave 27 = .ok (.istore_n 3, 1) := by decide +kernel
theorem dX11_wave_28 : decode cX11_wave 28 = .ok (.iload_n 3, 1) := by decide +kernel
theorem dX11_wave_29 : decode cX11_wave 29 = .ok (.aload_n 0, 1) := by decide +kernel
theorem dX11_wave_30 : decode cX11_wave 30 = .ok (.getfield 133, 3) := by decide +kernel
theorem dX11_wave_33 : decode cX11_wave 33 = .ok (.if_icmp .ge 31, 3) := by decide +kernel
theorem dX11_wave_36 : decode cX11_wave 36 = .ok (.iload_n 2, 1) := by decide +kernel
theorem dX11_wave_37 : decode cX11_wave 37 = .ok (.iload_n 1, 1) := by decide +kernel
theorem dX11_wave_38 : decode cX11_wave 38 = .ok (.if_icmp .ge 26, 3) := by decide +kernel
theorem dX11_wave_41 : decode cX11_wave 41 = .ok (.aload_n 0, 1) := by decide +kernel
theorem dX11_wave_42 : decode cX11_wave 42 = .ok (.getfield 44, 3) := by decide +kernel
theorem dX11_wave_45 : decode cX11_wave 45 = .ok (.iload_n 3, 1) := by decide +kernel
theorem dX11_wave_46 : decode cX11_wave 46 = .ok (.baload, 1) := by decide +kernel
theorem dX11_wave_47 : decode cX11_wave 47 = .ok (.ifCond .eq 11, 3) := by decide +kernel
theorem dX11_wave_50 : decode cX11_wave 50 = .ok (.aload_n 0, 1) := by decide +kernel
theorem dX11_wave_51 : decode cX11_wave 51 = .ok (.iload_n 3, 1) := by decide +kernel
theorem dX11_wave_52 : decode cX11_wave 52 = .ok (.invokevirtual 190, 3) := by decide +kernel
theorem dX11_wave_55 : decode cX11_wave 55 = .ok (.iinc 2 1, 3) := by decide +kernel
theorem dX11_wave_58 : decode cX11_wave 58 = .ok (.iinc 3 1, 3) := by decide +kernel
theorem dX11_wave_61 : decode cX11_wave 61 = .ok (.goto (-33), 3) := by decide +kernel
theorem dX11_wave_64 : decode cX11_wave 64 = .ok (.iload_n 2, 1) := by decide +kernel
theorem dX11_wave_65 : decode cX11_wave 65 = .ok (.ireturn, 1) := by decide +kernel
theorem dX11_wipe_0 : decode cX11_wipe 0 = .ok (.aload_n 0, 1) := by decide +kernel
theorem dX11_wipe_1 : decode cX11_wipe 1 = .ok (.iconst 0, 1) := by decide +kernel
theorem dX11_wipe_2 : decode cX11_wipe 2 = .ok (.putfield 125, 3) := by decide +kernel
theorem dX11_wipe_5 : decode cX11_wipe 5 = .ok (.aload_n 0, 1) := by decide +kernel
theorem dX11_wipe_6 : decode cX11_wipe 6 = .ok (.getfield 202, 3) := by decide +kernel
theorem dX11_wipe_9 : decode cX11_wipe 9 = .ok (.istore_n 1, 1) := by decide +kernel
theorem dX11_wipe_10 : decode cX11_wipe 10 = .ok (.aload_n 0, 1) := by decide +kernel
theorem dX11_wipe_11 : decode cX11_wipe 11 = .ok (.iconst 0, 1) := by decide +kernel
theorem dX11_wipe_12 : decode cX11_wipe 12 = .ok (.putfield 202, 3) := by decide +kernel
theorem dX11_wipe_15 : decode cX11_wipe 15 = .ok (.iload_n 1, 1) := by decide +kernel
theorem dX11_wipe_16 : decode cX11_wipe 16 = .ok (.ireturn, 1) := by decide +kernel
theorem dX11_work_0 : decode cX11_work 0 = .ok (.aload_n 0, 1) := by decide +kernel
theorem dX11_work_1 : decode cX11_work 1 = .ok (.iload_n 1, 1) := by decide +kernel
theorem dX11_work_2 : decode cX11_work 2 = .ok (.invokestatic 146, 3) := by decide +kernel
theorem dX11_work_5 : decode cX11_work 5 = .ok (.ifCond .ne 7, 3) := by decide +kernel
theorem dX11_work_8 : decode cX11_work 8 = .ok (.iconst 1, 1) := by decide +kernel
theorem dX11_work_9 : decode cX11_work 9 = .ok (.goto 30, 3) := by decide +kernel
theorem dX11_work_12 : decode cX11_work 12 = .ok (.iload_n 2, 1) := by decide +kernel
theorem dX11_work_13 : decode cX11_work 13 = .ok (.iconst 0, 1) := by decide +kernel
theorem dX11_work_14 : decode cX11_work 14 = .ok (.iconst 3, 1) := by decide +kernel
theorem dX11_work_15 : decode cX11_work 15 = .ok (.invokestatic 129, 3) := by decide +kernel
theorem dX11_work_18 : decode cX11_work 18 = .ok (.ifCond .ne 7, 3) := by decide +kernel
theorem dX11_work_21 : decode cX11_work 21 = .ok (.iconst 2, 1) := by decide +kernel
theorem dX11_work_22 : decode cX11_work 22 = .ok (.goto 17, 3) := by decide +kernel
theorem dX11_work_25 : decode cX11_work 25 = .ok (.aload_n 0, 1) := by decide +kernel
theorem dX11_work_26 : decode cX11_work 26 = .ok (.getfield 133, 3) := by decide +kernel
theorem dX11_work_29 : decode cX11_work 29 = .ok (.bipush 20, 2) := by decide +kernel
theorem dX11_work_31 : decode cX11_work 31 = .ok (.if_icmp .ne 7, 3) := by decide +kernel
theorem dX11_work_34 : decode cX11_work 34 = .ok (.iconst 3, 1) := by decide +kernel
theorem dX11_work_35 : decode cX11_work 35 = .ok (.goto 4, 3) := by decide +kernel
theorem dX11_work_38 : decode cX11_work 38 = .ok (.iconst 0, 1) := by decide +kernel
theorem dX11_work_39 : decode cX11_work 39 = .ok (.invokevirtual 142, 3) := by decide +kernel
theorem dX11_work_42 : decode cX11_work 42 = .ok (.ifCond .ne 5, 3) := by decide +kernel
theorem dX11_work_45 : decode cX11_work 45 = .ok (.iconst 0, 1) := by decide +kernel
theorem dX11_work_46 : decode cX11_work 46 = .ok (.ireturn, 1) := by decide +kernel
theorem dX11_work_47 : decode cX11_work 47 = .ok (.aload_n 0, 1) := by decide +kernel
theorem dX11_work_48 : decode cX11_work 48 = .ok (.getfield 17, 3) := by decide +kernel
theorem dX11_work_51 : decode cX11_work 51 = .ok (.aload_n 0, 1) := by decide +kernel
theorem dX11_work_52 : decode cX11_work 52 = .ok (.getfield 133, 3) := by decide +kernel
theorem dX11_work_55 : decode cX11_work 55 = .ok (.iload_n 2, 1) := by decide +kernel
theorem dX11_work_56 : decode cX11_work 56 = .ok (.iastore, 1) := by decide +kernel
theorem dX11_work_57 : decode cX11_work 57 = .ok (.aload_n 0, 1) := by decide +kernel
theorem dX11_work_58 : decode cX11_work 58 = .ok (.getfield 20, 3) := by decide +kernel
theorem dX11_work_61 : decode cX11_work 61 = .ok (.aload_n 0, 1) := by decide +kernel
theorem dX11_work_62 : decode cX11_work 62 = .ok (.getfield 133, 3) := by decide +kernel
theorem dX11_work_65 : decode cX11_work 65 = .ok (.iconst 1, 1) := by decide +kernel
theorem dX11_work_66 : decode cX11_work 66 = .ok (.iload_n 1, 1) := by decide +kernel
theorem dX11_work_67 : decode cX11_work 67 = .ok (.ishl, 1) := by decide +kernel
theorem dX11_work_68 : decode cX11_work 68 = .ok (.iastore, 1) := by decide +kernel
theorem dX11_work_69 : decode cX11_work 69 = .ok (.aload_n 0, 1) := by decide +kernel
theorem dX11_work_70 : decode cX11_work 70 = .ok (.getfield 29, 3) := by decide +kernel
theorem dX11_work_73 : decode cX11_work 73 = .ok (.aload_n 0, 1) := by decide +kernel
theorem dX11_work_74 : decode cX11_work 74 = .ok (.getfield 133, 3) := by decide +kernel
theorem dX11_work_77 : decode cX11_work 77 = .ok (.iconst (-1), 1) := by decide +kernel
theorem dX11_work_78 : decode cX11_work 78 = .ok (.iastore, 1) := by decide +kernel
theorem dX11_work_79 : decode cX11_work 79 = .ok (.aload_n 0, 1) := by decide +kernel
theorem dX11_work_80 : decode cX11_work 80 = .ok (.getfield 35, 3) := by decide +kernel
theorem dX11_work_83 : decode cX11_work 83 = .ok (.aload_n 0, 1) := by decide +kernel
theorem dX11_work_84 : decode cX11_work 84 = .ok (.getfield 133, 3) := by decide +kernel
theorem dX11_work_87 : decode cX11_work 87 = .ok (.iconst (-1), 1) := by decide +kernel
theorem dX11_work_88 : decode cX11_work 88 = .ok (.iastore, 1) := by decide +kernel
theorem dX11_work_89 : decode cX11_work 89 = .ok (.aload_n 0, 1) := by decide +kernel
theorem dX11_work_90 : decode cX11_work 90 = .ok (.dup, 1) := by decide +kernel
theorem dX11_work_91 : decode cX11_work 91 = .ok (.getfield 133, 3) := by decide +kernel
theorem dX11_work_94 : decode cX11_work 94 = .ok (.iconst 1, 1) := by decide +kernel
theorem dX11_work_95 : decode cX11_work 95 = .ok (.iadd, 1) := by decide +kernel
theorem dX11_work_96 : decode cX11_work 96 = .ok (.putfield 133, 3) := by decide +kernel
theorem dX11_work_99 : decode cX11_work 99 = .ok (.aload_n 0, 1) := by decide +kernel
theorem dX11_work_100 : decode cX11_work 100 = .ok (.getfield 133, 3) := by decide +kernel
theorem dX11_work_103 : decode cX11_work 103 = .ok (.iconst 1, 1) := by decide +kernel
theorem dX11_work_104 : decode cX11_work 104 = .ok (.isub, 1) := by decide +kernel
theorem dX11_work_105 : decode cX11_work 105 = .ok (.ireturn, 1) := by decide +kernel
