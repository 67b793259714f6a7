theorem d_M_loadWindow_0 : decode b_M_loadWindow 0 = .ok (.aload_n 0, 1) := by decide +kernel
theorem d_M_loadWindow_1 : decode b_M_loadWindow 1 = .ok (.iconst 0, 1) := by decide +kernel
theorem d_M_loadWindow_2 : decode b_M_loadWindow 2 = .ok (.iload_n 1, 1) := by decide +kernel
theorem d_M_loadWindow_3 : decode b_M_loadWindow 3 = .ok (.invokevirtual 74, 3) := by decide +kernel
theorem d_M_loadWindow_6 : decode b_M_loadWindow 6 = .ok (.istore_n 3, 1) := by decide +kernel
theorem d_M_loadWindow_7 : decode b_M_loadWindow 7 = .ok (.aload_n 0, 1) := by decide +kernel
theorem d_M_loadWindow_8 : decode b_M_loadWindow 8 = .ok (.getfield 93, 3) := by decide +kernel
theorem d_M_loadWindow_11 : decode b_M_loadWindow 11 = .ok (.istore 4, 2) := by decide +kernel
theorem d_M_loadWindow_13 : decode b_M_loadWindow 13 = .ok (.iconst 0, 1) := by decide +kernel
theorem d_M_loadWindow_14 : decode b_M_loadWindow 14 = .ok (.istore 5, 2) := by decide +kernel
theorem d_M_loadWindow_16 : decode b_M_loadWindow 16 = .ok (.iload 5, 2) := by decide +kernel
theorem d_M_loadWindow_18 : decode b_M_loadWindow 18 = .ok (.iconst 2, 1) := by decide +kernel
theorem d_M_loadWindow_19 : decode b_M_loadWindow 19 = .ok (.if_icmp .ge 71, 3) := by decide +kernel
theorem d_M_loadWindow_22 : decode b_M_loadWindow 22 = .ok (.aload_n 0, 1) := by decide +kernel
theorem d_M_loadWindow_23 : decode b_M_loadWindow 23 = .ok (.iload 4, 2) := by decide +kernel
theorem d_M_loadWindow_25 : decode b_M_loadWindow 25 = .ok (.iload 5, 2) := by decide +kernel
theorem d_M_loadWindow_27 : decode b_M_loadWindow 27 = .ok (.iconst 2, 1) := by decide +kernel
theorem d_M_loadWindow_28 : decode b_M_loadWindow 28 = .ok (.invokevirtual 100, 3) := by decide +kernel
theorem d_M_loadWindow_31 : decode b_M_loadWindow 31 = .ok (.istore 6, 2) := by decide +kernel
theorem d_M_loadWindow_33 : decode b_M_loadWindow 33 = .ok (.iload 6, 2) := by decide +kernel
theorem d_M_loadWindow_35 : decode b_M_loadWindow 35 = .ok (.bipush (-2), 2) := by decide +kernel
theorem d_M_loadWindow_37 : decode b_M_loadWindow 37 = .ok (.if_icmp .eq 47, 3) := by decide +kernel
theorem d_M_loadWindow_40 : decode b_M_loadWindow 40 = .ok (.aload_n 0, 1) := by decide +kernel
theorem d_M_loadWindow_41 : decode b_M_loadWindow 41 = .ok (.iload_n 3, 1) := by decide +kernel
theorem d_M_loadWindow_42 : decode b_M_loadWindow 42 = .ok (.iload 6, 2) := by decide +kernel
theorem d_M_loadWindow_44 : decode b_M_loadWindow 44 = .ok (.iload_n 2, 1) := by decide +kernel
theorem d_M_loadWindow_45 : decode b_M_loadWindow 45 = .ok (.invokevirtual 104, 3) := by decide +kernel
theorem d_M_loadWindow_48 : decode b_M_loadWindow 48 = .ok (.istore 7, 2) := by decide +kernel
theorem d_M_loadWindow_50 : decode b_M_loadWindow 50 = .ok (.aload_n 0, 1) := by decide +kernel
theorem d_M_loadWindow_51 : decode b_M_loadWindow 51 = .ok (.aload_n 0, 1) := by decide +kernel
theorem d_M_loadWindow_52 : decode b_M_loadWindow 52 = .ok (.getfield 93, 3) := by decide +kernel
theorem d_M_loadWindow_55 : decode b_M_loadWindow 55 = .ok (.iconst 0, 1) := by decide +kernel
theorem d_M_loadWindow_56 : decode b_M_loadWindow 56 = .ok (.iconst 1, 1) := by decide +kernel
theorem d_M_loadWindow_57 : decode b_M_loadWindow 57 = .ok (.invokevirtual 100, 3) := by decide +kernel
theorem d_M_loadWindow_60 : decode b_M_loadWindow 60 = .ok (.istore 8, 2) := by decide +kernel
theorem d_M_loadWindow_62 : decode b_M_loadWindow 62 = .ok (.iload 8, 2) := by decide +kernel
theorem d_M_loadWindow_64 : decode b_M_loadWindow 64 = .ok (.bipush (-2), 2) := by decide +kernel
theorem d_M_loadWindow_66 : decode b_M_loadWindow 66 = .ok (.if_icmp .eq 18, 3) := by decide +kernel
theorem d_M_loadWindow_69 : decode b_M_loadWindow 69 = .ok (.aload_n 0, 1) := by decide +kernel
theorem d_M_loadWindow_70 : decode b_M_loadWindow 70 = .ok (.aload_n 0, 1) := by decide +kernel
theorem d_M_loadWindow_71 : decode b_M_loadWindow 71 = .ok (.iload 7, 2) := by decide +kernel
theorem d_M_loadWindow_73 : decode b_M_loadWindow 73 = .ok (.invokevirtual 107, 3) := by decide +kernel
theorem d_M_loadWindow_76 : decode b_M_loadWindow 76 = .ok (.iload 8, 2) := by decide +kernel
theorem d_M_loadWindow_78 : decode b_M_loadWindow 78 = .ok (.iload_n 2, 1) := by decide +kernel
theorem d_M_loadWindow_79 : decode b_M_loadWindow 79 = .ok (.invokevirtual 104, 3) := by decide +kernel
theorem d_M_loadWindow_82 : decode b_M_loadWindow 82 = .ok (.istore 9, 2) := by decide +kernel
theorem d_M_loadWindow_84 : decode b_M_loadWindow 84 = .ok (.iinc 5 1, 3) := by decide +kernel
theorem d_M_loadWindow_87 : decode b_M_loadWindow 87 = .ok (.goto (-71), 3) := by decide +kernel
theorem d_M_loadWindow_90 : decode b_M_loadWindow 90 = .ok (.aload_n 0, 1) := by decide +kernel
theorem d_M_loadWindow_91 : decode b_M_loadWindow 91 = .ok (.iload 4, 2) := by decide +kernel
theorem d_M_loadWindow_93 : decode b_M_loadWindow 93 = .ok (.putfield 93, 3) := by decide +kernel
theorem d_M_loadWindow_96 : decode b_M_loadWindow 96 = .ok (.iload_n 3, 1) := by decide +kernel
theorem d_M_loadWindow_97 : decode b_M_loadWindow 97 = .ok (.ireturn, 1) := by decide +kernel
theorem d_M_wanted_0 : decode b_M_wanted 0 = .ok (.iload_n 1, 1) := by decide +kernel
theorem d_M_wanted_1 : decode b_M_wanted 1 = .ok (.iconst (-1), 1) := by decide +kernel
theorem d_M_wanted_2 : decode b_M_wanted 2 = .ok (.if_icmp .eq 20, 3) := by decide +kernel
theorem d_M_wanted_5 : decode b_M_wanted 5 = .ok (.aload_n 0, 1) := by decide +kernel
theorem d_M_wanted_6 : decode b_M_wanted 6 = .ok (.getfield 7, 3) := by decide +kernel
theorem d_M_wanted_9 : decode b_M_wanted 9 = .ok (.iload_n 1, 1) := by decide +kernel
theorem d_M_wanted_10 : decode b_M_wanted 10 = .ok (.bipush 8, 2) := by decide +kernel
theorem d_M_wanted_12 : decode b_M_wanted 12 = .ok (.idiv, 1) := by decide +kernel
theorem d_M_wanted_13 : decode b_M_wanted 13 = .ok (.iaload, 1) := by decide +kernel
theorem d_M_wanted_14 : decode b_M_wanted 14 = .ok (.ifCond .ne 8, 3) := by decide +kernel
theorem d_M_wanted_17 : decode b_M_wanted 17 = .ok (.iload_n 2, 1) := by decide +kernel
theorem d_M_wanted_18 : decode b_M_wanted 18 = .ok (.iload_n 3, 1) := by decide +kernel
theorem d_M_wanted_19 : decode b_M_wanted 19 = .ok (.if_icmp .lt 6, 3) := by decide +kernel
theorem d_M_wanted_22 : decode b_M_wanted 22 = .ok (.bipush (-2), 2) := by decide +kernel
theorem d_M_wanted_24 : decode b_M_wanted 24 = .ok (.ireturn, 1) := by decide +kernel
theorem d_M_wanted_25 : decode b_M_wanted 25 = .ok (.aload_n 0, 1) := by decide +kernel
theorem d_M_wanted_26 : decode b_M_wanted 26 = .ok (.getfield 13, 3) := by decide +kernel
theorem d_M_wanted_29 : decode b_M_wanted 29 = .ok (.iload_n 1, 1) := by decide +kernel
theorem d_M_wanted_30 : decode b_M_wanted 30 = .ok (.bipush 8, 2) := by decide +kernel
theorem d_M_wanted_32 : decode b_M_wanted 32 = .ok (.idiv, 1) := by decide +kernel
theorem d_M_wanted_33 : decode b_M_wanted 33 = .ok (.iaload, 1) := by decide +kernel
theorem d_M_wanted_34 : decode b_M_wanted 34 = .ok (.istore 4, 2) := by decide +kernel
theorem d_M_wanted_36 : decode b_M_wanted 36 = .ok (.aload_n 0, 1) := by decide +kernel
theorem d_M_wanted_37 : decode b_M_wanted 37 = .ok (.getfield 16, 3) := by decide +kernel
theorem d_M_wanted_40 : decode b_M_wanted 40 = .ok (.iload_n 1, 1) := by decide +kernel
theorem d_M_wanted_41 : decode b_M_wanted 41 = .ok (.bipush 8, 2) := by decide +kernel
theorem d_M_wanted_43 : decode b_M_wanted 43 = .ok (.idiv, 1) := by decide +kernel
theorem d_M_wanted_44 : decode b_M_wanted 44 = .ok (.iaload, 1) := by decide +kernel
theorem d_M_wanted_45 : decode b_M_wanted 45 = .ok (.istore 5, 2) := by decide +kernel
theorem d_M_wanted_47 : decode b_M_wanted 47 = .ok (.iload_n 2, 1) := by decide +kernel
theorem d_M_wanted_48 : decode b_M_wanted 48 = .ok (.ifCond .ne 18, 3) := by decide +kernel
theorem d_M_wanted_51 : decode b_M_wanted 51 = .ok (.iload 4, 2) := by decide +kernel
theorem d_M_wanted_53 : decode b_M_wanted 53 = .ok (.bipush (-2), 2) := by decide +kernel
theorem d_M_wanted_55 : decode b_M_wanted 55 = .ok (.if_icmp .ne 8, 3) := by decide +kernel
theorem d_M_wanted_58 : decode b_M_wanted 58 = .ok (.iload 5, 2) := by decide +kernel
theorem d_M_wanted_60 : decode b_M_wanted 60 = .ok (.goto 5, 3) := by decide +kernel
theorem d_M_wanted_63 : decode b_M_wanted 63 = .ok (.iload 4, 2) := by decide +kernel
theorem d_M_wanted_65 : decode b_M_wanted 65 = .ok (.ireturn, 1) := by decide +kernel
theorem d_M_wanted_66 : decode b_M_wanted 66 = .ok (.iload 4, 2) := by decide +kernel
theorem d_M_wanted_68 : decode b_M_wanted 68 = .ok (.bipush (-2), 2) := by decide +kernel
theorem d_M_wanted_70 : decode b_M_wanted 70 = .ok (.if_icmp .ne 8, 3) := by decide +kernel
theorem d_M_wanted_73 : decode b_M_wanted 73 = .ok (.bipush (-2), 2) := by decide +kernel
theorem d_M_wanted_75 : decode b_M_wanted 75 = .ok (.goto 5, 3) := by decide +kernel
theorem d_M_wanted_78 : decode b_M_wanted 78 = .ok (.iload 5, 2) := by decide +kernel
theorem d_M_wanted_80 : decode b_M_wanted 80 = .ok (.ireturn, 1) := by decide +kernel
theorem d_M_frameFor_0 : decode b_M_frameFor 0 = .ok (.iconst 1, 1) := by decide +kernel
theorem d_M_frameFor_1 : decode b_M_frameFor 1 = .ok (.istore 4, 2) := by decide +kernel
theorem d_M_frameFor_3 : decode b_M_frameFor 3 = .ok (.iload 4, 2) := by decide +kernel
theorem d_M_frameFor_5 : decode b_M_frameFor 5 = .ok (.bipush 47, 2) := by decide +kernel
theorem d_M_frameFor_7 : decode b_M_frameFor 7 = .ok (.if_icmp .ge 19, 3) := by decide +kernel
theorem d_M_frameFor_10 : decode b_M_frameFor 10 = .ok (.aload_n 0, 1) := by decide +kernel
theorem d_M_frameFor_11 : decode b_M_frameFor 11 = .ok (.getfield 56, 3) := by decide +kernel
theorem d_M_frameFor_14 : decode b_M_frameFor 14 = .ok (.iload 4, 2) := by decide +kernel
theorem d_M_frameFor_16 : decode b_M_frameFor 16 = .ok (.baload, 1) := by decide +kernel
theorem d_M_frameFor_17 : decode b_M_frameFor 17 = .ok (.ifCond .eq 9, 3) := by decide +kernel
theorem d_M_frameFor_20 : decode b_M_frameFor 20 = .ok (.iinc 4 1, 3) := by decide +kernel
theorem d_M_frameFor_23 : decode b_M_frameFor 23 = .ok (.goto (-20), 3) := by decide +kernel
theorem d_M_frameFor_26 : decode b_M_frameFor 26 = .ok (.aload_n 0, 1) := by decide +kernel
theorem d_M_frameFor_27 : decode b_M_frameFor 27 = .ok (.getfield 56, 3) := by decide +kernel
theorem d_M_frameFor_30 : decode b_M_frameFor 30 = .ok (.iload 4, 2) := by decide +kernel
theorem d_M_frameFor_32 : decode b_M_frameFor 32 = .ok (.iconst 1, 1) := by decide +kernel
theorem d_M_frameFor_33 : decode b_M_frameFor 33 = .ok (.bastore, 1) := by decide +kernel
theorem d_M_frameFor_34 : decode b_M_frameFor 34 = .ok (.aload_n 0, 1) := by decide +kernel
theorem d_M_frameFor_35 : decode b_M_frameFor 35 = .ok (.getfield 59, 3) := by decide +kernel
theorem d_M_frameFor_38 : decode b_M_frameFor 38 = .ok (.iload 4, 2) := by decide +kernel
theorem d_M_frameFor_40 : decode b_M_frameFor 40 = .ok (.iload_n 1, 1) := by decide +kernel
theorem d_M_frameFor_41 : decode b_M_frameFor 41 = .ok (.iastore, 1) := by decide +kernel
theorem d_M_frameFor_42 : decode b_M_frameFor 42 = .ok (.aload_n 0, 1) := by decide +kernel
theorem d_M_frameFor_43 : decode b_M_frameFor 43 = .ok (.getfield 50, 3) := by decide +kernel
theorem d_M_frameFor_46 : decode b_M_frameFor 46 = .ok (.iload_n 1, 1) := by decide +kernel
theorem d_M_frameFor_47 : decode b_M_frameFor 47 = .ok (.iaload, 1) := by decide +kernel
theorem d_M_frameFor_48 : decode b_M_frameFor 48 = .ok (.ifCond .ge 14, 3) := by decide +kernel
theorem d_M_frameFor_51 : decode b_M_frameFor 51 = .ok (.aload_n 0, 1) := by decide +kernel
theorem d_M_frameFor_52 : decode b_M_frameFor 52 = .ok (.getfield 50, 3) := by decide +kernel
theorem d_M_frameFor_55 : decode b_M_frameFor 55 = .ok (.iload_n 1, 1) := by decide +kernel
theorem d_M_frameFor_56 : decode b_M_frameFor 56 = .ok (.iload 4, 2) := by decide +kernel
theorem d_M_frameFor_58 : decode b_M_frameFor 58 = .ok (.iastore, 1) := by decide +kernel
theorem d_M_frameFor_59 : decode b_M_frameFor 59 = .ok (.goto 11, 3) := by decide +kernel
theorem d_M_frameFor_62 : decode b_M_frameFor 62 = .ok (.aload_n 0, 1) := by decide +kernel
theorem d_M_frameFor_63 : decode b_M_frameFor 63 = .ok (.getfield 53, 3) := by decide +kernel
theorem d_M_frameFor_66 : decode b_M_frameFor 66 = .ok (.iload_n 1, 1) := by decide +kernel
theorem d_M_frameFor_67 : decode b_M_frameFor 67 = .ok (.iload 4, 2) := by decide +kernel
theorem d_M_frameFor_69 : decode b_M_frameFor 69 = .ok (.iastore, 1) := by decide +kernel
theorem d_M_frameFor_70 : decode b_M_frameFor 70 = .ok (.aload_n 0, 1) := by decide +kernel
theorem d_M_frameFor_71 : decode b_M_frameFor 71 = .ok (.iload 4, 2) := by decide +kernel
theorem d_M_frameFor_73 : decode b_M_frameFor 73 = .ok (.iload_n 2, 1) := by decide +kernel
theorem d_M_frameFor_74 : decode b_M_frameFor 74 = .ok (.invokevirtual 74, 3) := by decide +kernel
theorem d_M_frameFor_77 : decode b_M_frameFor 77 = .ok (.istore 5, 2) := by decide +kernel
theorem d_M_frameFor_79 : decode b_M_frameFor 79 = .ok (.aload_n 0, 1) := by decide +kernel
theorem d_M_frameFor_80 : decode b_M_frameFor 80 = .ok (.iload 4, 2) := by decide +kernel
theorem d_M_frameFor_82 : decode b_M_frameFor 82 = .ok (.iload_n 3, 1) := by decide +kernel
theorem d_M_frameFor_83 : decode b_M_frameFor 83 = .ok (.aload_n 0, 1) := by decide +kernel
theorem d_M_frameFor_84 : decode b_M_frameFor 84 = .ok (.getfield 93, 3) := by decide +kernel
theorem d_M_frameFor_87 : decode b_M_frameFor 87 = .ok (.iload 5, 2) := by decide +kernel
theorem d_M_frameFor_89 : decode b_M_frameFor 89 = .ok (.invokevirtual 78, 3) := by decide +kernel
theorem d_M_frameFor_92 : decode b_M_frameFor 92 = .ok (.istore 6, 2) := by decide +kernel
theorem d_M_frameFor_94 : decode b_M_frameFor 94 = .ok (.iload 4, 2) := by decide +kernel
theorem d_M_frameFor_96 : decode b_M_frameFor 96 = .ok (.ireturn, 1) := by decide +kernel
theorem d_M_paperOf_0 : decode b_M_paperOf 0 = .ok (.iconst 0, 1) := by decide +kernel
theorem d_M_paperOf_1 : decode b_M_paperOf 1 = .ok (.istore_n 2, 1) := by decide +kernel
theorem d_M_paperOf_2 : decode b_M_paperOf 2 = .ok (.iload_n 2, 1) := by decide +kernel
theorem d_M_paperOf_3 : decode b_M_paperOf 3 = .ok (.bipush 48, 2) := by decide +kernel
theorem d_M_paperOf_5 : decode b_M_paperOf 5 = .ok (.if_icmp .ge 35, 3) := by decide +kernel
theorem d_M_paperOf_8 : decode b_M_paperOf 8 = .ok (.aload_n 0, 1) := by decide +kernel
theorem d_M_paperOf_9 : decode b_M_paperOf 9 = .ok (.getfield 38, 3) := by decide +kernel
theorem d_M_paperOf_12 : decode b_M_paperOf 12 = .ok (.iload_n 2, 1) := by decide +kernel
theorem d_M_paperOf_13 : decode b_M_paperOf 13 = .ok (.baload, 1) := by decide +kernel
theorem d_M_paperOf_14 : decode b_M_paperOf 14 = .ok (.ifCond .eq 20, 3) := by decide +kernel
theorem d_M_paperOf_17 : decode b_M_paperOf 17 = .ok (.aload_n 0, 1) := by decide +kernel
theorem d_M_paperOf_18 : decode b_M_paperOf 18 = .ok (.getfield 23, 3) := by decide +kernel
theorem d_M_paperOf_21 : decode b_M_paperOf 21 = .ok (.iload_n 2, 1) := by decide +kernel
theorem d_M_paperOf_22 : decode b_M_paperOf 22 = .ok (.iaload, 1) := by decide +kernel
theorem d_M_paperOf_23 : decode b_M_paperOf 23 = .ok (.iload_n 1, 1) := by decide +kernel
theorem d_M_paperOf_24 : decode b_M_paperOf 24 = .ok (.if_icmp .ne 10, 3) := by decide +kernel
theorem d_M_paperOf_27 : decode b_M_paperOf 27 = .ok (.aload_n 0, 1) := by decide +kernel
theorem d_M_paperOf_28 : decode b_M_paperOf 28 = .ok (.getfield 35, 3) := by decide +kernel
theorem d_M_paperOf_31 : decode b_M_paperOf 31 = .ok (.iload_n 2, 1) := by decide +kernel
theorem d_M_paperOf_32 : decode b_M_paperOf 32 = .ok (.iaload, 1) := by decide +kernel
theorem d_M_paperOf_33 : decode b_M_paperOf 33 = .ok (.ireturn, 1) := by decide +kernel
theorem d_M_paperOf_34 : decode b_M_paperOf 34 = .ok (.iinc 2 1, 3) := by decide +kernel
theorem d_M_paperOf_37 : decode b_M_paperOf 37 = .ok (.goto (-35), 3) := by decide +kernel
theorem d_M_paperOf_40 : decode b_M_paperOf 40 = .ok (.iconst (-1), 1) := by decide +kernel
theorem d_M_paperOf_41 : decode b_M_paperOf 41 = .ok (.ireturn, 1) := by decide +kernel
theorem d_M_loadMiddle_0 : decode b_M_loadMiddle 0 = .ok (.aload_n 0, 1) := by decide +kernel
theorem d_M_loadMiddle_1 : decode b_M_loadMiddle 1 = .ok (.iload_n 1, 1) := by decide +kernel
theorem d_M_loadMiddle_2 : decode b_M_loadMiddle 2 = .ok (.iload_n 2, 1) := by decide +kernel
theorem d_M_loadMiddle_3 : decode b_M_loadMiddle 3 = .ok (.invokevirtual 74, 3) := by decide +kernel
theorem d_M_loadMiddle_6 : decode b_M_loadMiddle 6 = .ok (.istore 4, 2) := by decide +kernel
theorem d_M_loadMiddle_8 : decode b_M_loadMiddle 8 = .ok (.aload_n 0, 1) := by decide +kernel
theorem d_M_loadMiddle_9 : decode b_M_loadMiddle 9 = .ok (.getfield 93, 3) := by decide +kernel
theorem d_M_loadMiddle_12 : decode b_M_loadMiddle 12 = .ok (.istore 5, 2) := by decide +kernel
theorem d_M_loadMiddle_14 : decode b_M_loadMiddle 14 = .ok (.aload_n 0, 1) := by decide +kernel
theorem d_M_loadMiddle_15 : decode b_M_loadMiddle 15 = .ok (.iload 5, 2) := by decide +kernel
theorem d_M_loadMiddle_17 : decode b_M_loadMiddle 17 = .ok (.iconst 0, 1) := by decide +kernel
theorem d_M_loadMiddle_18 : decode b_M_loadMiddle 18 = .ok (.iconst 1, 1) := by decide +kernel
theorem d_M_loadMiddle_19 : decode b_M_loadMiddle 19 = .ok (.invokevirtual 100, 3) := by decide +kernel
theorem d_M_loadMiddle_22 : decode b_M_loadMiddle 22 = .ok (.istore 6, 2) := by decide +kernel
theorem d_M_loadMiddle_24 : decode b_M_loadMiddle 24 = .ok (.iload 6, 2) := by decide +kernel
theorem d_M_loadMiddle_26 : decode b_M_loadMiddle 26 = .ok (.bipush (-2), 2) := by decide +kernel
theorem d_M_loadMiddle_28 : decode b_M_loadMiddle 28 = .ok (.if_icmp .eq 14, 3) := by decide +kernel
theorem d_M_loadMiddle_31 : decode b_M_loadMiddle 31 = .ok (.aload_n 0, 1) := by decide +kernel
theorem d_M_loadMiddle_32 : decode b_M_loadMiddle 32 = .ok (.iload 4, 2) := by decide +kernel
theorem d_M_loadMiddle_34 : decode b_M_loadMiddle 34 = .ok (.iload 6, 2) := by decide +kernel
theorem d_M_loadMiddle_36 : decode b_M_loadMiddle 36 = .ok (.iload_n 3, 1) := by decide +kernel
theorem d_M_loadMiddle_37 : decode b_M_loadMiddle 37 = .ok (.invokevirtual 104, 3) := by decide +kernel
theorem d_M_loadMiddle_40 : decode b_M_loadMiddle 40 = .ok (.istore 7, 2) := by decide +kernel
theorem d_M_loadMiddle_42 : decode b_M_loadMiddle 42 = .ok (.aload_n 0, 1) := by decide +kernel
theorem d_M_loadMiddle_43 : decode b_M_loadMiddle 43 = .ok (.iload 5, 2) := by decide +kernel
theorem d_M_loadMiddle_45 : decode b_M_loadMiddle 45 = .ok (.putfield 93, 3) := by decide +kernel
theorem d_M_loadMiddle_48 : decode b_M_loadMiddle 48 = .ok (.iload 4, 2) := by decide +kernel
theorem d_M_loadMiddle_50 : decode b_M_loadMiddle 50 = .ok (.ireturn, 1) := by decide +kernel
theorem d_M_settle_0 : decode b_M_settle 0 = .ok (.aload_n 0, 1) := by decide +kernel
theorem d_M_settle_1 : decode b_M_settle 1 = .ok (.getfield 130, 3) := by decide +kernel
theorem d_M_settle_4 : decode b_M_settle 4 = .ok (.ifCond .le 27, 3) := by decide +kernel
theorem d_M_settle_7 : decode b_M_settle 7 = .ok (.aload_n 0, 1) := by decide +kernel
theorem d_M_settle_8 : decode b_M_settle 8 = .ok (.aload_n 0, 1) := by decide +kernel
theorem d_M_settle_9 : decode b_M_settle 9 = .ok (.getfield 130, 3) := by decide +kernel
theorem d_M_settle_12 : decode b_M_settle 12 = .ok (.invokevirtual 133, 3) := by decide +kernel
theorem d_M_settle_15 : decode b_M_settle 15 = .ok (.ifCond .ne 16, 3) := by decide +kernel
theorem d_M_settle_18 : decode b_M_settle 18 = .ok (.aload_n 0, 1) := by decide +kernel
theorem d_M_settle_19 : decode b_M_settle 19 = .ok (.dup, 1) := by decide +kernel
theorem d_M_settle_20 : decode b_M_settle 20 = .ok (.getfield 130, 3) := by decide +kernel
theorem d_M_settle_23 : decode b_M_settle 23 = .ok (.iconst 1, 1) := by decide +kernel
theorem d_M_settle_24 : decode b_M_settle 24 = .ok (.isub, 1) := by decide +kernel
theorem d_M_settle_25 : decode b_M_settle 25 = .ok (.putfield 130, 3) := by decide +kernel
theorem d_M_settle_28 : decode b_M_settle 28 = .ok (.goto (-28), 3) := by decide +kernel
theorem d_M_settle_31 : decode b_M_settle 31 = .ok (.aload_n 0, 1) := by decide +kernel
theorem d_M_settle_32 : decode b_M_settle 32 = .ok (.invokevirtual 82, 3) := by decide +kernel
theorem d_M_settle_35 : decode b_M_settle 35 = .ok (.return_, 1) := by decide +kernel
theorem d_M_used_0 : decode b_M_used 0 = .ok (.iconst 0, 1) := by decide +kernel
theorem d_M_used_1 : decode b_M_used 1 = .ok (.istore_n 2, 1) := by decide +kernel
theorem d_M_used_2 : decode b_M_used 2 = .ok (.iload_n 2, 1) := by decide +kernel
theorem d_M_used_3 : decode b_M_used 3 = .ok (.bipush 48, 2) := by decide +kernel
theorem d_M_used_5 : decode b_M_used 5 = .ok (.if_icmp .ge 30, 3) := by decide +kernel
theorem d_M_used_8 : decode b_M_used 8 = .ok (.aload_n 0, 1) := by decide +kernel
theorem d_M_used_9 : decode b_M_used 9 = .ok (.getfield 38, 3) := by decide +kernel
theorem d_M_used_12 : decode b_M_used 12 = .ok (.iload_n 2, 1) := by decide +kernel
theorem d_M_used_13 : decode b_M_used 13 = .ok (.baload, 1) := by decide +kernel
theorem d_M_used_14 : decode b_M_used 14 = .ok (.ifCond .eq 15, 3) := by decide +kernel
theorem d_M_used_17 : decode b_M_used 17 = .ok (.aload_n 0, 1) := by decide +kernel
theorem d_M_used_18 : decode b_M_used 18 = .ok (.getfield 26, 3) := by decide +kernel
theorem d_M_used_21 : decode b_M_used 21 = .ok (.iload_n 2, 1) := by decide +kernel
theorem d_M_used_22 : decode b_M_used 22 = .ok (.iaload, 1) := by decide +kernel
theorem d_M_used_23 : decode b_M_used 23 = .ok (.iload_n 1, 1) := by decide +kernel
theorem d_M_used_24 : decode b_M_used 24 = .ok (.if_icmp .ne 5, 3) := by decide +kernel
theorem d_M_used_27 : decode b_M_used 27 = .ok (.iconst 1, 1) := by decide +kernel
theorem d_M_used_28 : decode b_M_used 28 = .ok (.ireturn, 1) := by decide +kernel
theorem d_M_used_29 : decode b_M_used 29 = .ok (.iinc 2 1, 3) := by decide +kernel
theorem d_M_used_32 : decode b_M_used 32 = .ok (.goto (-30), 3) := by decide +kernel
theorem d_M_used_35 : decode b_M_used 35 = .ok (.iconst 0, 1) := by decide +kernel
theorem d_M_used_36 : decode b_M_used 36 = .ok (.ireturn, 1) := by decide +kernel
theorem d_M_rewrite_0 : decode b_M_rewrite 0 = .ok (.iload_n 2, 1) := by decide +kernel
theorem d_M_rewrite_1 : decode b_M_rewrite 1 = .ok (.iconst (-1), 1) := by decide +kernel
theorem d_M_rewrite_2 : decode b_M_rewrite 2 = .ok (.sipush 255, 3) := by decide +kernel
theorem d_M_rewrite_5 : decode b_M_rewrite 5 = .ok (.invokestatic 85, 3) := by decide +kernel
theorem d_M_rewrite_8 : decode b_M_rewrite 8 = .ok (.ifCond .ne 6, 3) := by decide +kernel
theorem d_M_rewrite_11 : decode b_M_rewrite 11 = .ok (.bipush (-3), 2) := by decide +kernel
theorem d_M_rewrite_13 : decode b_M_rewrite 13 = .ok (.ireturn, 1) := by decide +kernel
theorem d_M_rewrite_14 : decode b_M_rewrite 14 = .ok (.aload_n 0, 1) := by decide +kernel
theorem d_M_rewrite_15 : decode b_M_rewrite 15 = .ok (.iload_n 1, 1) := by decide +kernel
theorem d_M_rewrite_16 : decode b_M_rewrite 16 = .ok (.invokevirtual 146, 3) := by decide +kernel
theorem d_M_rewrite_19 : decode b_M_rewrite 19 = .ok (.ifCond .ne 6, 3) := by decide +kernel
theorem d_M_rewrite_22 : decode b_M_rewrite 22 = .ok (.bipush (-4), 2) := by decide +kernel
theorem d_M_rewrite_24 : decode b_M_rewrite 24 = .ok (.ireturn, 1) := by decide +kernel
theorem d_M_rewrite_25 : decode b_M_rewrite 25 = .ok (.aload_n 0, 1) := by decide +kernel
theorem d_M_rewrite_26 : decode b_M_rewrite 26 = .ok (.iload_n 1, 1) := by decide +kernel
theorem d_M_rewrite_27 : decode b_M_rewrite 27 = .ok (.invokevirtual 124, 3) := by decide +kernel
theorem d_M_rewrite_30 : decode b_M_rewrite 30 = .ok (.istore 5, 2) := by decide +kernel
theorem d_M_rewrite_32 : decode b_M_rewrite 32 = .ok (.aload_n 0, 1) := by decide +kernel
theorem d_M_rewrite_33 : decode b_M_rewrite 33 = .ok (.getfield 29, 3) := by decide +kernel
theorem d_M_rewrite_36 : decode b_M_rewrite 36 = .ok (.iload 5, 2) := by decide +kernel
theorem d_M_rewrite_38 : decode b_M_rewrite 38 = .ok (.iaload, 1) := by decide +kernel
theorem d_M_rewrite_39 : decode b_M_rewrite 39 = .ok (.istore 6, 2) := by decide +kernel
theorem d_M_rewrite_41 : decode b_M_rewrite 41 = .ok (.iload_n 2, 1) := by decide +kernel
theorem d_M_rewrite_42 : decode b_M_rewrite 42 = .ok (.iconst (-1), 1) := by decide +kernel
theorem d_M_rewrite_43 : decode b_M_rewrite 43 = .ok (.if_icmp .eq 45, 3) := by decide +kernel
theorem d_M_rewrite_46 : decode b_M_rewrite 46 = .ok (.iload 6, 2) := by decide +kernel
theorem d_M_rewrite_48 : decode b_M_rewrite 48 = .ok (.iconst (-1), 1) := by decide +kernel
theorem d_M_rewrite_49 : decode b_M_rewrite 49 = .ok (.if_icmp .eq 36, 3) := by decide +kernel
theorem d_M_rewrite_52 : decode b_M_rewrite 52 = .ok (.iload 6, 2) := by decide +kernel
theorem d_M_rewrite_54 : decode b_M_rewrite 54 = .ok (.bipush 64, 2) := by decide +kernel
theorem d_M_rewrite_56 : decode b_M_rewrite 56 = .ok (.idiv, 1) := by decide +kernel
theorem d_M_rewrite_57 : decode b_M_rewrite 57 = .ok (.iload_n 2, 1) := by decide +kernel
theorem d_M_rewrite_58 : decode b_M_rewrite 58 = .ok (.bipush 64, 2) := by decide +kernel
theorem d_M_rewrite_60 : decode b_M_rewrite 60 = .ok (.idiv, 1) := by decide +kernel
theorem d_M_rewrite_61 : decode b_M_rewrite 61 = .ok (.if_icmp .ne 24, 3) := by decide +kernel
theorem d_M_rewrite_64 : decode b_M_rewrite 64 = .ok (.iload 6, 2) := by decide +kernel
theorem d_M_rewrite_66 : decode b_M_rewrite 66 = .ok (.bipush 64, 2) := by decide +kernel
theorem d_M_rewrite_68 : decode b_M_rewrite 68 = .ok (.idiv, 1) := by decide +kernel
theorem d_M_rewrite_69 : decode b_M_rewrite 69 = .ok (.iconst 3, 1) := by decide +kernel
theorem d_M_rewrite_70 : decode b_M_rewrite 70 = .ok (.if_icmp .ne 18, 3) := by decide +kernel
theorem d_M_rewrite_73 : decode b_M_rewrite 73 = .ok (.iload 6, 2) := by decide +kernel
theorem d_M_rewrite_75 : decode b_M_rewrite 75 = .ok (.bipush 8, 2) := by decide +kernel
theorem d_M_rewrite_77 : decode b_M_rewrite 77 = .ok (.idiv, 1) := by decide +kernel
theorem d_M_rewrite_78 : decode b_M_rewrite 78 = .ok (.iload_n 2, 1) := by decide +kernel
theorem d_M_rewrite_79 : decode b_M_rewrite 79 = .ok (.bipush 8, 2) := by decide +kernel
theorem d_M_rewrite_81 : decode b_M_rewrite 81 = .ok (.idiv, 1) := by decide +kernel
theorem d_M_rewrite_82 : decode b_M_rewrite 82 = .ok (.if_icmp .eq 6, 3) := by decide +kernel
theorem d_M_rewrite_85 : decode b_M_rewrite 85 = .ok (.bipush (-6), 2) := by decide +kernel
theorem d_M_rewrite_87 : decode b_M_rewrite 87 = .ok (.ireturn, 1) := by decide +kernel
theorem d_M_rewrite_88 : decode b_M_rewrite 88 = .ok (.aload_n 0, 1) := by decide +kernel
theorem d_M_rewrite_89 : decode b_M_rewrite 89 = .ok (.iload 4, 2) := by decide +kernel
theorem d_M_rewrite_91 : decode b_M_rewrite 91 = .ok (.invokevirtual 149, 3) := by decide +kernel
theorem d_M_rewrite_94 : decode b_M_rewrite 94 = .ok (.ifCond .eq 6, 3) := by decide +kernel
theorem d_M_rewrite_97 : decode b_M_rewrite 97 = .ok (.bipush (-5), 2) := by decide +kernel
theorem d_M_rewrite_99 : decode b_M_rewrite 99 = .ok (.ireturn, 1) := by decide +kernel
theorem d_M_rewrite_100 : decode b_M_rewrite 100 = .ok (.aload_n 0, 1) := by decide +kernel
theorem d_M_rewrite_101 : decode b_M_rewrite 101 = .ok (.iload_n 1, 1) := by decide +kernel
theorem d_M_rewrite_102 : decode b_M_rewrite 102 = .ok (.iload_n 2, 1) := by decide +kernel
theorem d_M_rewrite_103 : decode b_M_rewrite 103 = .ok (.iconst (-1), 1) := by decide +kernel
theorem d_M_rewrite_104 : decode b_M_rewrite 104 = .ok (.if_icmp .ne 8, 3) := by decide +kernel
theorem d_M_rewrite_107 : decode b_M_rewrite 107 = .ok (.iload 6, 2) := by decide +kernel
theorem d_M_rewrite_109 : decode b_M_rewrite 109 = .ok (.goto 4, 3) := by decide +kernel
theorem d_M_rewrite_112 : decode b_M_rewrite 112 = .ok (.iload_n 2, 1) := by decide +kernel
theorem d_M_rewrite_113 : decode b_M_rewrite 113 = .ok (.iload_n 3, 1) := by decide +kernel
theorem d_M_rewrite_114 : decode b_M_rewrite 114 = .ok (.iload 4, 2) := by decide +kernel
theorem d_M_rewrite_116 : decode b_M_rewrite 116 = .ok (.aload_n 0, 1) := by decide +kernel
theorem d_M_rewrite_117 : decode b_M_rewrite 117 = .ok (.getfield 35, 3) := by decide +kernel
theorem d_M_rewrite_120 : decode b_M_rewrite 120 = .ok (.iload 5, 2) := by decide +kernel
theorem d_M_rewrite_122 : decode b_M_rewrite 122 = .ok (.iaload, 1) := by decide +kernel
theorem d_M_rewrite_123 : decode b_M_rewrite 123 = .ok (.invokevirtual 159, 3) := by decide +kernel
theorem d_M_rewrite_126 : decode b_M_rewrite 126 = .ok (.aload_n 0, 1) := by decide +kernel
theorem d_M_rewrite_127 : decode b_M_rewrite 127 = .ok (.getfield 130, 3) := by decide +kernel
theorem d_M_rewrite_130 : decode b_M_rewrite 130 = .ok (.ireturn, 1) := by decide +kernel
theorem d_M_go_0 : decode b_M_go 0 = .ok (.lconst 0, 1) := by decide +kernel
theorem d_M_go_1 : decode b_M_go 1 = .ok (.lstore_n 2, 1) := by decide +kernel
theorem d_M_go_2 : decode b_M_go 2 = .ok (.iconst 0, 1) := by decide +kernel
theorem d_M_go_3 : decode b_M_go 3 = .ok (.istore 4, 2) := by decide +kernel
theorem d_M_go_5 : decode b_M_go 5 = .ok (.iload 4, 2) := by decide +kernel
theorem d_M_go_7 : decode b_M_go 7 = .ok (.aload_n 0, 1) := by decide +kernel
theorem d_M_go_8 : decode b_M_go 8 = .ok (.getfield 130, 3) := by decide +kernel
theorem d_M_go_11 : decode b_M_go 11 = .ok (.if_icmp .ge 26, 3) := by decide +kernel
theorem d_M_go_14 : decode b_M_go 14 = .ok (.aload_n 0, 1) := by decide +kernel
theorem d_M_go_15 : decode b_M_go 15 = .ok (.iload 4, 2) := by decide +kernel
theorem d_M_go_17 : decode b_M_go 17 = .ok (.invokevirtual 133, 3) := by decide +kernel
theorem d_M_go_20 : decode b_M_go 20 = .ok (.ifCond .eq 9, 3) := by decide +kernel
theorem d_M_go_23 : decode b_M_go 23 = .ok (.lload_n 2, 1) := by decide +kernel
theorem d_M_go_24 : decode b_M_go 24 = .ok (.lconst 1, 1) := by decide +kernel
theorem d_M_go_25 : decode b_M_go 25 = .ok (.ladd, 1) := by decide +kernel
theorem d_M_go_26 : decode b_M_go 26 = .ok (.goto 4, 3) := by decide +kernel
theorem d_M_go_29 : decode b_M_go 29 = .ok (.lload_n 2, 1) := by decide +kernel
theorem d_M_go_30 : decode b_M_go 30 = .ok (.lstore_n 2, 1) := by decide +kernel
theorem d_M_go_31 : decode b_M_go 31 = .ok (.iinc 4 1, 3) := by decide +kernel
theorem d_M_go_34 : decode b_M_go 34 = .ok (.goto (-29), 3) := by decide +kernel
theorem d_M_go_37 : decode b_M_go 37 = .ok (.aload_n 0, 1) := by decide +kernel
theorem d_M_go_38 : decode b_M_go 38 = .ok (.lload_n 2, 1) := by decide +kernel
theorem d_M_go_39 : decode b_M_go 39 = .ok (.iload_n 1, 1) := by decide +kernel
theorem d_M_go_40 : decode b_M_go 40 = .ok (.i2l, 1) := by decide +kernel
theorem d_M_go_41 : decode b_M_go 41 = .ok (.ladd, 1) := by decide +kernel
theorem d_M_go_42 : decode b_M_go 42 = .ok (.invokevirtual 163, 3) := by decide +kernel
theorem d_M_go_45 : decode b_M_go 45 = .ok (.istore 4, 2) := by decide +kernel
theorem d_M_go_47 : decode b_M_go 47 = .ok (.iload 4, 2) := by decide +kernel
theorem d_M_go_49 : decode b_M_go 49 = .ok (.ifCond .ge 6, 3) := by decide +kernel
theorem d_M_go_52 : decode b_M_go 52 = .ok (.bipush (-7), 2) := by decide +kernel
theorem d_M_go_54 : decode b_M_go 54 = .ok (.ireturn, 1) := by decide +kernel
theorem d_M_go_55 : decode b_M_go 55 = .ok (.iconst 0, 1) := by decide +kernel
theorem d_M_go_56 : decode b_M_go 56 = .ok (.istore 5, 2) := by decide +kernel
theorem d_M_go_58 : decode b_M_go 58 = .ok (.iload 5, 2) := by decide +kernel
theorem d_M_go_60 : decode b_M_go 60 = .ok (.bipush 48, 2) := by decide +kernel
theorem d_M_go_62 : decode b_M_go 62 = .ok (.if_icmp .ge 36, 3) := by decide +kernel
theorem d_M_go_65 : decode b_M_go 65 = .ok (.aload_n 0, 1) := by decide +kernel
theorem d_M_go_66 : decode b_M_go 66 = .ok (.getfield 65, 3) := by decide +kernel
theorem d_M_go_69 : decode b_M_go 69 = .ok (.iload 5, 2) := by decide +kernel
theorem d_M_go_71 : decode b_M_go 71 = .ok (.aload_n 0, 1) := by decide +kernel
theorem d_M_go_72 : decode b_M_go 72 = .ok (.getfield 62, 3) := by decide +kernel
theorem d_M_go_75 : decode b_M_go 75 = .ok (.iload 5, 2) := by decide +kernel
theorem d_M_go_77 : decode b_M_go 77 = .ok (.baload, 1) := by decide +kernel
theorem d_M_go_78 : decode b_M_go 78 = .ok (.ifCond .eq 12, 3) := by decide +kernel
theorem d_M_go_81 : decode b_M_go 81 = .ok (.aload_n 0, 1) := by decide +kernel
theorem d_M_go_82 : decode b_M_go 82 = .ok (.iload 5, 2) := by decide +kernel
theorem d_M_go_84 : decode b_M_go 84 = .ok (.invokevirtual 124, 3) := by decide +kernel
theorem d_M_go_87 : decode b_M_go 87 = .ok (.goto 4, 3) := by decide +kernel
theorem d_M_go_90 : decode b_M_go 90 = .ok (.iconst (-1), 1) := by decide +kernel
theorem d_M_go_91 : decode b_M_go 91 = .ok (.iastore, 1) := by decide +kernel
theorem d_M_go_92 : decode b_M_go 92 = .ok (.iinc 5 1, 3) := by decide +kernel
theorem d_M_go_95 : decode b_M_go 95 = .ok (.goto (-37), 3) := by decide +kernel
theorem d_M_go_98 : decode b_M_go 98 = .ok (.aload_n 0, 1) := by decide +kernel
theorem d_M_go_99 : decode b_M_go 99 = .ok (.iload 4, 2) := by decide +kernel
theorem d_M_go_101 : decode b_M_go 101 = .ok (.putfield 130, 3) := by decide +kernel
theorem d_M_go_104 : decode b_M_go 104 = .ok (.aload_n 0, 1) := by decide +kernel
theorem d_M_go_105 : decode b_M_go 105 = .ok (.invokevirtual 82, 3) := by decide +kernel
theorem d_M_go_108 : decode b_M_go 108 = .ok (.iconst 0, 1) := by decide +kernel
theorem d_M_go_109 : decode b_M_go 109 = .ok (.istore 5, 2) := by decide +kernel
theorem d_M_go_111 : decode b_M_go 111 = .ok (.iload 5, 2) := by decide +kernel
theorem d_M_go_113 : decode b_M_go 113 = .ok (.bipush 48, 2) := by decide +kernel
theorem d_M_go_115 : decode b_M_go 115 = .ok (.if_icmp .ge 135, 3) := by decide +kernel
theorem d_M_go_118 : decode b_M_go 118 = .ok (.aload_n 0, 1) := by decide +kernel
theorem d_M_go_119 : decode b_M_go 119 = .ok (.getfield 62, 3) := by decide +kernel
theorem d_M_go_122 : decode b_M_go 122 = .ok (.iload 5, 2) := by decide +kernel
theorem d_M_go_124 : decode b_M_go 124 = .ok (.baload, 1) := by decide +kernel
theorem d_M_go_125 : decode b_M_go 125 = .ok (.ifCond .eq 12, 3) := by decide +kernel
theorem d_M_go_128 : decode b_M_go 128 = .ok (.aload_n 0, 1) := by decide +kernel
theorem d_M_go_129 : decode b_M_go 129 = .ok (.iload 5, 2) := by decide +kernel
theorem d_M_go_131 : decode b_M_go 131 = .ok (.invokevirtual 124, 3) := by decide +kernel
theorem d_M_go_134 : decode b_M_go 134 = .ok (.goto 4, 3) := by decide +kernel
theorem d_M_go_137 : decode b_M_go 137 = .ok (.iconst (-1), 1) := by decide +kernel
theorem d_M_go_138 : decode b_M_go 138 = .ok (.istore 6, 2) := by decide +kernel
theorem d_M_go_140 : decode b_M_go 140 = .ok (.iload 6, 2) := by decide +kernel
theorem d_M_go_142 : decode b_M_go 142 = .ok (.ifCond .lt 102, 3) := by decide +kernel
theorem d_M_go_145 : decode b_M_go 145 = .ok (.aload_n 0, 1) := by decide +kernel
theorem d_M_go_146 : decode b_M_go 146 = .ok (.getfield 65, 3) := by decide +kernel
theorem d_M_go_149 : decode b_M_go 149 = .ok (.iload 5, 2) := by decide +kernel
theorem d_M_go_151 : decode b_M_go 151 = .ok (.iaload, 1) := by decide +kernel
theorem d_M_go_152 : decode b_M_go 152 = .ok (.ifCond .lt 92, 3) := by decide +kernel
theorem d_M_go_155 : decode b_M_go 155 = .ok (.iload 6, 2) := by decide +kernel
theorem d_M_go_157 : decode b_M_go 157 = .ok (.aload_n 0, 1) := by decide +kernel
theorem d_M_go_158 : decode b_M_go 158 = .ok (.getfield 65, 3) := by decide +kernel
theorem d_M_go_161 : decode b_M_go 161 = .ok (.iload 5, 2) := by decide +kernel
theorem d_M_go_163 : decode b_M_go 163 = .ok (.iaload, 1) := by decide +kernel
theorem d_M_go_164 : decode b_M_go 164 = .ok (.if_icmp .eq 80, 3) := by decide +kernel
theorem d_M_go_167 : decode b_M_go 167 = .ok (.aload_n 0, 1) := by decide +kernel
theorem d_M_go_168 : decode b_M_go 168 = .ok (.getfield 35, 3) := by decide +kernel
theorem d_M_go_171 : decode b_M_go 171 = .ok (.iload 6, 2) := by decide +kernel
theorem d_M_go_173 : decode b_M_go 173 = .ok (.iaload, 1) := by decide +kernel
theorem d_M_go_174 : decode b_M_go 174 = .ok (.aload_n 0, 1) := by decide +kernel
theorem d_M_go_175 : decode b_M_go 175 = .ok (.getfield 35, 3) := by decide +kernel
theorem d_M_go_178 : decode b_M_go 178 = .ok (.aload_n 0, 1) := by decide +kernel
theorem d_M_go_179 : decode b_M_go 179 = .ok (.getfield 65, 3) := by decide +kernel
theorem d_M_go_182 : decode b_M_go 182 = .ok (.iload 5, 2) := by decide +kernel
theorem d_M_go_184 : decode b_M_go 184 = .ok (.iaload, 1) := by decide +kernel
theorem d_M_go_185 : decode b_M_go 185 = .ok (.iaload, 1) := by decide +kernel
theorem d_M_go_186 : decode b_M_go 186 = .ok (.if_icmp .ne 58, 3) := by decide +kernel
theorem d_M_go_189 : decode b_M_go 189 = .ok (.aload_n 0, 1) := by decide +kernel
theorem d_M_go_190 : decode b_M_go 190 = .ok (.dup, 1) := by decide +kernel
theorem d_M_go_191 : decode b_M_go 191 = .ok (.getfield 167, 3) := by decide +kernel
theorem d_M_go_194 : decode b_M_go 194 = .ok (.iconst 1, 1) := by decide +kernel
theorem d_M_go_195 : decode b_M_go 195 = .ok (.iadd, 1) := by decide +kernel
theorem d_M_go_196 : decode b_M_go 196 = .ok (.putfield 167, 3) := by decide +kernel
theorem d_M_go_199 : decode b_M_go 199 = .ok (.aload_n 0, 1) := by decide +kernel
theorem d_M_go_200 : decode b_M_go 200 = .ok (.aload_n 0, 1) := by decide +kernel
theorem d_M_go_201 : decode b_M_go 201 = .ok (.getfield 29, 3) := by decide +kernel
theorem d_M_go_204 : decode b_M_go 204 = .ok (.iload 6, 2) := by decide +kernel
theorem d_M_go_206 : decode b_M_go 206 = .ok (.iaload, 1) := by decide +kernel
theorem d_M_go_207 : decode b_M_go 207 = .ok (.invokestatic 153, 3) := by decide +kernel
theorem d_M_go_210 : decode b_M_go 210 = .ok (.aload_n 0, 1) := by decide +kernel
theorem d_M_go_211 : decode b_M_go 211 = .ok (.getfield 29, 3) := by decide +kernel
theorem d_M_go_214 : decode b_M_go 214 = .ok (.aload_n 0, 1) := by decide +kernel
theorem d_M_go_215 : decode b_M_go 215 = .ok (.getfield 65, 3) := by decide +kernel
theorem d_M_go_218 : decode b_M_go 218 = .ok (.iload 5, 2) := by decide +kernel
theorem d_M_go_220 : decode b_M_go 220 = .ok (.iaload, 1) := by decide +kernel
theorem d_M_go_221 : decode b_M_go 221 = .ok (.iaload, 1) := by decide +kernel
theorem d_M_go_222 : decode b_M_go 222 = .ok (.invokestatic 153, 3) := by decide +kernel
theorem d_M_go_225 : decode b_M_go 225 = .ok (.if_icmp .ne 10, 3) := by decide +kernel
theorem d_M_go_228 : decode b_M_go 228 = .ok (.aload_n 0, 1) := by decide +kernel
theorem d_M_go_229 : decode b_M_go 229 = .ok (.getfield 156, 3) := by decide +kernel
theorem d_M_go_232 : decode b_M_go 232 = .ok (.goto 9, 3) := by decide +kernel
theorem d_M_go_235 : decode b_M_go 235 = .ok (.aload_n 0, 1) := by decide +kernel
theorem d_M_go_236 : decode b_M_go 236 = .ok (.getfield 156, 3) := by decide +kernel
theorem d_M_go_239 : decode b_M_go 239 = .ok (.iconst 1, 1) := by decide +kernel
theorem d_M_go_240 : decode b_M_go 240 = .ok (.iadd, 1) := by decide +kernel
theorem d_M_go_241 : decode b_M_go 241 = .ok (.putfield 156, 3) := by decide +kernel
theorem d_M_go_244 : decode b_M_go 244 = .ok (.iinc 5 1, 3) := by decide +kernel
theorem d_M_go_247 : decode b_M_go 247 = .ok (.goto (-136), 3) := by decide +kernel
theorem d_M_go_250 : decode b_M_go 250 = .ok (.aload_n 0, 1) := by decide +kernel
theorem d_M_go_251 : decode b_M_go 251 = .ok (.getfield 130, 3) := by decide +kernel
theorem d_M_go_254 : decode b_M_go 254 = .ok (.ireturn, 1) := by decide +kernel
theorem d_M_stepAt_0 : decode b_M_stepAt 0 = .ok (.lconst 0, 1) := by decide +kernel
theorem d_M_stepAt_1 : decode b_M_stepAt 1 = .ok (.lstore_n 3, 1) := by decide +kernel
theorem d_M_stepAt_2 : decode b_M_stepAt 2 = .ok (.iconst 0, 1) := by decide +kernel
theorem d_M_stepAt_3 : decode b_M_stepAt 3 = .ok (.istore 5, 2) := by decide +kernel
theorem d_M_stepAt_5 : decode b_M_stepAt 5 = .ok (.iload 5, 2) := by decide +kernel
theorem d_M_stepAt_7 : decode b_M_stepAt 7 = .ok (.sipush 600, 3) := by decide +kernel
theorem d_M_stepAt_10 : decode b_M_stepAt 10 = .ok (.if_icmp .gt 31, 3) := by decide +kernel
theorem d_M_stepAt_13 : decode b_M_stepAt 13 = .ok (.aload_n 0, 1) := by decide +kernel
theorem d_M_stepAt_14 : decode b_M_stepAt 14 = .ok (.iload 5, 2) := by decide +kernel
theorem d_M_stepAt_16 : decode b_M_stepAt 16 = .ok (.invokevirtual 133, 3) := by decide +kernel
theorem d_M_stepAt_19 : decode b_M_stepAt 19 = .ok (.ifCond .eq 16, 3) := by decide +kernel
theorem d_M_stepAt_22 : decode b_M_stepAt 22 = .ok (.lload_n 3, 1) := by decide +kernel
theorem d_M_stepAt_23 : decode b_M_stepAt 23 = .ok (.lload_n 1, 1) := by decide +kernel
theorem d_M_stepAt_24 : decode b_M_stepAt 24 = .ok (.lcmp, 1) := by decide +kernel
theorem d_M_stepAt_25 : decode b_M_stepAt 25 = .ok (.ifCond .ne 6, 3) := by decide +kernel
theorem d_M_stepAt_28 : decode b_M_stepAt 28 = .ok (.iload 5, 2) := by decide +kernel
theorem d_M_stepAt_30 : decode b_M_stepAt 30 = .ok (.ireturn, 1) := by decide +kernel
theorem d_M_stepAt_31 : decode b_M_stepAt 31 = .ok (.lload_n 3, 1) := by decide +kernel
theorem d_M_stepAt_32 : decode b_M_stepAt 32 = .ok (.lconst 1, 1) := by decide +kernel
theorem d_M_stepAt_33 : decode b_M_stepAt 33 = .ok (.ladd, 1) := by decide +kernel
theorem d_M_stepAt_34 : decode b_M_stepAt 34 = .ok (.lstore_n 3, 1) := by decide +kernel
theorem d_M_stepAt_35 : decode b_M_stepAt 35 = .ok (.iinc 5 1, 3) := by decide +kernel
theorem d_M_stepAt_38 : decode b_M_stepAt 38 = .ok (.goto (-33), 3) := by decide +kernel
theorem d_M_stepAt_41 : decode b_M_stepAt 41 = .ok (.iconst (-1), 1) := by decide +kernel
theorem d_M_stepAt_42 : decode b_M_stepAt 42 = .ok (.ireturn, 1) := by decide +kernel
