theorem d_M_keep_0 : decode b_M_keep 0 = .ok (.iload_n 1, 1) := by decide +kernel
theorem d_M_keep_1 : decode b_M_keep 1 = .ok (.ifCond .lt 10, 3) := by decide +kernel
theorem d_M_keep_4 : decode b_M_keep 4 = .ok (.aload_n 0, 1) := by decide +kernel
theorem d_M_keep_5 : decode b_M_keep 5 = .ok (.getfield 71, 3) := by decide +kernel
theorem d_M_keep_8 : decode b_M_keep 8 = .ok (.iload_n 1, 1) := by decide +kernel
theorem d_M_keep_9 : decode b_M_keep 9 = .ok (.iconst 1, 1) := by decide +kernel
theorem d_M_keep_10 : decode b_M_keep 10 = .ok (.bastore, 1) := by decide +kernel
theorem d_M_keep_11 : decode b_M_keep 11 = .ok (.return_, 1) := by decide +kernel
theorem d_M_presentOf_0 : decode b_M_presentOf 0 = .ok (.iconst 0, 1) := by decide +kernel
theorem d_M_presentOf_1 : decode b_M_presentOf 1 = .ok (.istore_n 2, 1) := by decide +kernel
theorem d_M_presentOf_2 : decode b_M_presentOf 2 = .ok (.iconst (-1), 1) := by decide +kernel
theorem d_M_presentOf_3 : decode b_M_presentOf 3 = .ok (.istore_n 3, 1) := by decide +kernel
theorem d_M_presentOf_4 : decode b_M_presentOf 4 = .ok (.iconst 0, 1) := by decide +kernel
theorem d_M_presentOf_5 : decode b_M_presentOf 5 = .ok (.istore 4, 2) := by decide +kernel
theorem d_M_presentOf_7 : decode b_M_presentOf 7 = .ok (.iload 4, 2) := by decide +kernel
theorem d_M_presentOf_9 : decode b_M_presentOf 9 = .ok (.bipush 48, 2) := by decide +kernel
theorem d_M_presentOf_11 : decode b_M_presentOf 11 = .ok (.if_icmp .ge 66, 3) := by decide +kernel
theorem d_M_presentOf_14 : decode b_M_presentOf 14 = .ok (.aload_n 0, 1) := by decide +kernel
theorem d_M_presentOf_15 : decode b_M_presentOf 15 = .ok (.getfield 38, 3) := by decide +kernel
theorem d_M_presentOf_18 : decode b_M_presentOf 18 = .ok (.iload 4, 2) := by decide +kernel
theorem d_M_presentOf_20 : decode b_M_presentOf 20 = .ok (.baload, 1) := by decide +kernel
theorem d_M_presentOf_21 : decode b_M_presentOf 21 = .ok (.ifCond .eq 50, 3) := by decide +kernel
theorem d_M_presentOf_24 : decode b_M_presentOf 24 = .ok (.aload_n 0, 1) := by decide +kernel
theorem d_M_presentOf_25 : decode b_M_presentOf 25 = .ok (.getfield 23, 3) := by decide +kernel
theorem d_M_presentOf_28 : decode b_M_presentOf 28 = .ok (.iload 4, 2) := by decide +kernel
theorem d_M_presentOf_30 : decode b_M_presentOf 30 = .ok (.iaload, 1) := by decide +kernel
theorem d_M_presentOf_31 : decode b_M_presentOf 31 = .ok (.iload_n 1, 1) := by decide +kernel
theorem d_M_presentOf_32 : decode b_M_presentOf 32 = .ok (.if_icmp .ne 39, 3) := by decide +kernel
theorem d_M_presentOf_35 : decode b_M_presentOf 35 = .ok (.aload_n 0, 1) := by decide +kernel
theorem d_M_presentOf_36 : decode b_M_presentOf 36 = .ok (.getfield 26, 3) := by decide +kernel
theorem d_M_presentOf_39 : decode b_M_presentOf 39 = .ok (.iload 4, 2) := by decide +kernel
theorem d_M_presentOf_41 : decode b_M_presentOf 41 = .ok (.iaload, 1) := by decide +kernel
theorem d_M_presentOf_42 : decode b_M_presentOf 42 = .ok (.aload_n 0, 1) := by decide +kernel
theorem d_M_presentOf_43 : decode b_M_presentOf 43 = .ok (.getfield 130, 3) := by decide +kernel
theorem d_M_presentOf_46 : decode b_M_presentOf 46 = .ok (.if_icmp .gt 25, 3) := by decide +kernel
theorem d_M_presentOf_49 : decode b_M_presentOf 49 = .ok (.aload_n 0, 1) := by decide +kernel
theorem d_M_presentOf_50 : decode b_M_presentOf 50 = .ok (.getfield 26, 3) := by decide +kernel
theorem d_M_presentOf_53 : decode b_M_presentOf 53 = .ok (.iload 4, 2) := by decide +kernel
theorem d_M_presentOf_55 : decode b_M_presentOf 55 = .ok (.iaload, 1) := by decide +kernel
theorem d_M_presentOf_56 : decode b_M_presentOf 56 = .ok (.iload_n 3, 1) := by decide +kernel
theorem d_M_presentOf_57 : decode b_M_presentOf 57 = .ok (.if_icmp .le 14, 3) := by decide +kernel
theorem d_M_presentOf_60 : decode b_M_presentOf 60 = .ok (.iload 4, 2) := by decide +kernel
theorem d_M_presentOf_62 : decode b_M_presentOf 62 = .ok (.istore_n 2, 1) := by decide +kernel
theorem d_M_presentOf_63 : decode b_M_presentOf 63 = .ok (.aload_n 0, 1) := by decide +kernel
theorem d_M_presentOf_64 : decode b_M_presentOf 64 = .ok (.getfield 26, 3) := by decide +kernel
theorem d_M_presentOf_67 : decode b_M_presentOf 67 = .ok (.iload 4, 2) := by decide +kernel
theorem d_M_presentOf_69 : decode b_M_presentOf 69 = .ok (.iaload, 1) := by decide +kernel
theorem d_M_presentOf_70 : decode b_M_presentOf 70 = .ok (.istore_n 3, 1) := by decide +kernel
theorem d_M_presentOf_71 : decode b_M_presentOf 71 = .ok (.iinc 4 1, 3) := by decide +kernel
theorem d_M_presentOf_74 : decode b_M_presentOf 74 = .ok (.goto (-67), 3) := by decide +kernel
theorem d_M_presentOf_77 : decode b_M_presentOf 77 = .ok (.iload_n 2, 1) := by decide +kernel
theorem d_M_presentOf_78 : decode b_M_presentOf 78 = .ok (.ireturn, 1) := by decide +kernel
theorem d_M_show_0 : decode b_M_show 0 = .ok (.aload_n 0, 1) := by decide +kernel
theorem d_M_show_1 : decode b_M_show 1 = .ok (.getfield 50, 3) := by decide +kernel
theorem d_M_show_4 : decode b_M_show 4 = .ok (.iload_n 1, 1) := by decide +kernel
theorem d_M_show_5 : decode b_M_show 5 = .ok (.iaload, 1) := by decide +kernel
theorem d_M_show_6 : decode b_M_show 6 = .ok (.ifCond .lt 15, 3) := by decide +kernel
theorem d_M_show_9 : decode b_M_show 9 = .ok (.aload_n 0, 1) := by decide +kernel
theorem d_M_show_10 : decode b_M_show 10 = .ok (.getfield 62, 3) := by decide +kernel
theorem d_M_show_13 : decode b_M_show 13 = .ok (.aload_n 0, 1) := by decide +kernel
theorem d_M_show_14 : decode b_M_show 14 = .ok (.getfield 50, 3) := by decide +kernel
theorem d_M_show_17 : decode b_M_show 17 = .ok (.iload_n 1, 1) := by decide +kernel
theorem d_M_show_18 : decode b_M_show 18 = .ok (.iaload, 1) := by decide +kernel
theorem d_M_show_19 : decode b_M_show 19 = .ok (.iconst 1, 1) := by decide +kernel
theorem d_M_show_20 : decode b_M_show 20 = .ok (.bastore, 1) := by decide +kernel
theorem d_M_show_21 : decode b_M_show 21 = .ok (.aload_n 0, 1) := by decide +kernel
theorem d_M_show_22 : decode b_M_show 22 = .ok (.getfield 53, 3) := by decide +kernel
theorem d_M_show_25 : decode b_M_show 25 = .ok (.iload_n 1, 1) := by decide +kernel
theorem d_M_show_26 : decode b_M_show 26 = .ok (.iaload, 1) := by decide +kernel
theorem d_M_show_27 : decode b_M_show 27 = .ok (.ifCond .lt 15, 3) := by decide +kernel
theorem d_M_show_30 : decode b_M_show 30 = .ok (.aload_n 0, 1) := by decide +kernel
theorem d_M_show_31 : decode b_M_show 31 = .ok (.getfield 62, 3) := by decide +kernel
theorem d_M_show_34 : decode b_M_show 34 = .ok (.aload_n 0, 1) := by decide +kernel
theorem d_M_show_35 : decode b_M_show 35 = .ok (.getfield 53, 3) := by decide +kernel
theorem d_M_show_38 : decode b_M_show 38 = .ok (.iload_n 1, 1) := by decide +kernel
theorem d_M_show_39 : decode b_M_show 39 = .ok (.iaload, 1) := by decide +kernel
theorem d_M_show_40 : decode b_M_show 40 = .ok (.iconst 1, 1) := by decide +kernel
theorem d_M_show_41 : decode b_M_show 41 = .ok (.bastore, 1) := by decide +kernel
theorem d_M_show_42 : decode b_M_show 42 = .ok (.return_, 1) := by decide +kernel
theorem d_M_content_0 : decode b_M_content 0 = .ok (.iload_n 1, 1) := by decide +kernel
theorem d_M_content_1 : decode b_M_content 1 = .ok (.iconst 0, 1) := by decide +kernel
theorem d_M_content_2 : decode b_M_content 2 = .ok (.bipush 31, 2) := by decide +kernel
theorem d_M_content_4 : decode b_M_content 4 = .ok (.invokestatic 85, 3) := by decide +kernel
theorem d_M_content_7 : decode b_M_content 7 = .ok (.ifCond .eq 27, 3) := by decide +kernel
theorem d_M_content_10 : decode b_M_content 10 = .ok (.iload_n 2, 1) := by decide +kernel
theorem d_M_content_11 : decode b_M_content 11 = .ok (.bipush (-2), 2) := by decide +kernel
theorem d_M_content_13 : decode b_M_content 13 = .ok (.sipush 255, 3) := by decide +kernel
theorem d_M_content_16 : decode b_M_content 16 = .ok (.invokestatic 85, 3) := by decide +kernel
theorem d_M_content_19 : decode b_M_content 19 = .ok (.ifCond .eq 15, 3) := by decide +kernel
theorem d_M_content_22 : decode b_M_content 22 = .ok (.iload_n 3, 1) := by decide +kernel
theorem d_M_content_23 : decode b_M_content 23 = .ok (.bipush (-2), 2) := by decide +kernel
theorem d_M_content_25 : decode b_M_content 25 = .ok (.sipush 255, 3) := by decide +kernel
theorem d_M_content_28 : decode b_M_content 28 = .ok (.invokestatic 85, 3) := by decide +kernel
theorem d_M_content_31 : decode b_M_content 31 = .ok (.ifCond .ne 5, 3) := by decide +kernel
theorem d_M_content_34 : decode b_M_content 34 = .ok (.iconst 0, 1) := by decide +kernel
theorem d_M_content_35 : decode b_M_content 35 = .ok (.ireturn, 1) := by decide +kernel
theorem d_M_content_36 : decode b_M_content 36 = .ok (.aload_n 0, 1) := by decide +kernel
theorem d_M_content_37 : decode b_M_content 37 = .ok (.getfield 7, 3) := by decide +kernel
theorem d_M_content_40 : decode b_M_content 40 = .ok (.iload_n 1, 1) := by decide +kernel
theorem d_M_content_41 : decode b_M_content 41 = .ok (.iconst 0, 1) := by decide +kernel
theorem d_M_content_42 : decode b_M_content 42 = .ok (.iastore, 1) := by decide +kernel
theorem d_M_content_43 : decode b_M_content 43 = .ok (.aload_n 0, 1) := by decide +kernel
theorem d_M_content_44 : decode b_M_content 44 = .ok (.getfield 13, 3) := by decide +kernel
theorem d_M_content_47 : decode b_M_content 47 = .ok (.iload_n 1, 1) := by decide +kernel
theorem d_M_content_48 : decode b_M_content 48 = .ok (.iload_n 2, 1) := by decide +kernel
theorem d_M_content_49 : decode b_M_content 49 = .ok (.iastore, 1) := by decide +kernel
theorem d_M_content_50 : decode b_M_content 50 = .ok (.aload_n 0, 1) := by decide +kernel
theorem d_M_content_51 : decode b_M_content 51 = .ok (.getfield 16, 3) := by decide +kernel
theorem d_M_content_54 : decode b_M_content 54 = .ok (.iload_n 1, 1) := by decide +kernel
theorem d_M_content_55 : decode b_M_content 55 = .ok (.iload_n 3, 1) := by decide +kernel
theorem d_M_content_56 : decode b_M_content 56 = .ok (.iastore, 1) := by decide +kernel
theorem d_M_content_57 : decode b_M_content 57 = .ok (.aload_n 0, 1) := by decide +kernel
theorem d_M_content_58 : decode b_M_content 58 = .ok (.getfield 19, 3) := by decide +kernel
theorem d_M_content_61 : decode b_M_content 61 = .ok (.iload_n 1, 1) := by decide +kernel
theorem d_M_content_62 : decode b_M_content 62 = .ok (.iload 4, 2) := by decide +kernel
theorem d_M_content_64 : decode b_M_content 64 = .ok (.bastore, 1) := by decide +kernel
theorem d_M_content_65 : decode b_M_content 65 = .ok (.iconst 1, 1) := by decide +kernel
theorem d_M_content_66 : decode b_M_content 66 = .ok (.ireturn, 1) := by decide +kernel
theorem d_M_between_0 : decode b_M_between 0 = .ok (.iload_n 0, 1) := by decide +kernel
theorem d_M_between_1 : decode b_M_between 1 = .ok (.iload_n 1, 1) := by decide +kernel
theorem d_M_between_2 : decode b_M_between 2 = .ok (.if_icmp .lt 12, 3) := by decide +kernel
theorem d_M_between_5 : decode b_M_between 5 = .ok (.iload_n 0, 1) := by decide +kernel
theorem d_M_between_6 : decode b_M_between 6 = .ok (.iload_n 2, 1) := by decide +kernel
theorem d_M_between_7 : decode b_M_between 7 = .ok (.if_icmp .gt 7, 3) := by decide +kernel
theorem d_M_between_10 : decode b_M_between 10 = .ok (.iconst 1, 1) := by decide +kernel
theorem d_M_between_11 : decode b_M_between 11 = .ok (.goto 4, 3) := by decide +kernel
theorem d_M_between_14 : decode b_M_between 14 = .ok (.iconst 0, 1) := by decide +kernel
theorem d_M_between_15 : decode b_M_between 15 = .ok (.ireturn, 1) := by decide +kernel
theorem d_M_detour_0 : decode b_M_detour 0 = .ok (.iload_n 1, 1) := by decide +kernel
theorem d_M_detour_1 : decode b_M_detour 1 = .ok (.iconst 0, 1) := by decide +kernel
theorem d_M_detour_2 : decode b_M_detour 2 = .ok (.bipush 31, 2) := by decide +kernel
theorem d_M_detour_4 : decode b_M_detour 4 = .ok (.invokestatic 85, 3) := by decide +kernel
theorem d_M_detour_7 : decode b_M_detour 7 = .ok (.ifCond .eq 14, 3) := by decide +kernel
theorem d_M_detour_10 : decode b_M_detour 10 = .ok (.iload_n 2, 1) := by decide +kernel
theorem d_M_detour_11 : decode b_M_detour 11 = .ok (.iconst 0, 1) := by decide +kernel
theorem d_M_detour_12 : decode b_M_detour 12 = .ok (.sipush 255, 3) := by decide +kernel
theorem d_M_detour_15 : decode b_M_detour 15 = .ok (.invokestatic 85, 3) := by decide +kernel
theorem d_M_detour_18 : decode b_M_detour 18 = .ok (.ifCond .ne 5, 3) := by decide +kernel
theorem d_M_detour_21 : decode b_M_detour 21 = .ok (.iconst 0, 1) := by decide +kernel
theorem d_M_detour_22 : decode b_M_detour 22 = .ok (.ireturn, 1) := by decide +kernel
theorem d_M_detour_23 : decode b_M_detour 23 = .ok (.aload_n 0, 1) := by decide +kernel
theorem d_M_detour_24 : decode b_M_detour 24 = .ok (.getfield 7, 3) := by decide +kernel
theorem d_M_detour_27 : decode b_M_detour 27 = .ok (.iload_n 1, 1) := by decide +kernel
theorem d_M_detour_28 : decode b_M_detour 28 = .ok (.iconst 1, 1) := by decide +kernel
theorem d_M_detour_29 : decode b_M_detour 29 = .ok (.iastore, 1) := by decide +kernel
theorem d_M_detour_30 : decode b_M_detour 30 = .ok (.aload_n 0, 1) := by decide +kernel
theorem d_M_detour_31 : decode b_M_detour 31 = .ok (.getfield 13, 3) := by decide +kernel
theorem d_M_detour_34 : decode b_M_detour 34 = .ok (.iload_n 1, 1) := by decide +kernel
theorem d_M_detour_35 : decode b_M_detour 35 = .ok (.iload_n 2, 1) := by decide +kernel
theorem d_M_detour_36 : decode b_M_detour 36 = .ok (.iastore, 1) := by decide +kernel
theorem d_M_detour_37 : decode b_M_detour 37 = .ok (.iconst 1, 1) := by decide +kernel
theorem d_M_detour_38 : decode b_M_detour 38 = .ok (.ireturn, 1) := by decide +kernel
theorem d_M_fault_0 : decode b_M_fault 0 = .ok (.iload_n 1, 1) := by decide +kernel
theorem d_M_fault_1 : decode b_M_fault 1 = .ok (.iconst 0, 1) := by decide +kernel
theorem d_M_fault_2 : decode b_M_fault 2 = .ok (.bipush 31, 2) := by decide +kernel
theorem d_M_fault_4 : decode b_M_fault 4 = .ok (.invokestatic 85, 3) := by decide +kernel
theorem d_M_fault_7 : decode b_M_fault 7 = .ok (.ifCond .ne 5, 3) := by decide +kernel
theorem d_M_fault_10 : decode b_M_fault 10 = .ok (.iconst 0, 1) := by decide +kernel
theorem d_M_fault_11 : decode b_M_fault 11 = .ok (.ireturn, 1) := by decide +kernel
theorem d_M_fault_12 : decode b_M_fault 12 = .ok (.aload_n 0, 1) := by decide +kernel
theorem d_M_fault_13 : decode b_M_fault 13 = .ok (.getfield 7, 3) := by decide +kernel
theorem d_M_fault_16 : decode b_M_fault 16 = .ok (.iload_n 1, 1) := by decide +kernel
theorem d_M_fault_17 : decode b_M_fault 17 = .ok (.iconst 2, 1) := by decide +kernel
theorem d_M_fault_18 : decode b_M_fault 18 = .ok (.iastore, 1) := by decide +kernel
theorem d_M_fault_19 : decode b_M_fault 19 = .ok (.iconst 1, 1) := by decide +kernel
theorem d_M_fault_20 : decode b_M_fault 20 = .ok (.ireturn, 1) := by decide +kernel
theorem d_M_navigate_0 : decode b_M_navigate 0 = .ok (.iload_n 2, 1) := by decide +kernel
theorem d_M_navigate_1 : decode b_M_navigate 1 = .ok (.iconst (-1), 1) := by decide +kernel
theorem d_M_navigate_2 : decode b_M_navigate 2 = .ok (.sipush 255, 3) := by decide +kernel
theorem d_M_navigate_5 : decode b_M_navigate 5 = .ok (.invokestatic 85, 3) := by decide +kernel
theorem d_M_navigate_8 : decode b_M_navigate 8 = .ok (.ifCond .ne 6, 3) := by decide +kernel
theorem d_M_navigate_11 : decode b_M_navigate 11 = .ok (.bipush (-3), 2) := by decide +kernel
theorem d_M_navigate_13 : decode b_M_navigate 13 = .ok (.ireturn, 1) := by decide +kernel
theorem d_M_navigate_14 : decode b_M_navigate 14 = .ok (.aload_n 0, 1) := by decide +kernel
theorem d_M_navigate_15 : decode b_M_navigate 15 = .ok (.iload_n 1, 1) := by decide +kernel
theorem d_M_navigate_16 : decode b_M_navigate 16 = .ok (.invokevirtual 146, 3) := by decide +kernel
theorem d_M_navigate_19 : decode b_M_navigate 19 = .ok (.ifCond .ne 6, 3) := by decide +kernel
theorem d_M_navigate_22 : decode b_M_navigate 22 = .ok (.bipush (-4), 2) := by decide +kernel
theorem d_M_navigate_24 : decode b_M_navigate 24 = .ok (.ireturn, 1) := by decide +kernel
theorem d_M_navigate_25 : decode b_M_navigate 25 = .ok (.aload_n 0, 1) := by decide +kernel
theorem d_M_navigate_26 : decode b_M_navigate 26 = .ok (.iload_n 1, 1) := by decide +kernel
theorem d_M_navigate_27 : decode b_M_navigate 27 = .ok (.invokevirtual 124, 3) := by decide +kernel
theorem d_M_navigate_30 : decode b_M_navigate 30 = .ok (.istore 4, 2) := by decide +kernel
theorem d_M_navigate_32 : decode b_M_navigate 32 = .ok (.aload_n 0, 1) := by decide +kernel
theorem d_M_navigate_33 : decode b_M_navigate 33 = .ok (.getfield 29, 3) := by decide +kernel
theorem d_M_navigate_36 : decode b_M_navigate 36 = .ok (.iload 4, 2) := by decide +kernel
theorem d_M_navigate_38 : decode b_M_navigate 38 = .ok (.iaload, 1) := by decide +kernel
theorem d_M_navigate_39 : decode b_M_navigate 39 = .ok (.istore 5, 2) := by decide +kernel
theorem d_M_navigate_41 : decode b_M_navigate 41 = .ok (.iload_n 3, 1) := by decide +kernel
theorem d_M_navigate_42 : decode b_M_navigate 42 = .ok (.ifCond .ne 13, 3) := by decide +kernel
theorem d_M_navigate_45 : decode b_M_navigate 45 = .ok (.iload_n 2, 1) := by decide +kernel
theorem d_M_navigate_46 : decode b_M_navigate 46 = .ok (.iload 5, 2) := by decide +kernel
theorem d_M_navigate_48 : decode b_M_navigate 48 = .ok (.if_icmp .eq 7, 3) := by decide +kernel
theorem d_M_navigate_51 : decode b_M_navigate 51 = .ok (.iconst 1, 1) := by decide +kernel
theorem d_M_navigate_52 : decode b_M_navigate 52 = .ok (.goto 4, 3) := by decide +kernel
theorem d_M_navigate_55 : decode b_M_navigate 55 = .ok (.iconst 0, 1) := by decide +kernel
theorem d_M_navigate_56 : decode b_M_navigate 56 = .ok (.istore 6, 2) := by decide +kernel
theorem d_M_navigate_58 : decode b_M_navigate 58 = .ok (.aload_n 0, 1) := by decide +kernel
theorem d_M_navigate_59 : decode b_M_navigate 59 = .ok (.iload 6, 2) := by decide +kernel
theorem d_M_navigate_61 : decode b_M_navigate 61 = .ok (.invokevirtual 149, 3) := by decide +kernel
theorem d_M_navigate_64 : decode b_M_navigate 64 = .ok (.ifCond .eq 6, 3) := by decide +kernel
theorem d_M_navigate_67 : decode b_M_navigate 67 = .ok (.bipush (-5), 2) := by decide +kernel
theorem d_M_navigate_69 : decode b_M_navigate 69 = .ok (.ireturn, 1) := by decide +kernel
theorem d_M_navigate_70 : decode b_M_navigate 70 = .ok (.iload_n 2, 1) := by decide +kernel
theorem d_M_navigate_71 : decode b_M_navigate 71 = .ok (.iconst (-1), 1) := by decide +kernel
theorem d_M_navigate_72 : decode b_M_navigate 72 = .ok (.if_icmp .eq 32, 3) := by decide +kernel
theorem d_M_navigate_75 : decode b_M_navigate 75 = .ok (.iload_n 2, 1) := by decide +kernel
theorem d_M_navigate_76 : decode b_M_navigate 76 = .ok (.invokestatic 153, 3) := by decide +kernel
theorem d_M_navigate_79 : decode b_M_navigate 79 = .ok (.ifCond .eq 25, 3) := by decide +kernel
theorem d_M_navigate_82 : decode b_M_navigate 82 = .ok (.iload 5, 2) := by decide +kernel
theorem d_M_navigate_84 : decode b_M_navigate 84 = .ok (.iconst (-1), 1) := by decide +kernel
theorem d_M_navigate_85 : decode b_M_navigate 85 = .ok (.if_icmp .eq 19, 3) := by decide +kernel
theorem d_M_navigate_88 : decode b_M_navigate 88 = .ok (.iload 5, 2) := by decide +kernel
theorem d_M_navigate_90 : decode b_M_navigate 90 = .ok (.bipush 8, 2) := by decide +kernel
theorem d_M_navigate_92 : decode b_M_navigate 92 = .ok (.idiv, 1) := by decide +kernel
theorem d_M_navigate_93 : decode b_M_navigate 93 = .ok (.iload_n 2, 1) := by decide +kernel
theorem d_M_navigate_94 : decode b_M_navigate 94 = .ok (.bipush 8, 2) := by decide +kernel
theorem d_M_navigate_96 : decode b_M_navigate 96 = .ok (.idiv, 1) := by decide +kernel
theorem d_M_navigate_97 : decode b_M_navigate 97 = .ok (.if_icmp .ne 7, 3) := by decide +kernel
theorem d_M_navigate_100 : decode b_M_navigate 100 = .ok (.iconst 1, 1) := by decide +kernel
theorem d_M_navigate_101 : decode b_M_navigate 101 = .ok (.goto 4, 3) := by decide +kernel
theorem d_M_navigate_104 : decode b_M_navigate 104 = .ok (.iconst 0, 1) := by decide +kernel
theorem d_M_navigate_105 : decode b_M_navigate 105 = .ok (.istore 7, 2) := by decide +kernel
theorem d_M_navigate_107 : decode b_M_navigate 107 = .ok (.iload 7, 2) := by decide +kernel
theorem d_M_navigate_109 : decode b_M_navigate 109 = .ok (.ifCond .eq 19, 3) := by decide +kernel
theorem d_M_navigate_112 : decode b_M_navigate 112 = .ok (.iload_n 2, 1) := by decide +kernel
theorem d_M_navigate_113 : decode b_M_navigate 113 = .ok (.iload 5, 2) := by decide +kernel
theorem d_M_navigate_115 : decode b_M_navigate 115 = .ok (.if_icmp .eq 13, 3) := by decide +kernel
theorem d_M_navigate_118 : decode b_M_navigate 118 = .ok (.aload_n 0, 1) := by decide +kernel
theorem d_M_navigate_119 : decode b_M_navigate 119 = .ok (.dup, 1) := by decide +kernel
theorem d_M_navigate_120 : decode b_M_navigate 120 = .ok (.getfield 156, 3) := by decide +kernel
theorem d_M_navigate_123 : decode b_M_navigate 123 = .ok (.iconst 1, 1) := by decide +kernel
theorem d_M_navigate_124 : decode b_M_navigate 124 = .ok (.iadd, 1) := by decide +kernel
theorem d_M_navigate_125 : decode b_M_navigate 125 = .ok (.putfield 156, 3) := by decide +kernel
theorem d_M_navigate_128 : decode b_M_navigate 128 = .ok (.aload_n 0, 1) := by decide +kernel
theorem d_M_navigate_129 : decode b_M_navigate 129 = .ok (.iload_n 1, 1) := by decide +kernel
theorem d_M_navigate_130 : decode b_M_navigate 130 = .ok (.iload_n 2, 1) := by decide +kernel
theorem d_M_navigate_131 : decode b_M_navigate 131 = .ok (.iconst 0, 1) := by decide +kernel
theorem d_M_navigate_132 : decode b_M_navigate 132 = .ok (.iload 6, 2) := by decide +kernel
theorem d_M_navigate_134 : decode b_M_navigate 134 = .ok (.iload 7, 2) := by decide +kernel
theorem d_M_navigate_136 : decode b_M_navigate 136 = .ok (.ifCond .eq 13, 3) := by decide +kernel
theorem d_M_navigate_139 : decode b_M_navigate 139 = .ok (.aload_n 0, 1) := by decide +kernel
theorem d_M_navigate_140 : decode b_M_navigate 140 = .ok (.getfield 35, 3) := by decide +kernel
theorem d_M_navigate_143 : decode b_M_navigate 143 = .ok (.iload 4, 2) := by decide +kernel
theorem d_M_navigate_145 : decode b_M_navigate 145 = .ok (.iaload, 1) := by decide +kernel
theorem d_M_navigate_146 : decode b_M_navigate 146 = .ok (.goto 4, 3) := by decide +kernel
theorem d_M_navigate_149 : decode b_M_navigate 149 = .ok (.iconst (-1), 1) := by decide +kernel
theorem d_M_navigate_150 : decode b_M_navigate 150 = .ok (.invokevirtual 159, 3) := by decide +kernel
theorem d_M_navigate_153 : decode b_M_navigate 153 = .ok (.aload_n 0, 1) := by decide +kernel
theorem d_M_navigate_154 : decode b_M_navigate 154 = .ok (.getfield 130, 3) := by decide +kernel
theorem d_M_navigate_157 : decode b_M_navigate 157 = .ok (.ireturn, 1) := by decide +kernel
theorem d_M_isShown_0 : decode b_M_isShown 0 = .ok (.iload_n 1, 1) := by decide +kernel
theorem d_M_isShown_1 : decode b_M_isShown 1 = .ok (.iconst 0, 1) := by decide +kernel
theorem d_M_isShown_2 : decode b_M_isShown 2 = .ok (.bipush 47, 2) := by decide +kernel
theorem d_M_isShown_4 : decode b_M_isShown 4 = .ok (.invokestatic 85, 3) := by decide +kernel
theorem d_M_isShown_7 : decode b_M_isShown 7 = .ok (.ifCond .eq 16, 3) := by decide +kernel
theorem d_M_isShown_10 : decode b_M_isShown 10 = .ok (.aload_n 0, 1) := by decide +kernel
theorem d_M_isShown_11 : decode b_M_isShown 11 = .ok (.getfield 62, 3) := by decide +kernel
theorem d_M_isShown_14 : decode b_M_isShown 14 = .ok (.iload_n 1, 1) := by decide +kernel
theorem d_M_isShown_15 : decode b_M_isShown 15 = .ok (.baload, 1) := by decide +kernel
theorem d_M_isShown_16 : decode b_M_isShown 16 = .ok (.ifCond .eq 7, 3) := by decide +kernel
theorem d_M_isShown_19 : decode b_M_isShown 19 = .ok (.iconst 1, 1) := by decide +kernel
theorem d_M_isShown_20 : decode b_M_isShown 20 = .ok (.goto 4, 3) := by decide +kernel
theorem d_M_isShown_23 : decode b_M_isShown 23 = .ok (.iconst 0, 1) := by decide +kernel
theorem d_M_isShown_24 : decode b_M_isShown 24 = .ok (.ireturn, 1) := by decide +kernel
theorem d_M_full_0 : decode b_M_full 0 = .ok (.iconst 0, 1) := by decide +kernel
theorem d_M_full_1 : decode b_M_full 1 = .ok (.istore_n 2, 1) := by decide +kernel
theorem d_M_full_2 : decode b_M_full 2 = .ok (.iconst 0, 1) := by decide +kernel
theorem d_M_full_3 : decode b_M_full 3 = .ok (.istore_n 3, 1) := by decide +kernel
theorem d_M_full_4 : decode b_M_full 4 = .ok (.iload_n 3, 1) := by decide +kernel
theorem d_M_full_5 : decode b_M_full 5 = .ok (.bipush 48, 2) := by decide +kernel
theorem d_M_full_7 : decode b_M_full 7 = .ok (.if_icmp .ge 43, 3) := by decide +kernel
theorem d_M_full_10 : decode b_M_full 10 = .ok (.aload_n 0, 1) := by decide +kernel
theorem d_M_full_11 : decode b_M_full 11 = .ok (.getfield 38, 3) := by decide +kernel
theorem d_M_full_14 : decode b_M_full 14 = .ok (.iload_n 3, 1) := by decide +kernel
theorem d_M_full_15 : decode b_M_full 15 = .ok (.baload, 1) := by decide +kernel
theorem d_M_full_16 : decode b_M_full 16 = .ok (.ifCond .eq 26, 3) := by decide +kernel
theorem d_M_full_19 : decode b_M_full 19 = .ok (.iload_n 1, 1) := by decide +kernel
theorem d_M_full_20 : decode b_M_full 20 = .ok (.ifCond .eq 16, 3) := by decide +kernel
theorem d_M_full_23 : decode b_M_full 23 = .ok (.aload_n 0, 1) := by decide +kernel
theorem d_M_full_24 : decode b_M_full 24 = .ok (.getfield 26, 3) := by decide +kernel
theorem d_M_full_27 : decode b_M_full 27 = .ok (.iload_n 3, 1) := by decide +kernel
theorem d_M_full_28 : decode b_M_full 28 = .ok (.iaload, 1) := by decide +kernel
theorem d_M_full_29 : decode b_M_full 29 = .ok (.aload_n 0, 1) := by decide +kernel
theorem d_M_full_30 : decode b_M_full 30 = .ok (.getfield 130, 3) := by decide +kernel
theorem d_M_full_33 : decode b_M_full 33 = .ok (.if_icmp .gt 9, 3) := by decide +kernel
theorem d_M_full_36 : decode b_M_full 36 = .ok (.iload_n 2, 1) := by decide +kernel
theorem d_M_full_37 : decode b_M_full 37 = .ok (.iconst 1, 1) := by decide +kernel
theorem d_M_full_38 : decode b_M_full 38 = .ok (.iadd, 1) := by decide +kernel
theorem d_M_full_39 : decode b_M_full 39 = .ok (.goto 4, 3) := by decide +kernel
theorem d_M_full_42 : decode b_M_full 42 = .ok (.iload_n 2, 1) := by decide +kernel
theorem d_M_full_43 : decode b_M_full 43 = .ok (.istore_n 2, 1) := by decide +kernel
theorem d_M_full_44 : decode b_M_full 44 = .ok (.iinc 3 1, 3) := by decide +kernel
theorem d_M_full_47 : decode b_M_full 47 = .ok (.goto (-43), 3) := by decide +kernel
theorem d_M_full_50 : decode b_M_full 50 = .ok (.iload_n 2, 1) := by decide +kernel
theorem d_M_full_51 : decode b_M_full 51 = .ok (.bipush 36, 2) := by decide +kernel
theorem d_M_full_53 : decode b_M_full 53 = .ok (.if_icmp .lt 7, 3) := by decide +kernel
theorem d_M_full_56 : decode b_M_full 56 = .ok (.iconst 1, 1) := by decide +kernel
theorem d_M_full_57 : decode b_M_full 57 = .ok (.goto 4, 3) := by decide +kernel
theorem d_M_full_60 : decode b_M_full 60 = .ok (.iconst 0, 1) := by decide +kernel
theorem d_M_full_61 : decode b_M_full 61 = .ok (.ireturn, 1) := by decide +kernel
theorem d_M_fragment_0 : decode b_M_fragment 0 = .ok (.iload_n 0, 1) := by decide +kernel
theorem d_M_fragment_1 : decode b_M_fragment 1 = .ok (.iconst (-1), 1) := by decide +kernel
theorem d_M_fragment_2 : decode b_M_fragment 2 = .ok (.if_icmp .ne 7, 3) := by decide +kernel
theorem d_M_fragment_5 : decode b_M_fragment 5 = .ok (.iconst 0, 1) := by decide +kernel
theorem d_M_fragment_6 : decode b_M_fragment 6 = .ok (.goto 7, 3) := by decide +kernel
theorem d_M_fragment_9 : decode b_M_fragment 9 = .ok (.iload_n 0, 1) := by decide +kernel
theorem d_M_fragment_10 : decode b_M_fragment 10 = .ok (.bipush 8, 2) := by decide +kernel
theorem d_M_fragment_12 : decode b_M_fragment 12 = .ok (.irem, 1) := by decide +kernel
theorem d_M_fragment_13 : decode b_M_fragment 13 = .ok (.ireturn, 1) := by decide +kernel
theorem d_M_enter_0 : decode b_M_enter 0 = .ok (.iload_n 2, 1) := by decide +kernel
theorem d_M_enter_1 : decode b_M_enter 1 = .ok (.istore 6, 2) := by decide +kernel
theorem d_M_enter_3 : decode b_M_enter 3 = .ok (.iload 4, 2) := by decide +kernel
theorem d_M_enter_5 : decode b_M_enter 5 = .ok (.ifCond .eq 7, 3) := by decide +kernel
theorem d_M_enter_8 : decode b_M_enter 8 = .ok (.aload_n 0, 1) := by decide +kernel
theorem d_M_enter_9 : decode b_M_enter 9 = .ok (.invokevirtual 137, 3) := by decide +kernel
theorem d_M_enter_12 : decode b_M_enter 12 = .ok (.aload_n 0, 1) := by decide +kernel
theorem d_M_enter_13 : decode b_M_enter 13 = .ok (.iload_n 1, 1) := by decide +kernel
theorem d_M_enter_14 : decode b_M_enter 14 = .ok (.invokevirtual 124, 3) := by decide +kernel
theorem d_M_enter_17 : decode b_M_enter 17 = .ok (.istore 7, 2) := by decide +kernel
theorem d_M_enter_19 : decode b_M_enter 19 = .ok (.iload 5, 2) := by decide +kernel
theorem d_M_enter_21 : decode b_M_enter 21 = .ok (.istore 8, 2) := by decide +kernel
theorem d_M_enter_23 : decode b_M_enter 23 = .ok (.iload 8, 2) := by decide +kernel
theorem d_M_enter_25 : decode b_M_enter 25 = .ok (.ifCond .ge 38, 3) := by decide +kernel
theorem d_M_enter_28 : decode b_M_enter 28 = .ok (.aload_n 0, 1) := by decide +kernel
theorem d_M_enter_29 : decode b_M_enter 29 = .ok (.iload_n 1, 1) := by decide +kernel
theorem d_M_enter_30 : decode b_M_enter 30 = .ok (.iload_n 2, 1) := by decide +kernel
theorem d_M_enter_31 : decode b_M_enter 31 = .ok (.iload 4, 2) := by decide +kernel
theorem d_M_enter_33 : decode b_M_enter 33 = .ok (.ifCond .eq 12, 3) := by decide +kernel
theorem d_M_enter_36 : decode b_M_enter 36 = .ok (.aload_n 0, 1) := by decide +kernel
theorem d_M_enter_37 : decode b_M_enter 37 = .ok (.getfield 130, 3) := by decide +kernel
theorem d_M_enter_40 : decode b_M_enter 40 = .ok (.iconst 1, 1) := by decide +kernel
theorem d_M_enter_41 : decode b_M_enter 41 = .ok (.iadd, 1) := by decide +kernel
theorem d_M_enter_42 : decode b_M_enter 42 = .ok (.goto 10, 3) := by decide +kernel
theorem d_M_enter_45 : decode b_M_enter 45 = .ok (.aload_n 0, 1) := by decide +kernel
theorem d_M_enter_46 : decode b_M_enter 46 = .ok (.getfield 26, 3) := by decide +kernel
theorem d_M_enter_49 : decode b_M_enter 49 = .ok (.iload 7, 2) := by decide +kernel
theorem d_M_enter_51 : decode b_M_enter 51 = .ok (.iaload, 1) := by decide +kernel
theorem d_M_enter_52 : decode b_M_enter 52 = .ok (.invokevirtual 140, 3) := by decide +kernel
theorem d_M_enter_55 : decode b_M_enter 55 = .ok (.istore 8, 2) := by decide +kernel
theorem d_M_enter_57 : decode b_M_enter 57 = .ok (.aload_n 0, 1) := by decide +kernel
theorem d_M_enter_58 : decode b_M_enter 58 = .ok (.getfield 93, 3) := by decide +kernel
theorem d_M_enter_61 : decode b_M_enter 61 = .ok (.istore 6, 2) := by decide +kernel
theorem d_M_enter_63 : decode b_M_enter 63 = .ok (.iload 4, 2) := by decide +kernel
theorem d_M_enter_65 : decode b_M_enter 65 = .ok (.ifCond .eq 28, 3) := by decide +kernel
theorem d_M_enter_68 : decode b_M_enter 68 = .ok (.aload_n 0, 1) := by decide +kernel
theorem d_M_enter_69 : decode b_M_enter 69 = .ok (.dup, 1) := by decide +kernel
theorem d_M_enter_70 : decode b_M_enter 70 = .ok (.getfield 130, 3) := by decide +kernel
theorem d_M_enter_73 : decode b_M_enter 73 = .ok (.iconst 1, 1) := by decide +kernel
theorem d_M_enter_74 : decode b_M_enter 74 = .ok (.iadd, 1) := by decide +kernel
theorem d_M_enter_75 : decode b_M_enter 75 = .ok (.putfield 130, 3) := by decide +kernel
theorem d_M_enter_78 : decode b_M_enter 78 = .ok (.aload_n 0, 1) := by decide +kernel
theorem d_M_enter_79 : decode b_M_enter 79 = .ok (.iload_n 1, 1) := by decide +kernel
theorem d_M_enter_80 : decode b_M_enter 80 = .ok (.aload_n 0, 1) := by decide +kernel
theorem d_M_enter_81 : decode b_M_enter 81 = .ok (.getfield 130, 3) := by decide +kernel
theorem d_M_enter_84 : decode b_M_enter 84 = .ok (.iload 6, 2) := by decide +kernel
theorem d_M_enter_86 : decode b_M_enter 86 = .ok (.iload 8, 2) := by decide +kernel
theorem d_M_enter_88 : decode b_M_enter 88 = .ok (.invokevirtual 78, 3) := by decide +kernel
theorem d_M_enter_91 : decode b_M_enter 91 = .ok (.istore 7, 2) := by decide +kernel
theorem d_M_enter_93 : decode b_M_enter 93 = .ok (.aload_n 0, 1) := by decide +kernel
theorem d_M_enter_94 : decode b_M_enter 94 = .ok (.getfield 29, 3) := by decide +kernel
theorem d_M_enter_97 : decode b_M_enter 97 = .ok (.iload 7, 2) := by decide +kernel
theorem d_M_enter_99 : decode b_M_enter 99 = .ok (.iload 6, 2) := by decide +kernel
theorem d_M_enter_101 : decode b_M_enter 101 = .ok (.iastore, 1) := by decide +kernel
theorem d_M_enter_102 : decode b_M_enter 102 = .ok (.aload_n 0, 1) := by decide +kernel
theorem d_M_enter_103 : decode b_M_enter 103 = .ok (.getfield 32, 3) := by decide +kernel
theorem d_M_enter_106 : decode b_M_enter 106 = .ok (.iload 7, 2) := by decide +kernel
theorem d_M_enter_108 : decode b_M_enter 108 = .ok (.iload_n 3, 1) := by decide +kernel
theorem d_M_enter_109 : decode b_M_enter 109 = .ok (.iastore, 1) := by decide +kernel
theorem d_M_enter_110 : decode b_M_enter 110 = .ok (.aload_n 0, 1) := by decide +kernel
theorem d_M_enter_111 : decode b_M_enter 111 = .ok (.getfield 35, 3) := by decide +kernel
theorem d_M_enter_114 : decode b_M_enter 114 = .ok (.iload 7, 2) := by decide +kernel
theorem d_M_enter_116 : decode b_M_enter 116 = .ok (.iload 8, 2) := by decide +kernel
theorem d_M_enter_118 : decode b_M_enter 118 = .ok (.iastore, 1) := by decide +kernel
theorem d_M_enter_119 : decode b_M_enter 119 = .ok (.aload_n 0, 1) := by decide +kernel
theorem d_M_enter_120 : decode b_M_enter 120 = .ok (.invokevirtual 82, 3) := by decide +kernel
theorem d_M_enter_123 : decode b_M_enter 123 = .ok (.aload_n 0, 1) := by decide +kernel
theorem d_M_enter_124 : decode b_M_enter 124 = .ok (.invokevirtual 143, 3) := by decide +kernel
theorem d_M_enter_127 : decode b_M_enter 127 = .ok (.return_, 1) := by decide +kernel
theorem d_M_cutOff_0 : decode b_M_cutOff 0 = .ok (.iconst 0, 1) := by decide +kernel
theorem d_M_cutOff_1 : decode b_M_cutOff 1 = .ok (.istore_n 1, 1) := by decide +kernel
theorem d_M_cutOff_2 : decode b_M_cutOff 2 = .ok (.iload_n 1, 1) := by decide +kernel
theorem d_M_cutOff_3 : decode b_M_cutOff 3 = .ok (.bipush 48, 2) := by decide +kernel
theorem d_M_cutOff_5 : decode b_M_cutOff 5 = .ok (.if_icmp .ge 42, 3) := by decide +kernel
theorem d_M_cutOff_8 : decode b_M_cutOff 8 = .ok (.aload_n 0, 1) := by decide +kernel
theorem d_M_cutOff_9 : decode b_M_cutOff 9 = .ok (.getfield 38, 3) := by decide +kernel
theorem d_M_cutOff_12 : decode b_M_cutOff 12 = .ok (.iload_n 1, 1) := by decide +kernel
theorem d_M_cutOff_13 : decode b_M_cutOff 13 = .ok (.aload_n 0, 1) := by decide +kernel
theorem d_M_cutOff_14 : decode b_M_cutOff 14 = .ok (.getfield 38, 3) := by decide +kernel
theorem d_M_cutOff_17 : decode b_M_cutOff 17 = .ok (.iload_n 1, 1) := by decide +kernel
theorem d_M_cutOff_18 : decode b_M_cutOff 18 = .ok (.baload, 1) := by decide +kernel
theorem d_M_cutOff_19 : decode b_M_cutOff 19 = .ok (.ifCond .eq 20, 3) := by decide +kernel
theorem d_M_cutOff_22 : decode b_M_cutOff 22 = .ok (.aload_n 0, 1) := by decide +kernel
theorem d_M_cutOff_23 : decode b_M_cutOff 23 = .ok (.getfield 26, 3) := by decide +kernel
theorem d_M_cutOff_26 : decode b_M_cutOff 26 = .ok (.iload_n 1, 1) := by decide +kernel
theorem d_M_cutOff_27 : decode b_M_cutOff 27 = .ok (.iaload, 1) := by decide +kernel
theorem d_M_cutOff_28 : decode b_M_cutOff 28 = .ok (.aload_n 0, 1) := by decide +kernel
theorem d_M_cutOff_29 : decode b_M_cutOff 29 = .ok (.getfield 130, 3) := by decide +kernel
theorem d_M_cutOff_32 : decode b_M_cutOff 32 = .ok (.if_icmp .gt 7, 3) := by decide +kernel
theorem d_M_cutOff_35 : decode b_M_cutOff 35 = .ok (.iconst 1, 1) := by decide +kernel
theorem d_M_cutOff_36 : decode b_M_cutOff 36 = .ok (.goto 4, 3) := by decide +kernel
theorem d_M_cutOff_39 : decode b_M_cutOff 39 = .ok (.iconst 0, 1) := by decide +kernel
theorem d_M_cutOff_40 : decode b_M_cutOff 40 = .ok (.bastore, 1) := by decide +kernel
theorem d_M_cutOff_41 : decode b_M_cutOff 41 = .ok (.iinc 1 1, 3) := by decide +kernel
theorem d_M_cutOff_44 : decode b_M_cutOff 44 = .ok (.goto (-42), 3) := by decide +kernel
theorem d_M_cutOff_47 : decode b_M_cutOff 47 = .ok (.aload_n 0, 1) := by decide +kernel
theorem d_M_cutOff_48 : decode b_M_cutOff 48 = .ok (.invokevirtual 82, 3) := by decide +kernel
theorem d_M_cutOff_51 : decode b_M_cutOff 51 = .ok (.return_, 1) := by decide +kernel
theorem d_M_load_0 : decode b_M_load 0 = .ok (.aload_n 0, 1) := by decide +kernel
theorem d_M_load_1 : decode b_M_load 1 = .ok (.iload_n 1, 1) := by decide +kernel
theorem d_M_load_2 : decode b_M_load 2 = .ok (.invokevirtual 111, 3) := by decide +kernel
theorem d_M_load_5 : decode b_M_load 5 = .ok (.istore 4, 2) := by decide +kernel
theorem d_M_load_7 : decode b_M_load 7 = .ok (.iload 4, 2) := by decide +kernel
theorem d_M_load_9 : decode b_M_load 9 = .ok (.ifCond .ne 12, 3) := by decide +kernel
theorem d_M_load_12 : decode b_M_load 12 = .ok (.aload_n 0, 1) := by decide +kernel
theorem d_M_load_13 : decode b_M_load 13 = .ok (.iload_n 2, 1) := by decide +kernel
theorem d_M_load_14 : decode b_M_load 14 = .ok (.iload_n 3, 1) := by decide +kernel
theorem d_M_load_15 : decode b_M_load 15 = .ok (.invokevirtual 114, 3) := by decide +kernel
theorem d_M_load_18 : decode b_M_load 18 = .ok (.goto 25, 3) := by decide +kernel
theorem d_M_load_21 : decode b_M_load 21 = .ok (.iload 4, 2) := by decide +kernel
theorem d_M_load_23 : decode b_M_load 23 = .ok (.iconst 1, 1) := by decide +kernel
theorem d_M_load_24 : decode b_M_load 24 = .ok (.if_icmp .ne 13, 3) := by decide +kernel
theorem d_M_load_27 : decode b_M_load 27 = .ok (.aload_n 0, 1) := by decide +kernel
theorem d_M_load_28 : decode b_M_load 28 = .ok (.iload_n 1, 1) := by decide +kernel
theorem d_M_load_29 : decode b_M_load 29 = .ok (.iload_n 2, 1) := by decide +kernel
theorem d_M_load_30 : decode b_M_load 30 = .ok (.iload_n 3, 1) := by decide +kernel
theorem d_M_load_31 : decode b_M_load 31 = .ok (.invokevirtual 117, 3) := by decide +kernel
theorem d_M_load_34 : decode b_M_load 34 = .ok (.goto 9, 3) := by decide +kernel
theorem d_M_load_37 : decode b_M_load 37 = .ok (.aload_n 0, 1) := by decide +kernel
theorem d_M_load_38 : decode b_M_load 38 = .ok (.iload_n 1, 1) := by decide +kernel
theorem d_M_load_39 : decode b_M_load 39 = .ok (.iload_n 2, 1) := by decide +kernel
theorem d_M_load_40 : decode b_M_load 40 = .ok (.invokevirtual 74, 3) := by decide +kernel
theorem d_M_load_43 : decode b_M_load 43 = .ok (.ireturn, 1) := by decide +kernel
theorem d_M_deep_0 : decode b_M_deep 0 = .ok (.iload_n 1, 1) := by decide +kernel
theorem d_M_deep_1 : decode b_M_deep 1 = .ok (.ifCond .ne 5, 3) := by decide +kernel
theorem d_M_deep_4 : decode b_M_deep 4 = .ok (.iconst 0, 1) := by decide +kernel
theorem d_M_deep_5 : decode b_M_deep 5 = .ok (.ireturn, 1) := by decide +kernel
theorem d_M_deep_6 : decode b_M_deep 6 = .ok (.iconst 0, 1) := by decide +kernel
theorem d_M_deep_7 : decode b_M_deep 7 = .ok (.istore_n 2, 1) := by decide +kernel
theorem d_M_deep_8 : decode b_M_deep 8 = .ok (.iload_n 2, 1) := by decide +kernel
theorem d_M_deep_9 : decode b_M_deep 9 = .ok (.bipush 48, 2) := by decide +kernel
theorem d_M_deep_11 : decode b_M_deep 11 = .ok (.if_icmp .ge 44, 3) := by decide +kernel
theorem d_M_deep_14 : decode b_M_deep 14 = .ok (.aload_n 0, 1) := by decide +kernel
theorem d_M_deep_15 : decode b_M_deep 15 = .ok (.getfield 38, 3) := by decide +kernel
theorem d_M_deep_18 : decode b_M_deep 18 = .ok (.iload_n 2, 1) := by decide +kernel
theorem d_M_deep_19 : decode b_M_deep 19 = .ok (.baload, 1) := by decide +kernel
theorem d_M_deep_20 : decode b_M_deep 20 = .ok (.ifCond .eq 29, 3) := by decide +kernel
theorem d_M_deep_23 : decode b_M_deep 23 = .ok (.aload_n 0, 1) := by decide +kernel
theorem d_M_deep_24 : decode b_M_deep 24 = .ok (.getfield 23, 3) := by decide +kernel
theorem d_M_deep_27 : decode b_M_deep 27 = .ok (.iload_n 2, 1) := by decide +kernel
theorem d_M_deep_28 : decode b_M_deep 28 = .ok (.iaload, 1) := by decide +kernel
theorem d_M_deep_29 : decode b_M_deep 29 = .ok (.ifCond .ne 20, 3) := by decide +kernel
theorem d_M_deep_32 : decode b_M_deep 32 = .ok (.aload_n 0, 1) := by decide +kernel
theorem d_M_deep_33 : decode b_M_deep 33 = .ok (.getfield 35, 3) := by decide +kernel
theorem d_M_deep_36 : decode b_M_deep 36 = .ok (.iload_n 2, 1) := by decide +kernel
theorem d_M_deep_37 : decode b_M_deep 37 = .ok (.iaload, 1) := by decide +kernel
theorem d_M_deep_38 : decode b_M_deep 38 = .ok (.aload_n 0, 1) := by decide +kernel
theorem d_M_deep_39 : decode b_M_deep 39 = .ok (.getfield 59, 3) := by decide +kernel
theorem d_M_deep_42 : decode b_M_deep 42 = .ok (.iload_n 1, 1) := by decide +kernel
theorem d_M_deep_43 : decode b_M_deep 43 = .ok (.iaload, 1) := by decide +kernel
theorem d_M_deep_44 : decode b_M_deep 44 = .ok (.if_icmp .ne 5, 3) := by decide +kernel
theorem d_M_deep_47 : decode b_M_deep 47 = .ok (.iconst 1, 1) := by decide +kernel
theorem d_M_deep_48 : decode b_M_deep 48 = .ok (.ireturn, 1) := by decide +kernel
theorem d_M_deep_49 : decode b_M_deep 49 = .ok (.iinc 2 1, 3) := by decide +kernel
theorem d_M_deep_52 : decode b_M_deep 52 = .ok (.goto (-44), 3) := by decide +kernel
theorem d_M_deep_55 : decode b_M_deep 55 = .ok (.iconst 2, 1) := by decide +kernel
theorem d_M_deep_56 : decode b_M_deep 56 = .ok (.ireturn, 1) := by decide +kernel
