theorem d_J_settlePresentStep_0 : decode b_J_settlePresentStep 0 = .ok (.iconst 0, 1) := by decide +kernel
theorem d_J_settlePresentStep_1 : decode b_J_settlePresentStep 1 = .ok (.istore_n 1, 1) := by decide +kernel
theorem d_J_settlePresentStep_2 : decode b_J_settlePresentStep 2 = .ok (.aload_n 0, 1) := by decide +kernel
theorem d_J_settlePresentStep_3 : decode b_J_settlePresentStep 3 = .ok (.getfield 29, 3) := by decide +kernel
theorem d_J_settlePresentStep_6 : decode b_J_settlePresentStep 6 = .ok (.astore_n 2, 1) := by decide +kernel
theorem d_J_settlePresentStep_7 : decode b_J_settlePresentStep 7 = .ok (.aload_n 2, 1) := by decide +kernel
theorem d_J_settlePresentStep_8 : decode b_J_settlePresentStep 8 = .ok (.arraylength, 1) := by decide +kernel
theorem d_J_settlePresentStep_9 : decode b_J_settlePresentStep 9 = .ok (.istore_n 3, 1) := by decide +kernel
theorem d_J_settlePresentStep_10 : decode b_J_settlePresentStep 10 = .ok (.iconst 0, 1) := by decide +kernel
theorem d_J_settlePresentStep_11 : decode b_J_settlePresentStep 11 = .ok (.istore 4, 2) := by decide +kernel
theorem d_J_settlePresentStep_13 : decode b_J_settlePresentStep 13 = .ok (.iload 4, 2) := by decide +kernel
theorem d_J_settlePresentStep_15 : decode b_J_settlePresentStep 15 = .ok (.iload_n 3, 1) := by decide +kernel
theorem d_J_settlePresentStep_16 : decode b_J_settlePresentStep 16 = .ok (.if_icmp .ge 50, 3) := by decide +kernel
theorem d_J_settlePresentStep_19 : decode b_J_settlePresentStep 19 = .ok (.aload_n 2, 1) := by decide +kernel
theorem d_J_settlePresentStep_20 : decode b_J_settlePresentStep 20 = .ok (.iload 4, 2) := by decide +kernel
theorem d_J_settlePresentStep_22 : decode b_J_settlePresentStep 22 = .ok (.aaload, 1) := by decide +kernel
theorem d_J_settlePresentStep_23 : decode b_J_settlePresentStep 23 = .ok (.astore 5, 2) := by decide +kernel
theorem d_J_settlePresentStep_25 : decode b_J_settlePresentStep 25 = .ok (.aload 5, 2) := by decide +kernel
theorem d_J_settlePresentStep_27 : decode b_J_settlePresentStep 27 = .ok (.getfield 179, 3) := by decide +kernel
theorem d_J_settlePresentStep_30 : decode b_J_settlePresentStep 30 = .ok (.ifCond .eq 30, 3) := by decide +kernel
theorem d_J_settlePresentStep_33 : decode b_J_settlePresentStep 33 = .ok (.aload 5, 2) := by decide +kernel
theorem d_J_settlePresentStep_35 : decode b_J_settlePresentStep 35 = .ok (.getfield 128, 3) := by decide +kernel
theorem d_J_settlePresentStep_38 : decode b_J_settlePresentStep 38 = .ok (.aload_n 0, 1) := by decide +kernel
theorem d_J_settlePresentStep_39 : decode b_J_settlePresentStep 39 = .ok (.getfield 96, 3) := by decide +kernel
theorem d_J_settlePresentStep_42 : decode b_J_settlePresentStep 42 = .ok (.if_icmp .gt 18, 3) := by decide +kernel
theorem d_J_settlePresentStep_45 : decode b_J_settlePresentStep 45 = .ok (.aload 5, 2) := by decide +kernel
theorem d_J_settlePresentStep_47 : decode b_J_settlePresentStep 47 = .ok (.getfield 128, 3) := by decide +kernel
theorem d_J_settlePresentStep_50 : decode b_J_settlePresentStep 50 = .ok (.iload_n 1, 1) := by decide +kernel
theorem d_J_settlePresentStep_51 : decode b_J_settlePresentStep 51 = .ok (.if_icmp .le 9, 3) := by decide +kernel
theorem d_J_settlePresentStep_54 : decode b_J_settlePresentStep 54 = .ok (.aload 5, 2) := by decide +kernel
theorem d_J_settlePresentStep_56 : decode b_J_settlePresentStep 56 = .ok (.getfield 128, 3) := by decide +kernel
theorem d_J_settlePresentStep_59 : decode b_J_settlePresentStep 59 = .ok (.istore_n 1, 1) := by decide +kernel
theorem d_J_settlePresentStep_60 : decode b_J_settlePresentStep 60 = .ok (.iinc 4 1, 3) := by decide +kernel
theorem d_J_settlePresentStep_63 : decode b_J_settlePresentStep 63 = .ok (.goto (-50), 3) := by decide +kernel
theorem d_J_settlePresentStep_66 : decode b_J_settlePresentStep 66 = .ok (.aload_n 0, 1) := by decide +kernel
theorem d_J_settlePresentStep_67 : decode b_J_settlePresentStep 67 = .ok (.iload_n 1, 1) := by decide +kernel
theorem d_J_settlePresentStep_68 : decode b_J_settlePresentStep 68 = .ok (.putfield 96, 3) := by decide +kernel
theorem d_J_settlePresentStep_71 : decode b_J_settlePresentStep 71 = .ok (.return_, 1) := by decide +kernel
theorem d_J_rewrite_0 : decode b_J_rewrite 0 = .ok (.iload_n 2, 1) := by decide +kernel
theorem d_J_rewrite_1 : decode b_J_rewrite 1 = .ok (.invokestatic 93, 3) := by decide +kernel
theorem d_J_rewrite_4 : decode b_J_rewrite 4 = .ok (.ifCond .ne 6, 3) := by decide +kernel
theorem d_J_rewrite_7 : decode b_J_rewrite 7 = .ok (.bipush (-3), 2) := by decide +kernel
theorem d_J_rewrite_9 : decode b_J_rewrite 9 = .ok (.ireturn, 1) := by decide +kernel
theorem d_J_rewrite_10 : decode b_J_rewrite 10 = .ok (.aload_n 0, 1) := by decide +kernel
theorem d_J_rewrite_11 : decode b_J_rewrite 11 = .ok (.iload_n 1, 1) := by decide +kernel
theorem d_J_rewrite_12 : decode b_J_rewrite 12 = .ok (.aload_n 0, 1) := by decide +kernel
theorem d_J_rewrite_13 : decode b_J_rewrite 13 = .ok (.getfield 96, 3) := by decide +kernel
theorem d_J_rewrite_16 : decode b_J_rewrite 16 = .ok (.invokevirtual 99, 3) := by decide +kernel
theorem d_J_rewrite_19 : decode b_J_rewrite 19 = .ok (.astore 5, 2) := by decide +kernel
theorem d_J_rewrite_21 : decode b_J_rewrite 21 = .ok (.aload 5, 2) := by decide +kernel
theorem d_J_rewrite_23 : decode b_J_rewrite 23 = .ok (.ifnonnull 6, 3) := by decide +kernel
theorem d_J_rewrite_26 : decode b_J_rewrite 26 = .ok (.bipush (-4), 2) := by decide +kernel
theorem d_J_rewrite_28 : decode b_J_rewrite 28 = .ok (.ireturn, 1) := by decide +kernel
theorem d_J_rewrite_29 : decode b_J_rewrite 29 = .ok (.iload_n 2, 1) := by decide +kernel
theorem d_J_rewrite_30 : decode b_J_rewrite 30 = .ok (.iconst (-1), 1) := by decide +kernel
theorem d_J_rewrite_31 : decode b_J_rewrite 31 = .ok (.if_icmp .eq 18, 3) := by decide +kernel
theorem d_J_rewrite_34 : decode b_J_rewrite 34 = .ok (.aload 5, 2) := by decide +kernel
theorem d_J_rewrite_36 : decode b_J_rewrite 36 = .ok (.getfield 103, 3) := by decide +kernel
theorem d_J_rewrite_39 : decode b_J_rewrite 39 = .ok (.iload_n 2, 1) := by decide +kernel
theorem d_J_rewrite_40 : decode b_J_rewrite 40 = .ok (.invokestatic 139, 3) := by decide +kernel
theorem d_J_rewrite_43 : decode b_J_rewrite 43 = .ok (.ifCond .ne 6, 3) := by decide +kernel
theorem d_J_rewrite_46 : decode b_J_rewrite 46 = .ok (.bipush (-6), 2) := by decide +kernel
theorem d_J_rewrite_48 : decode b_J_rewrite 48 = .ok (.ireturn, 1) := by decide +kernel
theorem d_J_rewrite_49 : decode b_J_rewrite 49 = .ok (.aload_n 0, 1) := by decide +kernel
theorem d_J_rewrite_50 : decode b_J_rewrite 50 = .ok (.iload 4, 2) := by decide +kernel
theorem d_J_rewrite_52 : decode b_J_rewrite 52 = .ok (.invokevirtual 106, 3) := by decide +kernel
theorem d_J_rewrite_55 : decode b_J_rewrite 55 = .ok (.ifCond .eq 6, 3) := by decide +kernel
theorem d_J_rewrite_58 : decode b_J_rewrite 58 = .ok (.bipush (-5), 2) := by decide +kernel
theorem d_J_rewrite_60 : decode b_J_rewrite 60 = .ok (.ireturn, 1) := by decide +kernel
theorem d_J_rewrite_61 : decode b_J_rewrite 61 = .ok (.iload 4, 2) := by decide +kernel
theorem d_J_rewrite_63 : decode b_J_rewrite 63 = .ok (.ifCond .eq 7, 3) := by decide +kernel
theorem d_J_rewrite_66 : decode b_J_rewrite 66 = .ok (.aload_n 0, 1) := by decide +kernel
theorem d_J_rewrite_67 : decode b_J_rewrite 67 = .ok (.invokevirtual 110, 3) := by decide +kernel
theorem d_J_rewrite_70 : decode b_J_rewrite 70 = .ok (.aload_n 0, 1) := by decide +kernel
theorem d_J_rewrite_71 : decode b_J_rewrite 71 = .ok (.aload 5, 2) := by decide +kernel
theorem d_J_rewrite_73 : decode b_J_rewrite 73 = .ok (.iload_n 2, 1) := by decide +kernel
theorem d_J_rewrite_74 : decode b_J_rewrite 74 = .ok (.iconst (-1), 1) := by decide +kernel
theorem d_J_rewrite_75 : decode b_J_rewrite 75 = .ok (.if_icmp .ne 11, 3) := by decide +kernel
theorem d_J_rewrite_78 : decode b_J_rewrite 78 = .ok (.aload 5, 2) := by decide +kernel
theorem d_J_rewrite_80 : decode b_J_rewrite 80 = .ok (.getfield 103, 3) := by decide +kernel
theorem d_J_rewrite_83 : decode b_J_rewrite 83 = .ok (.goto 4, 3) := by decide +kernel
theorem d_J_rewrite_86 : decode b_J_rewrite 86 = .ok (.iload_n 2, 1) := by decide +kernel
theorem d_J_rewrite_87 : decode b_J_rewrite 87 = .ok (.iload_n 3, 1) := by decide +kernel
theorem d_J_rewrite_88 : decode b_J_rewrite 88 = .ok (.aload 5, 2) := by decide +kernel
theorem d_J_rewrite_90 : decode b_J_rewrite 90 = .ok (.getfield 120, 3) := by decide +kernel
theorem d_J_rewrite_93 : decode b_J_rewrite 93 = .ok (.iload 4, 2) := by decide +kernel
theorem d_J_rewrite_95 : decode b_J_rewrite 95 = .ok (.invokevirtual 124, 3) := by decide +kernel
theorem d_J_rewrite_98 : decode b_J_rewrite 98 = .ok (.aload_n 0, 1) := by decide +kernel
theorem d_J_rewrite_99 : decode b_J_rewrite 99 = .ok (.getfield 96, 3) := by decide +kernel
theorem d_J_rewrite_102 : decode b_J_rewrite 102 = .ok (.ireturn, 1) := by decide +kernel
theorem d_J_mayRewrite_0 : decode b_J_mayRewrite 0 = .ok (.iload_n 0, 1) := by decide +kernel
theorem d_J_mayRewrite_1 : decode b_J_mayRewrite 1 = .ok (.iconst (-1), 1) := by decide +kernel
theorem d_J_mayRewrite_2 : decode b_J_mayRewrite 2 = .ok (.if_icmp .eq 14, 3) := by decide +kernel
theorem d_J_mayRewrite_5 : decode b_J_mayRewrite 5 = .ok (.iload_n 0, 1) := by decide +kernel
theorem d_J_mayRewrite_6 : decode b_J_mayRewrite 6 = .ok (.invokestatic 205, 3) := by decide +kernel
theorem d_J_mayRewrite_9 : decode b_J_mayRewrite 9 = .ok (.iload_n 1, 1) := by decide +kernel
theorem d_J_mayRewrite_10 : decode b_J_mayRewrite 10 = .ok (.invokestatic 205, 3) := by decide +kernel
theorem d_J_mayRewrite_13 : decode b_J_mayRewrite 13 = .ok (.if_icmp .eq 5, 3) := by decide +kernel
theorem d_J_mayRewrite_16 : decode b_J_mayRewrite 16 = .ok (.iconst 0, 1) := by decide +kernel
theorem d_J_mayRewrite_17 : decode b_J_mayRewrite 17 = .ok (.ireturn, 1) := by decide +kernel
theorem d_J_mayRewrite_18 : decode b_J_mayRewrite 18 = .ok (.iload_n 0, 1) := by decide +kernel
theorem d_J_mayRewrite_19 : decode b_J_mayRewrite 19 = .ok (.invokestatic 205, 3) := by decide +kernel
theorem d_J_mayRewrite_22 : decode b_J_mayRewrite 22 = .ok (.iconst 3, 1) := by decide +kernel
theorem d_J_mayRewrite_23 : decode b_J_mayRewrite 23 = .ok (.if_icmp .ne 14, 3) := by decide +kernel
theorem d_J_mayRewrite_26 : decode b_J_mayRewrite 26 = .ok (.iload_n 0, 1) := by decide +kernel
theorem d_J_mayRewrite_27 : decode b_J_mayRewrite 27 = .ok (.invokestatic 202, 3) := by decide +kernel
theorem d_J_mayRewrite_30 : decode b_J_mayRewrite 30 = .ok (.iload_n 1, 1) := by decide +kernel
theorem d_J_mayRewrite_31 : decode b_J_mayRewrite 31 = .ok (.invokestatic 202, 3) := by decide +kernel
theorem d_J_mayRewrite_34 : decode b_J_mayRewrite 34 = .ok (.if_icmp .ne 7, 3) := by decide +kernel
theorem d_J_mayRewrite_37 : decode b_J_mayRewrite 37 = .ok (.iconst 1, 1) := by decide +kernel
theorem d_J_mayRewrite_38 : decode b_J_mayRewrite 38 = .ok (.goto 4, 3) := by decide +kernel
theorem d_J_mayRewrite_41 : decode b_J_mayRewrite 41 = .ok (.iconst 0, 1) := by decide +kernel
theorem d_J_mayRewrite_42 : decode b_J_mayRewrite 42 = .ok (.ireturn, 1) := by decide +kernel
theorem d_J_go_0 : decode b_J_go 0 = .ok (.aload_n 0, 1) := by decide +kernel
theorem d_J_go_1 : decode b_J_go 1 = .ok (.invokevirtual 142, 3) := by decide +kernel
theorem d_J_go_4 : decode b_J_go 4 = .ok (.istore_n 2, 1) := by decide +kernel
theorem d_J_go_5 : decode b_J_go 5 = .ok (.aload_n 0, 1) := by decide +kernel
theorem d_J_go_6 : decode b_J_go 6 = .ok (.iload_n 2, 1) := by decide +kernel
theorem d_J_go_7 : decode b_J_go 7 = .ok (.invokevirtual 146, 3) := by decide +kernel
theorem d_J_go_10 : decode b_J_go 10 = .ok (.i2l, 1) := by decide +kernel
theorem d_J_go_11 : decode b_J_go 11 = .ok (.iload_n 1, 1) := by decide +kernel
theorem d_J_go_12 : decode b_J_go 12 = .ok (.i2l, 1) := by decide +kernel
theorem d_J_go_13 : decode b_J_go 13 = .ok (.ladd, 1) := by decide +kernel
theorem d_J_go_14 : decode b_J_go 14 = .ok (.lstore_n 3, 1) := by decide +kernel
theorem d_J_go_15 : decode b_J_go 15 = .ok (.lload_n 3, 1) := by decide +kernel
theorem d_J_go_16 : decode b_J_go 16 = .ok (.lconst 0, 1) := by decide +kernel
theorem d_J_go_17 : decode b_J_go 17 = .ok (.lcmp, 1) := by decide +kernel
theorem d_J_go_18 : decode b_J_go 18 = .ok (.ifCond .lt 10, 3) := by decide +kernel
theorem d_J_go_21 : decode b_J_go 21 = .ok (.lload_n 3, 1) := by decide +kernel
theorem d_J_go_22 : decode b_J_go 22 = .ok (.iload_n 2, 1) := by decide +kernel
theorem d_J_go_23 : decode b_J_go 23 = .ok (.i2l, 1) := by decide +kernel
theorem d_J_go_24 : decode b_J_go 24 = .ok (.lcmp, 1) := by decide +kernel
theorem d_J_go_25 : decode b_J_go 25 = .ok (.ifCond .lt 6, 3) := by decide +kernel
theorem d_J_go_28 : decode b_J_go 28 = .ok (.bipush (-7), 2) := by decide +kernel
theorem d_J_go_30 : decode b_J_go 30 = .ok (.ireturn, 1) := by decide +kernel
theorem d_J_go_31 : decode b_J_go 31 = .ok (.aload_n 0, 1) := by decide +kernel
theorem d_J_go_32 : decode b_J_go 32 = .ok (.getfield 33, 3) := by decide +kernel
theorem d_J_go_35 : decode b_J_go 35 = .ok (.lload_n 3, 1) := by decide +kernel
theorem d_J_go_36 : decode b_J_go 36 = .ok (.l2i, 1) := by decide +kernel
theorem d_J_go_37 : decode b_J_go 37 = .ok (.iaload, 1) := by decide +kernel
theorem d_J_go_38 : decode b_J_go 38 = .ok (.istore 5, 2) := by decide +kernel
theorem d_J_go_40 : decode b_J_go 40 = .ok (.iconst 0, 1) := by decide +kernel
theorem d_J_go_41 : decode b_J_go 41 = .ok (.istore 6, 2) := by decide +kernel
theorem d_J_go_43 : decode b_J_go 43 = .ok (.iload 6, 2) := by decide +kernel
theorem d_J_go_45 : decode b_J_go 45 = .ok (.bipush 40, 2) := by decide +kernel
theorem d_J_go_47 : decode b_J_go 47 = .ok (.if_icmp .ge 31, 3) := by decide +kernel
theorem d_J_go_50 : decode b_J_go 50 = .ok (.aload_n 0, 1) := by decide +kernel
theorem d_J_go_51 : decode b_J_go 51 = .ok (.aload_n 0, 1) := by decide +kernel
theorem d_J_go_52 : decode b_J_go 52 = .ok (.iload 6, 2) := by decide +kernel
theorem d_J_go_54 : decode b_J_go 54 = .ok (.aload_n 0, 1) := by decide +kernel
theorem d_J_go_55 : decode b_J_go 55 = .ok (.getfield 96, 3) := by decide +kernel
theorem d_J_go_58 : decode b_J_go 58 = .ok (.invokevirtual 99, 3) := by decide +kernel
theorem d_J_go_61 : decode b_J_go 61 = .ok (.aload_n 0, 1) := by decide +kernel
theorem d_J_go_62 : decode b_J_go 62 = .ok (.iload 6, 2) := by decide +kernel
theorem d_J_go_64 : decode b_J_go 64 = .ok (.iload 5, 2) := by decide +kernel
theorem d_J_go_66 : decode b_J_go 66 = .ok (.invokevirtual 99, 3) := by decide +kernel
theorem d_J_go_69 : decode b_J_go 69 = .ok (.invokevirtual 149, 3) := by decide +kernel
theorem d_J_go_72 : decode b_J_go 72 = .ok (.iinc 6 1, 3) := by decide +kernel
theorem d_J_go_75 : decode b_J_go 75 = .ok (.goto (-32), 3) := by decide +kernel
theorem d_J_go_78 : decode b_J_go 78 = .ok (.aload_n 0, 1) := by decide +kernel
theorem d_J_go_79 : decode b_J_go 79 = .ok (.iload 5, 2) := by decide +kernel
theorem d_J_go_81 : decode b_J_go 81 = .ok (.putfield 96, 3) := by decide +kernel
theorem d_J_go_84 : decode b_J_go 84 = .ok (.aload_n 0, 1) := by decide +kernel
theorem d_J_go_85 : decode b_J_go 85 = .ok (.getfield 96, 3) := by decide +kernel
theorem d_J_go_88 : decode b_J_go 88 = .ok (.ireturn, 1) := by decide +kernel
theorem d_J_collectUsedSteps_0 : decode b_J_collectUsedSteps 0 = .ok (.iconst 0, 1) := by decide +kernel
theorem d_J_collectUsedSteps_1 : decode b_J_collectUsedSteps 1 = .ok (.istore_n 1, 1) := by decide +kernel
theorem d_J_collectUsedSteps_2 : decode b_J_collectUsedSteps 2 = .ok (.aload_n 0, 1) := by decide +kernel
theorem d_J_collectUsedSteps_3 : decode b_J_collectUsedSteps 3 = .ok (.getfield 29, 3) := by decide +kernel
theorem d_J_collectUsedSteps_6 : decode b_J_collectUsedSteps 6 = .ok (.astore_n 2, 1) := by decide +kernel
theorem d_J_collectUsedSteps_7 : decode b_J_collectUsedSteps 7 = .ok (.aload_n 2, 1) := by decide +kernel
theorem d_J_collectUsedSteps_8 : decode b_J_collectUsedSteps 8 = .ok (.arraylength, 1) := by decide +kernel
theorem d_J_collectUsedSteps_9 : decode b_J_collectUsedSteps 9 = .ok (.istore_n 3, 1) := by decide +kernel
theorem d_J_collectUsedSteps_10 : decode b_J_collectUsedSteps 10 = .ok (.iconst 0, 1) := by decide +kernel
theorem d_J_collectUsedSteps_11 : decode b_J_collectUsedSteps 11 = .ok (.istore 4, 2) := by decide +kernel
theorem d_J_collectUsedSteps_13 : decode b_J_collectUsedSteps 13 = .ok (.iload 4, 2) := by decide +kernel
theorem d_J_collectUsedSteps_15 : decode b_J_collectUsedSteps 15 = .ok (.iload_n 3, 1) := by decide +kernel
theorem d_J_collectUsedSteps_16 : decode b_J_collectUsedSteps 16 = .ok (.if_icmp .ge 34, 3) := by decide +kernel
theorem d_J_collectUsedSteps_19 : decode b_J_collectUsedSteps 19 = .ok (.aload_n 2, 1) := by decide +kernel
theorem d_J_collectUsedSteps_20 : decode b_J_collectUsedSteps 20 = .ok (.iload 4, 2) := by decide +kernel
theorem d_J_collectUsedSteps_22 : decode b_J_collectUsedSteps 22 = .ok (.aaload, 1) := by decide +kernel
theorem d_J_collectUsedSteps_23 : decode b_J_collectUsedSteps 23 = .ok (.astore 5, 2) := by decide +kernel
theorem d_J_collectUsedSteps_25 : decode b_J_collectUsedSteps 25 = .ok (.aload 5, 2) := by decide +kernel
theorem d_J_collectUsedSteps_27 : decode b_J_collectUsedSteps 27 = .ok (.getfield 179, 3) := by decide +kernel
theorem d_J_collectUsedSteps_30 : decode b_J_collectUsedSteps 30 = .ok (.ifCond .eq 14, 3) := by decide +kernel
theorem d_J_collectUsedSteps_33 : decode b_J_collectUsedSteps 33 = .ok (.aload_n 0, 1) := by decide +kernel
theorem d_J_collectUsedSteps_34 : decode b_J_collectUsedSteps 34 = .ok (.aload 5, 2) := by decide +kernel
theorem d_J_collectUsedSteps_36 : decode b_J_collectUsedSteps 36 = .ok (.getfield 128, 3) := by decide +kernel
theorem d_J_collectUsedSteps_39 : decode b_J_collectUsedSteps 39 = .ok (.iload_n 1, 1) := by decide +kernel
theorem d_J_collectUsedSteps_40 : decode b_J_collectUsedSteps 40 = .ok (.invokevirtual 254, 3) := by decide +kernel
theorem d_J_collectUsedSteps_43 : decode b_J_collectUsedSteps 43 = .ok (.istore_n 1, 1) := by decide +kernel
theorem d_J_collectUsedSteps_44 : decode b_J_collectUsedSteps 44 = .ok (.iinc 4 1, 3) := by decide +kernel
theorem d_J_collectUsedSteps_47 : decode b_J_collectUsedSteps 47 = .ok (.goto (-34), 3) := by decide +kernel
theorem d_J_collectUsedSteps_50 : decode b_J_collectUsedSteps 50 = .ok (.iload_n 1, 1) := by decide +kernel
theorem d_J_collectUsedSteps_51 : decode b_J_collectUsedSteps 51 = .ok (.ireturn, 1) := by decide +kernel
theorem d_J_insertStep_0 : decode b_J_insertStep 0 = .ok (.iload_n 2, 1) := by decide +kernel
theorem d_J_insertStep_1 : decode b_J_insertStep 1 = .ok (.istore_n 3, 1) := by decide +kernel
theorem d_J_insertStep_2 : decode b_J_insertStep 2 = .ok (.iload_n 3, 1) := by decide +kernel
theorem d_J_insertStep_3 : decode b_J_insertStep 3 = .ok (.ifCond .le 21, 3) := by decide +kernel
theorem d_J_insertStep_6 : decode b_J_insertStep 6 = .ok (.aload_n 0, 1) := by decide +kernel
theorem d_J_insertStep_7 : decode b_J_insertStep 7 = .ok (.getfield 33, 3) := by decide +kernel
theorem d_J_insertStep_10 : decode b_J_insertStep 10 = .ok (.iload_n 3, 1) := by decide +kernel
theorem d_J_insertStep_11 : decode b_J_insertStep 11 = .ok (.iconst 1, 1) := by decide +kernel
theorem d_J_insertStep_12 : decode b_J_insertStep 12 = .ok (.isub, 1) := by decide +kernel
theorem d_J_insertStep_13 : decode b_J_insertStep 13 = .ok (.iaload, 1) := by decide +kernel
theorem d_J_insertStep_14 : decode b_J_insertStep 14 = .ok (.iload_n 1, 1) := by decide +kernel
theorem d_J_insertStep_15 : decode b_J_insertStep 15 = .ok (.if_icmp .le 9, 3) := by decide +kernel
theorem d_J_insertStep_18 : decode b_J_insertStep 18 = .ok (.iinc 3 (-1), 3) := by decide +kernel
theorem d_J_insertStep_21 : decode b_J_insertStep 21 = .ok (.goto (-19), 3) := by decide +kernel
theorem d_J_insertStep_24 : decode b_J_insertStep 24 = .ok (.iload_n 3, 1) := by decide +kernel
theorem d_J_insertStep_25 : decode b_J_insertStep 25 = .ok (.ifCond .le 17, 3) := by decide +kernel
theorem d_J_insertStep_28 : decode b_J_insertStep 28 = .ok (.aload_n 0, 1) := by decide +kernel
theorem d_J_insertStep_29 : decode b_J_insertStep 29 = .ok (.getfield 33, 3) := by decide +kernel
theorem d_J_insertStep_32 : decode b_J_insertStep 32 = .ok (.iload_n 3, 1) := by decide +kernel
theorem d_J_insertStep_33 : decode b_J_insertStep 33 = .ok (.iconst 1, 1) := by decide +kernel
theorem d_J_insertStep_34 : decode b_J_insertStep 34 = .ok (.isub, 1) := by decide +kernel
theorem d_J_insertStep_35 : decode b_J_insertStep 35 = .ok (.iaload, 1) := by decide +kernel
theorem d_J_insertStep_36 : decode b_J_insertStep 36 = .ok (.iload_n 1, 1) := by decide +kernel
theorem d_J_insertStep_37 : decode b_J_insertStep 37 = .ok (.if_icmp .ne 5, 3) := by decide +kernel
theorem d_J_insertStep_40 : decode b_J_insertStep 40 = .ok (.iload_n 2, 1) := by decide +kernel
theorem d_J_insertStep_41 : decode b_J_insertStep 41 = .ok (.ireturn, 1) := by decide +kernel
theorem d_J_insertStep_42 : decode b_J_insertStep 42 = .ok (.iload_n 2, 1) := by decide +kernel
theorem d_J_insertStep_43 : decode b_J_insertStep 43 = .ok (.istore 4, 2) := by decide +kernel
theorem d_J_insertStep_45 : decode b_J_insertStep 45 = .ok (.iload 4, 2) := by decide +kernel
theorem d_J_insertStep_47 : decode b_J_insertStep 47 = .ok (.iload_n 3, 1) := by decide +kernel
theorem d_J_insertStep_48 : decode b_J_insertStep 48 = .ok (.if_icmp .le 25, 3) := by decide +kernel
theorem d_J_insertStep_51 : decode b_J_insertStep 51 = .ok (.aload_n 0, 1) := by decide +kernel
theorem d_J_insertStep_52 : decode b_J_insertStep 52 = .ok (.getfield 33, 3) := by decide +kernel
theorem d_J_insertStep_55 : decode b_J_insertStep 55 = .ok (.iload 4, 2) := by decide +kernel
theorem d_J_insertStep_57 : decode b_J_insertStep 57 = .ok (.aload_n 0, 1) := by decide +kernel
theorem d_J_insertStep_58 : decode b_J_insertStep 58 = .ok (.getfield 33, 3) := by decide +kernel
theorem d_J_insertStep_61 : decode b_J_insertStep 61 = .ok (.iload 4, 2) := by decide +kernel
theorem d_J_insertStep_63 : decode b_J_insertStep 63 = .ok (.iconst 1, 1) := by decide +kernel
theorem d_J_insertStep_64 : decode b_J_insertStep 64 = .ok (.isub, 1) := by decide +kernel
theorem d_J_insertStep_65 : decode b_J_insertStep 65 = .ok (.iaload, 1) := by decide +kernel
theorem d_J_insertStep_66 : decode b_J_insertStep 66 = .ok (.iastore, 1) := by decide +kernel
theorem d_J_insertStep_67 : decode b_J_insertStep 67 = .ok (.iinc 4 (-1), 3) := by decide +kernel
theorem d_J_insertStep_70 : decode b_J_insertStep 70 = .ok (.goto (-25), 3) := by decide +kernel
theorem d_J_insertStep_73 : decode b_J_insertStep 73 = .ok (.aload_n 0, 1) := by decide +kernel
theorem d_J_insertStep_74 : decode b_J_insertStep 74 = .ok (.getfield 33, 3) := by decide +kernel
theorem d_J_insertStep_77 : decode b_J_insertStep 77 = .ok (.iload_n 3, 1) := by decide +kernel
theorem d_J_insertStep_78 : decode b_J_insertStep 78 = .ok (.iload_n 1, 1) := by decide +kernel
theorem d_J_insertStep_79 : decode b_J_insertStep 79 = .ok (.iastore, 1) := by decide +kernel
theorem d_J_insertStep_80 : decode b_J_insertStep 80 = .ok (.iload_n 2, 1) := by decide +kernel
theorem d_J_insertStep_81 : decode b_J_insertStep 81 = .ok (.iconst 1, 1) := by decide +kernel
theorem d_J_insertStep_82 : decode b_J_insertStep 82 = .ok (.iadd, 1) := by decide +kernel
theorem d_J_insertStep_83 : decode b_J_insertStep 83 = .ok (.ireturn, 1) := by decide +kernel
theorem d_J_placeOfPresent_0 : decode b_J_placeOfPresent 0 = .ok (.iconst 0, 1) := by decide +kernel
theorem d_J_placeOfPresent_1 : decode b_J_placeOfPresent 1 = .ok (.istore_n 2, 1) := by decide +kernel
theorem d_J_placeOfPresent_2 : decode b_J_placeOfPresent 2 = .ok (.iload_n 2, 1) := by decide +kernel
theorem d_J_placeOfPresent_3 : decode b_J_placeOfPresent 3 = .ok (.iload_n 1, 1) := by decide +kernel
theorem d_J_placeOfPresent_4 : decode b_J_placeOfPresent 4 = .ok (.iconst 1, 1) := by decide +kernel
theorem d_J_placeOfPresent_5 : decode b_J_placeOfPresent 5 = .ok (.isub, 1) := by decide +kernel
theorem d_J_placeOfPresent_6 : decode b_J_placeOfPresent 6 = .ok (.if_icmp .ge 22, 3) := by decide +kernel
theorem d_J_placeOfPresent_9 : decode b_J_placeOfPresent 9 = .ok (.aload_n 0, 1) := by decide +kernel
theorem d_J_placeOfPresent_10 : decode b_J_placeOfPresent 10 = .ok (.getfield 33, 3) := by decide +kernel
theorem d_J_placeOfPresent_13 : decode b_J_placeOfPresent 13 = .ok (.iload_n 2, 1) := by decide +kernel
theorem d_J_placeOfPresent_14 : decode b_J_placeOfPresent 14 = .ok (.iaload, 1) := by decide +kernel
theorem d_J_placeOfPresent_15 : decode b_J_placeOfPresent 15 = .ok (.aload_n 0, 1) := by decide +kernel
theorem d_J_placeOfPresent_16 : decode b_J_placeOfPresent 16 = .ok (.getfield 96, 3) := by decide +kernel
theorem d_J_placeOfPresent_19 : decode b_J_placeOfPresent 19 = .ok (.if_icmp .ge 9, 3) := by decide +kernel
theorem d_J_placeOfPresent_22 : decode b_J_placeOfPresent 22 = .ok (.iinc 2 1, 3) := by decide +kernel
theorem d_J_placeOfPresent_25 : decode b_J_placeOfPresent 25 = .ok (.goto (-23), 3) := by decide +kernel
theorem d_J_placeOfPresent_28 : decode b_J_placeOfPresent 28 = .ok (.iload_n 2, 1) := by decide +kernel
theorem d_J_placeOfPresent_29 : decode b_J_placeOfPresent 29 = .ok (.ireturn, 1) := by decide +kernel
theorem d_J_countMove_0 : decode b_J_countMove 0 = .ok (.aload_n 1, 1) := by decide +kernel
theorem d_J_countMove_1 : decode b_J_countMove 1 = .ok (.ifnull 23, 3) := by decide +kernel
theorem d_J_countMove_4 : decode b_J_countMove 4 = .ok (.aload_n 2, 1) := by decide +kernel
theorem d_J_countMove_5 : decode b_J_countMove 5 = .ok (.ifnull 19, 3) := by decide +kernel
theorem d_J_countMove_8 : decode b_J_countMove 8 = .ok (.aload_n 1, 1) := by decide +kernel
theorem d_J_countMove_9 : decode b_J_countMove 9 = .ok (.aload_n 2, 1) := by decide +kernel
theorem d_J_countMove_10 : decode b_J_countMove 10 = .ok (.if_acmp .eq 14, 3) := by decide +kernel
theorem d_J_countMove_13 : decode b_J_countMove 13 = .ok (.aload_n 1, 1) := by decide +kernel
theorem d_J_countMove_14 : decode b_J_countMove 14 = .ok (.getfield 120, 3) := by decide +kernel
theorem d_J_countMove_17 : decode b_J_countMove 17 = .ok (.aload_n 2, 1) := by decide +kernel
theorem d_J_countMove_18 : decode b_J_countMove 18 = .ok (.getfield 120, 3) := by decide +kernel
theorem d_J_countMove_21 : decode b_J_countMove 21 = .ok (.if_acmp .eq 4, 3) := by decide +kernel
theorem d_J_countMove_24 : decode b_J_countMove 24 = .ok (.return_, 1) := by decide +kernel
theorem d_J_countMove_25 : decode b_J_countMove 25 = .ok (.aload_n 0, 1) := by decide +kernel
theorem d_J_countMove_26 : decode b_J_countMove 26 = .ok (.dup, 1) := by decide +kernel
theorem d_J_countMove_27 : decode b_J_countMove 27 = .ok (.getfield 190, 3) := by decide +kernel
theorem d_J_countMove_30 : decode b_J_countMove 30 = .ok (.iconst 1, 1) := by decide +kernel
theorem d_J_countMove_31 : decode b_J_countMove 31 = .ok (.iadd, 1) := by decide +kernel
theorem d_J_countMove_32 : decode b_J_countMove 32 = .ok (.putfield 190, 3) := by decide +kernel
theorem d_J_countMove_35 : decode b_J_countMove 35 = .ok (.aload_n 1, 1) := by decide +kernel
theorem d_J_countMove_36 : decode b_J_countMove 36 = .ok (.getfield 103, 3) := by decide +kernel
theorem d_J_countMove_39 : decode b_J_countMove 39 = .ok (.invokestatic 199, 3) := by decide +kernel
theorem d_J_countMove_42 : decode b_J_countMove 42 = .ok (.aload_n 2, 1) := by decide +kernel
theorem d_J_countMove_43 : decode b_J_countMove 43 = .ok (.getfield 103, 3) := by decide +kernel
theorem d_J_countMove_46 : decode b_J_countMove 46 = .ok (.invokestatic 199, 3) := by decide +kernel
theorem d_J_countMove_49 : decode b_J_countMove 49 = .ok (.if_icmp .eq 13, 3) := by decide +kernel
theorem d_J_countMove_52 : decode b_J_countMove 52 = .ok (.aload_n 0, 1) := by decide +kernel
theorem d_J_countMove_53 : decode b_J_countMove 53 = .ok (.dup, 1) := by decide +kernel
theorem d_J_countMove_54 : decode b_J_countMove 54 = .ok (.getfield 117, 3) := by decide +kernel
theorem d_J_countMove_57 : decode b_J_countMove 57 = .ok (.iconst 1, 1) := by decide +kernel
theorem d_J_countMove_58 : decode b_J_countMove 58 = .ok (.iadd, 1) := by decide +kernel
theorem d_J_countMove_59 : decode b_J_countMove 59 = .ok (.putfield 117, 3) := by decide +kernel
theorem d_J_countMove_62 : decode b_J_countMove 62 = .ok (.return_, 1) := by decide +kernel
theorem d_J_detach_0 : decode b_J_detach 0 = .ok (.iload_n 1, 1) := by decide +kernel
theorem d_J_detach_1 : decode b_J_detach 1 = .ok (.ifCond .ne 6, 3) := by decide +kernel
theorem d_J_detach_4 : decode b_J_detach 4 = .ok (.bipush (-3), 2) := by decide +kernel
theorem d_J_detach_6 : decode b_J_detach 6 = .ok (.ireturn, 1) := by decide +kernel
theorem d_J_detach_7 : decode b_J_detach 7 = .ok (.aload_n 0, 1) := by decide +kernel
theorem d_J_detach_8 : decode b_J_detach 8 = .ok (.iload_n 1, 1) := by decide +kernel
theorem d_J_detach_9 : decode b_J_detach 9 = .ok (.aload_n 0, 1) := by decide +kernel
theorem d_J_detach_10 : decode b_J_detach 10 = .ok (.getfield 96, 3) := by decide +kernel
theorem d_J_detach_13 : decode b_J_detach 13 = .ok (.invokevirtual 99, 3) := by decide +kernel
theorem d_J_detach_16 : decode b_J_detach 16 = .ok (.astore_n 2, 1) := by decide +kernel
theorem d_J_detach_17 : decode b_J_detach 17 = .ok (.aload_n 2, 1) := by decide +kernel
theorem d_J_detach_18 : decode b_J_detach 18 = .ok (.ifnonnull 6, 3) := by decide +kernel
theorem d_J_detach_21 : decode b_J_detach 21 = .ok (.bipush (-4), 2) := by decide +kernel
theorem d_J_detach_23 : decode b_J_detach 23 = .ok (.ireturn, 1) := by decide +kernel
theorem d_J_detach_24 : decode b_J_detach 24 = .ok (.aload_n 0, 1) := by decide +kernel
theorem d_J_detach_25 : decode b_J_detach 25 = .ok (.aload_n 2, 1) := by decide +kernel
theorem d_J_detach_26 : decode b_J_detach 26 = .ok (.getfield 135, 3) := by decide +kernel
theorem d_J_detach_29 : decode b_J_detach 29 = .ok (.invokevirtual 153, 3) := by decide +kernel
theorem d_J_detach_32 : decode b_J_detach 32 = .ok (.aload_n 0, 1) := by decide +kernel
theorem d_J_detach_33 : decode b_J_detach 33 = .ok (.invokevirtual 157, 3) := by decide +kernel
theorem d_J_detach_36 : decode b_J_detach 36 = .ok (.aload_n 0, 1) := by decide +kernel
theorem d_J_detach_37 : decode b_J_detach 37 = .ok (.invokevirtual 160, 3) := by decide +kernel
theorem d_J_detach_40 : decode b_J_detach 40 = .ok (.aload_n 0, 1) := by decide +kernel
theorem d_J_detach_41 : decode b_J_detach 41 = .ok (.getfield 96, 3) := by decide +kernel
theorem d_J_detach_44 : decode b_J_detach 44 = .ok (.ireturn, 1) := by decide +kernel
theorem d_J_takeOut_0 : decode b_J_takeOut 0 = .ok (.aload_n 1, 1) := by decide +kernel
theorem d_J_takeOut_1 : decode b_J_takeOut 1 = .ok (.getfield 208, 3) := by decide +kernel
theorem d_J_takeOut_4 : decode b_J_takeOut 4 = .ok (.astore_n 2, 1) := by decide +kernel
theorem d_J_takeOut_5 : decode b_J_takeOut 5 = .ok (.aload_n 2, 1) := by decide +kernel
theorem d_J_takeOut_6 : decode b_J_takeOut 6 = .ok (.ifnonnull 4, 3) := by decide +kernel
theorem d_J_takeOut_9 : decode b_J_takeOut 9 = .ok (.return_, 1) := by decide +kernel
theorem d_J_takeOut_10 : decode b_J_takeOut 10 = .ok (.aload_n 2, 1) := by decide +kernel
theorem d_J_takeOut_11 : decode b_J_takeOut 11 = .ok (.getfield 171, 3) := by decide +kernel
theorem d_J_takeOut_14 : decode b_J_takeOut 14 = .ok (.aload_n 1, 1) := by decide +kernel
theorem d_J_takeOut_15 : decode b_J_takeOut 15 = .ok (.if_acmp .ne 11, 3) := by decide +kernel
theorem d_J_takeOut_18 : decode b_J_takeOut 18 = .ok (.aload_n 2, 1) := by decide +kernel
theorem d_J_takeOut_19 : decode b_J_takeOut 19 = .ok (.aload_n 2, 1) := by decide +kernel
theorem d_J_takeOut_20 : decode b_J_takeOut 20 = .ok (.getfield 177, 3) := by decide +kernel
theorem d_J_takeOut_23 : decode b_J_takeOut 23 = .ok (.putfield 171, 3) := by decide +kernel
theorem d_J_takeOut_26 : decode b_J_takeOut 26 = .ok (.aload_n 2, 1) := by decide +kernel
theorem d_J_takeOut_27 : decode b_J_takeOut 27 = .ok (.aconst_null, 1) := by decide +kernel
theorem d_J_takeOut_28 : decode b_J_takeOut 28 = .ok (.putfield 177, 3) := by decide +kernel
theorem d_J_takeOut_31 : decode b_J_takeOut 31 = .ok (.aload_n 1, 1) := by decide +kernel
theorem d_J_takeOut_32 : decode b_J_takeOut 32 = .ok (.iconst 0, 1) := by decide +kernel
theorem d_J_takeOut_33 : decode b_J_takeOut 33 = .ok (.putfield 43, 3) := by decide +kernel
theorem d_J_takeOut_36 : decode b_J_takeOut 36 = .ok (.return_, 1) := by decide +kernel
theorem d_J_url_0 : decode b_J_url 0 = .ok (.aload_n 0, 1) := by decide +kernel
theorem d_J_url_1 : decode b_J_url 1 = .ok (.iload_n 1, 1) := by decide +kernel
theorem d_J_url_2 : decode b_J_url 2 = .ok (.aload_n 0, 1) := by decide +kernel
theorem d_J_url_3 : decode b_J_url 3 = .ok (.getfield 96, 3) := by decide +kernel
theorem d_J_url_6 : decode b_J_url 6 = .ok (.invokevirtual 99, 3) := by decide +kernel
theorem d_J_url_9 : decode b_J_url 9 = .ok (.astore_n 2, 1) := by decide +kernel
theorem d_J_url_10 : decode b_J_url 10 = .ok (.aload_n 2, 1) := by decide +kernel
theorem d_J_url_11 : decode b_J_url 11 = .ok (.ifnonnull 8, 3) := by decide +kernel
theorem d_J_url_14 : decode b_J_url 14 = .ok (.bipush (-4), 2) := by decide +kernel
theorem d_J_url_16 : decode b_J_url 16 = .ok (.goto 7, 3) := by decide +kernel
theorem d_J_url_19 : decode b_J_url 19 = .ok (.aload_n 2, 1) := by decide +kernel
theorem d_J_url_20 : decode b_J_url 20 = .ok (.getfield 103, 3) := by decide +kernel
theorem d_J_url_23 : decode b_J_url 23 = .ok (.ireturn, 1) := by decide +kernel
theorem d_J_state_0 : decode b_J_state 0 = .ok (.aload_n 0, 1) := by decide +kernel
theorem d_J_state_1 : decode b_J_state 1 = .ok (.iload_n 1, 1) := by decide +kernel
theorem d_J_state_2 : decode b_J_state 2 = .ok (.aload_n 0, 1) := by decide +kernel
theorem d_J_state_3 : decode b_J_state 3 = .ok (.getfield 96, 3) := by decide +kernel
theorem d_J_state_6 : decode b_J_state 6 = .ok (.invokevirtual 99, 3) := by decide +kernel
theorem d_J_state_9 : decode b_J_state 9 = .ok (.astore_n 2, 1) := by decide +kernel
theorem d_J_state_10 : decode b_J_state 10 = .ok (.aload_n 2, 1) := by decide +kernel
theorem d_J_state_11 : decode b_J_state 11 = .ok (.ifnonnull 9, 3) := by decide +kernel
theorem d_J_state_14 : decode b_J_state 14 = .ok (.ldc2_w 163, 3) := by decide +kernel
theorem d_J_state_17 : decode b_J_state 17 = .ok (.goto 8, 3) := by decide +kernel
theorem d_J_state_20 : decode b_J_state 20 = .ok (.aload_n 2, 1) := by decide +kernel
theorem d_J_state_21 : decode b_J_state 21 = .ok (.getfield 165, 3) := by decide +kernel
theorem d_J_state_24 : decode b_J_state 24 = .ok (.i2l, 1) := by decide +kernel
theorem d_J_state_25 : decode b_J_state 25 = .ok (.lreturn, 1) := by decide +kernel
theorem d_J_step_0 : decode b_J_step 0 = .ok (.aload_n 0, 1) := by decide +kernel
theorem d_J_step_1 : decode b_J_step 1 = .ok (.iload_n 1, 1) := by decide +kernel
theorem d_J_step_2 : decode b_J_step 2 = .ok (.aload_n 0, 1) := by decide +kernel
theorem d_J_step_3 : decode b_J_step 3 = .ok (.getfield 96, 3) := by decide +kernel
theorem d_J_step_6 : decode b_J_step 6 = .ok (.invokevirtual 99, 3) := by decide +kernel
theorem d_J_step_9 : decode b_J_step 9 = .ok (.astore_n 2, 1) := by decide +kernel
theorem d_J_step_10 : decode b_J_step 10 = .ok (.aload_n 2, 1) := by decide +kernel
theorem d_J_step_11 : decode b_J_step 11 = .ok (.ifnonnull 8, 3) := by decide +kernel
theorem d_J_step_14 : decode b_J_step 14 = .ok (.bipush (-4), 2) := by decide +kernel
theorem d_J_step_16 : decode b_J_step 16 = .ok (.goto 7, 3) := by decide +kernel
theorem d_J_step_19 : decode b_J_step 19 = .ok (.aload_n 2, 1) := by decide +kernel
theorem d_J_step_20 : decode b_J_step 20 = .ok (.getfield 128, 3) := by decide +kernel
theorem d_J_step_23 : decode b_J_step 23 = .ok (.ireturn, 1) := by decide +kernel
theorem d_J_origin_0 : decode b_J_origin 0 = .ok (.aload_n 0, 1) := by decide +kernel
theorem d_J_origin_1 : decode b_J_origin 1 = .ok (.iload_n 1, 1) := by decide +kernel
theorem d_J_origin_2 : decode b_J_origin 2 = .ok (.aload_n 0, 1) := by decide +kernel
theorem d_J_origin_3 : decode b_J_origin 3 = .ok (.getfield 96, 3) := by decide +kernel
theorem d_J_origin_6 : decode b_J_origin 6 = .ok (.invokevirtual 99, 3) := by decide +kernel
theorem d_J_origin_9 : decode b_J_origin 9 = .ok (.astore_n 2, 1) := by decide +kernel
theorem d_J_origin_10 : decode b_J_origin 10 = .ok (.aload_n 2, 1) := by decide +kernel
theorem d_J_origin_11 : decode b_J_origin 11 = .ok (.ifnonnull 8, 3) := by decide +kernel
theorem d_J_origin_14 : decode b_J_origin 14 = .ok (.bipush (-4), 2) := by decide +kernel
theorem d_J_origin_16 : decode b_J_origin 16 = .ok (.goto 10, 3) := by decide +kernel
theorem d_J_origin_19 : decode b_J_origin 19 = .ok (.aload_n 2, 1) := by decide +kernel
theorem d_J_origin_20 : decode b_J_origin 20 = .ok (.getfield 120, 3) := by decide +kernel
theorem d_J_origin_23 : decode b_J_origin 23 = .ok (.getfield 168, 3) := by decide +kernel
theorem d_J_origin_26 : decode b_J_origin 26 = .ok (.ireturn, 1) := by decide +kernel
theorem d_J_frame_0 : decode b_J_frame 0 = .ok (.aload_n 0, 1) := by decide +kernel
theorem d_J_frame_1 : decode b_J_frame 1 = .ok (.iload_n 1, 1) := by decide +kernel
theorem d_J_frame_2 : decode b_J_frame 2 = .ok (.aload_n 0, 1) := by decide +kernel
theorem d_J_frame_3 : decode b_J_frame 3 = .ok (.getfield 96, 3) := by decide +kernel
theorem d_J_frame_6 : decode b_J_frame 6 = .ok (.invokevirtual 99, 3) := by decide +kernel
theorem d_J_frame_9 : decode b_J_frame 9 = .ok (.astore_n 3, 1) := by decide +kernel
theorem d_J_frame_10 : decode b_J_frame 10 = .ok (.aload_n 3, 1) := by decide +kernel
theorem d_J_frame_11 : decode b_J_frame 11 = .ok (.ifnonnull 6, 3) := by decide +kernel
theorem d_J_frame_14 : decode b_J_frame 14 = .ok (.bipush (-4), 2) := by decide +kernel
theorem d_J_frame_16 : decode b_J_frame 16 = .ok (.ireturn, 1) := by decide +kernel
theorem d_J_frame_17 : decode b_J_frame 17 = .ok (.iload_n 2, 1) := by decide +kernel
theorem d_J_frame_18 : decode b_J_frame 18 = .ok (.ifCond .ne 14, 3) := by decide +kernel
theorem d_J_frame_21 : decode b_J_frame 21 = .ok (.aload_n 3, 1) := by decide +kernel
theorem d_J_frame_22 : decode b_J_frame 22 = .ok (.getfield 120, 3) := by decide +kernel
theorem d_J_frame_25 : decode b_J_frame 25 = .ok (.getfield 171, 3) := by decide +kernel
theorem d_J_frame_28 : decode b_J_frame 28 = .ok (.invokestatic 173, 3) := by decide +kernel
theorem d_J_frame_31 : decode b_J_frame 31 = .ok (.ireturn, 1) := by decide +kernel
theorem d_J_frame_32 : decode b_J_frame 32 = .ok (.iload_n 2, 1) := by decide +kernel
theorem d_J_frame_33 : decode b_J_frame 33 = .ok (.iconst 1, 1) := by decide +kernel
theorem d_J_frame_34 : decode b_J_frame 34 = .ok (.if_icmp .ne 16, 3) := by decide +kernel
theorem d_J_frame_37 : decode b_J_frame 37 = .ok (.aload_n 3, 1) := by decide +kernel
theorem d_J_frame_38 : decode b_J_frame 38 = .ok (.getfield 120, 3) := by decide +kernel
theorem d_J_frame_41 : decode b_J_frame 41 = .ok (.getfield 177, 3) := by decide +kernel
theorem d_J_frame_44 : decode b_J_frame 44 = .ok (.invokestatic 173, 3) := by decide +kernel
theorem d_J_frame_47 : decode b_J_frame 47 = .ok (.goto 5, 3) := by decide +kernel
theorem d_J_frame_50 : decode b_J_frame 50 = .ok (.bipush (-7), 2) := by decide +kernel
theorem d_J_frame_52 : decode b_J_frame 52 = .ok (.ireturn, 1) := by decide +kernel
theorem d_J_numberOf_0 : decode b_J_numberOf 0 = .ok (.aload_n 0, 1) := by decide +kernel
theorem d_J_numberOf_1 : decode b_J_numberOf 1 = .ok (.ifnonnull 8, 3) := by decide +kernel
theorem d_J_numberOf_4 : decode b_J_numberOf 4 = .ok (.bipush (-7), 2) := by decide +kernel
theorem d_J_numberOf_6 : decode b_J_numberOf 6 = .ok (.goto 7, 3) := by decide +kernel
theorem d_J_numberOf_9 : decode b_J_numberOf 9 = .ok (.aload_n 0, 1) := by decide +kernel
theorem d_J_numberOf_10 : decode b_J_numberOf 10 = .ok (.getfield 196, 3) := by decide +kernel
theorem d_J_numberOf_13 : decode b_J_numberOf 13 = .ok (.ireturn, 1) := by decide +kernel
theorem d_J_entries_0 : decode b_J_entries 0 = .ok (.aload_n 0, 1) := by decide +kernel
theorem d_J_entries_1 : decode b_J_entries 1 = .ok (.iload_n 1, 1) := by decide +kernel
theorem d_J_entries_2 : decode b_J_entries 2 = .ok (.aload_n 0, 1) := by decide +kernel
theorem d_J_entries_3 : decode b_J_entries 3 = .ok (.getfield 96, 3) := by decide +kernel
theorem d_J_entries_6 : decode b_J_entries 6 = .ok (.invokevirtual 99, 3) := by decide +kernel
theorem d_J_entries_9 : decode b_J_entries 9 = .ok (.astore_n 2, 1) := by decide +kernel
theorem d_J_entries_10 : decode b_J_entries 10 = .ok (.aload_n 2, 1) := by decide +kernel
theorem d_J_entries_11 : decode b_J_entries 11 = .ok (.ifnonnull 6, 3) := by decide +kernel
theorem d_J_entries_14 : decode b_J_entries 14 = .ok (.bipush (-4), 2) := by decide +kernel
theorem d_J_entries_16 : decode b_J_entries 16 = .ok (.ireturn, 1) := by decide +kernel
theorem d_J_entries_17 : decode b_J_entries 17 = .ok (.iconst 0, 1) := by decide +kernel
theorem d_J_entries_18 : decode b_J_entries 18 = .ok (.istore_n 3, 1) := by decide +kernel
theorem d_J_entries_19 : decode b_J_entries 19 = .ok (.aload_n 0, 1) := by decide +kernel
theorem d_J_entries_20 : decode b_J_entries 20 = .ok (.getfield 29, 3) := by decide +kernel
theorem d_J_entries_23 : decode b_J_entries 23 = .ok (.astore 4, 2) := by decide +kernel
theorem d_J_entries_25 : decode b_J_entries 25 = .ok (.aload 4, 2) := by decide +kernel
theorem d_J_entries_27 : decode b_J_entries 27 = .ok (.arraylength, 1) := by decide +kernel
theorem d_J_entries_28 : decode b_J_entries 28 = .ok (.istore 5, 2) := by decide +kernel
theorem d_J_entries_30 : decode b_J_entries 30 = .ok (.iconst 0, 1) := by decide +kernel
theorem d_J_entries_31 : decode b_J_entries 31 = .ok (.istore 6, 2) := by decide +kernel
theorem d_J_entries_33 : decode b_J_entries 33 = .ok (.iload 6, 2) := by decide +kernel
theorem d_J_entries_35 : decode b_J_entries 35 = .ok (.iload 5, 2) := by decide +kernel
theorem d_J_entries_37 : decode b_J_entries 37 = .ok (.if_icmp .ge 39, 3) := by decide +kernel
theorem d_J_entries_40 : decode b_J_entries 40 = .ok (.aload 4, 2) := by decide +kernel
theorem d_J_entries_42 : decode b_J_entries 42 = .ok (.iload 6, 2) := by decide +kernel
theorem d_J_entries_44 : decode b_J_entries 44 = .ok (.aaload, 1) := by decide +kernel
theorem d_J_entries_45 : decode b_J_entries 45 = .ok (.astore 7, 2) := by decide +kernel
theorem d_J_entries_47 : decode b_J_entries 47 = .ok (.aload 7, 2) := by decide +kernel
theorem d_J_entries_49 : decode b_J_entries 49 = .ok (.getfield 179, 3) := by decide +kernel
theorem d_J_entries_52 : decode b_J_entries 52 = .ok (.ifCond .eq 18, 3) := by decide +kernel
theorem d_J_entries_55 : decode b_J_entries 55 = .ok (.aload 7, 2) := by decide +kernel
theorem d_J_entries_57 : decode b_J_entries 57 = .ok (.getfield 135, 3) := by decide +kernel
theorem d_J_entries_60 : decode b_J_entries 60 = .ok (.aload_n 2, 1) := by decide +kernel
theorem d_J_entries_61 : decode b_J_entries 61 = .ok (.getfield 135, 3) := by decide +kernel
theorem d_J_entries_64 : decode b_J_entries 64 = .ok (.if_acmp .ne 6, 3) := by decide +kernel
theorem d_J_entries_67 : decode b_J_entries 67 = .ok (.iinc 3 1, 3) := by decide +kernel
theorem d_J_entries_70 : decode b_J_entries 70 = .ok (.iinc 6 1, 3) := by decide +kernel
theorem d_J_entries_73 : decode b_J_entries 73 = .ok (.goto (-40), 3) := by decide +kernel
theorem d_J_entries_76 : decode b_J_entries 76 = .ok (.iload_n 3, 1) := by decide +kernel
theorem d_J_entries_77 : decode b_J_entries 77 = .ok (.ireturn, 1) := by decide +kernel
