theorem d_J_isUrlOrBlank_0 : decode b_J_isUrlOrBlank 0 = .ok (.iload_n 0, 1) := by decide +kernel
theorem d_J_isUrlOrBlank_1 : decode b_J_isUrlOrBlank 1 = .ok (.iconst (-1), 1) := by decide +kernel
theorem d_J_isUrlOrBlank_2 : decode b_J_isUrlOrBlank 2 = .ok (.if_icmp .eq 10, 3) := by decide +kernel
theorem d_J_isUrlOrBlank_5 : decode b_J_isUrlOrBlank 5 = .ok (.iload_n 0, 1) := by decide +kernel
theorem d_J_isUrlOrBlank_6 : decode b_J_isUrlOrBlank 6 = .ok (.invokestatic 81, 3) := by decide +kernel
theorem d_J_isUrlOrBlank_9 : decode b_J_isUrlOrBlank 9 = .ok (.ifCond .eq 7, 3) := by decide +kernel
theorem d_J_isUrlOrBlank_12 : decode b_J_isUrlOrBlank 12 = .ok (.iconst 1, 1) := by decide +kernel
theorem d_J_isUrlOrBlank_13 : decode b_J_isUrlOrBlank 13 = .ok (.goto 4, 3) := by decide +kernel
theorem d_J_isUrlOrBlank_16 : decode b_J_isUrlOrBlank 16 = .ok (.iconst 0, 1) := by decide +kernel
theorem d_J_isUrlOrBlank_17 : decode b_J_isUrlOrBlank 17 = .ok (.ireturn, 1) := by decide +kernel
theorem d_J_isUrl_0 : decode b_J_isUrl 0 = .ok (.iload_n 0, 1) := by decide +kernel
theorem d_J_isUrl_1 : decode b_J_isUrl 1 = .ok (.ifCond .lt 14, 3) := by decide +kernel
theorem d_J_isUrl_4 : decode b_J_isUrl 4 = .ok (.iload_n 0, 1) := by decide +kernel
theorem d_J_isUrl_5 : decode b_J_isUrl 5 = .ok (.sipush 256, 3) := by decide +kernel
theorem d_J_isUrl_8 : decode b_J_isUrl 8 = .ok (.if_icmp .ge 7, 3) := by decide +kernel
theorem d_J_isUrl_11 : decode b_J_isUrl 11 = .ok (.iconst 1, 1) := by decide +kernel
theorem d_J_isUrl_12 : decode b_J_isUrl 12 = .ok (.goto 4, 3) := by decide +kernel
theorem d_J_isUrl_15 : decode b_J_isUrl 15 = .ok (.iconst 0, 1) := by decide +kernel
theorem d_J_isUrl_16 : decode b_J_isUrl 16 = .ok (.ireturn, 1) := by decide +kernel
theorem d_J_detour_0 : decode b_J_detour 0 = .ok (.iload_n 1, 1) := by decide +kernel
theorem d_J_detour_1 : decode b_J_detour 1 = .ok (.invokestatic 55, 3) := by decide +kernel
theorem d_J_detour_4 : decode b_J_detour 4 = .ok (.ifCond .eq 10, 3) := by decide +kernel
theorem d_J_detour_7 : decode b_J_detour 7 = .ok (.iload_n 2, 1) := by decide +kernel
theorem d_J_detour_8 : decode b_J_detour 8 = .ok (.invokestatic 81, 3) := by decide +kernel
theorem d_J_detour_11 : decode b_J_detour 11 = .ok (.ifCond .ne 5, 3) := by decide +kernel
theorem d_J_detour_14 : decode b_J_detour 14 = .ok (.iconst 0, 1) := by decide +kernel
theorem d_J_detour_15 : decode b_J_detour 15 = .ok (.ireturn, 1) := by decide +kernel
theorem d_J_detour_16 : decode b_J_detour 16 = .ok (.aload_n 0, 1) := by decide +kernel
theorem d_J_detour_17 : decode b_J_detour 17 = .ok (.getfield 11, 3) := by decide +kernel
theorem d_J_detour_20 : decode b_J_detour 20 = .ok (.iload_n 1, 1) := by decide +kernel
theorem d_J_detour_21 : decode b_J_detour 21 = .ok (.aaload, 1) := by decide +kernel
theorem d_J_detour_22 : decode b_J_detour 22 = .ok (.getstatic 84, 3) := by decide +kernel
theorem d_J_detour_25 : decode b_J_detour 25 = .ok (.putfield 68, 3) := by decide +kernel
theorem d_J_detour_28 : decode b_J_detour 28 = .ok (.aload_n 0, 1) := by decide +kernel
theorem d_J_detour_29 : decode b_J_detour 29 = .ok (.getfield 11, 3) := by decide +kernel
theorem d_J_detour_32 : decode b_J_detour 32 = .ok (.iload_n 1, 1) := by decide +kernel
theorem d_J_detour_33 : decode b_J_detour 33 = .ok (.aaload, 1) := by decide +kernel
theorem d_J_detour_34 : decode b_J_detour 34 = .ok (.iload_n 2, 1) := by decide +kernel
theorem d_J_detour_35 : decode b_J_detour 35 = .ok (.putfield 87, 3) := by decide +kernel
theorem d_J_detour_38 : decode b_J_detour 38 = .ok (.iconst 1, 1) := by decide +kernel
theorem d_J_detour_39 : decode b_J_detour 39 = .ok (.ireturn, 1) := by decide +kernel
theorem d_J_fault_0 : decode b_J_fault 0 = .ok (.iload_n 1, 1) := by decide +kernel
theorem d_J_fault_1 : decode b_J_fault 1 = .ok (.invokestatic 55, 3) := by decide +kernel
theorem d_J_fault_4 : decode b_J_fault 4 = .ok (.ifCond .ne 5, 3) := by decide +kernel
theorem d_J_fault_7 : decode b_J_fault 7 = .ok (.iconst 0, 1) := by decide +kernel
theorem d_J_fault_8 : decode b_J_fault 8 = .ok (.ireturn, 1) := by decide +kernel
theorem d_J_fault_9 : decode b_J_fault 9 = .ok (.aload_n 0, 1) := by decide +kernel
theorem d_J_fault_10 : decode b_J_fault 10 = .ok (.getfield 11, 3) := by decide +kernel
theorem d_J_fault_13 : decode b_J_fault 13 = .ok (.iload_n 1, 1) := by decide +kernel
theorem d_J_fault_14 : decode b_J_fault 14 = .ok (.aaload, 1) := by decide +kernel
theorem d_J_fault_15 : decode b_J_fault 15 = .ok (.getstatic 90, 3) := by decide +kernel
theorem d_J_fault_18 : decode b_J_fault 18 = .ok (.putfield 68, 3) := by decide +kernel
theorem d_J_fault_21 : decode b_J_fault 21 = .ok (.iconst 1, 1) := by decide +kernel
theorem d_J_fault_22 : decode b_J_fault 22 = .ok (.ireturn, 1) := by decide +kernel
theorem d_J_navigate_0 : decode b_J_navigate 0 = .ok (.iload_n 2, 1) := by decide +kernel
theorem d_J_navigate_1 : decode b_J_navigate 1 = .ok (.invokestatic 93, 3) := by decide +kernel
theorem d_J_navigate_4 : decode b_J_navigate 4 = .ok (.ifCond .ne 6, 3) := by decide +kernel
theorem d_J_navigate_7 : decode b_J_navigate 7 = .ok (.bipush (-3), 2) := by decide +kernel
theorem d_J_navigate_9 : decode b_J_navigate 9 = .ok (.ireturn, 1) := by decide +kernel
theorem d_J_navigate_10 : decode b_J_navigate 10 = .ok (.aload_n 0, 1) := by decide +kernel
theorem d_J_navigate_11 : decode b_J_navigate 11 = .ok (.iload_n 1, 1) := by decide +kernel
theorem d_J_navigate_12 : decode b_J_navigate 12 = .ok (.aload_n 0, 1) := by decide +kernel
theorem d_J_navigate_13 : decode b_J_navigate 13 = .ok (.getfield 96, 3) := by decide +kernel
theorem d_J_navigate_16 : decode b_J_navigate 16 = .ok (.invokevirtual 99, 3) := by decide +kernel
theorem d_J_navigate_19 : decode b_J_navigate 19 = .ok (.astore 4, 2) := by decide +kernel
theorem d_J_navigate_21 : decode b_J_navigate 21 = .ok (.aload 4, 2) := by decide +kernel
theorem d_J_navigate_23 : decode b_J_navigate 23 = .ok (.ifnonnull 6, 3) := by decide +kernel
theorem d_J_navigate_26 : decode b_J_navigate 26 = .ok (.bipush (-4), 2) := by decide +kernel
theorem d_J_navigate_28 : decode b_J_navigate 28 = .ok (.ireturn, 1) := by decide +kernel
theorem d_J_navigate_29 : decode b_J_navigate 29 = .ok (.iload_n 3, 1) := by decide +kernel
theorem d_J_navigate_30 : decode b_J_navigate 30 = .ok (.ifCond .ne 16, 3) := by decide +kernel
theorem d_J_navigate_33 : decode b_J_navigate 33 = .ok (.iload_n 2, 1) := by decide +kernel
theorem d_J_navigate_34 : decode b_J_navigate 34 = .ok (.aload 4, 2) := by decide +kernel
theorem d_J_navigate_36 : decode b_J_navigate 36 = .ok (.getfield 103, 3) := by decide +kernel
theorem d_J_navigate_39 : decode b_J_navigate 39 = .ok (.if_icmp .eq 7, 3) := by decide +kernel
theorem d_J_navigate_42 : decode b_J_navigate 42 = .ok (.iconst 1, 1) := by decide +kernel
theorem d_J_navigate_43 : decode b_J_navigate 43 = .ok (.goto 4, 3) := by decide +kernel
theorem d_J_navigate_46 : decode b_J_navigate 46 = .ok (.iconst 0, 1) := by decide +kernel
theorem d_J_navigate_47 : decode b_J_navigate 47 = .ok (.istore 5, 2) := by decide +kernel
theorem d_J_navigate_49 : decode b_J_navigate 49 = .ok (.aload_n 0, 1) := by decide +kernel
theorem d_J_navigate_50 : decode b_J_navigate 50 = .ok (.iload 5, 2) := by decide +kernel
theorem d_J_navigate_52 : decode b_J_navigate 52 = .ok (.invokevirtual 106, 3) := by decide +kernel
theorem d_J_navigate_55 : decode b_J_navigate 55 = .ok (.ifCond .eq 6, 3) := by decide +kernel
theorem d_J_navigate_58 : decode b_J_navigate 58 = .ok (.bipush (-5), 2) := by decide +kernel
theorem d_J_navigate_60 : decode b_J_navigate 60 = .ok (.ireturn, 1) := by decide +kernel
theorem d_J_navigate_61 : decode b_J_navigate 61 = .ok (.iload 5, 2) := by decide +kernel
theorem d_J_navigate_63 : decode b_J_navigate 63 = .ok (.ifCond .eq 7, 3) := by decide +kernel
theorem d_J_navigate_66 : decode b_J_navigate 66 = .ok (.aload_n 0, 1) := by decide +kernel
theorem d_J_navigate_67 : decode b_J_navigate 67 = .ok (.invokevirtual 110, 3) := by decide +kernel
theorem d_J_navigate_70 : decode b_J_navigate 70 = .ok (.aload 4, 2) := by decide +kernel
theorem d_J_navigate_72 : decode b_J_navigate 72 = .ok (.getfield 103, 3) := by decide +kernel
theorem d_J_navigate_75 : decode b_J_navigate 75 = .ok (.iload_n 2, 1) := by decide +kernel
theorem d_J_navigate_76 : decode b_J_navigate 76 = .ok (.invokestatic 113, 3) := by decide +kernel
theorem d_J_navigate_79 : decode b_J_navigate 79 = .ok (.ifCond .eq 40, 3) := by decide +kernel
theorem d_J_navigate_82 : decode b_J_navigate 82 = .ok (.iload_n 2, 1) := by decide +kernel
theorem d_J_navigate_83 : decode b_J_navigate 83 = .ok (.aload 4, 2) := by decide +kernel
theorem d_J_navigate_85 : decode b_J_navigate 85 = .ok (.getfield 103, 3) := by decide +kernel
theorem d_J_navigate_88 : decode b_J_navigate 88 = .ok (.if_icmp .eq 13, 3) := by decide +kernel
theorem d_J_navigate_91 : decode b_J_navigate 91 = .ok (.aload_n 0, 1) := by decide +kernel
theorem d_J_navigate_92 : decode b_J_navigate 92 = .ok (.dup, 1) := by decide +kernel
theorem d_J_navigate_93 : decode b_J_navigate 93 = .ok (.getfield 117, 3) := by decide +kernel
theorem d_J_navigate_96 : decode b_J_navigate 96 = .ok (.iconst 1, 1) := by decide +kernel
theorem d_J_navigate_97 : decode b_J_navigate 97 = .ok (.iadd, 1) := by decide +kernel
theorem d_J_navigate_98 : decode b_J_navigate 98 = .ok (.putfield 117, 3) := by decide +kernel
theorem d_J_navigate_101 : decode b_J_navigate 101 = .ok (.aload_n 0, 1) := by decide +kernel
theorem d_J_navigate_102 : decode b_J_navigate 102 = .ok (.aload 4, 2) := by decide +kernel
theorem d_J_navigate_104 : decode b_J_navigate 104 = .ok (.iload_n 2, 1) := by decide +kernel
theorem d_J_navigate_105 : decode b_J_navigate 105 = .ok (.iconst 0, 1) := by decide +kernel
theorem d_J_navigate_106 : decode b_J_navigate 106 = .ok (.aload 4, 2) := by decide +kernel
theorem d_J_navigate_108 : decode b_J_navigate 108 = .ok (.getfield 120, 3) := by decide +kernel
theorem d_J_navigate_111 : decode b_J_navigate 111 = .ok (.iload 5, 2) := by decide +kernel
theorem d_J_navigate_113 : decode b_J_navigate 113 = .ok (.invokevirtual 124, 3) := by decide +kernel
theorem d_J_navigate_116 : decode b_J_navigate 116 = .ok (.goto 55, 3) := by decide +kernel
theorem d_J_navigate_119 : decode b_J_navigate 119 = .ok (.iload 5, 2) := by decide +kernel
theorem d_J_navigate_121 : decode b_J_navigate 121 = .ok (.ifCond .eq 12, 3) := by decide +kernel
theorem d_J_navigate_124 : decode b_J_navigate 124 = .ok (.aload_n 0, 1) := by decide +kernel
theorem d_J_navigate_125 : decode b_J_navigate 125 = .ok (.getfield 96, 3) := by decide +kernel
theorem d_J_navigate_128 : decode b_J_navigate 128 = .ok (.iconst 1, 1) := by decide +kernel
theorem d_J_navigate_129 : decode b_J_navigate 129 = .ok (.iadd, 1) := by decide +kernel
theorem d_J_navigate_130 : decode b_J_navigate 130 = .ok (.goto 8, 3) := by decide +kernel
theorem d_J_navigate_133 : decode b_J_navigate 133 = .ok (.aload 4, 2) := by decide +kernel
theorem d_J_navigate_135 : decode b_J_navigate 135 = .ok (.getfield 128, 3) := by decide +kernel
theorem d_J_navigate_138 : decode b_J_navigate 138 = .ok (.istore 6, 2) := by decide +kernel
theorem d_J_navigate_140 : decode b_J_navigate 140 = .ok (.aload_n 0, 1) := by decide +kernel
theorem d_J_navigate_141 : decode b_J_navigate 141 = .ok (.iload_n 2, 1) := by decide +kernel
theorem d_J_navigate_142 : decode b_J_navigate 142 = .ok (.invokevirtual 131, 3) := by decide +kernel
theorem d_J_navigate_145 : decode b_J_navigate 145 = .ok (.istore 7, 2) := by decide +kernel
theorem d_J_navigate_147 : decode b_J_navigate 147 = .ok (.aload_n 0, 1) := by decide +kernel
theorem d_J_navigate_148 : decode b_J_navigate 148 = .ok (.aload 4, 2) := by decide +kernel
theorem d_J_navigate_150 : decode b_J_navigate 150 = .ok (.iload 7, 2) := by decide +kernel
theorem d_J_navigate_152 : decode b_J_navigate 152 = .ok (.iconst 0, 1) := by decide +kernel
theorem d_J_navigate_153 : decode b_J_navigate 153 = .ok (.aload_n 0, 1) := by decide +kernel
theorem d_J_navigate_154 : decode b_J_navigate 154 = .ok (.aload 4, 2) := by decide +kernel
theorem d_J_navigate_156 : decode b_J_navigate 156 = .ok (.getfield 135, 3) := by decide +kernel
theorem d_J_navigate_159 : decode b_J_navigate 159 = .ok (.iload 7, 2) := by decide +kernel
theorem d_J_navigate_161 : decode b_J_navigate 161 = .ok (.iload 6, 2) := by decide +kernel
theorem d_J_navigate_163 : decode b_J_navigate 163 = .ok (.invokevirtual 47, 3) := by decide +kernel
theorem d_J_navigate_166 : decode b_J_navigate 166 = .ok (.iload 5, 2) := by decide +kernel
theorem d_J_navigate_168 : decode b_J_navigate 168 = .ok (.invokevirtual 124, 3) := by decide +kernel
theorem d_J_navigate_171 : decode b_J_navigate 171 = .ok (.aload_n 0, 1) := by decide +kernel
theorem d_J_navigate_172 : decode b_J_navigate 172 = .ok (.getfield 96, 3) := by decide +kernel
theorem d_J_navigate_175 : decode b_J_navigate 175 = .ok (.ireturn, 1) := by decide +kernel
theorem d_J_shownEntry_0 : decode b_J_shownEntry 0 = .ok (.iload_n 1, 1) := by decide +kernel
theorem d_J_shownEntry_1 : decode b_J_shownEntry 1 = .ok (.ifCond .lt 21, 3) := by decide +kernel
theorem d_J_shownEntry_4 : decode b_J_shownEntry 4 = .ok (.iload_n 1, 1) := by decide +kernel
theorem d_J_shownEntry_5 : decode b_J_shownEntry 5 = .ok (.bipush 40, 2) := by decide +kernel
theorem d_J_shownEntry_7 : decode b_J_shownEntry 7 = .ok (.if_icmp .ge 15, 3) := by decide +kernel
theorem d_J_shownEntry_10 : decode b_J_shownEntry 10 = .ok (.aload_n 0, 1) := by decide +kernel
theorem d_J_shownEntry_11 : decode b_J_shownEntry 11 = .ok (.getfield 17, 3) := by decide +kernel
theorem d_J_shownEntry_14 : decode b_J_shownEntry 14 = .ok (.iload_n 1, 1) := by decide +kernel
theorem d_J_shownEntry_15 : decode b_J_shownEntry 15 = .ok (.aaload, 1) := by decide +kernel
theorem d_J_shownEntry_16 : decode b_J_shownEntry 16 = .ok (.getfield 43, 3) := by decide +kernel
theorem d_J_shownEntry_19 : decode b_J_shownEntry 19 = .ok (.ifCond .ne 5, 3) := by decide +kernel
theorem d_J_shownEntry_22 : decode b_J_shownEntry 22 = .ok (.aconst_null, 1) := by decide +kernel
theorem d_J_shownEntry_23 : decode b_J_shownEntry 23 = .ok (.areturn, 1) := by decide +kernel
theorem d_J_shownEntry_24 : decode b_J_shownEntry 24 = .ok (.aload_n 0, 1) := by decide +kernel
theorem d_J_shownEntry_25 : decode b_J_shownEntry 25 = .ok (.getfield 17, 3) := by decide +kernel
theorem d_J_shownEntry_28 : decode b_J_shownEntry 28 = .ok (.iload_n 1, 1) := by decide +kernel
theorem d_J_shownEntry_29 : decode b_J_shownEntry 29 = .ok (.aaload, 1) := by decide +kernel
theorem d_J_shownEntry_30 : decode b_J_shownEntry 30 = .ok (.getfield 208, 3) := by decide +kernel
theorem d_J_shownEntry_33 : decode b_J_shownEntry 33 = .ok (.astore_n 3, 1) := by decide +kernel
theorem d_J_shownEntry_34 : decode b_J_shownEntry 34 = .ok (.iconst 1, 1) := by decide +kernel
theorem d_J_shownEntry_35 : decode b_J_shownEntry 35 = .ok (.istore 4, 2) := by decide +kernel
theorem d_J_shownEntry_37 : decode b_J_shownEntry 37 = .ok (.iload 4, 2) := by decide +kernel
theorem d_J_shownEntry_39 : decode b_J_shownEntry 39 = .ok (.iconst 3, 1) := by decide +kernel
theorem d_J_shownEntry_40 : decode b_J_shownEntry 40 = .ok (.if_icmp .ge 48, 3) := by decide +kernel
theorem d_J_shownEntry_43 : decode b_J_shownEntry 43 = .ok (.aload_n 3, 1) := by decide +kernel
theorem d_J_shownEntry_44 : decode b_J_shownEntry 44 = .ok (.ifnull 44, 3) := by decide +kernel
theorem d_J_shownEntry_47 : decode b_J_shownEntry 47 = .ok (.aload_n 0, 1) := by decide +kernel
theorem d_J_shownEntry_48 : decode b_J_shownEntry 48 = .ok (.aload_n 3, 1) := by decide +kernel
theorem d_J_shownEntry_49 : decode b_J_shownEntry 49 = .ok (.getfield 211, 3) := by decide +kernel
theorem d_J_shownEntry_52 : decode b_J_shownEntry 52 = .ok (.iload_n 2, 1) := by decide +kernel
theorem d_J_shownEntry_53 : decode b_J_shownEntry 53 = .ok (.invokevirtual 212, 3) := by decide +kernel
theorem d_J_shownEntry_56 : decode b_J_shownEntry 56 = .ok (.astore 5, 2) := by decide +kernel
theorem d_J_shownEntry_58 : decode b_J_shownEntry 58 = .ok (.aload 5, 2) := by decide +kernel
theorem d_J_shownEntry_60 : decode b_J_shownEntry 60 = .ok (.ifnull 12, 3) := by decide +kernel
theorem d_J_shownEntry_63 : decode b_J_shownEntry 63 = .ok (.aload 5, 2) := by decide +kernel
theorem d_J_shownEntry_65 : decode b_J_shownEntry 65 = .ok (.getfield 120, 3) := by decide +kernel
theorem d_J_shownEntry_68 : decode b_J_shownEntry 68 = .ok (.aload_n 3, 1) := by decide +kernel
theorem d_J_shownEntry_69 : decode b_J_shownEntry 69 = .ok (.if_acmp .eq 5, 3) := by decide +kernel
theorem d_J_shownEntry_72 : decode b_J_shownEntry 72 = .ok (.aconst_null, 1) := by decide +kernel
theorem d_J_shownEntry_73 : decode b_J_shownEntry 73 = .ok (.areturn, 1) := by decide +kernel
theorem d_J_shownEntry_74 : decode b_J_shownEntry 74 = .ok (.aload_n 3, 1) := by decide +kernel
theorem d_J_shownEntry_75 : decode b_J_shownEntry 75 = .ok (.getfield 211, 3) := by decide +kernel
theorem d_J_shownEntry_78 : decode b_J_shownEntry 78 = .ok (.getfield 208, 3) := by decide +kernel
theorem d_J_shownEntry_81 : decode b_J_shownEntry 81 = .ok (.astore_n 3, 1) := by decide +kernel
theorem d_J_shownEntry_82 : decode b_J_shownEntry 82 = .ok (.iinc 4 1, 3) := by decide +kernel
theorem d_J_shownEntry_85 : decode b_J_shownEntry 85 = .ok (.goto (-48), 3) := by decide +kernel
theorem d_J_shownEntry_88 : decode b_J_shownEntry 88 = .ok (.aload_n 0, 1) := by decide +kernel
theorem d_J_shownEntry_89 : decode b_J_shownEntry 89 = .ok (.aload_n 0, 1) := by decide +kernel
theorem d_J_shownEntry_90 : decode b_J_shownEntry 90 = .ok (.getfield 17, 3) := by decide +kernel
theorem d_J_shownEntry_93 : decode b_J_shownEntry 93 = .ok (.iload_n 1, 1) := by decide +kernel
theorem d_J_shownEntry_94 : decode b_J_shownEntry 94 = .ok (.aaload, 1) := by decide +kernel
theorem d_J_shownEntry_95 : decode b_J_shownEntry 95 = .ok (.iload_n 2, 1) := by decide +kernel
theorem d_J_shownEntry_96 : decode b_J_shownEntry 96 = .ok (.invokevirtual 212, 3) := by decide +kernel
theorem d_J_shownEntry_99 : decode b_J_shownEntry 99 = .ok (.areturn, 1) := by decide +kernel
theorem d_J_entryAt_0 : decode b_J_entryAt 0 = .ok (.aconst_null, 1) := by decide +kernel
theorem d_J_entryAt_1 : decode b_J_entryAt 1 = .ok (.astore_n 3, 1) := by decide +kernel
theorem d_J_entryAt_2 : decode b_J_entryAt 2 = .ok (.aload_n 0, 1) := by decide +kernel
theorem d_J_entryAt_3 : decode b_J_entryAt 3 = .ok (.getfield 29, 3) := by decide +kernel
theorem d_J_entryAt_6 : decode b_J_entryAt 6 = .ok (.astore 4, 2) := by decide +kernel
theorem d_J_entryAt_8 : decode b_J_entryAt 8 = .ok (.aload 4, 2) := by decide +kernel
theorem d_J_entryAt_10 : decode b_J_entryAt 10 = .ok (.arraylength, 1) := by decide +kernel
theorem d_J_entryAt_11 : decode b_J_entryAt 11 = .ok (.istore 5, 2) := by decide +kernel
theorem d_J_entryAt_13 : decode b_J_entryAt 13 = .ok (.iconst 0, 1) := by decide +kernel
theorem d_J_entryAt_14 : decode b_J_entryAt 14 = .ok (.istore 6, 2) := by decide +kernel
theorem d_J_entryAt_16 : decode b_J_entryAt 16 = .ok (.iload 6, 2) := by decide +kernel
theorem d_J_entryAt_18 : decode b_J_entryAt 18 = .ok (.iload 5, 2) := by decide +kernel
theorem d_J_entryAt_20 : decode b_J_entryAt 20 = .ok (.if_icmp .ge 61, 3) := by decide +kernel
theorem d_J_entryAt_23 : decode b_J_entryAt 23 = .ok (.aload 4, 2) := by decide +kernel
theorem d_J_entryAt_25 : decode b_J_entryAt 25 = .ok (.iload 6, 2) := by decide +kernel
theorem d_J_entryAt_27 : decode b_J_entryAt 27 = .ok (.aaload, 1) := by decide +kernel
theorem d_J_entryAt_28 : decode b_J_entryAt 28 = .ok (.astore 7, 2) := by decide +kernel
theorem d_J_entryAt_30 : decode b_J_entryAt 30 = .ok (.aload 7, 2) := by decide +kernel
theorem d_J_entryAt_32 : decode b_J_entryAt 32 = .ok (.getfield 179, 3) := by decide +kernel
theorem d_J_entryAt_35 : decode b_J_entryAt 35 = .ok (.ifCond .eq 40, 3) := by decide +kernel
theorem d_J_entryAt_38 : decode b_J_entryAt 38 = .ok (.aload 7, 2) := by decide +kernel
theorem d_J_entryAt_40 : decode b_J_entryAt 40 = .ok (.getfield 135, 3) := by decide +kernel
theorem d_J_entryAt_43 : decode b_J_entryAt 43 = .ok (.aload_n 1, 1) := by decide +kernel
theorem d_J_entryAt_44 : decode b_J_entryAt 44 = .ok (.if_acmp .ne 31, 3) := by decide +kernel
theorem d_J_entryAt_47 : decode b_J_entryAt 47 = .ok (.aload 7, 2) := by decide +kernel
theorem d_J_entryAt_49 : decode b_J_entryAt 49 = .ok (.getfield 128, 3) := by decide +kernel
theorem d_J_entryAt_52 : decode b_J_entryAt 52 = .ok (.iload_n 2, 1) := by decide +kernel
theorem d_J_entryAt_53 : decode b_J_entryAt 53 = .ok (.if_icmp .gt 22, 3) := by decide +kernel
theorem d_J_entryAt_56 : decode b_J_entryAt 56 = .ok (.aload_n 3, 1) := by decide +kernel
theorem d_J_entryAt_57 : decode b_J_entryAt 57 = .ok (.ifnull 15, 3) := by decide +kernel
theorem d_J_entryAt_60 : decode b_J_entryAt 60 = .ok (.aload 7, 2) := by decide +kernel
theorem d_J_entryAt_62 : decode b_J_entryAt 62 = .ok (.getfield 128, 3) := by decide +kernel
theorem d_J_entryAt_65 : decode b_J_entryAt 65 = .ok (.aload_n 3, 1) := by decide +kernel
theorem d_J_entryAt_66 : decode b_J_entryAt 66 = .ok (.getfield 128, 3) := by decide +kernel
theorem d_J_entryAt_69 : decode b_J_entryAt 69 = .ok (.if_icmp .le 6, 3) := by decide +kernel
theorem d_J_entryAt_72 : decode b_J_entryAt 72 = .ok (.aload 7, 2) := by decide +kernel
theorem d_J_entryAt_74 : decode b_J_entryAt 74 = .ok (.astore_n 3, 1) := by decide +kernel
theorem d_J_entryAt_75 : decode b_J_entryAt 75 = .ok (.iinc 6 1, 3) := by decide +kernel
theorem d_J_entryAt_78 : decode b_J_entryAt 78 = .ok (.goto (-62), 3) := by decide +kernel
theorem d_J_entryAt_81 : decode b_J_entryAt 81 = .ok (.aload_n 3, 1) := by decide +kernel
theorem d_J_entryAt_82 : decode b_J_entryAt 82 = .ok (.areturn, 1) := by decide +kernel
theorem d_J_isFull_0 : decode b_J_isFull 0 = .ok (.aload_n 0, 1) := by decide +kernel
theorem d_J_isFull_1 : decode b_J_isFull 1 = .ok (.iload_n 1, 1) := by decide +kernel
theorem d_J_isFull_2 : decode b_J_isFull 2 = .ok (.ifCond .eq 10, 3) := by decide +kernel
theorem d_J_isFull_5 : decode b_J_isFull 5 = .ok (.aload_n 0, 1) := by decide +kernel
theorem d_J_isFull_6 : decode b_J_isFull 6 = .ok (.getfield 96, 3) := by decide +kernel
theorem d_J_isFull_9 : decode b_J_isFull 9 = .ok (.goto 5, 3) := by decide +kernel
theorem d_J_isFull_12 : decode b_J_isFull 12 = .ok (.ldc 186, 2) := by decide +kernel
theorem d_J_isFull_14 : decode b_J_isFull 14 = .ok (.invokevirtual 187, 3) := by decide +kernel
theorem d_J_isFull_17 : decode b_J_isFull 17 = .ok (.bipush 36, 2) := by decide +kernel
theorem d_J_isFull_19 : decode b_J_isFull 19 = .ok (.if_icmp .lt 7, 3) := by decide +kernel
theorem d_J_isFull_22 : decode b_J_isFull 22 = .ok (.iconst 1, 1) := by decide +kernel
theorem d_J_isFull_23 : decode b_J_isFull 23 = .ok (.goto 4, 3) := by decide +kernel
theorem d_J_isFull_26 : decode b_J_isFull 26 = .ok (.iconst 0, 1) := by decide +kernel
theorem d_J_isFull_27 : decode b_J_isFull 27 = .ok (.ireturn, 1) := by decide +kernel
theorem d_J_entriesUpTo_0 : decode b_J_entriesUpTo 0 = .ok (.iconst 0, 1) := by decide +kernel
theorem d_J_entriesUpTo_1 : decode b_J_entriesUpTo 1 = .ok (.istore_n 2, 1) := by decide +kernel
theorem d_J_entriesUpTo_2 : decode b_J_entriesUpTo 2 = .ok (.aload_n 0, 1) := by decide +kernel
theorem d_J_entriesUpTo_3 : decode b_J_entriesUpTo 3 = .ok (.getfield 29, 3) := by decide +kernel
theorem d_J_entriesUpTo_6 : decode b_J_entriesUpTo 6 = .ok (.astore_n 3, 1) := by decide +kernel
theorem d_J_entriesUpTo_7 : decode b_J_entriesUpTo 7 = .ok (.aload_n 3, 1) := by decide +kernel
theorem d_J_entriesUpTo_8 : decode b_J_entriesUpTo 8 = .ok (.arraylength, 1) := by decide +kernel
theorem d_J_entriesUpTo_9 : decode b_J_entriesUpTo 9 = .ok (.istore 4, 2) := by decide +kernel
theorem d_J_entriesUpTo_11 : decode b_J_entriesUpTo 11 = .ok (.iconst 0, 1) := by decide +kernel
theorem d_J_entriesUpTo_12 : decode b_J_entriesUpTo 12 = .ok (.istore 5, 2) := by decide +kernel
theorem d_J_entriesUpTo_14 : decode b_J_entriesUpTo 14 = .ok (.iload 5, 2) := by decide +kernel
theorem d_J_entriesUpTo_16 : decode b_J_entriesUpTo 16 = .ok (.iload 4, 2) := by decide +kernel
theorem d_J_entriesUpTo_18 : decode b_J_entriesUpTo 18 = .ok (.if_icmp .ge 35, 3) := by decide +kernel
theorem d_J_entriesUpTo_21 : decode b_J_entriesUpTo 21 = .ok (.aload_n 3, 1) := by decide +kernel
theorem d_J_entriesUpTo_22 : decode b_J_entriesUpTo 22 = .ok (.iload 5, 2) := by decide +kernel
theorem d_J_entriesUpTo_24 : decode b_J_entriesUpTo 24 = .ok (.aaload, 1) := by decide +kernel
theorem d_J_entriesUpTo_25 : decode b_J_entriesUpTo 25 = .ok (.astore 6, 2) := by decide +kernel
theorem d_J_entriesUpTo_27 : decode b_J_entriesUpTo 27 = .ok (.aload 6, 2) := by decide +kernel
theorem d_J_entriesUpTo_29 : decode b_J_entriesUpTo 29 = .ok (.getfield 179, 3) := by decide +kernel
theorem d_J_entriesUpTo_32 : decode b_J_entriesUpTo 32 = .ok (.ifCond .eq 15, 3) := by decide +kernel
theorem d_J_entriesUpTo_35 : decode b_J_entriesUpTo 35 = .ok (.aload 6, 2) := by decide +kernel
theorem d_J_entriesUpTo_37 : decode b_J_entriesUpTo 37 = .ok (.getfield 128, 3) := by decide +kernel
theorem d_J_entriesUpTo_40 : decode b_J_entriesUpTo 40 = .ok (.iload_n 1, 1) := by decide +kernel
theorem d_J_entriesUpTo_41 : decode b_J_entriesUpTo 41 = .ok (.if_icmp .gt 6, 3) := by decide +kernel
theorem d_J_entriesUpTo_44 : decode b_J_entriesUpTo 44 = .ok (.iinc 2 1, 3) := by decide +kernel
theorem d_J_entriesUpTo_47 : decode b_J_entriesUpTo 47 = .ok (.iinc 5 1, 3) := by decide +kernel
theorem d_J_entriesUpTo_50 : decode b_J_entriesUpTo 50 = .ok (.goto (-36), 3) := by decide +kernel
theorem d_J_entriesUpTo_53 : decode b_J_entriesUpTo 53 = .ok (.iload_n 2, 1) := by decide +kernel
theorem d_J_entriesUpTo_54 : decode b_J_entriesUpTo 54 = .ok (.ireturn, 1) := by decide +kernel
theorem d_J_dropLaterEntries_0 : decode b_J_dropLaterEntries 0 = .ok (.aload_n 0, 1) := by decide +kernel
theorem d_J_dropLaterEntries_1 : decode b_J_dropLaterEntries 1 = .ok (.getfield 29, 3) := by decide +kernel
theorem d_J_dropLaterEntries_4 : decode b_J_dropLaterEntries 4 = .ok (.astore_n 1, 1) := by decide +kernel
theorem d_J_dropLaterEntries_5 : decode b_J_dropLaterEntries 5 = .ok (.aload_n 1, 1) := by decide +kernel
theorem d_J_dropLaterEntries_6 : decode b_J_dropLaterEntries 6 = .ok (.arraylength, 1) := by decide +kernel
theorem d_J_dropLaterEntries_7 : decode b_J_dropLaterEntries 7 = .ok (.istore_n 2, 1) := by decide +kernel
theorem d_J_dropLaterEntries_8 : decode b_J_dropLaterEntries 8 = .ok (.iconst 0, 1) := by decide +kernel
theorem d_J_dropLaterEntries_9 : decode b_J_dropLaterEntries 9 = .ok (.istore_n 3, 1) := by decide +kernel
theorem d_J_dropLaterEntries_10 : decode b_J_dropLaterEntries 10 = .ok (.iload_n 3, 1) := by decide +kernel
theorem d_J_dropLaterEntries_11 : decode b_J_dropLaterEntries 11 = .ok (.iload_n 2, 1) := by decide +kernel
theorem d_J_dropLaterEntries_12 : decode b_J_dropLaterEntries 12 = .ok (.if_icmp .ge 32, 3) := by decide +kernel
theorem d_J_dropLaterEntries_15 : decode b_J_dropLaterEntries 15 = .ok (.aload_n 1, 1) := by decide +kernel
theorem d_J_dropLaterEntries_16 : decode b_J_dropLaterEntries 16 = .ok (.iload_n 3, 1) := by decide +kernel
theorem d_J_dropLaterEntries_17 : decode b_J_dropLaterEntries 17 = .ok (.aaload, 1) := by decide +kernel
theorem d_J_dropLaterEntries_18 : decode b_J_dropLaterEntries 18 = .ok (.astore 4, 2) := by decide +kernel
theorem d_J_dropLaterEntries_20 : decode b_J_dropLaterEntries 20 = .ok (.aload 4, 2) := by decide +kernel
theorem d_J_dropLaterEntries_22 : decode b_J_dropLaterEntries 22 = .ok (.getfield 128, 3) := by decide +kernel
theorem d_J_dropLaterEntries_25 : decode b_J_dropLaterEntries 25 = .ok (.aload_n 0, 1) := by decide +kernel
theorem d_J_dropLaterEntries_26 : decode b_J_dropLaterEntries 26 = .ok (.getfield 96, 3) := by decide +kernel
theorem d_J_dropLaterEntries_29 : decode b_J_dropLaterEntries 29 = .ok (.if_icmp .le 9, 3) := by decide +kernel
theorem d_J_dropLaterEntries_32 : decode b_J_dropLaterEntries 32 = .ok (.aload 4, 2) := by decide +kernel
theorem d_J_dropLaterEntries_34 : decode b_J_dropLaterEntries 34 = .ok (.iconst 0, 1) := by decide +kernel
theorem d_J_dropLaterEntries_35 : decode b_J_dropLaterEntries 35 = .ok (.putfield 179, 3) := by decide +kernel
theorem d_J_dropLaterEntries_38 : decode b_J_dropLaterEntries 38 = .ok (.iinc 3 1, 3) := by decide +kernel
theorem d_J_dropLaterEntries_41 : decode b_J_dropLaterEntries 41 = .ok (.goto (-31), 3) := by decide +kernel
theorem d_J_dropLaterEntries_44 : decode b_J_dropLaterEntries 44 = .ok (.aload_n 0, 1) := by decide +kernel
theorem d_J_dropLaterEntries_45 : decode b_J_dropLaterEntries 45 = .ok (.invokevirtual 157, 3) := by decide +kernel
theorem d_J_dropLaterEntries_48 : decode b_J_dropLaterEntries 48 = .ok (.return_, 1) := by decide +kernel
theorem d_J_dropWhatIsGone_0 : decode b_J_dropWhatIsGone 0 = .ok (.iconst 0, 1) := by decide +kernel
theorem d_J_dropWhatIsGone_1 : decode b_J_dropWhatIsGone 1 = .ok (.istore_n 1, 1) := by decide +kernel
theorem d_J_dropWhatIsGone_2 : decode b_J_dropWhatIsGone 2 = .ok (.iload_n 1, 1) := by decide +kernel
theorem d_J_dropWhatIsGone_3 : decode b_J_dropWhatIsGone 3 = .ok (.iconst 3, 1) := by decide +kernel
theorem d_J_dropWhatIsGone_4 : decode b_J_dropWhatIsGone 4 = .ok (.if_icmp .ge 21, 3) := by decide +kernel
theorem d_J_dropWhatIsGone_7 : decode b_J_dropWhatIsGone 7 = .ok (.aload_n 0, 1) := by decide +kernel
theorem d_J_dropWhatIsGone_8 : decode b_J_dropWhatIsGone 8 = .ok (.invokevirtual 245, 3) := by decide +kernel
theorem d_J_dropWhatIsGone_11 : decode b_J_dropWhatIsGone 11 = .ok (.aload_n 0, 1) := by decide +kernel
theorem d_J_dropWhatIsGone_12 : decode b_J_dropWhatIsGone 12 = .ok (.invokevirtual 248, 3) := by decide +kernel
theorem d_J_dropWhatIsGone_15 : decode b_J_dropWhatIsGone 15 = .ok (.aload_n 0, 1) := by decide +kernel
theorem d_J_dropWhatIsGone_16 : decode b_J_dropWhatIsGone 16 = .ok (.invokevirtual 251, 3) := by decide +kernel
theorem d_J_dropWhatIsGone_19 : decode b_J_dropWhatIsGone 19 = .ok (.iinc 1 1, 3) := by decide +kernel
theorem d_J_dropWhatIsGone_22 : decode b_J_dropWhatIsGone 22 = .ok (.goto (-20), 3) := by decide +kernel
theorem d_J_dropWhatIsGone_25 : decode b_J_dropWhatIsGone 25 = .ok (.return_, 1) := by decide +kernel
theorem d_J_keepOnlyHeldDocuments_0 : decode b_J_keepOnlyHeldDocuments 0 = .ok (.aload_n 0, 1) := by decide +kernel
theorem d_J_keepOnlyHeldDocuments_1 : decode b_J_keepOnlyHeldDocuments 1 = .ok (.getfield 23, 3) := by decide +kernel
theorem d_J_keepOnlyHeldDocuments_4 : decode b_J_keepOnlyHeldDocuments 4 = .ok (.astore_n 1, 1) := by decide +kernel
theorem d_J_keepOnlyHeldDocuments_5 : decode b_J_keepOnlyHeldDocuments 5 = .ok (.aload_n 1, 1) := by decide +kernel
theorem d_J_keepOnlyHeldDocuments_6 : decode b_J_keepOnlyHeldDocuments 6 = .ok (.arraylength, 1) := by decide +kernel
theorem d_J_keepOnlyHeldDocuments_7 : decode b_J_keepOnlyHeldDocuments 7 = .ok (.istore_n 2, 1) := by decide +kernel
theorem d_J_keepOnlyHeldDocuments_8 : decode b_J_keepOnlyHeldDocuments 8 = .ok (.iconst 0, 1) := by decide +kernel
theorem d_J_keepOnlyHeldDocuments_9 : decode b_J_keepOnlyHeldDocuments 9 = .ok (.istore_n 3, 1) := by decide +kernel
theorem d_J_keepOnlyHeldDocuments_10 : decode b_J_keepOnlyHeldDocuments 10 = .ok (.iload_n 3, 1) := by decide +kernel
theorem d_J_keepOnlyHeldDocuments_11 : decode b_J_keepOnlyHeldDocuments 11 = .ok (.iload_n 2, 1) := by decide +kernel
theorem d_J_keepOnlyHeldDocuments_12 : decode b_J_keepOnlyHeldDocuments 12 = .ok (.if_icmp .ge 20, 3) := by decide +kernel
theorem d_J_keepOnlyHeldDocuments_15 : decode b_J_keepOnlyHeldDocuments 15 = .ok (.aload_n 1, 1) := by decide +kernel
theorem d_J_keepOnlyHeldDocuments_16 : decode b_J_keepOnlyHeldDocuments 16 = .ok (.iload_n 3, 1) := by decide +kernel
theorem d_J_keepOnlyHeldDocuments_17 : decode b_J_keepOnlyHeldDocuments 17 = .ok (.aaload, 1) := by decide +kernel
theorem d_J_keepOnlyHeldDocuments_18 : decode b_J_keepOnlyHeldDocuments 18 = .ok (.astore 4, 2) := by decide +kernel
theorem d_J_keepOnlyHeldDocuments_20 : decode b_J_keepOnlyHeldDocuments 20 = .ok (.aload 4, 2) := by decide +kernel
theorem d_J_keepOnlyHeldDocuments_22 : decode b_J_keepOnlyHeldDocuments 22 = .ok (.iconst 0, 1) := by decide +kernel
theorem d_J_keepOnlyHeldDocuments_23 : decode b_J_keepOnlyHeldDocuments 23 = .ok (.putfield 244, 3) := by decide +kernel
theorem d_J_keepOnlyHeldDocuments_26 : decode b_J_keepOnlyHeldDocuments 26 = .ok (.iinc 3 1, 3) := by decide +kernel
theorem d_J_keepOnlyHeldDocuments_29 : decode b_J_keepOnlyHeldDocuments 29 = .ok (.goto (-19), 3) := by decide +kernel
theorem d_J_keepOnlyHeldDocuments_32 : decode b_J_keepOnlyHeldDocuments 32 = .ok (.aload_n 0, 1) := by decide +kernel
theorem d_J_keepOnlyHeldDocuments_33 : decode b_J_keepOnlyHeldDocuments 33 = .ok (.getfield 29, 3) := by decide +kernel
theorem d_J_keepOnlyHeldDocuments_36 : decode b_J_keepOnlyHeldDocuments 36 = .ok (.astore_n 1, 1) := by decide +kernel
theorem d_J_keepOnlyHeldDocuments_37 : decode b_J_keepOnlyHeldDocuments 37 = .ok (.aload_n 1, 1) := by decide +kernel
theorem d_J_keepOnlyHeldDocuments_38 : decode b_J_keepOnlyHeldDocuments 38 = .ok (.arraylength, 1) := by decide +kernel
theorem d_J_keepOnlyHeldDocuments_39 : decode b_J_keepOnlyHeldDocuments 39 = .ok (.istore_n 2, 1) := by decide +kernel
theorem d_J_keepOnlyHeldDocuments_40 : decode b_J_keepOnlyHeldDocuments 40 = .ok (.iconst 0, 1) := by decide +kernel
theorem d_J_keepOnlyHeldDocuments_41 : decode b_J_keepOnlyHeldDocuments 41 = .ok (.istore_n 3, 1) := by decide +kernel
theorem d_J_keepOnlyHeldDocuments_42 : decode b_J_keepOnlyHeldDocuments 42 = .ok (.iload_n 3, 1) := by decide +kernel
theorem d_J_keepOnlyHeldDocuments_43 : decode b_J_keepOnlyHeldDocuments 43 = .ok (.iload_n 2, 1) := by decide +kernel
theorem d_J_keepOnlyHeldDocuments_44 : decode b_J_keepOnlyHeldDocuments 44 = .ok (.if_icmp .ge 31, 3) := by decide +kernel
theorem d_J_keepOnlyHeldDocuments_47 : decode b_J_keepOnlyHeldDocuments 47 = .ok (.aload_n 1, 1) := by decide +kernel
theorem d_J_keepOnlyHeldDocuments_48 : decode b_J_keepOnlyHeldDocuments 48 = .ok (.iload_n 3, 1) := by decide +kernel
theorem d_J_keepOnlyHeldDocuments_49 : decode b_J_keepOnlyHeldDocuments 49 = .ok (.aaload, 1) := by decide +kernel
theorem d_J_keepOnlyHeldDocuments_50 : decode b_J_keepOnlyHeldDocuments 50 = .ok (.astore 4, 2) := by decide +kernel
theorem d_J_keepOnlyHeldDocuments_52 : decode b_J_keepOnlyHeldDocuments 52 = .ok (.aload 4, 2) := by decide +kernel
theorem d_J_keepOnlyHeldDocuments_54 : decode b_J_keepOnlyHeldDocuments 54 = .ok (.getfield 179, 3) := by decide +kernel
theorem d_J_keepOnlyHeldDocuments_57 : decode b_J_keepOnlyHeldDocuments 57 = .ok (.ifCond .eq 12, 3) := by decide +kernel
theorem d_J_keepOnlyHeldDocuments_60 : decode b_J_keepOnlyHeldDocuments 60 = .ok (.aload 4, 2) := by decide +kernel
theorem d_J_keepOnlyHeldDocuments_62 : decode b_J_keepOnlyHeldDocuments 62 = .ok (.getfield 120, 3) := by decide +kernel
theorem d_J_keepOnlyHeldDocuments_65 : decode b_J_keepOnlyHeldDocuments 65 = .ok (.iconst 1, 1) := by decide +kernel
theorem d_J_keepOnlyHeldDocuments_66 : decode b_J_keepOnlyHeldDocuments 66 = .ok (.putfield 244, 3) := by decide +kernel
theorem d_J_keepOnlyHeldDocuments_69 : decode b_J_keepOnlyHeldDocuments 69 = .ok (.iinc 3 1, 3) := by decide +kernel
theorem d_J_keepOnlyHeldDocuments_72 : decode b_J_keepOnlyHeldDocuments 72 = .ok (.goto (-30), 3) := by decide +kernel
theorem d_J_keepOnlyHeldDocuments_75 : decode b_J_keepOnlyHeldDocuments 75 = .ok (.return_, 1) := by decide +kernel
theorem d_J_dropFramesOfGoneDocuments_0 : decode b_J_dropFramesOfGoneDocuments 0 = .ok (.aload_n 0, 1) := by decide +kernel
theorem d_J_dropFramesOfGoneDocuments_1 : decode b_J_dropFramesOfGoneDocuments 1 = .ok (.getfield 17, 3) := by decide +kernel
theorem d_J_dropFramesOfGoneDocuments_4 : decode b_J_dropFramesOfGoneDocuments 4 = .ok (.astore_n 1, 1) := by decide +kernel
theorem d_J_dropFramesOfGoneDocuments_5 : decode b_J_dropFramesOfGoneDocuments 5 = .ok (.aload_n 1, 1) := by decide +kernel
theorem d_J_dropFramesOfGoneDocuments_6 : decode b_J_dropFramesOfGoneDocuments 6 = .ok (.arraylength, 1) := by decide +kernel
theorem d_J_dropFramesOfGoneDocuments_7 : decode b_J_dropFramesOfGoneDocuments 7 = .ok (.istore_n 2, 1) := by decide +kernel
theorem d_J_dropFramesOfGoneDocuments_8 : decode b_J_dropFramesOfGoneDocuments 8 = .ok (.iconst 0, 1) := by decide +kernel
theorem d_J_dropFramesOfGoneDocuments_9 : decode b_J_dropFramesOfGoneDocuments 9 = .ok (.istore_n 3, 1) := by decide +kernel
theorem d_J_dropFramesOfGoneDocuments_10 : decode b_J_dropFramesOfGoneDocuments 10 = .ok (.iload_n 3, 1) := by decide +kernel
theorem d_J_dropFramesOfGoneDocuments_11 : decode b_J_dropFramesOfGoneDocuments 11 = .ok (.iload_n 2, 1) := by decide +kernel
theorem d_J_dropFramesOfGoneDocuments_12 : decode b_J_dropFramesOfGoneDocuments 12 = .ok (.if_icmp .ge 39, 3) := by decide +kernel
theorem d_J_dropFramesOfGoneDocuments_15 : decode b_J_dropFramesOfGoneDocuments 15 = .ok (.aload_n 1, 1) := by decide +kernel
theorem d_J_dropFramesOfGoneDocuments_16 : decode b_J_dropFramesOfGoneDocuments 16 = .ok (.iload_n 3, 1) := by decide +kernel
theorem d_J_dropFramesOfGoneDocuments_17 : decode b_J_dropFramesOfGoneDocuments 17 = .ok (.aaload, 1) := by decide +kernel
theorem d_J_dropFramesOfGoneDocuments_18 : decode b_J_dropFramesOfGoneDocuments 18 = .ok (.astore 4, 2) := by decide +kernel
theorem d_J_dropFramesOfGoneDocuments_20 : decode b_J_dropFramesOfGoneDocuments 20 = .ok (.aload 4, 2) := by decide +kernel
theorem d_J_dropFramesOfGoneDocuments_22 : decode b_J_dropFramesOfGoneDocuments 22 = .ok (.getfield 208, 3) := by decide +kernel
theorem d_J_dropFramesOfGoneDocuments_25 : decode b_J_dropFramesOfGoneDocuments 25 = .ok (.ifnull 20, 3) := by decide +kernel
theorem d_J_dropFramesOfGoneDocuments_28 : decode b_J_dropFramesOfGoneDocuments 28 = .ok (.aload 4, 2) := by decide +kernel
theorem d_J_dropFramesOfGoneDocuments_30 : decode b_J_dropFramesOfGoneDocuments 30 = .ok (.getfield 208, 3) := by decide +kernel
theorem d_J_dropFramesOfGoneDocuments_33 : decode b_J_dropFramesOfGoneDocuments 33 = .ok (.getfield 244, 3) := by decide +kernel
theorem d_J_dropFramesOfGoneDocuments_36 : decode b_J_dropFramesOfGoneDocuments 36 = .ok (.ifCond .ne 9, 3) := by decide +kernel
theorem d_J_dropFramesOfGoneDocuments_39 : decode b_J_dropFramesOfGoneDocuments 39 = .ok (.aload 4, 2) := by decide +kernel
theorem d_J_dropFramesOfGoneDocuments_41 : decode b_J_dropFramesOfGoneDocuments 41 = .ok (.iconst 0, 1) := by decide +kernel
theorem d_J_dropFramesOfGoneDocuments_42 : decode b_J_dropFramesOfGoneDocuments 42 = .ok (.putfield 43, 3) := by decide +kernel
theorem d_J_dropFramesOfGoneDocuments_45 : decode b_J_dropFramesOfGoneDocuments 45 = .ok (.iinc 3 1, 3) := by decide +kernel
theorem d_J_dropFramesOfGoneDocuments_48 : decode b_J_dropFramesOfGoneDocuments 48 = .ok (.goto (-38), 3) := by decide +kernel
theorem d_J_dropFramesOfGoneDocuments_51 : decode b_J_dropFramesOfGoneDocuments 51 = .ok (.return_, 1) := by decide +kernel
theorem d_J_dropEntriesOfGoneNavigables_0 : decode b_J_dropEntriesOfGoneNavigables 0 = .ok (.aload_n 0, 1) := by decide +kernel
theorem d_J_dropEntriesOfGoneNavigables_1 : decode b_J_dropEntriesOfGoneNavigables 1 = .ok (.getfield 29, 3) := by decide +kernel
theorem d_J_dropEntriesOfGoneNavigables_4 : decode b_J_dropEntriesOfGoneNavigables 4 = .ok (.astore_n 1, 1) := by decide +kernel
theorem d_J_dropEntriesOfGoneNavigables_5 : decode b_J_dropEntriesOfGoneNavigables 5 = .ok (.aload_n 1, 1) := by decide +kernel
theorem d_J_dropEntriesOfGoneNavigables_6 : decode b_J_dropEntriesOfGoneNavigables 6 = .ok (.arraylength, 1) := by decide +kernel
theorem d_J_dropEntriesOfGoneNavigables_7 : decode b_J_dropEntriesOfGoneNavigables 7 = .ok (.istore_n 2, 1) := by decide +kernel
theorem d_J_dropEntriesOfGoneNavigables_8 : decode b_J_dropEntriesOfGoneNavigables 8 = .ok (.iconst 0, 1) := by decide +kernel
theorem d_J_dropEntriesOfGoneNavigables_9 : decode b_J_dropEntriesOfGoneNavigables 9 = .ok (.istore_n 3, 1) := by decide +kernel
theorem d_J_dropEntriesOfGoneNavigables_10 : decode b_J_dropEntriesOfGoneNavigables 10 = .ok (.iload_n 3, 1) := by decide +kernel
theorem d_J_dropEntriesOfGoneNavigables_11 : decode b_J_dropEntriesOfGoneNavigables 11 = .ok (.iload_n 2, 1) := by decide +kernel
theorem d_J_dropEntriesOfGoneNavigables_12 : decode b_J_dropEntriesOfGoneNavigables 12 = .ok (.if_icmp .ge 39, 3) := by decide +kernel
theorem d_J_dropEntriesOfGoneNavigables_15 : decode b_J_dropEntriesOfGoneNavigables 15 = .ok (.aload_n 1, 1) := by decide +kernel
theorem d_J_dropEntriesOfGoneNavigables_16 : decode b_J_dropEntriesOfGoneNavigables 16 = .ok (.iload_n 3, 1) := by decide +kernel
theorem d_J_dropEntriesOfGoneNavigables_17 : decode b_J_dropEntriesOfGoneNavigables 17 = .ok (.aaload, 1) := by decide +kernel
theorem d_J_dropEntriesOfGoneNavigables_18 : decode b_J_dropEntriesOfGoneNavigables 18 = .ok (.astore 4, 2) := by decide +kernel
theorem d_J_dropEntriesOfGoneNavigables_20 : decode b_J_dropEntriesOfGoneNavigables 20 = .ok (.aload 4, 2) := by decide +kernel
theorem d_J_dropEntriesOfGoneNavigables_22 : decode b_J_dropEntriesOfGoneNavigables 22 = .ok (.getfield 179, 3) := by decide +kernel
theorem d_J_dropEntriesOfGoneNavigables_25 : decode b_J_dropEntriesOfGoneNavigables 25 = .ok (.ifCond .eq 20, 3) := by decide +kernel
theorem d_J_dropEntriesOfGoneNavigables_28 : decode b_J_dropEntriesOfGoneNavigables 28 = .ok (.aload 4, 2) := by decide +kernel
theorem d_J_dropEntriesOfGoneNavigables_30 : decode b_J_dropEntriesOfGoneNavigables 30 = .ok (.getfield 135, 3) := by decide +kernel
theorem d_J_dropEntriesOfGoneNavigables_33 : decode b_J_dropEntriesOfGoneNavigables 33 = .ok (.getfield 43, 3) := by decide +kernel
theorem d_J_dropEntriesOfGoneNavigables_36 : decode b_J_dropEntriesOfGoneNavigables 36 = .ok (.ifCond .ne 9, 3) := by decide +kernel
theorem d_J_dropEntriesOfGoneNavigables_39 : decode b_J_dropEntriesOfGoneNavigables 39 = .ok (.aload 4, 2) := by decide +kernel
theorem d_J_dropEntriesOfGoneNavigables_41 : decode b_J_dropEntriesOfGoneNavigables 41 = .ok (.iconst 0, 1) := by decide +kernel
theorem d_J_dropEntriesOfGoneNavigables_42 : decode b_J_dropEntriesOfGoneNavigables 42 = .ok (.putfield 179, 3) := by decide +kernel
theorem d_J_dropEntriesOfGoneNavigables_45 : decode b_J_dropEntriesOfGoneNavigables 45 = .ok (.iinc 3 1, 3) := by decide +kernel
theorem d_J_dropEntriesOfGoneNavigables_48 : decode b_J_dropEntriesOfGoneNavigables 48 = .ok (.goto (-38), 3) := by decide +kernel
theorem d_J_dropEntriesOfGoneNavigables_51 : decode b_J_dropEntriesOfGoneNavigables 51 = .ok (.return_, 1) := by decide +kernel
theorem d_J_isFragmentMove_0 : decode b_J_isFragmentMove 0 = .ok (.iload_n 0, 1) := by decide +kernel
theorem d_J_isFragmentMove_1 : decode b_J_isFragmentMove 1 = .ok (.iconst (-1), 1) := by decide +kernel
theorem d_J_isFragmentMove_2 : decode b_J_isFragmentMove 2 = .ok (.if_icmp .eq 30, 3) := by decide +kernel
theorem d_J_isFragmentMove_5 : decode b_J_isFragmentMove 5 = .ok (.iload_n 1, 1) := by decide +kernel
theorem d_J_isFragmentMove_6 : decode b_J_isFragmentMove 6 = .ok (.iconst (-1), 1) := by decide +kernel
theorem d_J_isFragmentMove_7 : decode b_J_isFragmentMove 7 = .ok (.if_icmp .eq 25, 3) := by decide +kernel
theorem d_J_isFragmentMove_10 : decode b_J_isFragmentMove 10 = .ok (.iload_n 1, 1) := by decide +kernel
theorem d_J_isFragmentMove_11 : decode b_J_isFragmentMove 11 = .ok (.invokestatic 199, 3) := by decide +kernel
theorem d_J_isFragmentMove_14 : decode b_J_isFragmentMove 14 = .ok (.ifCond .eq 18, 3) := by decide +kernel
theorem d_J_isFragmentMove_17 : decode b_J_isFragmentMove 17 = .ok (.iload_n 0, 1) := by decide +kernel
theorem d_J_isFragmentMove_18 : decode b_J_isFragmentMove 18 = .ok (.invokestatic 202, 3) := by decide +kernel
theorem d_J_isFragmentMove_21 : decode b_J_isFragmentMove 21 = .ok (.iload_n 1, 1) := by decide +kernel
theorem d_J_isFragmentMove_22 : decode b_J_isFragmentMove 22 = .ok (.invokestatic 202, 3) := by decide +kernel
theorem d_J_isFragmentMove_25 : decode b_J_isFragmentMove 25 = .ok (.if_icmp .ne 7, 3) := by decide +kernel
theorem d_J_isFragmentMove_28 : decode b_J_isFragmentMove 28 = .ok (.iconst 1, 1) := by decide +kernel
theorem d_J_isFragmentMove_29 : decode b_J_isFragmentMove 29 = .ok (.goto 4, 3) := by decide +kernel
theorem d_J_isFragmentMove_32 : decode b_J_isFragmentMove 32 = .ok (.iconst 0, 1) := by decide +kernel
theorem d_J_isFragmentMove_33 : decode b_J_isFragmentMove 33 = .ok (.ireturn, 1) := by decide +kernel
theorem d_J_putEntry_0 : decode b_J_putEntry 0 = .ok (.iload 5, 2) := by decide +kernel
theorem d_J_putEntry_2 : decode b_J_putEntry 2 = .ok (.ifCond .eq 30, 3) := by decide +kernel
theorem d_J_putEntry_5 : decode b_J_putEntry 5 = .ok (.aload_n 0, 1) := by decide +kernel
theorem d_J_putEntry_6 : decode b_J_putEntry 6 = .ok (.dup, 1) := by decide +kernel
theorem d_J_putEntry_7 : decode b_J_putEntry 7 = .ok (.getfield 96, 3) := by decide +kernel
theorem d_J_putEntry_10 : decode b_J_putEntry 10 = .ok (.iconst 1, 1) := by decide +kernel
theorem d_J_putEntry_11 : decode b_J_putEntry 11 = .ok (.iadd, 1) := by decide +kernel
theorem d_J_putEntry_12 : decode b_J_putEntry 12 = .ok (.putfield 96, 3) := by decide +kernel
theorem d_J_putEntry_15 : decode b_J_putEntry 15 = .ok (.aload_n 0, 1) := by decide +kernel
theorem d_J_putEntry_16 : decode b_J_putEntry 16 = .ok (.aload_n 1, 1) := by decide +kernel
theorem d_J_putEntry_17 : decode b_J_putEntry 17 = .ok (.getfield 135, 3) := by decide +kernel
theorem d_J_putEntry_20 : decode b_J_putEntry 20 = .ok (.aload_n 0, 1) := by decide +kernel
theorem d_J_putEntry_21 : decode b_J_putEntry 21 = .ok (.getfield 96, 3) := by decide +kernel
theorem d_J_putEntry_24 : decode b_J_putEntry 24 = .ok (.iload_n 2, 1) := by decide +kernel
theorem d_J_putEntry_25 : decode b_J_putEntry 25 = .ok (.iload_n 3, 1) := by decide +kernel
theorem d_J_putEntry_26 : decode b_J_putEntry 26 = .ok (.aload 4, 2) := by decide +kernel
theorem d_J_putEntry_28 : decode b_J_putEntry 28 = .ok (.invokevirtual 51, 3) := by decide +kernel
theorem d_J_putEntry_31 : decode b_J_putEntry 31 = .ok (.return_, 1) := by decide +kernel
theorem d_J_putEntry_32 : decode b_J_putEntry 32 = .ok (.aload_n 1, 1) := by decide +kernel
theorem d_J_putEntry_33 : decode b_J_putEntry 33 = .ok (.iload_n 2, 1) := by decide +kernel
theorem d_J_putEntry_34 : decode b_J_putEntry 34 = .ok (.putfield 103, 3) := by decide +kernel
theorem d_J_putEntry_37 : decode b_J_putEntry 37 = .ok (.aload_n 1, 1) := by decide +kernel
theorem d_J_putEntry_38 : decode b_J_putEntry 38 = .ok (.iload_n 3, 1) := by decide +kernel
theorem d_J_putEntry_39 : decode b_J_putEntry 39 = .ok (.putfield 165, 3) := by decide +kernel
theorem d_J_putEntry_42 : decode b_J_putEntry 42 = .ok (.aload_n 1, 1) := by decide +kernel
theorem d_J_putEntry_43 : decode b_J_putEntry 43 = .ok (.aload 4, 2) := by decide +kernel
theorem d_J_putEntry_45 : decode b_J_putEntry 45 = .ok (.putfield 120, 3) := by decide +kernel
theorem d_J_putEntry_48 : decode b_J_putEntry 48 = .ok (.aload_n 0, 1) := by decide +kernel
theorem d_J_putEntry_49 : decode b_J_putEntry 49 = .ok (.invokevirtual 157, 3) := by decide +kernel
theorem d_J_putEntry_52 : decode b_J_putEntry 52 = .ok (.aload_n 0, 1) := by decide +kernel
theorem d_J_putEntry_53 : decode b_J_putEntry 53 = .ok (.invokevirtual 160, 3) := by decide +kernel
theorem d_J_putEntry_56 : decode b_J_putEntry 56 = .ok (.return_, 1) := by decide +kernel
