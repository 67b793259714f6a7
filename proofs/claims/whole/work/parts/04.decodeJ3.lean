theorem d_J_present_0 : decode b_J_present 0 = .ok (.aload_n 0, 1) := by decide +kernel
theorem d_J_present_1 : decode b_J_present 1 = .ok (.getfield 96, 3) := by decide +kernel
theorem d_J_present_4 : decode b_J_present 4 = .ok (.ireturn, 1) := by decide +kernel
theorem d_J_length_0 : decode b_J_length 0 = .ok (.aload_n 0, 1) := by decide +kernel
theorem d_J_length_1 : decode b_J_length 1 = .ok (.invokevirtual 142, 3) := by decide +kernel
theorem d_J_length_4 : decode b_J_length 4 = .ok (.ireturn, 1) := by decide +kernel
theorem d_J_count_0 : decode b_J_count 0 = .ok (.iload_n 1, 1) := by decide +kernel
theorem d_J_count_1 : decode b_J_count 1 = .ok (.tableswitch 71 0 5 #[39, 44, 49, 56, 61, 66], 39) := by decide +kernel
theorem d_J_count_40 : decode b_J_count 40 = .ok (.aload_n 0, 1) := by decide +kernel
theorem d_J_count_41 : decode b_J_count 41 = .ok (.invokevirtual 180, 3) := by decide +kernel
theorem d_J_count_44 : decode b_J_count 44 = .ok (.ireturn, 1) := by decide +kernel
theorem d_J_count_45 : decode b_J_count 45 = .ok (.aload_n 0, 1) := by decide +kernel
theorem d_J_count_46 : decode b_J_count 46 = .ok (.invokevirtual 183, 3) := by decide +kernel
theorem d_J_count_49 : decode b_J_count 49 = .ok (.ireturn, 1) := by decide +kernel
theorem d_J_count_50 : decode b_J_count 50 = .ok (.aload_n 0, 1) := by decide +kernel
theorem d_J_count_51 : decode b_J_count 51 = .ok (.ldc 186, 2) := by decide +kernel
theorem d_J_count_53 : decode b_J_count 53 = .ok (.invokevirtual 187, 3) := by decide +kernel
theorem d_J_count_56 : decode b_J_count 56 = .ok (.ireturn, 1) := by decide +kernel
theorem d_J_count_57 : decode b_J_count 57 = .ok (.aload_n 0, 1) := by decide +kernel
theorem d_J_count_58 : decode b_J_count 58 = .ok (.getfield 190, 3) := by decide +kernel
theorem d_J_count_61 : decode b_J_count 61 = .ok (.ireturn, 1) := by decide +kernel
theorem d_J_count_62 : decode b_J_count 62 = .ok (.aload_n 0, 1) := by decide +kernel
theorem d_J_count_63 : decode b_J_count 63 = .ok (.getfield 117, 3) := by decide +kernel
theorem d_J_count_66 : decode b_J_count 66 = .ok (.ireturn, 1) := by decide +kernel
theorem d_J_count_67 : decode b_J_count 67 = .ok (.aload_n 0, 1) := by decide +kernel
theorem d_J_count_68 : decode b_J_count 68 = .ok (.getfield 193, 3) := by decide +kernel
theorem d_J_count_71 : decode b_J_count 71 = .ok (.ireturn, 1) := by decide +kernel
theorem d_J_count_72 : decode b_J_count 72 = .ok (.bipush (-7), 2) := by decide +kernel
theorem d_J_count_74 : decode b_J_count 74 = .ok (.ireturn, 1) := by decide +kernel
theorem d_J_shownNavigables_0 : decode b_J_shownNavigables 0 = .ok (.iconst 0, 1) := by decide +kernel
theorem d_J_shownNavigables_1 : decode b_J_shownNavigables 1 = .ok (.istore_n 1, 1) := by decide +kernel
theorem d_J_shownNavigables_2 : decode b_J_shownNavigables 2 = .ok (.iconst 0, 1) := by decide +kernel
theorem d_J_shownNavigables_3 : decode b_J_shownNavigables 3 = .ok (.istore_n 2, 1) := by decide +kernel
theorem d_J_shownNavigables_4 : decode b_J_shownNavigables 4 = .ok (.iload_n 2, 1) := by decide +kernel
theorem d_J_shownNavigables_5 : decode b_J_shownNavigables 5 = .ok (.bipush 40, 2) := by decide +kernel
theorem d_J_shownNavigables_7 : decode b_J_shownNavigables 7 = .ok (.if_icmp .ge 24, 3) := by decide +kernel
theorem d_J_shownNavigables_10 : decode b_J_shownNavigables 10 = .ok (.aload_n 0, 1) := by decide +kernel
theorem d_J_shownNavigables_11 : decode b_J_shownNavigables 11 = .ok (.iload_n 2, 1) := by decide +kernel
theorem d_J_shownNavigables_12 : decode b_J_shownNavigables 12 = .ok (.aload_n 0, 1) := by decide +kernel
theorem d_J_shownNavigables_13 : decode b_J_shownNavigables 13 = .ok (.getfield 96, 3) := by decide +kernel
theorem d_J_shownNavigables_16 : decode b_J_shownNavigables 16 = .ok (.invokevirtual 99, 3) := by decide +kernel
theorem d_J_shownNavigables_19 : decode b_J_shownNavigables 19 = .ok (.ifnull 6, 3) := by decide +kernel
theorem d_J_shownNavigables_22 : decode b_J_shownNavigables 22 = .ok (.iinc 1 1, 3) := by decide +kernel
theorem d_J_shownNavigables_25 : decode b_J_shownNavigables 25 = .ok (.iinc 2 1, 3) := by decide +kernel
theorem d_J_shownNavigables_28 : decode b_J_shownNavigables 28 = .ok (.goto (-24), 3) := by decide +kernel
theorem d_J_shownNavigables_31 : decode b_J_shownNavigables 31 = .ok (.iload_n 1, 1) := by decide +kernel
theorem d_J_shownNavigables_32 : decode b_J_shownNavigables 32 = .ok (.ireturn, 1) := by decide +kernel
theorem d_J_allNavigables_0 : decode b_J_allNavigables 0 = .ok (.iconst 0, 1) := by decide +kernel
theorem d_J_allNavigables_1 : decode b_J_allNavigables 1 = .ok (.istore_n 1, 1) := by decide +kernel
theorem d_J_allNavigables_2 : decode b_J_allNavigables 2 = .ok (.aload_n 0, 1) := by decide +kernel
theorem d_J_allNavigables_3 : decode b_J_allNavigables 3 = .ok (.getfield 17, 3) := by decide +kernel
theorem d_J_allNavigables_6 : decode b_J_allNavigables 6 = .ok (.astore_n 2, 1) := by decide +kernel
theorem d_J_allNavigables_7 : decode b_J_allNavigables 7 = .ok (.aload_n 2, 1) := by decide +kernel
theorem d_J_allNavigables_8 : decode b_J_allNavigables 8 = .ok (.arraylength, 1) := by decide +kernel
theorem d_J_allNavigables_9 : decode b_J_allNavigables 9 = .ok (.istore_n 3, 1) := by decide +kernel
theorem d_J_allNavigables_10 : decode b_J_allNavigables 10 = .ok (.iconst 0, 1) := by decide +kernel
theorem d_J_allNavigables_11 : decode b_J_allNavigables 11 = .ok (.istore 4, 2) := by decide +kernel
theorem d_J_allNavigables_13 : decode b_J_allNavigables 13 = .ok (.iload 4, 2) := by decide +kernel
theorem d_J_allNavigables_15 : decode b_J_allNavigables 15 = .ok (.iload_n 3, 1) := by decide +kernel
theorem d_J_allNavigables_16 : decode b_J_allNavigables 16 = .ok (.if_icmp .ge 26, 3) := by decide +kernel
theorem d_J_allNavigables_19 : decode b_J_allNavigables 19 = .ok (.aload_n 2, 1) := by decide +kernel
theorem d_J_allNavigables_20 : decode b_J_allNavigables 20 = .ok (.iload 4, 2) := by decide +kernel
theorem d_J_allNavigables_22 : decode b_J_allNavigables 22 = .ok (.aaload, 1) := by decide +kernel
theorem d_J_allNavigables_23 : decode b_J_allNavigables 23 = .ok (.astore 5, 2) := by decide +kernel
theorem d_J_allNavigables_25 : decode b_J_allNavigables 25 = .ok (.aload 5, 2) := by decide +kernel
theorem d_J_allNavigables_27 : decode b_J_allNavigables 27 = .ok (.getfield 43, 3) := by decide +kernel
theorem d_J_allNavigables_30 : decode b_J_allNavigables 30 = .ok (.ifCond .eq 6, 3) := by decide +kernel
theorem d_J_allNavigables_33 : decode b_J_allNavigables 33 = .ok (.iinc 1 1, 3) := by decide +kernel
theorem d_J_allNavigables_36 : decode b_J_allNavigables 36 = .ok (.iinc 4 1, 3) := by decide +kernel
theorem d_J_allNavigables_39 : decode b_J_allNavigables 39 = .ok (.goto (-26), 3) := by decide +kernel
theorem d_J_allNavigables_42 : decode b_J_allNavigables 42 = .ok (.iload_n 1, 1) := by decide +kernel
theorem d_J_allNavigables_43 : decode b_J_allNavigables 43 = .ok (.ireturn, 1) := by decide +kernel
