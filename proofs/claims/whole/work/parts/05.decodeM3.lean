theorem d_M_detach_0 : decode b_M_detach 0 = .ok (.iload_n 1, 1) := by decide +kernel
theorem d_M_detach_1 : decode b_M_detach 1 = .ok (.ifCond .ne 6, 3) := by decide +kernel
theorem d_M_detach_4 : decode b_M_detach 4 = .ok (.bipush (-3), 2) := by decide +kernel
theorem d_M_detach_6 : decode b_M_detach 6 = .ok (.ireturn, 1) := by decide +kernel
theorem d_M_detach_7 : decode b_M_detach 7 = .ok (.aload_n 0, 1) := by decide +kernel
theorem d_M_detach_8 : decode b_M_detach 8 = .ok (.iload_n 1, 1) := by decide +kernel
theorem d_M_detach_9 : decode b_M_detach 9 = .ok (.invokevirtual 146, 3) := by decide +kernel
theorem d_M_detach_12 : decode b_M_detach 12 = .ok (.ifCond .ne 6, 3) := by decide +kernel
theorem d_M_detach_15 : decode b_M_detach 15 = .ok (.bipush (-4), 2) := by decide +kernel
theorem d_M_detach_17 : decode b_M_detach 17 = .ok (.ireturn, 1) := by decide +kernel
theorem d_M_detach_18 : decode b_M_detach 18 = .ok (.aload_n 0, 1) := by decide +kernel
theorem d_M_detach_19 : decode b_M_detach 19 = .ok (.getfield 59, 3) := by decide +kernel
theorem d_M_detach_22 : decode b_M_detach 22 = .ok (.iload_n 1, 1) := by decide +kernel
theorem d_M_detach_23 : decode b_M_detach 23 = .ok (.iaload, 1) := by decide +kernel
theorem d_M_detach_24 : decode b_M_detach 24 = .ok (.istore_n 2, 1) := by decide +kernel
theorem d_M_detach_25 : decode b_M_detach 25 = .ok (.aload_n 0, 1) := by decide +kernel
theorem d_M_detach_26 : decode b_M_detach 26 = .ok (.getfield 50, 3) := by decide +kernel
theorem d_M_detach_29 : decode b_M_detach 29 = .ok (.iload_n 2, 1) := by decide +kernel
theorem d_M_detach_30 : decode b_M_detach 30 = .ok (.iaload, 1) := by decide +kernel
theorem d_M_detach_31 : decode b_M_detach 31 = .ok (.iload_n 1, 1) := by decide +kernel
theorem d_M_detach_32 : decode b_M_detach 32 = .ok (.if_icmp .ne 15, 3) := by decide +kernel
theorem d_M_detach_35 : decode b_M_detach 35 = .ok (.aload_n 0, 1) := by decide +kernel
theorem d_M_detach_36 : decode b_M_detach 36 = .ok (.getfield 50, 3) := by decide +kernel
theorem d_M_detach_39 : decode b_M_detach 39 = .ok (.iload_n 2, 1) := by decide +kernel
theorem d_M_detach_40 : decode b_M_detach 40 = .ok (.aload_n 0, 1) := by decide +kernel
theorem d_M_detach_41 : decode b_M_detach 41 = .ok (.getfield 53, 3) := by decide +kernel
theorem d_M_detach_44 : decode b_M_detach 44 = .ok (.iload_n 2, 1) := by decide +kernel
theorem d_M_detach_45 : decode b_M_detach 45 = .ok (.iaload, 1) := by decide +kernel
theorem d_M_detach_46 : decode b_M_detach 46 = .ok (.iastore, 1) := by decide +kernel
theorem d_M_detach_47 : decode b_M_detach 47 = .ok (.aload_n 0, 1) := by decide +kernel
theorem d_M_detach_48 : decode b_M_detach 48 = .ok (.getfield 53, 3) := by decide +kernel
theorem d_M_detach_51 : decode b_M_detach 51 = .ok (.iload_n 2, 1) := by decide +kernel
theorem d_M_detach_52 : decode b_M_detach 52 = .ok (.iconst (-1), 1) := by decide +kernel
theorem d_M_detach_53 : decode b_M_detach 53 = .ok (.iastore, 1) := by decide +kernel
theorem d_M_detach_54 : decode b_M_detach 54 = .ok (.aload_n 0, 1) := by decide +kernel
theorem d_M_detach_55 : decode b_M_detach 55 = .ok (.invokevirtual 82, 3) := by decide +kernel
theorem d_M_detach_58 : decode b_M_detach 58 = .ok (.aload_n 0, 1) := by decide +kernel
theorem d_M_detach_59 : decode b_M_detach 59 = .ok (.invokevirtual 143, 3) := by decide +kernel
theorem d_M_detach_62 : decode b_M_detach 62 = .ok (.aload_n 0, 1) := by decide +kernel
theorem d_M_detach_63 : decode b_M_detach 63 = .ok (.getfield 130, 3) := by decide +kernel
theorem d_M_detach_66 : decode b_M_detach 66 = .ok (.ireturn, 1) := by decide +kernel
theorem d_M_url_0 : decode b_M_url 0 = .ok (.aload_n 0, 1) := by decide +kernel
theorem d_M_url_1 : decode b_M_url 1 = .ok (.iload_n 1, 1) := by decide +kernel
theorem d_M_url_2 : decode b_M_url 2 = .ok (.invokevirtual 146, 3) := by decide +kernel
theorem d_M_url_5 : decode b_M_url 5 = .ok (.ifCond .eq 16, 3) := by decide +kernel
theorem d_M_url_8 : decode b_M_url 8 = .ok (.aload_n 0, 1) := by decide +kernel
theorem d_M_url_9 : decode b_M_url 9 = .ok (.getfield 29, 3) := by decide +kernel
theorem d_M_url_12 : decode b_M_url 12 = .ok (.aload_n 0, 1) := by decide +kernel
theorem d_M_url_13 : decode b_M_url 13 = .ok (.iload_n 1, 1) := by decide +kernel
theorem d_M_url_14 : decode b_M_url 14 = .ok (.invokevirtual 124, 3) := by decide +kernel
theorem d_M_url_17 : decode b_M_url 17 = .ok (.iaload, 1) := by decide +kernel
theorem d_M_url_18 : decode b_M_url 18 = .ok (.goto 5, 3) := by decide +kernel
theorem d_M_url_21 : decode b_M_url 21 = .ok (.bipush (-4), 2) := by decide +kernel
theorem d_M_url_23 : decode b_M_url 23 = .ok (.ireturn, 1) := by decide +kernel
theorem d_M_state_0 : decode b_M_state 0 = .ok (.aload_n 0, 1) := by decide +kernel
theorem d_M_state_1 : decode b_M_state 1 = .ok (.iload_n 1, 1) := by decide +kernel
theorem d_M_state_2 : decode b_M_state 2 = .ok (.invokevirtual 146, 3) := by decide +kernel
theorem d_M_state_5 : decode b_M_state 5 = .ok (.ifCond .eq 17, 3) := by decide +kernel
theorem d_M_state_8 : decode b_M_state 8 = .ok (.aload_n 0, 1) := by decide +kernel
theorem d_M_state_9 : decode b_M_state 9 = .ok (.getfield 32, 3) := by decide +kernel
theorem d_M_state_12 : decode b_M_state 12 = .ok (.aload_n 0, 1) := by decide +kernel
theorem d_M_state_13 : decode b_M_state 13 = .ok (.iload_n 1, 1) := by decide +kernel
theorem d_M_state_14 : decode b_M_state 14 = .ok (.invokevirtual 124, 3) := by decide +kernel
theorem d_M_state_17 : decode b_M_state 17 = .ok (.iaload, 1) := by decide +kernel
theorem d_M_state_18 : decode b_M_state 18 = .ok (.i2l, 1) := by decide +kernel
theorem d_M_state_19 : decode b_M_state 19 = .ok (.goto 6, 3) := by decide +kernel
theorem d_M_state_22 : decode b_M_state 22 = .ok (.ldc2_w 170, 3) := by decide +kernel
theorem d_M_state_25 : decode b_M_state 25 = .ok (.lreturn, 1) := by decide +kernel
theorem d_M_step_0 : decode b_M_step 0 = .ok (.aload_n 0, 1) := by decide +kernel
theorem d_M_step_1 : decode b_M_step 1 = .ok (.iload_n 1, 1) := by decide +kernel
theorem d_M_step_2 : decode b_M_step 2 = .ok (.invokevirtual 146, 3) := by decide +kernel
theorem d_M_step_5 : decode b_M_step 5 = .ok (.ifCond .eq 16, 3) := by decide +kernel
theorem d_M_step_8 : decode b_M_step 8 = .ok (.aload_n 0, 1) := by decide +kernel
theorem d_M_step_9 : decode b_M_step 9 = .ok (.getfield 26, 3) := by decide +kernel
theorem d_M_step_12 : decode b_M_step 12 = .ok (.aload_n 0, 1) := by decide +kernel
theorem d_M_step_13 : decode b_M_step 13 = .ok (.iload_n 1, 1) := by decide +kernel
theorem d_M_step_14 : decode b_M_step 14 = .ok (.invokevirtual 124, 3) := by decide +kernel
theorem d_M_step_17 : decode b_M_step 17 = .ok (.iaload, 1) := by decide +kernel
theorem d_M_step_18 : decode b_M_step 18 = .ok (.goto 5, 3) := by decide +kernel
theorem d_M_step_21 : decode b_M_step 21 = .ok (.bipush (-4), 2) := by decide +kernel
theorem d_M_step_23 : decode b_M_step 23 = .ok (.ireturn, 1) := by decide +kernel
theorem d_M_origin_0 : decode b_M_origin 0 = .ok (.aload_n 0, 1) := by decide +kernel
theorem d_M_origin_1 : decode b_M_origin 1 = .ok (.iload_n 1, 1) := by decide +kernel
theorem d_M_origin_2 : decode b_M_origin 2 = .ok (.invokevirtual 146, 3) := by decide +kernel
theorem d_M_origin_5 : decode b_M_origin 5 = .ok (.ifCond .eq 21, 3) := by decide +kernel
theorem d_M_origin_8 : decode b_M_origin 8 = .ok (.aload_n 0, 1) := by decide +kernel
theorem d_M_origin_9 : decode b_M_origin 9 = .ok (.getfield 44, 3) := by decide +kernel
theorem d_M_origin_12 : decode b_M_origin 12 = .ok (.aload_n 0, 1) := by decide +kernel
theorem d_M_origin_13 : decode b_M_origin 13 = .ok (.getfield 35, 3) := by decide +kernel
theorem d_M_origin_16 : decode b_M_origin 16 = .ok (.aload_n 0, 1) := by decide +kernel
theorem d_M_origin_17 : decode b_M_origin 17 = .ok (.iload_n 1, 1) := by decide +kernel
theorem d_M_origin_18 : decode b_M_origin 18 = .ok (.invokevirtual 124, 3) := by decide +kernel
theorem d_M_origin_21 : decode b_M_origin 21 = .ok (.iaload, 1) := by decide +kernel
theorem d_M_origin_22 : decode b_M_origin 22 = .ok (.iaload, 1) := by decide +kernel
theorem d_M_origin_23 : decode b_M_origin 23 = .ok (.goto 5, 3) := by decide +kernel
theorem d_M_origin_26 : decode b_M_origin 26 = .ok (.bipush (-4), 2) := by decide +kernel
theorem d_M_origin_28 : decode b_M_origin 28 = .ok (.ireturn, 1) := by decide +kernel
theorem d_M_frame_0 : decode b_M_frame 0 = .ok (.aload_n 0, 1) := by decide +kernel
theorem d_M_frame_1 : decode b_M_frame 1 = .ok (.iload_n 1, 1) := by decide +kernel
theorem d_M_frame_2 : decode b_M_frame 2 = .ok (.invokevirtual 146, 3) := by decide +kernel
theorem d_M_frame_5 : decode b_M_frame 5 = .ok (.ifCond .ne 6, 3) := by decide +kernel
theorem d_M_frame_8 : decode b_M_frame 8 = .ok (.bipush (-4), 2) := by decide +kernel
theorem d_M_frame_10 : decode b_M_frame 10 = .ok (.ireturn, 1) := by decide +kernel
theorem d_M_frame_11 : decode b_M_frame 11 = .ok (.aload_n 0, 1) := by decide +kernel
theorem d_M_frame_12 : decode b_M_frame 12 = .ok (.getfield 35, 3) := by decide +kernel
theorem d_M_frame_15 : decode b_M_frame 15 = .ok (.aload_n 0, 1) := by decide +kernel
theorem d_M_frame_16 : decode b_M_frame 16 = .ok (.iload_n 1, 1) := by decide +kernel
theorem d_M_frame_17 : decode b_M_frame 17 = .ok (.invokevirtual 124, 3) := by decide +kernel
theorem d_M_frame_20 : decode b_M_frame 20 = .ok (.iaload, 1) := by decide +kernel
theorem d_M_frame_21 : decode b_M_frame 21 = .ok (.istore_n 3, 1) := by decide +kernel
theorem d_M_frame_22 : decode b_M_frame 22 = .ok (.iload_n 2, 1) := by decide +kernel
theorem d_M_frame_23 : decode b_M_frame 23 = .ok (.ifCond .ne 12, 3) := by decide +kernel
theorem d_M_frame_26 : decode b_M_frame 26 = .ok (.aload_n 0, 1) := by decide +kernel
theorem d_M_frame_27 : decode b_M_frame 27 = .ok (.getfield 50, 3) := by decide +kernel
theorem d_M_frame_30 : decode b_M_frame 30 = .ok (.iload_n 3, 1) := by decide +kernel
theorem d_M_frame_31 : decode b_M_frame 31 = .ok (.iaload, 1) := by decide +kernel
theorem d_M_frame_32 : decode b_M_frame 32 = .ok (.goto 18, 3) := by decide +kernel
theorem d_M_frame_35 : decode b_M_frame 35 = .ok (.iload_n 2, 1) := by decide +kernel
theorem d_M_frame_36 : decode b_M_frame 36 = .ok (.iconst 1, 1) := by decide +kernel
theorem d_M_frame_37 : decode b_M_frame 37 = .ok (.if_icmp .ne 12, 3) := by decide +kernel
theorem d_M_frame_40 : decode b_M_frame 40 = .ok (.aload_n 0, 1) := by decide +kernel
theorem d_M_frame_41 : decode b_M_frame 41 = .ok (.getfield 53, 3) := by decide +kernel
theorem d_M_frame_44 : decode b_M_frame 44 = .ok (.iload_n 3, 1) := by decide +kernel
theorem d_M_frame_45 : decode b_M_frame 45 = .ok (.iaload, 1) := by decide +kernel
theorem d_M_frame_46 : decode b_M_frame 46 = .ok (.goto 4, 3) := by decide +kernel
theorem d_M_frame_49 : decode b_M_frame 49 = .ok (.iconst (-1), 1) := by decide +kernel
theorem d_M_frame_50 : decode b_M_frame 50 = .ok (.istore 4, 2) := by decide +kernel
theorem d_M_frame_52 : decode b_M_frame 52 = .ok (.iload 4, 2) := by decide +kernel
theorem d_M_frame_54 : decode b_M_frame 54 = .ok (.ifCond .ge 8, 3) := by decide +kernel
theorem d_M_frame_57 : decode b_M_frame 57 = .ok (.bipush (-7), 2) := by decide +kernel
theorem d_M_frame_59 : decode b_M_frame 59 = .ok (.goto 5, 3) := by decide +kernel
theorem d_M_frame_62 : decode b_M_frame 62 = .ok (.iload 4, 2) := by decide +kernel
theorem d_M_frame_64 : decode b_M_frame 64 = .ok (.ireturn, 1) := by decide +kernel
theorem d_M_entries_0 : decode b_M_entries 0 = .ok (.iconst 0, 1) := by decide +kernel
theorem d_M_entries_1 : decode b_M_entries 1 = .ok (.istore_n 2, 1) := by decide +kernel
theorem d_M_entries_2 : decode b_M_entries 2 = .ok (.iconst 0, 1) := by decide +kernel
theorem d_M_entries_3 : decode b_M_entries 3 = .ok (.istore_n 3, 1) := by decide +kernel
theorem d_M_entries_4 : decode b_M_entries 4 = .ok (.iload_n 3, 1) := by decide +kernel
theorem d_M_entries_5 : decode b_M_entries 5 = .ok (.bipush 48, 2) := by decide +kernel
theorem d_M_entries_7 : decode b_M_entries 7 = .ok (.if_icmp .ge 36, 3) := by decide +kernel
theorem d_M_entries_10 : decode b_M_entries 10 = .ok (.aload_n 0, 1) := by decide +kernel
theorem d_M_entries_11 : decode b_M_entries 11 = .ok (.getfield 38, 3) := by decide +kernel
theorem d_M_entries_14 : decode b_M_entries 14 = .ok (.iload_n 3, 1) := by decide +kernel
theorem d_M_entries_15 : decode b_M_entries 15 = .ok (.baload, 1) := by decide +kernel
theorem d_M_entries_16 : decode b_M_entries 16 = .ok (.ifCond .eq 19, 3) := by decide +kernel
theorem d_M_entries_19 : decode b_M_entries 19 = .ok (.aload_n 0, 1) := by decide +kernel
theorem d_M_entries_20 : decode b_M_entries 20 = .ok (.getfield 23, 3) := by decide +kernel
theorem d_M_entries_23 : decode b_M_entries 23 = .ok (.iload_n 3, 1) := by decide +kernel
theorem d_M_entries_24 : decode b_M_entries 24 = .ok (.iaload, 1) := by decide +kernel
theorem d_M_entries_25 : decode b_M_entries 25 = .ok (.iload_n 1, 1) := by decide +kernel
theorem d_M_entries_26 : decode b_M_entries 26 = .ok (.if_icmp .ne 9, 3) := by decide +kernel
theorem d_M_entries_29 : decode b_M_entries 29 = .ok (.iload_n 2, 1) := by decide +kernel
theorem d_M_entries_30 : decode b_M_entries 30 = .ok (.iconst 1, 1) := by decide +kernel
theorem d_M_entries_31 : decode b_M_entries 31 = .ok (.iadd, 1) := by decide +kernel
theorem d_M_entries_32 : decode b_M_entries 32 = .ok (.goto 4, 3) := by decide +kernel
theorem d_M_entries_35 : decode b_M_entries 35 = .ok (.iload_n 2, 1) := by decide +kernel
theorem d_M_entries_36 : decode b_M_entries 36 = .ok (.istore_n 2, 1) := by decide +kernel
theorem d_M_entries_37 : decode b_M_entries 37 = .ok (.iinc 3 1, 3) := by decide +kernel
theorem d_M_entries_40 : decode b_M_entries 40 = .ok (.goto (-36), 3) := by decide +kernel
theorem d_M_entries_43 : decode b_M_entries 43 = .ok (.aload_n 0, 1) := by decide +kernel
theorem d_M_entries_44 : decode b_M_entries 44 = .ok (.iload_n 1, 1) := by decide +kernel
theorem d_M_entries_45 : decode b_M_entries 45 = .ok (.invokevirtual 146, 3) := by decide +kernel
theorem d_M_entries_48 : decode b_M_entries 48 = .ok (.ifCond .eq 7, 3) := by decide +kernel
theorem d_M_entries_51 : decode b_M_entries 51 = .ok (.iload_n 2, 1) := by decide +kernel
theorem d_M_entries_52 : decode b_M_entries 52 = .ok (.goto 5, 3) := by decide +kernel
theorem d_M_entries_55 : decode b_M_entries 55 = .ok (.bipush (-4), 2) := by decide +kernel
theorem d_M_entries_57 : decode b_M_entries 57 = .ok (.ireturn, 1) := by decide +kernel
theorem d_M_present_0 : decode b_M_present 0 = .ok (.aload_n 0, 1) := by decide +kernel
theorem d_M_present_1 : decode b_M_present 1 = .ok (.getfield 130, 3) := by decide +kernel
theorem d_M_present_4 : decode b_M_present 4 = .ok (.ireturn, 1) := by decide +kernel
theorem d_M_length_0 : decode b_M_length 0 = .ok (.iconst 0, 1) := by decide +kernel
theorem d_M_length_1 : decode b_M_length 1 = .ok (.istore_n 1, 1) := by decide +kernel
theorem d_M_length_2 : decode b_M_length 2 = .ok (.iconst 0, 1) := by decide +kernel
theorem d_M_length_3 : decode b_M_length 3 = .ok (.istore_n 2, 1) := by decide +kernel
theorem d_M_length_4 : decode b_M_length 4 = .ok (.iload_n 2, 1) := by decide +kernel
theorem d_M_length_5 : decode b_M_length 5 = .ok (.sipush 600, 3) := by decide +kernel
theorem d_M_length_8 : decode b_M_length 8 = .ok (.if_icmp .gt 25, 3) := by decide +kernel
theorem d_M_length_11 : decode b_M_length 11 = .ok (.aload_n 0, 1) := by decide +kernel
theorem d_M_length_12 : decode b_M_length 12 = .ok (.iload_n 2, 1) := by decide +kernel
theorem d_M_length_13 : decode b_M_length 13 = .ok (.invokevirtual 133, 3) := by decide +kernel
theorem d_M_length_16 : decode b_M_length 16 = .ok (.ifCond .eq 9, 3) := by decide +kernel
theorem d_M_length_19 : decode b_M_length 19 = .ok (.iload_n 1, 1) := by decide +kernel
theorem d_M_length_20 : decode b_M_length 20 = .ok (.iconst 1, 1) := by decide +kernel
theorem d_M_length_21 : decode b_M_length 21 = .ok (.iadd, 1) := by decide +kernel
theorem d_M_length_22 : decode b_M_length 22 = .ok (.goto 4, 3) := by decide +kernel
theorem d_M_length_25 : decode b_M_length 25 = .ok (.iload_n 1, 1) := by decide +kernel
theorem d_M_length_26 : decode b_M_length 26 = .ok (.istore_n 1, 1) := by decide +kernel
theorem d_M_length_27 : decode b_M_length 27 = .ok (.iinc 2 1, 3) := by decide +kernel
theorem d_M_length_30 : decode b_M_length 30 = .ok (.goto (-26), 3) := by decide +kernel
theorem d_M_length_33 : decode b_M_length 33 = .ok (.iload_n 1, 1) := by decide +kernel
theorem d_M_length_34 : decode b_M_length 34 = .ok (.ireturn, 1) := by decide +kernel
theorem d_M_count_0 : decode b_M_count 0 = .ok (.iconst 0, 1) := by decide +kernel
theorem d_M_count_1 : decode b_M_count 1 = .ok (.istore_n 2, 1) := by decide +kernel
theorem d_M_count_2 : decode b_M_count 2 = .ok (.iconst 0, 1) := by decide +kernel
theorem d_M_count_3 : decode b_M_count 3 = .ok (.istore_n 3, 1) := by decide +kernel
theorem d_M_count_4 : decode b_M_count 4 = .ok (.iconst 0, 1) := by decide +kernel
theorem d_M_count_5 : decode b_M_count 5 = .ok (.istore 4, 2) := by decide +kernel
theorem d_M_count_7 : decode b_M_count 7 = .ok (.iconst 0, 1) := by decide +kernel
theorem d_M_count_8 : decode b_M_count 8 = .ok (.istore 5, 2) := by decide +kernel
theorem d_M_count_10 : decode b_M_count 10 = .ok (.iload 5, 2) := by decide +kernel
theorem d_M_count_12 : decode b_M_count 12 = .ok (.bipush 48, 2) := by decide +kernel
theorem d_M_count_14 : decode b_M_count 14 = .ok (.if_icmp .ge 66, 3) := by decide +kernel
theorem d_M_count_17 : decode b_M_count 17 = .ok (.aload_n 0, 1) := by decide +kernel
theorem d_M_count_18 : decode b_M_count 18 = .ok (.getfield 62, 3) := by decide +kernel
theorem d_M_count_21 : decode b_M_count 21 = .ok (.iload 5, 2) := by decide +kernel
theorem d_M_count_23 : decode b_M_count 23 = .ok (.baload, 1) := by decide +kernel
theorem d_M_count_24 : decode b_M_count 24 = .ok (.ifCond .eq 9, 3) := by decide +kernel
theorem d_M_count_27 : decode b_M_count 27 = .ok (.iload_n 2, 1) := by decide +kernel
theorem d_M_count_28 : decode b_M_count 28 = .ok (.iconst 1, 1) := by decide +kernel
theorem d_M_count_29 : decode b_M_count 29 = .ok (.iadd, 1) := by decide +kernel
theorem d_M_count_30 : decode b_M_count 30 = .ok (.goto 4, 3) := by decide +kernel
theorem d_M_count_33 : decode b_M_count 33 = .ok (.iload_n 2, 1) := by decide +kernel
theorem d_M_count_34 : decode b_M_count 34 = .ok (.istore_n 2, 1) := by decide +kernel
theorem d_M_count_35 : decode b_M_count 35 = .ok (.aload_n 0, 1) := by decide +kernel
theorem d_M_count_36 : decode b_M_count 36 = .ok (.getfield 56, 3) := by decide +kernel
theorem d_M_count_39 : decode b_M_count 39 = .ok (.iload 5, 2) := by decide +kernel
theorem d_M_count_41 : decode b_M_count 41 = .ok (.baload, 1) := by decide +kernel
theorem d_M_count_42 : decode b_M_count 42 = .ok (.ifCond .eq 9, 3) := by decide +kernel
theorem d_M_count_45 : decode b_M_count 45 = .ok (.iload_n 3, 1) := by decide +kernel
theorem d_M_count_46 : decode b_M_count 46 = .ok (.iconst 1, 1) := by decide +kernel
theorem d_M_count_47 : decode b_M_count 47 = .ok (.iadd, 1) := by decide +kernel
theorem d_M_count_48 : decode b_M_count 48 = .ok (.goto 4, 3) := by decide +kernel
theorem d_M_count_51 : decode b_M_count 51 = .ok (.iload_n 3, 1) := by decide +kernel
theorem d_M_count_52 : decode b_M_count 52 = .ok (.istore_n 3, 1) := by decide +kernel
theorem d_M_count_53 : decode b_M_count 53 = .ok (.aload_n 0, 1) := by decide +kernel
theorem d_M_count_54 : decode b_M_count 54 = .ok (.getfield 38, 3) := by decide +kernel
theorem d_M_count_57 : decode b_M_count 57 = .ok (.iload 5, 2) := by decide +kernel
theorem d_M_count_59 : decode b_M_count 59 = .ok (.baload, 1) := by decide +kernel
theorem d_M_count_60 : decode b_M_count 60 = .ok (.ifCond .eq 10, 3) := by decide +kernel
theorem d_M_count_63 : decode b_M_count 63 = .ok (.iload 4, 2) := by decide +kernel
theorem d_M_count_65 : decode b_M_count 65 = .ok (.iconst 1, 1) := by decide +kernel
theorem d_M_count_66 : decode b_M_count 66 = .ok (.iadd, 1) := by decide +kernel
theorem d_M_count_67 : decode b_M_count 67 = .ok (.goto 5, 3) := by decide +kernel
theorem d_M_count_70 : decode b_M_count 70 = .ok (.iload 4, 2) := by decide +kernel
theorem d_M_count_72 : decode b_M_count 72 = .ok (.istore 4, 2) := by decide +kernel
theorem d_M_count_74 : decode b_M_count 74 = .ok (.iinc 5 1, 3) := by decide +kernel
theorem d_M_count_77 : decode b_M_count 77 = .ok (.goto (-67), 3) := by decide +kernel
theorem d_M_count_80 : decode b_M_count 80 = .ok (.iload_n 1, 1) := by decide +kernel
theorem d_M_count_81 : decode b_M_count 81 = .ok (.ifCond .ne 7, 3) := by decide +kernel
theorem d_M_count_84 : decode b_M_count 84 = .ok (.iload_n 2, 1) := by decide +kernel
theorem d_M_count_85 : decode b_M_count 85 = .ok (.goto 60, 3) := by decide +kernel
theorem d_M_count_88 : decode b_M_count 88 = .ok (.iload_n 1, 1) := by decide +kernel
theorem d_M_count_89 : decode b_M_count 89 = .ok (.iconst 1, 1) := by decide +kernel
theorem d_M_count_90 : decode b_M_count 90 = .ok (.if_icmp .ne 7, 3) := by decide +kernel
theorem d_M_count_93 : decode b_M_count 93 = .ok (.iload_n 3, 1) := by decide +kernel
theorem d_M_count_94 : decode b_M_count 94 = .ok (.goto 51, 3) := by decide +kernel
theorem d_M_count_97 : decode b_M_count 97 = .ok (.iload_n 1, 1) := by decide +kernel
theorem d_M_count_98 : decode b_M_count 98 = .ok (.iconst 2, 1) := by decide +kernel
theorem d_M_count_99 : decode b_M_count 99 = .ok (.if_icmp .ne 8, 3) := by decide +kernel
theorem d_M_count_102 : decode b_M_count 102 = .ok (.iload 4, 2) := by decide +kernel
theorem d_M_count_104 : decode b_M_count 104 = .ok (.goto 41, 3) := by decide +kernel
theorem d_M_count_107 : decode b_M_count 107 = .ok (.iload_n 1, 1) := by decide +kernel
theorem d_M_count_108 : decode b_M_count 108 = .ok (.iconst 3, 1) := by decide +kernel
theorem d_M_count_109 : decode b_M_count 109 = .ok (.if_icmp .ne 10, 3) := by decide +kernel
theorem d_M_count_112 : decode b_M_count 112 = .ok (.aload_n 0, 1) := by decide +kernel
theorem d_M_count_113 : decode b_M_count 113 = .ok (.getfield 167, 3) := by decide +kernel
theorem d_M_count_116 : decode b_M_count 116 = .ok (.goto 29, 3) := by decide +kernel
theorem d_M_count_119 : decode b_M_count 119 = .ok (.iload_n 1, 1) := by decide +kernel
theorem d_M_count_120 : decode b_M_count 120 = .ok (.iconst 4, 1) := by decide +kernel
theorem d_M_count_121 : decode b_M_count 121 = .ok (.if_icmp .ne 10, 3) := by decide +kernel
theorem d_M_count_124 : decode b_M_count 124 = .ok (.aload_n 0, 1) := by decide +kernel
theorem d_M_count_125 : decode b_M_count 125 = .ok (.getfield 156, 3) := by decide +kernel
theorem d_M_count_128 : decode b_M_count 128 = .ok (.goto 17, 3) := by decide +kernel
theorem d_M_count_131 : decode b_M_count 131 = .ok (.iload_n 1, 1) := by decide +kernel
theorem d_M_count_132 : decode b_M_count 132 = .ok (.iconst 5, 1) := by decide +kernel
theorem d_M_count_133 : decode b_M_count 133 = .ok (.if_icmp .ne 10, 3) := by decide +kernel
theorem d_M_count_136 : decode b_M_count 136 = .ok (.aload_n 0, 1) := by decide +kernel
theorem d_M_count_137 : decode b_M_count 137 = .ok (.getfield 89, 3) := by decide +kernel
theorem d_M_count_140 : decode b_M_count 140 = .ok (.goto 5, 3) := by decide +kernel
theorem d_M_count_143 : decode b_M_count 143 = .ok (.bipush (-7), 2) := by decide +kernel
theorem d_M_count_145 : decode b_M_count 145 = .ok (.ireturn, 1) := by decide +kernel
