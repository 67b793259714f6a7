theorem d_A_init_0 : decode b_A_init 0 = .ok (.aload_n 0, 1) := by decide +kernel
theorem d_A_init_1 : decode b_A_init 1 = .ok (.invokespecial 3, 3) := by decide +kernel
theorem d_A_init_4 : decode b_A_init 4 = .ok (.aload_n 0, 1) := by decide +kernel
theorem d_A_init_5 : decode b_A_init 5 = .ok (.getstatic 9, 3) := by decide +kernel
theorem d_A_init_8 : decode b_A_init 8 = .ok (.putfield 15, 3) := by decide +kernel
theorem d_A_init_11 : decode b_A_init 11 = .ok (.aload_n 0, 1) := by decide +kernel
theorem d_A_init_12 : decode b_A_init 12 = .ok (.bipush (-2), 2) := by decide +kernel
theorem d_A_init_14 : decode b_A_init 14 = .ok (.putfield 20, 3) := by decide +kernel
theorem d_A_init_17 : decode b_A_init 17 = .ok (.aload_n 0, 1) := by decide +kernel
theorem d_A_init_18 : decode b_A_init 18 = .ok (.bipush (-2), 2) := by decide +kernel
theorem d_A_init_20 : decode b_A_init 20 = .ok (.putfield 24, 3) := by decide +kernel
theorem d_A_init_23 : decode b_A_init 23 = .ok (.return_, 1) := by decide +kernel
theorem d_N_init_0 : decode b_N_init 0 = .ok (.aload_n 0, 1) := by decide +kernel
theorem d_N_init_1 : decode b_N_init 1 = .ok (.invokespecial 1, 3) := by decide +kernel
theorem d_N_init_4 : decode b_N_init 4 = .ok (.aload_n 0, 1) := by decide +kernel
theorem d_N_init_5 : decode b_N_init 5 = .ok (.iload_n 1, 1) := by decide +kernel
theorem d_N_init_6 : decode b_N_init 6 = .ok (.putfield 7, 3) := by decide +kernel
theorem d_N_init_9 : decode b_N_init 9 = .ok (.return_, 1) := by decide +kernel
theorem d_D_init_0 : decode b_D_init 0 = .ok (.aload_n 0, 1) := by decide +kernel
theorem d_D_init_1 : decode b_D_init 1 = .ok (.invokespecial 1, 3) := by decide +kernel
theorem d_D_init_4 : decode b_D_init 4 = .ok (.return_, 1) := by decide +kernel
theorem d_E_init_0 : decode b_E_init 0 = .ok (.aload_n 0, 1) := by decide +kernel
theorem d_E_init_1 : decode b_E_init 1 = .ok (.invokespecial 1, 3) := by decide +kernel
theorem d_E_init_4 : decode b_E_init 4 = .ok (.return_, 1) := by decide +kernel
