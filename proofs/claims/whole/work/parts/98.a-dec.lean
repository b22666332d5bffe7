theorem d_Bal_init_0 : decode b_Bal_init 0 = .ok (.aload_n 0, 1) := by decide +kernel
theorem d_Bal_init_1 : decode b_Bal_init 1 = .ok (.invokespecial 3, 3) := by decide +kernel
theorem d_Bal_init_4 : decode b_Bal_init 4 = .ok (.aload_n 0, 1) := by decide +kernel
theorem d_Bal_init_5 : decode b_Bal_init 5 = .ok (.new 9, 3) := by decide +kernel
theorem d_Bal_init_8 : decode b_Bal_init 8 = .ok (.dup, 1) := by decide +kernel
theorem d_Bal_init_9 : decode b_Bal_init 9 = .ok (.invokespecial 11, 3) := by decide +kernel
theorem d_Bal_init_12 : decode b_Bal_init 12 = .ok (.putfield 12, 3) := by decide +kernel
theorem d_Bal_init_15 : decode b_Bal_init 15 = .ok (.aload_n 0, 1) := by decide +kernel
theorem d_Bal_init_16 : decode b_Bal_init 16 = .ok (.new 18, 3) := by decide +kernel
theorem d_Bal_init_19 : decode b_Bal_init 19 = .ok (.dup, 1) := by decide +kernel
theorem d_Bal_init_20 : decode b_Bal_init 20 = .ok (.ldc 20, 2) := by decide +kernel
theorem d_Bal_init_22 : decode b_Bal_init 22 = .ok (.invokespecial 21, 3) := by decide +kernel
theorem d_Bal_init_25 : decode b_Bal_init 25 = .ok (.putfield 24, 3) := by decide +kernel
theorem d_Bal_init_28 : decode b_Bal_init 28 = .ok (.aload_n 0, 1) := by decide +kernel
theorem d_Bal_init_29 : decode b_Bal_init 29 = .ok (.iconst 1, 1) := by decide +kernel
theorem d_Bal_init_30 : decode b_Bal_init 30 = .ok (.putfield 28, 3) := by decide +kernel
theorem d_Bal_init_33 : decode b_Bal_init 33 = .ok (.aload_n 0, 1) := by decide +kernel
theorem d_Bal_init_34 : decode b_Bal_init 34 = .ok (.new 32, 3) := by decide +kernel
theorem d_Bal_init_37 : decode b_Bal_init 37 = .ok (.dup, 1) := by decide +kernel
theorem d_Bal_init_38 : decode b_Bal_init 38 = .ok (.iload_n 1, 1) := by decide +kernel
theorem d_Bal_init_39 : decode b_Bal_init 39 = .ok (.invokespecial 34, 3) := by decide +kernel
theorem d_Bal_init_42 : decode b_Bal_init 42 = .ok (.putfield 35, 3) := by decide +kernel
theorem d_Bal_init_45 : decode b_Bal_init 45 = .ok (.aload_n 0, 1) := by decide +kernel
theorem d_Bal_init_46 : decode b_Bal_init 46 = .ok (.new 39, 3) := by decide +kernel
theorem d_Bal_init_49 : decode b_Bal_init 49 = .ok (.dup, 1) := by decide +kernel
theorem d_Bal_init_50 : decode b_Bal_init 50 = .ok (.iload_n 1, 1) := by decide +kernel
theorem d_Bal_init_51 : decode b_Bal_init 51 = .ok (.aload_n 2, 1) := by decide +kernel
theorem d_Bal_init_52 : decode b_Bal_init 52 = .ok (.invokespecial 41, 3) := by decide +kernel
theorem d_Bal_init_55 : decode b_Bal_init 55 = .ok (.putfield 44, 3) := by decide +kernel
theorem d_Bal_init_58 : decode b_Bal_init 58 = .ok (.aload_n 0, 1) := by decide +kernel
theorem d_Bal_init_59 : decode b_Bal_init 59 = .ok (.iload_n 1, 1) := by decide +kernel
theorem d_Bal_init_60 : decode b_Bal_init 60 = .ok (.newarray .boolean, 2) := by decide +kernel
theorem d_Bal_init_62 : decode b_Bal_init 62 = .ok (.putfield 48, 3) := by decide +kernel
theorem d_Bal_init_65 : decode b_Bal_init 65 = .ok (.aload_n 0, 1) := by decide +kernel
theorem d_Bal_init_66 : decode b_Bal_init 66 = .ok (.getfield 44, 3) := by decide +kernel
theorem d_Bal_init_69 : decode b_Bal_init 69 = .ok (.aload_n 0, 1) := by decide +kernel
theorem d_Bal_init_70 : decode b_Bal_init 70 = .ok (.getfield 35, 3) := by decide +kernel
theorem d_Bal_init_73 : decode b_Bal_init 73 = .ok (.invokevirtual 52, 3) := by decide +kernel
theorem d_Bal_init_76 : decode b_Bal_init 76 = .ok (.return_, 1) := by decide +kernel
