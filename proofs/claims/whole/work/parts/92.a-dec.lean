theorem d_Bal_probeAll_0 : decode b_Bal_probeAll 0 = .ok (.iconst 0, 1) := by decide +kernel
theorem d_Bal_probeAll_1 : decode b_Bal_probeAll 1 = .ok (.istore_n 2, 1) := by decide +kernel
theorem d_Bal_probeAll_2 : decode b_Bal_probeAll 2 = .ok (.iconst 0, 1) := by decide +kernel
theorem d_Bal_probeAll_3 : decode b_Bal_probeAll 3 = .ok (.istore_n 3, 1) := by decide +kernel
theorem d_Bal_probeAll_4 : decode b_Bal_probeAll 4 = .ok (.iload_n 3, 1) := by decide +kernel
theorem d_Bal_probeAll_5 : decode b_Bal_probeAll 5 = .ok (.aload_n 1, 1) := by decide +kernel
theorem d_Bal_probeAll_6 : decode b_Bal_probeAll 6 = .ok (.arraylength, 1) := by decide +kernel
theorem d_Bal_probeAll_7 : decode b_Bal_probeAll 7 = .ok (.if_icmp .ge 31, 3) := by decide +kernel
theorem d_Bal_probeAll_10 : decode b_Bal_probeAll 10 = .ok (.aload_n 0, 1) := by decide +kernel
theorem d_Bal_probeAll_11 : decode b_Bal_probeAll 11 = .ok (.getfield 35, 3) := by decide +kernel
theorem d_Bal_probeAll_14 : decode b_Bal_probeAll 14 = .ok (.iload_n 3, 1) := by decide +kernel
theorem d_Bal_probeAll_15 : decode b_Bal_probeAll 15 = .ok (.aload_n 0, 1) := by decide +kernel
theorem d_Bal_probeAll_16 : decode b_Bal_probeAll 16 = .ok (.iload_n 3, 1) := by decide +kernel
theorem d_Bal_probeAll_17 : decode b_Bal_probeAll 17 = .ok (.aload_n 1, 1) := by decide +kernel
theorem d_Bal_probeAll_18 : decode b_Bal_probeAll 18 = .ok (.iload_n 3, 1) := by decide +kernel
theorem d_Bal_probeAll_19 : decode b_Bal_probeAll 19 = .ok (.aaload, 1) := by decide +kernel
theorem d_Bal_probeAll_20 : decode b_Bal_probeAll 20 = .ok (.invokevirtual 78, 3) := by decide +kernel
theorem d_Bal_probeAll_23 : decode b_Bal_probeAll 23 = .ok (.invokevirtual 82, 3) := by decide +kernel
theorem d_Bal_probeAll_26 : decode b_Bal_probeAll 26 = .ok (.ifCond .eq 6, 3) := by decide +kernel
theorem d_Bal_probeAll_29 : decode b_Bal_probeAll 29 = .ok (.iinc 2 1, 3) := by decide +kernel
theorem d_Bal_probeAll_32 : decode b_Bal_probeAll 32 = .ok (.iinc 3 1, 3) := by decide +kernel
theorem d_Bal_probeAll_35 : decode b_Bal_probeAll 35 = .ok (.goto (-31), 3) := by decide +kernel
theorem d_Bal_probeAll_38 : decode b_Bal_probeAll 38 = .ok (.iload_n 2, 1) := by decide +kernel
theorem d_Bal_probeAll_39 : decode b_Bal_probeAll 39 = .ok (.ifCond .le 25, 3) := by decide +kernel
theorem d_Bal_probeAll_42 : decode b_Bal_probeAll 42 = .ok (.aload_n 0, 1) := by decide +kernel
theorem d_Bal_probeAll_43 : decode b_Bal_probeAll 43 = .ok (.getfield 12, 3) := by decide +kernel
theorem d_Bal_probeAll_46 : decode b_Bal_probeAll 46 = .ok (.aload_n 0, 1) := by decide +kernel
theorem d_Bal_probeAll_47 : decode b_Bal_probeAll 47 = .ok (.getfield 35, 3) := by decide +kernel
theorem d_Bal_probeAll_50 : decode b_Bal_probeAll 50 = .ok (.invokevirtual 86, 3) := by decide +kernel
theorem d_Bal_probeAll_53 : decode b_Bal_probeAll 53 = .ok (.aload_n 0, 1) := by decide +kernel
theorem d_Bal_probeAll_54 : decode b_Bal_probeAll 54 = .ok (.getfield 44, 3) := by decide +kernel
theorem d_Bal_probeAll_57 : decode b_Bal_probeAll 57 = .ok (.aload_n 0, 1) := by decide +kernel
theorem d_Bal_probeAll_58 : decode b_Bal_probeAll 58 = .ok (.getfield 35, 3) := by decide +kernel
theorem d_Bal_probeAll_61 : decode b_Bal_probeAll 61 = .ok (.invokevirtual 89, 3) := by decide +kernel
theorem d_Bal_probeAll_64 : decode b_Bal_probeAll 64 = .ok (.iload_n 2, 1) := by decide +kernel
theorem d_Bal_probeAll_65 : decode b_Bal_probeAll 65 = .ok (.ireturn, 1) := by decide +kernel
theorem d_PS_probe_0 : decode b_PS_probe 0 = .ok (.aload_n 0, 1) := by decide +kernel
theorem d_PS_probe_1 : decode b_PS_probe 1 = .ok (.iload_n 1, 1) := by decide +kernel
theorem d_PS_probe_2 : decode b_PS_probe 2 = .ok (.invokevirtual 127, 3) := by decide +kernel
theorem d_PS_probe_5 : decode b_PS_probe 5 = .ok (.ifCond .eq 15, 3) := by decide +kernel
theorem d_PS_probe_8 : decode b_PS_probe 8 = .ok (.aload_n 0, 1) := by decide +kernel
theorem d_PS_probe_9 : decode b_PS_probe 9 = .ok (.getfield 66, 3) := by decide +kernel
theorem d_PS_probe_12 : decode b_PS_probe 12 = .ok (.iload_n 1, 1) := by decide +kernel
theorem d_PS_probe_13 : decode b_PS_probe 13 = .ok (.aaload, 1) := by decide +kernel
theorem d_PS_probe_14 : decode b_PS_probe 14 = .ok (.getfield 159, 3) := by decide +kernel
theorem d_PS_probe_17 : decode b_PS_probe 17 = .ok (.ifCond .ne 5, 3) := by decide +kernel
theorem d_PS_probe_20 : decode b_PS_probe 20 = .ok (.iconst (-1), 1) := by decide +kernel
theorem d_PS_probe_21 : decode b_PS_probe 21 = .ok (.ireturn, 1) := by decide +kernel
theorem d_PS_probe_22 : decode b_PS_probe 22 = .ok (.aload_n 0, 1) := by decide +kernel
theorem d_PS_probe_23 : decode b_PS_probe 23 = .ok (.getfield 66, 3) := by decide +kernel
theorem d_PS_probe_26 : decode b_PS_probe 26 = .ok (.iload_n 1, 1) := by decide +kernel
theorem d_PS_probe_27 : decode b_PS_probe 27 = .ok (.aaload, 1) := by decide +kernel
theorem d_PS_probe_28 : decode b_PS_probe 28 = .ok (.aload_n 0, 1) := by decide +kernel
theorem d_PS_probe_29 : decode b_PS_probe 29 = .ok (.getfield 54, 3) := by decide +kernel
theorem d_PS_probe_32 : decode b_PS_probe 32 = .ok (.invokevirtual 162, 3) := by decide +kernel
theorem d_PS_probe_35 : decode b_PS_probe 35 = .ok (.ireturn, 1) := by decide +kernel
theorem d_PS_tick_0 : decode b_PS_tick 0 = .ok (.iload_n 1, 1) := by decide +kernel
theorem d_PS_tick_1 : decode b_PS_tick 1 = .ok (.ifCond .lt 10, 3) := by decide +kernel
theorem d_PS_tick_4 : decode b_PS_tick 4 = .ok (.iload_n 1, 1) := by decide +kernel
theorem d_PS_tick_5 : decode b_PS_tick 5 = .ok (.sipush 1000, 3) := by decide +kernel
theorem d_PS_tick_8 : decode b_PS_tick 8 = .ok (.if_icmp .le 5, 3) := by decide +kernel
theorem d_PS_tick_11 : decode b_PS_tick 11 = .ok (.iconst 0, 1) := by decide +kernel
theorem d_PS_tick_12 : decode b_PS_tick 12 = .ok (.ireturn, 1) := by decide +kernel
theorem d_PS_tick_13 : decode b_PS_tick 13 = .ok (.aload_n 0, 1) := by decide +kernel
theorem d_PS_tick_14 : decode b_PS_tick 14 = .ok (.dup, 1) := by decide +kernel
theorem d_PS_tick_15 : decode b_PS_tick 15 = .ok (.getfield 112, 3) := by decide +kernel
theorem d_PS_tick_18 : decode b_PS_tick 18 = .ok (.iload_n 1, 1) := by decide +kernel
theorem d_PS_tick_19 : decode b_PS_tick 19 = .ok (.iadd, 1) := by decide +kernel
theorem d_PS_tick_20 : decode b_PS_tick 20 = .ok (.putfield 112, 3) := by decide +kernel
theorem d_PS_tick_23 : decode b_PS_tick 23 = .ok (.iconst 0, 1) := by decide +kernel
theorem d_PS_tick_24 : decode b_PS_tick 24 = .ok (.istore_n 2, 1) := by decide +kernel
theorem d_PS_tick_25 : decode b_PS_tick 25 = .ok (.iload_n 2, 1) := by decide +kernel
theorem d_PS_tick_26 : decode b_PS_tick 26 = .ok (.aload_n 0, 1) := by decide +kernel
theorem d_PS_tick_27 : decode b_PS_tick 27 = .ok (.getfield 66, 3) := by decide +kernel
theorem d_PS_tick_30 : decode b_PS_tick 30 = .ok (.arraylength, 1) := by decide +kernel
theorem d_PS_tick_31 : decode b_PS_tick 31 = .ok (.if_icmp .ge 25, 3) := by decide +kernel
theorem d_PS_tick_34 : decode b_PS_tick 34 = .ok (.aload_n 0, 1) := by decide +kernel
theorem d_PS_tick_35 : decode b_PS_tick 35 = .ok (.getfield 66, 3) := by decide +kernel
theorem d_PS_tick_38 : decode b_PS_tick 38 = .ok (.iload_n 2, 1) := by decide +kernel
theorem d_PS_tick_39 : decode b_PS_tick 39 = .ok (.aaload, 1) := by decide +kernel
theorem d_PS_tick_40 : decode b_PS_tick 40 = .ok (.getfield 108, 3) := by decide +kernel
theorem d_PS_tick_43 : decode b_PS_tick 43 = .ok (.aload_n 0, 1) := by decide +kernel
theorem d_PS_tick_44 : decode b_PS_tick 44 = .ok (.getfield 112, 3) := by decide +kernel
theorem d_PS_tick_47 : decode b_PS_tick 47 = .ok (.invokevirtual 175, 3) := by decide +kernel
theorem d_PS_tick_50 : decode b_PS_tick 50 = .ok (.iinc 2 1, 3) := by decide +kernel
theorem d_PS_tick_53 : decode b_PS_tick 53 = .ok (.goto (-28), 3) := by decide +kernel
theorem d_PS_tick_56 : decode b_PS_tick 56 = .ok (.iconst 1, 1) := by decide +kernel
theorem d_PS_tick_57 : decode b_PS_tick 57 = .ok (.ireturn, 1) := by decide +kernel
