theorem d_Stp_init_0 : decode b_Stp_init 0 = .ok (.aload_n 0, 1) := by decide +kernel
theorem d_Stp_init_1 : decode b_Stp_init 1 = .ok (.invokespecial 3, 3) := by decide +kernel
theorem d_Stp_init_4 : decode b_Stp_init 4 = .ok (.aload_n 0, 1) := by decide +kernel
theorem d_Stp_init_5 : decode b_Stp_init 5 = .ok (.iload_n 1, 1) := by decide +kernel
theorem d_Stp_init_6 : decode b_Stp_init 6 = .ok (.putfield 9, 3) := by decide +kernel
theorem d_Stp_init_9 : decode b_Stp_init 9 = .ok (.return_, 1) := by decide +kernel
theorem d_Dig_init_0 : decode b_Dig_init 0 = .ok (.aload_n 0, 1) := by decide +kernel
theorem d_Dig_init_1 : decode b_Dig_init 1 = .ok (.invokespecial 1, 3) := by decide +kernel
theorem d_Dig_init_4 : decode b_Dig_init 4 = .ok (.aload_n 0, 1) := by decide +kernel
theorem d_Dig_init_5 : decode b_Dig_init 5 = .ok (.lload_n 1, 1) := by decide +kernel
theorem d_Dig_init_6 : decode b_Dig_init 6 = .ok (.putfield 7, 3) := by decide +kernel
theorem d_Dig_init_9 : decode b_Dig_init 9 = .ok (.aload_n 0, 1) := by decide +kernel
theorem d_Dig_init_10 : decode b_Dig_init 10 = .ok (.lload_n 3, 1) := by decide +kernel
theorem d_Dig_init_11 : decode b_Dig_init 11 = .ok (.putfield 13, 3) := by decide +kernel
theorem d_Dig_init_14 : decode b_Dig_init 14 = .ok (.return_, 1) := by decide +kernel
theorem d_Slo_init_0 : decode b_Slo_init 0 = .ok (.aload_n 0, 1) := by decide +kernel
theorem d_Slo_init_1 : decode b_Slo_init 1 = .ok (.invokespecial 3, 3) := by decide +kernel
theorem d_Slo_init_4 : decode b_Slo_init 4 = .ok (.aload_n 0, 1) := by decide +kernel
theorem d_Slo_init_5 : decode b_Slo_init 5 = .ok (.iload_n 1, 1) := by decide +kernel
theorem d_Slo_init_6 : decode b_Slo_init 6 = .ok (.newarray .int, 2) := by decide +kernel
theorem d_Slo_init_8 : decode b_Slo_init 8 = .ok (.putfield 9, 3) := by decide +kernel
theorem d_Slo_init_11 : decode b_Slo_init 11 = .ok (.aload_n 0, 1) := by decide +kernel
theorem d_Slo_init_12 : decode b_Slo_init 12 = .ok (.iload_n 1, 1) := by decide +kernel
theorem d_Slo_init_13 : decode b_Slo_init 13 = .ok (.newarray .int, 2) := by decide +kernel
theorem d_Slo_init_15 : decode b_Slo_init 15 = .ok (.putfield 15, 3) := by decide +kernel
theorem d_Slo_init_18 : decode b_Slo_init 18 = .ok (.aload_n 0, 1) := by decide +kernel
theorem d_Slo_init_19 : decode b_Slo_init 19 = .ok (.iload_n 1, 1) := by decide +kernel
theorem d_Slo_init_20 : decode b_Slo_init 20 = .ok (.newarray .boolean, 2) := by decide +kernel
theorem d_Slo_init_22 : decode b_Slo_init 22 = .ok (.putfield 18, 3) := by decide +kernel
theorem d_Slo_init_25 : decode b_Slo_init 25 = .ok (.return_, 1) := by decide +kernel
theorem d_Wir_init_0 : decode b_Wir_init 0 = .ok (.aload_n 0, 1) := by decide +kernel
theorem d_Wir_init_1 : decode b_Wir_init 1 = .ok (.invokespecial 3, 3) := by decide +kernel
theorem d_Wir_init_4 : decode b_Wir_init 4 = .ok (.aload_n 0, 1) := by decide +kernel
theorem d_Wir_init_5 : decode b_Wir_init 5 = .ok (.bipush 16, 2) := by decide +kernel
theorem d_Wir_init_7 : decode b_Wir_init 7 = .ok (.newarray .int, 2) := by decide +kernel
theorem d_Wir_init_9 : decode b_Wir_init 9 = .ok (.putfield 11, 3) := by decide +kernel
theorem d_Wir_init_12 : decode b_Wir_init 12 = .ok (.return_, 1) := by decide +kernel
theorem d_Wat_init_0 : decode b_Wat_init 0 = .ok (.aload_n 0, 1) := by decide +kernel
theorem d_Wat_init_1 : decode b_Wat_init 1 = .ok (.invokespecial 1, 3) := by decide +kernel
theorem d_Wat_init_4 : decode b_Wat_init 4 = .ok (.aload_n 0, 1) := by decide +kernel
theorem d_Wat_init_5 : decode b_Wat_init 5 = .ok (.iload_n 1, 1) := by decide +kernel
theorem d_Wat_init_6 : decode b_Wat_init 6 = .ok (.newarray .boolean, 2) := by decide +kernel
theorem d_Wat_init_8 : decode b_Wat_init 8 = .ok (.putfield 7, 3) := by decide +kernel
theorem d_Wat_init_11 : decode b_Wat_init 11 = .ok (.aload_n 0, 1) := by decide +kernel
theorem d_Wat_init_12 : decode b_Wat_init 12 = .ok (.iload_n 1, 1) := by decide +kernel
theorem d_Wat_init_13 : decode b_Wat_init 13 = .ok (.newarray .int, 2) := by decide +kernel
theorem d_Wat_init_15 : decode b_Wat_init 15 = .ok (.putfield 13, 3) := by decide +kernel
theorem d_Wat_init_18 : decode b_Wat_init 18 = .ok (.iconst 0, 1) := by decide +kernel
theorem d_Wat_init_19 : decode b_Wat_init 19 = .ok (.istore_n 2, 1) := by decide +kernel
theorem d_Wat_init_20 : decode b_Wat_init 20 = .ok (.iload_n 2, 1) := by decide +kernel
theorem d_Wat_init_21 : decode b_Wat_init 21 = .ok (.iload_n 1, 1) := by decide +kernel
theorem d_Wat_init_22 : decode b_Wat_init 22 = .ok (.if_icmp .ge 16, 3) := by decide +kernel
theorem d_Wat_init_25 : decode b_Wat_init 25 = .ok (.aload_n 0, 1) := by decide +kernel
theorem d_Wat_init_26 : decode b_Wat_init 26 = .ok (.getfield 7, 3) := by decide +kernel
theorem d_Wat_init_29 : decode b_Wat_init 29 = .ok (.iload_n 2, 1) := by decide +kernel
theorem d_Wat_init_30 : decode b_Wat_init 30 = .ok (.iconst 1, 1) := by decide +kernel
theorem d_Wat_init_31 : decode b_Wat_init 31 = .ok (.bastore, 1) := by decide +kernel
theorem d_Wat_init_32 : decode b_Wat_init 32 = .ok (.iinc 2 1, 3) := by decide +kernel
theorem d_Wat_init_35 : decode b_Wat_init 35 = .ok (.goto (-15), 3) := by decide +kernel
theorem d_Wat_init_38 : decode b_Wat_init 38 = .ok (.return_, 1) := by decide +kernel
theorem d_Tab_init_0 : decode b_Tab_init 0 = .ok (.aload_n 0, 1) := by decide +kernel
theorem d_Tab_init_1 : decode b_Tab_init 1 = .ok (.invokespecial 3, 3) := by decide +kernel
theorem d_Tab_init_4 : decode b_Tab_init 4 = .ok (.aload_n 0, 1) := by decide +kernel
theorem d_Tab_init_5 : decode b_Tab_init 5 = .ok (.aload_n 2, 1) := by decide +kernel
theorem d_Tab_init_6 : decode b_Tab_init 6 = .ok (.putfield 9, 3) := by decide +kernel
theorem d_Tab_init_9 : decode b_Tab_init 9 = .ok (.aload_n 0, 1) := by decide +kernel
theorem d_Tab_init_10 : decode b_Tab_init 10 = .ok (.aload_n 2, 1) := by decide +kernel
theorem d_Tab_init_11 : decode b_Tab_init 11 = .ok (.getfield 15, 3) := by decide +kernel
theorem d_Tab_init_14 : decode b_Tab_init 14 = .ok (.newarray .int, 2) := by decide +kernel
theorem d_Tab_init_16 : decode b_Tab_init 16 = .ok (.putfield 21, 3) := by decide +kernel
theorem d_Tab_init_19 : decode b_Tab_init 19 = .ok (.aload_n 0, 1) := by decide +kernel
theorem d_Tab_init_20 : decode b_Tab_init 20 = .ok (.aload_n 2, 1) := by decide +kernel
theorem d_Tab_init_21 : decode b_Tab_init 21 = .ok (.getfield 15, 3) := by decide +kernel
theorem d_Tab_init_24 : decode b_Tab_init 24 = .ok (.newarray .int, 2) := by decide +kernel
theorem d_Tab_init_26 : decode b_Tab_init 26 = .ok (.putfield 25, 3) := by decide +kernel
theorem d_Tab_init_29 : decode b_Tab_init 29 = .ok (.aload_n 0, 1) := by decide +kernel
theorem d_Tab_init_30 : decode b_Tab_init 30 = .ok (.iload_n 1, 1) := by decide +kernel
theorem d_Tab_init_31 : decode b_Tab_init 31 = .ok (.newarray .int, 2) := by decide +kernel
theorem d_Tab_init_33 : decode b_Tab_init 33 = .ok (.putfield 28, 3) := by decide +kernel
theorem d_Tab_init_36 : decode b_Tab_init 36 = .ok (.return_, 1) := by decide +kernel
theorem d_Lst_init_0 : decode b_Lst_init 0 = .ok (.aload_n 0, 1) := by decide +kernel
theorem d_Lst_init_1 : decode b_Lst_init 1 = .ok (.invokespecial 3, 3) := by decide +kernel
theorem d_Lst_init_4 : decode b_Lst_init 4 = .ok (.aload_n 0, 1) := by decide +kernel
theorem d_Lst_init_5 : decode b_Lst_init 5 = .ok (.iload_n 2, 1) := by decide +kernel
theorem d_Lst_init_6 : decode b_Lst_init 6 = .ok (.putfield 9, 3) := by decide +kernel
theorem d_Lst_init_9 : decode b_Lst_init 9 = .ok (.aload_n 0, 1) := by decide +kernel
theorem d_Lst_init_10 : decode b_Lst_init 10 = .ok (.iload_n 1, 1) := by decide +kernel
theorem d_Lst_init_11 : decode b_Lst_init 11 = .ok (.newarray .int, 2) := by decide +kernel
theorem d_Lst_init_13 : decode b_Lst_init 13 = .ok (.putfield 15, 3) := by decide +kernel
theorem d_Lst_init_16 : decode b_Lst_init 16 = .ok (.aload_n 0, 1) := by decide +kernel
theorem d_Lst_init_17 : decode b_Lst_init 17 = .ok (.iload_n 1, 1) := by decide +kernel
theorem d_Lst_init_18 : decode b_Lst_init 18 = .ok (.newarray .int, 2) := by decide +kernel
theorem d_Lst_init_20 : decode b_Lst_init 20 = .ok (.putfield 19, 3) := by decide +kernel
theorem d_Lst_init_23 : decode b_Lst_init 23 = .ok (.iconst 0, 1) := by decide +kernel
theorem d_Lst_init_24 : decode b_Lst_init 24 = .ok (.istore 4, 2) := by decide +kernel
theorem d_Lst_init_26 : decode b_Lst_init 26 = .ok (.iload 4, 2) := by decide +kernel
theorem d_Lst_init_28 : decode b_Lst_init 28 = .ok (.iload_n 1, 1) := by decide +kernel
theorem d_Lst_init_29 : decode b_Lst_init 29 = .ok (.if_icmp .ge 55, 3) := by decide +kernel
theorem d_Lst_init_32 : decode b_Lst_init 32 = .ok (.aload_n 3, 1) := by decide +kernel
theorem d_Lst_init_33 : decode b_Lst_init 33 = .ok (.iload 4, 2) := by decide +kernel
theorem d_Lst_init_35 : decode b_Lst_init 35 = .ok (.i2l, 1) := by decide +kernel
theorem d_Lst_init_36 : decode b_Lst_init 36 = .ok (.invokevirtual 22, 3) := by decide +kernel
theorem d_Lst_init_39 : decode b_Lst_init 39 = .ok (.lstore 5, 2) := by decide +kernel
theorem d_Lst_init_41 : decode b_Lst_init 41 = .ok (.aload_n 0, 1) := by decide +kernel
theorem d_Lst_init_42 : decode b_Lst_init 42 = .ok (.getfield 15, 3) := by decide +kernel
theorem d_Lst_init_45 : decode b_Lst_init 45 = .ok (.iload 4, 2) := by decide +kernel
theorem d_Lst_init_47 : decode b_Lst_init 47 = .ok (.lload 5, 2) := by decide +kernel
theorem d_Lst_init_49 : decode b_Lst_init 49 = .ok (.bipush 32, 2) := by decide +kernel
theorem d_Lst_init_51 : decode b_Lst_init 51 = .ok (.lushr, 1) := by decide +kernel
theorem d_Lst_init_52 : decode b_Lst_init 52 = .ok (.iload_n 2, 1) := by decide +kernel
theorem d_Lst_init_53 : decode b_Lst_init 53 = .ok (.i2l, 1) := by decide +kernel
theorem d_Lst_init_54 : decode b_Lst_init 54 = .ok (.lrem, 1) := by decide +kernel
theorem d_Lst_init_55 : decode b_Lst_init 55 = .ok (.l2i, 1) := by decide +kernel
theorem d_Lst_init_56 : decode b_Lst_init 56 = .ok (.iastore, 1) := by decide +kernel
theorem d_Lst_init_57 : decode b_Lst_init 57 = .ok (.aload_n 0, 1) := by decide +kernel
theorem d_Lst_init_58 : decode b_Lst_init 58 = .ok (.getfield 19, 3) := by decide +kernel
theorem d_Lst_init_61 : decode b_Lst_init 61 = .ok (.iload 4, 2) := by decide +kernel
theorem d_Lst_init_63 : decode b_Lst_init 63 = .ok (.lconst 1, 1) := by decide +kernel
theorem d_Lst_init_64 : decode b_Lst_init 64 = .ok (.lload 5, 2) := by decide +kernel
theorem d_Lst_init_66 : decode b_Lst_init 66 = .ok (.ldc2_w 28, 3) := by decide +kernel
theorem d_Lst_init_69 : decode b_Lst_init 69 = .ok (.land, 1) := by decide +kernel
theorem d_Lst_init_70 : decode b_Lst_init 70 = .ok (.iload_n 2, 1) := by decide +kernel
theorem d_Lst_init_71 : decode b_Lst_init 71 = .ok (.iconst 1, 1) := by decide +kernel
theorem d_Lst_init_72 : decode b_Lst_init 72 = .ok (.isub, 1) := by decide +kernel
theorem d_Lst_init_73 : decode b_Lst_init 73 = .ok (.i2l, 1) := by decide +kernel
theorem d_Lst_init_74 : decode b_Lst_init 74 = .ok (.lrem, 1) := by decide +kernel
theorem d_Lst_init_75 : decode b_Lst_init 75 = .ok (.ladd, 1) := by decide +kernel
theorem d_Lst_init_76 : decode b_Lst_init 76 = .ok (.l2i, 1) := by decide +kernel
theorem d_Lst_init_77 : decode b_Lst_init 77 = .ok (.iastore, 1) := by decide +kernel
theorem d_Lst_init_78 : decode b_Lst_init 78 = .ok (.iinc 4 1, 3) := by decide +kernel
theorem d_Lst_init_81 : decode b_Lst_init 81 = .ok (.goto (-55), 3) := by decide +kernel
theorem d_Lst_init_84 : decode b_Lst_init 84 = .ok (.return_, 1) := by decide +kernel
theorem d_Ent_init_0 : decode b_Ent_init 0 = .ok (.aload_n 0, 1) := by decide +kernel
theorem d_Ent_init_1 : decode b_Ent_init 1 = .ok (.invokespecial 3, 3) := by decide +kernel
theorem d_Ent_init_4 : decode b_Ent_init 4 = .ok (.aload_n 0, 1) := by decide +kernel
theorem d_Ent_init_5 : decode b_Ent_init 5 = .ok (.new 9, 3) := by decide +kernel
theorem d_Ent_init_8 : decode b_Ent_init 8 = .ok (.dup, 1) := by decide +kernel
theorem d_Ent_init_9 : decode b_Ent_init 9 = .ok (.bipush 8, 2) := by decide +kernel
theorem d_Ent_init_11 : decode b_Ent_init 11 = .ok (.invokespecial 13, 3) := by decide +kernel
theorem d_Ent_init_14 : decode b_Ent_init 14 = .ok (.putfield 16, 3) := by decide +kernel
theorem d_Ent_init_17 : decode b_Ent_init 17 = .ok (.aload_n 0, 1) := by decide +kernel
theorem d_Ent_init_18 : decode b_Ent_init 18 = .ok (.bipush 8, 2) := by decide +kernel
theorem d_Ent_init_20 : decode b_Ent_init 20 = .ok (.newarray .int, 2) := by decide +kernel
theorem d_Ent_init_22 : decode b_Ent_init 22 = .ok (.putfield 20, 3) := by decide +kernel
theorem d_Ent_init_25 : decode b_Ent_init 25 = .ok (.aload_n 0, 1) := by decide +kernel
theorem d_Ent_init_26 : decode b_Ent_init 26 = .ok (.bipush 8, 2) := by decide +kernel
theorem d_Ent_init_28 : decode b_Ent_init 28 = .ok (.newarray .int, 2) := by decide +kernel
theorem d_Ent_init_30 : decode b_Ent_init 30 = .ok (.putfield 24, 3) := by decide +kernel
theorem d_Ent_init_33 : decode b_Ent_init 33 = .ok (.aload_n 0, 1) := by decide +kernel
theorem d_Ent_init_34 : decode b_Ent_init 34 = .ok (.bipush 8, 2) := by decide +kernel
theorem d_Ent_init_36 : decode b_Ent_init 36 = .ok (.newarray .int, 2) := by decide +kernel
theorem d_Ent_init_38 : decode b_Ent_init 38 = .ok (.putfield 27, 3) := by decide +kernel
theorem d_Ent_init_41 : decode b_Ent_init 41 = .ok (.return_, 1) := by decide +kernel
theorem d_Srv_init_0 : decode b_Srv_init 0 = .ok (.aload_n 0, 1) := by decide +kernel
theorem d_Srv_init_1 : decode b_Srv_init 1 = .ok (.invokespecial 3, 3) := by decide +kernel
theorem d_Srv_init_4 : decode b_Srv_init 4 = .ok (.aload_n 0, 1) := by decide +kernel
theorem d_Srv_init_5 : decode b_Srv_init 5 = .ok (.new 9, 3) := by decide +kernel
theorem d_Srv_init_8 : decode b_Srv_init 8 = .ok (.dup, 1) := by decide +kernel
theorem d_Srv_init_9 : decode b_Srv_init 9 = .ok (.bipush 10, 2) := by decide +kernel
theorem d_Srv_init_11 : decode b_Srv_init 11 = .ok (.invokespecial 13, 3) := by decide +kernel
theorem d_Srv_init_14 : decode b_Srv_init 14 = .ok (.putfield 16, 3) := by decide +kernel
theorem d_Srv_init_17 : decode b_Srv_init 17 = .ok (.aload_n 0, 1) := by decide +kernel
theorem d_Srv_init_18 : decode b_Srv_init 18 = .ok (.new 20, 3) := by decide +kernel
theorem d_Srv_init_21 : decode b_Srv_init 21 = .ok (.dup, 1) := by decide +kernel
theorem d_Srv_init_22 : decode b_Srv_init 22 = .ok (.iconst 0, 1) := by decide +kernel
theorem d_Srv_init_23 : decode b_Srv_init 23 = .ok (.invokespecial 22, 3) := by decide +kernel
theorem d_Srv_init_26 : decode b_Srv_init 26 = .ok (.putfield 23, 3) := by decide +kernel
theorem d_Srv_init_29 : decode b_Srv_init 29 = .ok (.aload_n 0, 1) := by decide +kernel
theorem d_Srv_init_30 : decode b_Srv_init 30 = .ok (.iconst 1, 1) := by decide +kernel
theorem d_Srv_init_31 : decode b_Srv_init 31 = .ok (.putfield 27, 3) := by decide +kernel
theorem d_Srv_init_34 : decode b_Srv_init 34 = .ok (.aload_n 0, 1) := by decide +kernel
theorem d_Srv_init_35 : decode b_Srv_init 35 = .ok (.bipush 10, 2) := by decide +kernel
theorem d_Srv_init_37 : decode b_Srv_init 37 = .ok (.newarray .int, 2) := by decide +kernel
theorem d_Srv_init_39 : decode b_Srv_init 39 = .ok (.putfield 31, 3) := by decide +kernel
theorem d_Srv_init_42 : decode b_Srv_init 42 = .ok (.aload_n 0, 1) := by decide +kernel
theorem d_Srv_init_43 : decode b_Srv_init 43 = .ok (.bipush 10, 2) := by decide +kernel
theorem d_Srv_init_45 : decode b_Srv_init 45 = .ok (.newarray .int, 2) := by decide +kernel
theorem d_Srv_init_47 : decode b_Srv_init 47 = .ok (.putfield 35, 3) := by decide +kernel
theorem d_Srv_init_50 : decode b_Srv_init 50 = .ok (.return_, 1) := by decide +kernel
