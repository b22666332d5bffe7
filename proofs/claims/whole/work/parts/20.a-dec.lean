theorem d_Wir_word_0 : decode b_Wir_word 0 = .ok (.iload_n 1, 1) := by decide +kernel
theorem d_Wir_word_1 : decode b_Wir_word 1 = .ok (.ifCond .lt 18, 3) := by decide +kernel
theorem d_Wir_word_4 : decode b_Wir_word 4 = .ok (.iload_n 1, 1) := by decide +kernel
theorem d_Wir_word_5 : decode b_Wir_word 5 = .ok (.bipush 16, 2) := by decide +kernel
theorem d_Wir_word_7 : decode b_Wir_word 7 = .ok (.if_icmp .ge 12, 3) := by decide +kernel
theorem d_Wir_word_10 : decode b_Wir_word 10 = .ok (.aload_n 0, 1) := by decide +kernel
theorem d_Wir_word_11 : decode b_Wir_word 11 = .ok (.getfield 11, 3) := by decide +kernel
theorem d_Wir_word_14 : decode b_Wir_word 14 = .ok (.iload_n 1, 1) := by decide +kernel
theorem d_Wir_word_15 : decode b_Wir_word 15 = .ok (.iaload, 1) := by decide +kernel
theorem d_Wir_word_16 : decode b_Wir_word 16 = .ok (.goto 4, 3) := by decide +kernel
theorem d_Wir_word_19 : decode b_Wir_word 19 = .ok (.iconst 0, 1) := by decide +kernel
theorem d_Wir_word_20 : decode b_Wir_word 20 = .ok (.ireturn, 1) := by decide +kernel
theorem d_Wir_putChecksum_0 : decode b_Wir_putChecksum 0 = .ok (.aload_n 0, 1) := by decide +kernel
theorem d_Wir_putChecksum_1 : decode b_Wir_putChecksum 1 = .ok (.getfield 11, 3) := by decide +kernel
theorem d_Wir_putChecksum_4 : decode b_Wir_putChecksum 4 = .ok (.iload_n 1, 1) := by decide +kernel
theorem d_Wir_putChecksum_5 : decode b_Wir_putChecksum 5 = .ok (.iconst 2, 1) := by decide +kernel
theorem d_Wir_putChecksum_6 : decode b_Wir_putChecksum 6 = .ok (.iadd, 1) := by decide +kernel
theorem d_Wir_putChecksum_7 : decode b_Wir_putChecksum 7 = .ok (.dup2, 1) := by decide +kernel
theorem d_Wir_putChecksum_8 : decode b_Wir_putChecksum 8 = .ok (.iaload, 1) := by decide +kernel
theorem d_Wir_putChecksum_9 : decode b_Wir_putChecksum 9 = .ok (.aload_n 0, 1) := by decide +kernel
theorem d_Wir_putChecksum_10 : decode b_Wir_putChecksum 10 = .ok (.getfield 11, 3) := by decide +kernel
theorem d_Wir_putChecksum_13 : decode b_Wir_putChecksum 13 = .ok (.iload_n 1, 1) := by decide +kernel
theorem d_Wir_putChecksum_14 : decode b_Wir_putChecksum 14 = .ok (.iaload, 1) := by decide +kernel
theorem d_Wir_putChecksum_15 : decode b_Wir_putChecksum 15 = .ok (.aload_n 0, 1) := by decide +kernel
theorem d_Wir_putChecksum_16 : decode b_Wir_putChecksum 16 = .ok (.getfield 11, 3) := by decide +kernel
theorem d_Wir_putChecksum_19 : decode b_Wir_putChecksum 19 = .ok (.iload_n 1, 1) := by decide +kernel
theorem d_Wir_putChecksum_20 : decode b_Wir_putChecksum 20 = .ok (.iconst 1, 1) := by decide +kernel
theorem d_Wir_putChecksum_21 : decode b_Wir_putChecksum 21 = .ok (.iadd, 1) := by decide +kernel
theorem d_Wir_putChecksum_22 : decode b_Wir_putChecksum 22 = .ok (.iaload, 1) := by decide +kernel
theorem d_Wir_putChecksum_23 : decode b_Wir_putChecksum 23 = .ok (.aload_n 0, 1) := by decide +kernel
theorem d_Wir_putChecksum_24 : decode b_Wir_putChecksum 24 = .ok (.getfield 11, 3) := by decide +kernel
theorem d_Wir_putChecksum_27 : decode b_Wir_putChecksum 27 = .ok (.iload_n 1, 1) := by decide +kernel
theorem d_Wir_putChecksum_28 : decode b_Wir_putChecksum 28 = .ok (.iconst 2, 1) := by decide +kernel
theorem d_Wir_putChecksum_29 : decode b_Wir_putChecksum 29 = .ok (.iadd, 1) := by decide +kernel
theorem d_Wir_putChecksum_30 : decode b_Wir_putChecksum 30 = .ok (.iaload, 1) := by decide +kernel
theorem d_Wir_putChecksum_31 : decode b_Wir_putChecksum 31 = .ok (.aload_n 0, 1) := by decide +kernel
theorem d_Wir_putChecksum_32 : decode b_Wir_putChecksum 32 = .ok (.getfield 11, 3) := by decide +kernel
theorem d_Wir_putChecksum_35 : decode b_Wir_putChecksum 35 = .ok (.iload_n 1, 1) := by decide +kernel
theorem d_Wir_putChecksum_36 : decode b_Wir_putChecksum 36 = .ok (.iconst 3, 1) := by decide +kernel
theorem d_Wir_putChecksum_37 : decode b_Wir_putChecksum 37 = .ok (.iadd, 1) := by decide +kernel
theorem d_Wir_putChecksum_38 : decode b_Wir_putChecksum 38 = .ok (.iaload, 1) := by decide +kernel
theorem d_Wir_putChecksum_39 : decode b_Wir_putChecksum 39 = .ok (.aload_n 0, 1) := by decide +kernel
theorem d_Wir_putChecksum_40 : decode b_Wir_putChecksum 40 = .ok (.getfield 11, 3) := by decide +kernel
theorem d_Wir_putChecksum_43 : decode b_Wir_putChecksum 43 = .ok (.iload_n 1, 1) := by decide +kernel
theorem d_Wir_putChecksum_44 : decode b_Wir_putChecksum 44 = .ok (.iconst 4, 1) := by decide +kernel
theorem d_Wir_putChecksum_45 : decode b_Wir_putChecksum 45 = .ok (.iadd, 1) := by decide +kernel
theorem d_Wir_putChecksum_46 : decode b_Wir_putChecksum 46 = .ok (.iaload, 1) := by decide +kernel
theorem d_Wir_putChecksum_47 : decode b_Wir_putChecksum 47 = .ok (.invokestatic 34, 3) := by decide +kernel
theorem d_Wir_putChecksum_50 : decode b_Wir_putChecksum 50 = .ok (.iadd, 1) := by decide +kernel
theorem d_Wir_putChecksum_51 : decode b_Wir_putChecksum 51 = .ok (.iastore, 1) := by decide +kernel
theorem d_Wir_putChecksum_52 : decode b_Wir_putChecksum 52 = .ok (.return_, 1) := by decide +kernel
theorem d_Wir_putForward_0 : decode b_Wir_putForward 0 = .ok (.aload_n 0, 1) := by decide +kernel
theorem d_Wir_putForward_1 : decode b_Wir_putForward 1 = .ok (.getfield 11, 3) := by decide +kernel
theorem d_Wir_putForward_4 : decode b_Wir_putForward 4 = .ok (.iconst 0, 1) := by decide +kernel
theorem d_Wir_putForward_5 : decode b_Wir_putForward 5 = .ok (.ldc 15, 2) := by decide +kernel
theorem d_Wir_putForward_7 : decode b_Wir_putForward 7 = .ok (.aload_n 1, 1) := by decide +kernel
theorem d_Wir_putForward_8 : decode b_Wir_putForward 8 = .ok (.iconst 0, 1) := by decide +kernel
theorem d_Wir_putForward_9 : decode b_Wir_putForward 9 = .ok (.iaload, 1) := by decide +kernel
theorem d_Wir_putForward_10 : decode b_Wir_putForward 10 = .ok (.ldc 16, 2) := by decide +kernel
theorem d_Wir_putForward_12 : decode b_Wir_putForward 12 = .ok (.iand, 1) := by decide +kernel
theorem d_Wir_putForward_13 : decode b_Wir_putForward 13 = .ok (.iadd, 1) := by decide +kernel
theorem d_Wir_putForward_14 : decode b_Wir_putForward 14 = .ok (.iastore, 1) := by decide +kernel
theorem d_Wir_putForward_15 : decode b_Wir_putForward 15 = .ok (.aload_n 0, 1) := by decide +kernel
theorem d_Wir_putForward_16 : decode b_Wir_putForward 16 = .ok (.getfield 11, 3) := by decide +kernel
theorem d_Wir_putForward_19 : decode b_Wir_putForward 19 = .ok (.iconst 1, 1) := by decide +kernel
theorem d_Wir_putForward_20 : decode b_Wir_putForward 20 = .ok (.iload_n 2, 1) := by decide +kernel
theorem d_Wir_putForward_21 : decode b_Wir_putForward 21 = .ok (.ldc 17, 2) := by decide +kernel
theorem d_Wir_putForward_23 : decode b_Wir_putForward 23 = .ok (.imul, 1) := by decide +kernel
theorem d_Wir_putForward_24 : decode b_Wir_putForward 24 = .ok (.iastore, 1) := by decide +kernel
theorem d_Wir_putForward_25 : decode b_Wir_putForward 25 = .ok (.aload_n 0, 1) := by decide +kernel
theorem d_Wir_putForward_26 : decode b_Wir_putForward 26 = .ok (.getfield 11, 3) := by decide +kernel
theorem d_Wir_putForward_29 : decode b_Wir_putForward 29 = .ok (.iconst 2, 1) := by decide +kernel
theorem d_Wir_putForward_30 : decode b_Wir_putForward 30 = .ok (.ldc 18, 2) := by decide +kernel
theorem d_Wir_putForward_32 : decode b_Wir_putForward 32 = .ok (.iastore, 1) := by decide +kernel
theorem d_Wir_putForward_33 : decode b_Wir_putForward 33 = .ok (.aload_n 0, 1) := by decide +kernel
theorem d_Wir_putForward_34 : decode b_Wir_putForward 34 = .ok (.getfield 11, 3) := by decide +kernel
theorem d_Wir_putForward_37 : decode b_Wir_putForward 37 = .ok (.iconst 3, 1) := by decide +kernel
theorem d_Wir_putForward_38 : decode b_Wir_putForward 38 = .ok (.ldc 19, 2) := by decide +kernel
theorem d_Wir_putForward_40 : decode b_Wir_putForward 40 = .ok (.iload_n 3, 1) := by decide +kernel
theorem d_Wir_putForward_41 : decode b_Wir_putForward 41 = .ok (.iadd, 1) := by decide +kernel
theorem d_Wir_putForward_42 : decode b_Wir_putForward 42 = .ok (.iastore, 1) := by decide +kernel
theorem d_Wir_putForward_43 : decode b_Wir_putForward 43 = .ok (.aload_n 0, 1) := by decide +kernel
theorem d_Wir_putForward_44 : decode b_Wir_putForward 44 = .ok (.getfield 11, 3) := by decide +kernel
theorem d_Wir_putForward_47 : decode b_Wir_putForward 47 = .ok (.iconst 4, 1) := by decide +kernel
theorem d_Wir_putForward_48 : decode b_Wir_putForward 48 = .ok (.ldc 20, 2) := by decide +kernel
theorem d_Wir_putForward_50 : decode b_Wir_putForward 50 = .ok (.iload 4, 2) := by decide +kernel
theorem d_Wir_putForward_52 : decode b_Wir_putForward 52 = .ok (.iadd, 1) := by decide +kernel
theorem d_Wir_putForward_53 : decode b_Wir_putForward 53 = .ok (.iastore, 1) := by decide +kernel
theorem d_Wir_putForward_54 : decode b_Wir_putForward 54 = .ok (.aload_n 0, 1) := by decide +kernel
theorem d_Wir_putForward_55 : decode b_Wir_putForward 55 = .ok (.getfield 11, 3) := by decide +kernel
theorem d_Wir_putForward_58 : decode b_Wir_putForward 58 = .ok (.iconst 5, 1) := by decide +kernel
theorem d_Wir_putForward_59 : decode b_Wir_putForward 59 = .ok (.sipush 2048, 3) := by decide +kernel
theorem d_Wir_putForward_62 : decode b_Wir_putForward 62 = .ok (.iastore, 1) := by decide +kernel
theorem d_Wir_putForward_63 : decode b_Wir_putForward 63 = .ok (.aload_n 0, 1) := by decide +kernel
theorem d_Wir_putForward_64 : decode b_Wir_putForward 64 = .ok (.iconst 0, 1) := by decide +kernel
theorem d_Wir_putForward_65 : decode b_Wir_putForward 65 = .ok (.invokevirtual 21, 3) := by decide +kernel
theorem d_Wir_putForward_68 : decode b_Wir_putForward 68 = .ok (.aload_n 1, 1) := by decide +kernel
theorem d_Wir_putForward_69 : decode b_Wir_putForward 69 = .ok (.iconst 0, 1) := by decide +kernel
theorem d_Wir_putForward_70 : decode b_Wir_putForward 70 = .ok (.aload_n 0, 1) := by decide +kernel
theorem d_Wir_putForward_71 : decode b_Wir_putForward 71 = .ok (.getfield 11, 3) := by decide +kernel
theorem d_Wir_putForward_74 : decode b_Wir_putForward 74 = .ok (.bipush 6, 2) := by decide +kernel
theorem d_Wir_putForward_76 : decode b_Wir_putForward 76 = .ok (.aload_n 1, 1) := by decide +kernel
theorem d_Wir_putForward_77 : decode b_Wir_putForward 77 = .ok (.arraylength, 1) := by decide +kernel
theorem d_Wir_putForward_78 : decode b_Wir_putForward 78 = .ok (.invokestatic 25, 3) := by decide +kernel
theorem d_Wir_putForward_81 : decode b_Wir_putForward 81 = .ok (.return_, 1) := by decide +kernel
theorem d_Wir_putAnswer_0 : decode b_Wir_putAnswer 0 = .ok (.aload_n 0, 1) := by decide +kernel
theorem d_Wir_putAnswer_1 : decode b_Wir_putAnswer 1 = .ok (.getfield 11, 3) := by decide +kernel
theorem d_Wir_putAnswer_4 : decode b_Wir_putAnswer 4 = .ok (.bipush 11, 2) := by decide +kernel
theorem d_Wir_putAnswer_6 : decode b_Wir_putAnswer 6 = .ok (.ldc 31, 2) := by decide +kernel
theorem d_Wir_putAnswer_8 : decode b_Wir_putAnswer 8 = .ok (.iastore, 1) := by decide +kernel
theorem d_Wir_putAnswer_9 : decode b_Wir_putAnswer 9 = .ok (.aload_n 0, 1) := by decide +kernel
theorem d_Wir_putAnswer_10 : decode b_Wir_putAnswer 10 = .ok (.getfield 11, 3) := by decide +kernel
theorem d_Wir_putAnswer_13 : decode b_Wir_putAnswer 13 = .ok (.bipush 12, 2) := by decide +kernel
theorem d_Wir_putAnswer_15 : decode b_Wir_putAnswer 15 = .ok (.iload_n 1, 1) := by decide +kernel
theorem d_Wir_putAnswer_16 : decode b_Wir_putAnswer 16 = .ok (.ldc 17, 2) := by decide +kernel
theorem d_Wir_putAnswer_18 : decode b_Wir_putAnswer 18 = .ok (.imul, 1) := by decide +kernel
theorem d_Wir_putAnswer_19 : decode b_Wir_putAnswer 19 = .ok (.iastore, 1) := by decide +kernel
theorem d_Wir_putAnswer_20 : decode b_Wir_putAnswer 20 = .ok (.aload_n 0, 1) := by decide +kernel
theorem d_Wir_putAnswer_21 : decode b_Wir_putAnswer 21 = .ok (.getfield 11, 3) := by decide +kernel
theorem d_Wir_putAnswer_24 : decode b_Wir_putAnswer 24 = .ok (.bipush 13, 2) := by decide +kernel
theorem d_Wir_putAnswer_26 : decode b_Wir_putAnswer 26 = .ok (.ldc 32, 2) := by decide +kernel
theorem d_Wir_putAnswer_28 : decode b_Wir_putAnswer 28 = .ok (.iastore, 1) := by decide +kernel
theorem d_Wir_putAnswer_29 : decode b_Wir_putAnswer 29 = .ok (.aload_n 0, 1) := by decide +kernel
theorem d_Wir_putAnswer_30 : decode b_Wir_putAnswer 30 = .ok (.getfield 11, 3) := by decide +kernel
theorem d_Wir_putAnswer_33 : decode b_Wir_putAnswer 33 = .ok (.bipush 14, 2) := by decide +kernel
theorem d_Wir_putAnswer_35 : decode b_Wir_putAnswer 35 = .ok (.ldc 33, 2) := by decide +kernel
theorem d_Wir_putAnswer_37 : decode b_Wir_putAnswer 37 = .ok (.iastore, 1) := by decide +kernel
theorem d_Wir_putAnswer_38 : decode b_Wir_putAnswer 38 = .ok (.aload_n 0, 1) := by decide +kernel
theorem d_Wir_putAnswer_39 : decode b_Wir_putAnswer 39 = .ok (.getfield 11, 3) := by decide +kernel
theorem d_Wir_putAnswer_42 : decode b_Wir_putAnswer 42 = .ok (.bipush 15, 2) := by decide +kernel
theorem d_Wir_putAnswer_44 : decode b_Wir_putAnswer 44 = .ok (.iload_n 2, 1) := by decide +kernel
theorem d_Wir_putAnswer_45 : decode b_Wir_putAnswer 45 = .ok (.iastore, 1) := by decide +kernel
theorem d_Wir_putAnswer_46 : decode b_Wir_putAnswer 46 = .ok (.aload_n 0, 1) := by decide +kernel
theorem d_Wir_putAnswer_47 : decode b_Wir_putAnswer 47 = .ok (.bipush 11, 2) := by decide +kernel
theorem d_Wir_putAnswer_49 : decode b_Wir_putAnswer 49 = .ok (.invokevirtual 21, 3) := by decide +kernel
theorem d_Wir_putAnswer_52 : decode b_Wir_putAnswer 52 = .ok (.return_, 1) := by decide +kernel
theorem d_Wir_clearAnswer_0 : decode b_Wir_clearAnswer 0 = .ok (.bipush 11, 2) := by decide +kernel
theorem d_Wir_clearAnswer_2 : decode b_Wir_clearAnswer 2 = .ok (.istore_n 1, 1) := by decide +kernel
theorem d_Wir_clearAnswer_3 : decode b_Wir_clearAnswer 3 = .ok (.iload_n 1, 1) := by decide +kernel
theorem d_Wir_clearAnswer_4 : decode b_Wir_clearAnswer 4 = .ok (.bipush 16, 2) := by decide +kernel
theorem d_Wir_clearAnswer_6 : decode b_Wir_clearAnswer 6 = .ok (.if_icmp .ge 16, 3) := by decide +kernel
theorem d_Wir_clearAnswer_9 : decode b_Wir_clearAnswer 9 = .ok (.aload_n 0, 1) := by decide +kernel
theorem d_Wir_clearAnswer_10 : decode b_Wir_clearAnswer 10 = .ok (.getfield 11, 3) := by decide +kernel
theorem d_Wir_clearAnswer_13 : decode b_Wir_clearAnswer 13 = .ok (.iload_n 1, 1) := by decide +kernel
theorem d_Wir_clearAnswer_14 : decode b_Wir_clearAnswer 14 = .ok (.iconst 0, 1) := by decide +kernel
theorem d_Wir_clearAnswer_15 : decode b_Wir_clearAnswer 15 = .ok (.iastore, 1) := by decide +kernel
theorem d_Wir_clearAnswer_16 : decode b_Wir_clearAnswer 16 = .ok (.iinc 1 1, 3) := by decide +kernel
theorem d_Wir_clearAnswer_19 : decode b_Wir_clearAnswer 19 = .ok (.goto (-16), 3) := by decide +kernel
theorem d_Wir_clearAnswer_22 : decode b_Wir_clearAnswer 22 = .ok (.return_, 1) := by decide +kernel
theorem d_Ent_patienceAfter_0 : decode b_Ent_patienceAfter 0 = .ok (.iload_n 0, 1) := by decide +kernel
theorem d_Ent_patienceAfter_1 : decode b_Ent_patienceAfter 1 = .ok (.iconst 2, 1) := by decide +kernel
theorem d_Ent_patienceAfter_2 : decode b_Ent_patienceAfter 2 = .ok (.if_icmp .ne 5, 3) := by decide +kernel
theorem d_Ent_patienceAfter_5 : decode b_Ent_patienceAfter 5 = .ok (.iconst 4, 1) := by decide +kernel
theorem d_Ent_patienceAfter_6 : decode b_Ent_patienceAfter 6 = .ok (.ireturn, 1) := by decide +kernel
theorem d_Ent_patienceAfter_7 : decode b_Ent_patienceAfter 7 = .ok (.iload_n 0, 1) := by decide +kernel
theorem d_Ent_patienceAfter_8 : decode b_Ent_patienceAfter 8 = .ok (.bipush 16, 2) := by decide +kernel
theorem d_Ent_patienceAfter_10 : decode b_Ent_patienceAfter 10 = .ok (.if_icmp .ne 8, 3) := by decide +kernel
theorem d_Ent_patienceAfter_13 : decode b_Ent_patienceAfter 13 = .ok (.bipush 16, 2) := by decide +kernel
theorem d_Ent_patienceAfter_15 : decode b_Ent_patienceAfter 15 = .ok (.goto 4, 3) := by decide +kernel
theorem d_Ent_patienceAfter_18 : decode b_Ent_patienceAfter 18 = .ok (.iconst 2, 1) := by decide +kernel
theorem d_Ent_patienceAfter_19 : decode b_Ent_patienceAfter 19 = .ok (.ireturn, 1) := by decide +kernel
theorem d_Ent_serverOf_0 : decode b_Ent_serverOf 0 = .ok (.aload_n 0, 1) := by decide +kernel
theorem d_Ent_serverOf_1 : decode b_Ent_serverOf 1 = .ok (.getfield 16, 3) := by decide +kernel
theorem d_Ent_serverOf_4 : decode b_Ent_serverOf 4 = .ok (.iload_n 1, 1) := by decide +kernel
theorem d_Ent_serverOf_5 : decode b_Ent_serverOf 5 = .ok (.iload_n 2, 1) := by decide +kernel
theorem d_Ent_serverOf_6 : decode b_Ent_serverOf 6 = .ok (.invokevirtual 30, 3) := by decide +kernel
theorem d_Ent_serverOf_9 : decode b_Ent_serverOf 9 = .ok (.istore_n 3, 1) := by decide +kernel
theorem d_Ent_serverOf_10 : decode b_Ent_serverOf 10 = .ok (.iload_n 3, 1) := by decide +kernel
theorem d_Ent_serverOf_11 : decode b_Ent_serverOf 11 = .ok (.iconst (-1), 1) := by decide +kernel
theorem d_Ent_serverOf_12 : decode b_Ent_serverOf 12 = .ok (.if_icmp .ne 7, 3) := by decide +kernel
theorem d_Ent_serverOf_15 : decode b_Ent_serverOf 15 = .ok (.iconst (-1), 1) := by decide +kernel
theorem d_Ent_serverOf_16 : decode b_Ent_serverOf 16 = .ok (.goto 9, 3) := by decide +kernel
theorem d_Ent_serverOf_19 : decode b_Ent_serverOf 19 = .ok (.aload_n 0, 1) := by decide +kernel
theorem d_Ent_serverOf_20 : decode b_Ent_serverOf 20 = .ok (.getfield 20, 3) := by decide +kernel
theorem d_Ent_serverOf_23 : decode b_Ent_serverOf 23 = .ok (.iload_n 3, 1) := by decide +kernel
theorem d_Ent_serverOf_24 : decode b_Ent_serverOf 24 = .ok (.iaload, 1) := by decide +kernel
theorem d_Ent_serverOf_25 : decode b_Ent_serverOf 25 = .ok (.ireturn, 1) := by decide +kernel
theorem d_Ent_note_0 : decode b_Ent_note 0 = .ok (.iload 4, 2) := by decide +kernel
theorem d_Ent_note_2 : decode b_Ent_note 2 = .ok (.iconst 2, 1) := by decide +kernel
theorem d_Ent_note_3 : decode b_Ent_note 3 = .ok (.if_icmp .ne 15, 3) := by decide +kernel
theorem d_Ent_note_6 : decode b_Ent_note 6 = .ok (.aload_n 0, 1) := by decide +kernel
theorem d_Ent_note_7 : decode b_Ent_note 7 = .ok (.getfield 16, 3) := by decide +kernel
theorem d_Ent_note_10 : decode b_Ent_note 10 = .ok (.iload_n 1, 1) := by decide +kernel
theorem d_Ent_note_11 : decode b_Ent_note 11 = .ok (.iload_n 2, 1) := by decide +kernel
theorem d_Ent_note_12 : decode b_Ent_note 12 = .ok (.invokevirtual 34, 3) := by decide +kernel
theorem d_Ent_note_15 : decode b_Ent_note 15 = .ok (.goto 12, 3) := by decide +kernel
theorem d_Ent_note_18 : decode b_Ent_note 18 = .ok (.aload_n 0, 1) := by decide +kernel
theorem d_Ent_note_19 : decode b_Ent_note 19 = .ok (.getfield 16, 3) := by decide +kernel
theorem d_Ent_note_22 : decode b_Ent_note 22 = .ok (.iload_n 1, 1) := by decide +kernel
theorem d_Ent_note_23 : decode b_Ent_note 23 = .ok (.iload_n 2, 1) := by decide +kernel
theorem d_Ent_note_24 : decode b_Ent_note 24 = .ok (.invokevirtual 30, 3) := by decide +kernel
theorem d_Ent_note_27 : decode b_Ent_note 27 = .ok (.istore 6, 2) := by decide +kernel
theorem d_Ent_note_29 : decode b_Ent_note 29 = .ok (.iload 6, 2) := by decide +kernel
theorem d_Ent_note_31 : decode b_Ent_note 31 = .ok (.iconst (-1), 1) := by decide +kernel
theorem d_Ent_note_32 : decode b_Ent_note 32 = .ok (.if_icmp .ne 4, 3) := by decide +kernel
theorem d_Ent_note_35 : decode b_Ent_note 35 = .ok (.return_, 1) := by decide +kernel
theorem d_Ent_note_36 : decode b_Ent_note 36 = .ok (.iload 4, 2) := by decide +kernel
theorem d_Ent_note_38 : decode b_Ent_note 38 = .ok (.iconst 4, 1) := by decide +kernel
theorem d_Ent_note_39 : decode b_Ent_note 39 = .ok (.if_icmp .ne 13, 3) := by decide +kernel
theorem d_Ent_note_42 : decode b_Ent_note 42 = .ok (.aload_n 0, 1) := by decide +kernel
theorem d_Ent_note_43 : decode b_Ent_note 43 = .ok (.getfield 16, 3) := by decide +kernel
theorem d_Ent_note_46 : decode b_Ent_note 46 = .ok (.iload 6, 2) := by decide +kernel
theorem d_Ent_note_48 : decode b_Ent_note 48 = .ok (.invokevirtual 37, 3) := by decide +kernel
theorem d_Ent_note_51 : decode b_Ent_note 51 = .ok (.return_, 1) := by decide +kernel
theorem d_Ent_note_52 : decode b_Ent_note 52 = .ok (.aload_n 0, 1) := by decide +kernel
theorem d_Ent_note_53 : decode b_Ent_note 53 = .ok (.getfield 20, 3) := by decide +kernel
theorem d_Ent_note_56 : decode b_Ent_note 56 = .ok (.iload 6, 2) := by decide +kernel
theorem d_Ent_note_58 : decode b_Ent_note 58 = .ok (.iload_n 3, 1) := by decide +kernel
theorem d_Ent_note_59 : decode b_Ent_note 59 = .ok (.iastore, 1) := by decide +kernel
theorem d_Ent_note_60 : decode b_Ent_note 60 = .ok (.aload_n 0, 1) := by decide +kernel
theorem d_Ent_note_61 : decode b_Ent_note 61 = .ok (.getfield 24, 3) := by decide +kernel
theorem d_Ent_note_64 : decode b_Ent_note 64 = .ok (.iload 6, 2) := by decide +kernel
theorem d_Ent_note_66 : decode b_Ent_note 66 = .ok (.iload 4, 2) := by decide +kernel
theorem d_Ent_note_68 : decode b_Ent_note 68 = .ok (.invokestatic 40, 3) := by decide +kernel
theorem d_Ent_note_71 : decode b_Ent_note 71 = .ok (.iastore, 1) := by decide +kernel
theorem d_Ent_note_72 : decode b_Ent_note 72 = .ok (.aload_n 0, 1) := by decide +kernel
theorem d_Ent_note_73 : decode b_Ent_note 73 = .ok (.getfield 27, 3) := by decide +kernel
theorem d_Ent_note_76 : decode b_Ent_note 76 = .ok (.iload 6, 2) := by decide +kernel
theorem d_Ent_note_78 : decode b_Ent_note 78 = .ok (.iload 5, 2) := by decide +kernel
theorem d_Ent_note_80 : decode b_Ent_note 80 = .ok (.iastore, 1) := by decide +kernel
theorem d_Ent_note_81 : decode b_Ent_note 81 = .ok (.return_, 1) := by decide +kernel
theorem d_Ent_removeStale_0 : decode b_Ent_removeStale 0 = .ok (.iconst 0, 1) := by decide +kernel
theorem d_Ent_removeStale_1 : decode b_Ent_removeStale 1 = .ok (.istore_n 2, 1) := by decide +kernel
theorem d_Ent_removeStale_2 : decode b_Ent_removeStale 2 = .ok (.iload_n 2, 1) := by decide +kernel
theorem d_Ent_removeStale_3 : decode b_Ent_removeStale 3 = .ok (.bipush 8, 2) := by decide +kernel
theorem d_Ent_removeStale_5 : decode b_Ent_removeStale 5 = .ok (.if_icmp .ge 34, 3) := by decide +kernel
theorem d_Ent_removeStale_8 : decode b_Ent_removeStale 8 = .ok (.iload_n 1, 1) := by decide +kernel
theorem d_Ent_removeStale_9 : decode b_Ent_removeStale 9 = .ok (.aload_n 0, 1) := by decide +kernel
theorem d_Ent_removeStale_10 : decode b_Ent_removeStale 10 = .ok (.getfield 27, 3) := by decide +kernel
theorem d_Ent_removeStale_13 : decode b_Ent_removeStale 13 = .ok (.iload_n 2, 1) := by decide +kernel
theorem d_Ent_removeStale_14 : decode b_Ent_removeStale 14 = .ok (.iaload, 1) := by decide +kernel
theorem d_Ent_removeStale_15 : decode b_Ent_removeStale 15 = .ok (.isub, 1) := by decide +kernel
theorem d_Ent_removeStale_16 : decode b_Ent_removeStale 16 = .ok (.aload_n 0, 1) := by decide +kernel
theorem d_Ent_removeStale_17 : decode b_Ent_removeStale 17 = .ok (.getfield 24, 3) := by decide +kernel
theorem d_Ent_removeStale_20 : decode b_Ent_removeStale 20 = .ok (.iload_n 2, 1) := by decide +kernel
theorem d_Ent_removeStale_21 : decode b_Ent_removeStale 21 = .ok (.iaload, 1) := by decide +kernel
theorem d_Ent_removeStale_22 : decode b_Ent_removeStale 22 = .ok (.if_icmp .le 11, 3) := by decide +kernel
theorem d_Ent_removeStale_25 : decode b_Ent_removeStale 25 = .ok (.aload_n 0, 1) := by decide +kernel
theorem d_Ent_removeStale_26 : decode b_Ent_removeStale 26 = .ok (.getfield 16, 3) := by decide +kernel
theorem d_Ent_removeStale_29 : decode b_Ent_removeStale 29 = .ok (.iload_n 2, 1) := by decide +kernel
theorem d_Ent_removeStale_30 : decode b_Ent_removeStale 30 = .ok (.invokevirtual 37, 3) := by decide +kernel
theorem d_Ent_removeStale_33 : decode b_Ent_removeStale 33 = .ok (.iinc 2 1, 3) := by decide +kernel
theorem d_Ent_removeStale_36 : decode b_Ent_removeStale 36 = .ok (.goto (-34), 3) := by decide +kernel
theorem d_Ent_removeStale_39 : decode b_Ent_removeStale 39 = .ok (.return_, 1) := by decide +kernel
theorem d_Ent_removeForServersDown_0 : decode b_Ent_removeForServersDown 0 = .ok (.iconst 0, 1) := by decide +kernel
theorem d_Ent_removeForServersDown_1 : decode b_Ent_removeForServersDown 1 = .ok (.istore_n 2, 1) := by decide +kernel
theorem d_Ent_removeForServersDown_2 : decode b_Ent_removeForServersDown 2 = .ok (.iload_n 2, 1) := by decide +kernel
theorem d_Ent_removeForServersDown_3 : decode b_Ent_removeForServersDown 3 = .ok (.bipush 8, 2) := by decide +kernel
theorem d_Ent_removeForServersDown_5 : decode b_Ent_removeForServersDown 5 = .ok (.if_icmp .ge 30, 3) := by decide +kernel
theorem d_Ent_removeForServersDown_8 : decode b_Ent_removeForServersDown 8 = .ok (.aload_n 1, 1) := by decide +kernel
theorem d_Ent_removeForServersDown_9 : decode b_Ent_removeForServersDown 9 = .ok (.aload_n 0, 1) := by decide +kernel
theorem d_Ent_removeForServersDown_10 : decode b_Ent_removeForServersDown 10 = .ok (.getfield 20, 3) := by decide +kernel
theorem d_Ent_removeForServersDown_13 : decode b_Ent_removeForServersDown 13 = .ok (.iload_n 2, 1) := by decide +kernel
theorem d_Ent_removeForServersDown_14 : decode b_Ent_removeForServersDown 14 = .ok (.iaload, 1) := by decide +kernel
theorem d_Ent_removeForServersDown_15 : decode b_Ent_removeForServersDown 15 = .ok (.invokevirtual 44, 3) := by decide +kernel
theorem d_Ent_removeForServersDown_18 : decode b_Ent_removeForServersDown 18 = .ok (.ifCond .ne 11, 3) := by decide +kernel
theorem d_Ent_removeForServersDown_21 : decode b_Ent_removeForServersDown 21 = .ok (.aload_n 0, 1) := by decide +kernel
theorem d_Ent_removeForServersDown_22 : decode b_Ent_removeForServersDown 22 = .ok (.getfield 16, 3) := by decide +kernel
theorem d_Ent_removeForServersDown_25 : decode b_Ent_removeForServersDown 25 = .ok (.iload_n 2, 1) := by decide +kernel
theorem d_Ent_removeForServersDown_26 : decode b_Ent_removeForServersDown 26 = .ok (.invokevirtual 37, 3) := by decide +kernel
theorem d_Ent_removeForServersDown_29 : decode b_Ent_removeForServersDown 29 = .ok (.iinc 2 1, 3) := by decide +kernel
theorem d_Ent_removeForServersDown_32 : decode b_Ent_removeForServersDown 32 = .ok (.goto (-30), 3) := by decide +kernel
theorem d_Ent_removeForServersDown_35 : decode b_Ent_removeForServersDown 35 = .ok (.return_, 1) := by decide +kernel
theorem d_Srv_setOn_0 : decode b_Srv_setOn 0 = .ok (.aload_n 0, 1) := by decide +kernel
theorem d_Srv_setOn_1 : decode b_Srv_setOn 1 = .ok (.getfield 27, 3) := by decide +kernel
theorem d_Srv_setOn_4 : decode b_Srv_setOn 4 = .ok (.iload_n 1, 1) := by decide +kernel
theorem d_Srv_setOn_5 : decode b_Srv_setOn 5 = .ok (.if_icmp .ne 5, 3) := by decide +kernel
theorem d_Srv_setOn_8 : decode b_Srv_setOn 8 = .ok (.iconst 0, 1) := by decide +kernel
theorem d_Srv_setOn_9 : decode b_Srv_setOn 9 = .ok (.ireturn, 1) := by decide +kernel
theorem d_Srv_setOn_10 : decode b_Srv_setOn 10 = .ok (.aload_n 0, 1) := by decide +kernel
theorem d_Srv_setOn_11 : decode b_Srv_setOn 11 = .ok (.iload_n 1, 1) := by decide +kernel
theorem d_Srv_setOn_12 : decode b_Srv_setOn 12 = .ok (.putfield 27, 3) := by decide +kernel
theorem d_Srv_setOn_15 : decode b_Srv_setOn 15 = .ok (.iload_n 1, 1) := by decide +kernel
theorem d_Srv_setOn_16 : decode b_Srv_setOn 16 = .ok (.ifCond .ne 10, 3) := by decide +kernel
theorem d_Srv_setOn_19 : decode b_Srv_setOn 19 = .ok (.aload_n 0, 1) := by decide +kernel
theorem d_Srv_setOn_20 : decode b_Srv_setOn 20 = .ok (.getfield 16, 3) := by decide +kernel
theorem d_Srv_setOn_23 : decode b_Srv_setOn 23 = .ok (.invokevirtual 38, 3) := by decide +kernel
theorem d_Srv_setOn_26 : decode b_Srv_setOn 26 = .ok (.iconst 1, 1) := by decide +kernel
theorem d_Srv_setOn_27 : decode b_Srv_setOn 27 = .ok (.ireturn, 1) := by decide +kernel
theorem d_Srv_greet_0 : decode b_Srv_greet 0 = .ok (.iload_n 1, 1) := by decide +kernel
theorem d_Srv_greet_1 : decode b_Srv_greet 1 = .ok (.iconst (-1), 1) := by decide +kernel
theorem d_Srv_greet_2 : decode b_Srv_greet 2 = .ok (.if_icmp .ne 5, 3) := by decide +kernel
theorem d_Srv_greet_5 : decode b_Srv_greet 5 = .ok (.iconst 4, 1) := by decide +kernel
theorem d_Srv_greet_6 : decode b_Srv_greet 6 = .ok (.ireturn, 1) := by decide +kernel
theorem d_Srv_greet_7 : decode b_Srv_greet 7 = .ok (.aload_n 0, 1) := by decide +kernel
theorem d_Srv_greet_8 : decode b_Srv_greet 8 = .ok (.getfield 31, 3) := by decide +kernel
theorem d_Srv_greet_11 : decode b_Srv_greet 11 = .ok (.iload_n 1, 1) := by decide +kernel
theorem d_Srv_greet_12 : decode b_Srv_greet 12 = .ok (.iload_n 2, 1) := by decide +kernel
theorem d_Srv_greet_13 : decode b_Srv_greet 13 = .ok (.iconst 1, 1) := by decide +kernel
theorem d_Srv_greet_14 : decode b_Srv_greet 14 = .ok (.iadd, 1) := by decide +kernel
theorem d_Srv_greet_15 : decode b_Srv_greet 15 = .ok (.iastore, 1) := by decide +kernel
theorem d_Srv_greet_16 : decode b_Srv_greet 16 = .ok (.aload_n 0, 1) := by decide +kernel
theorem d_Srv_greet_17 : decode b_Srv_greet 17 = .ok (.getfield 35, 3) := by decide +kernel
theorem d_Srv_greet_20 : decode b_Srv_greet 20 = .ok (.iload_n 1, 1) := by decide +kernel
theorem d_Srv_greet_21 : decode b_Srv_greet 21 = .ok (.iconst 0, 1) := by decide +kernel
theorem d_Srv_greet_22 : decode b_Srv_greet 22 = .ok (.iastore, 1) := by decide +kernel
theorem d_Srv_greet_23 : decode b_Srv_greet 23 = .ok (.iconst 1, 1) := by decide +kernel
theorem d_Srv_greet_24 : decode b_Srv_greet 24 = .ok (.ireturn, 1) := by decide +kernel
theorem d_Srv_goOn_0 : decode b_Srv_goOn 0 = .ok (.iload_n 2, 1) := by decide +kernel
theorem d_Srv_goOn_1 : decode b_Srv_goOn 1 = .ok (.aload_n 0, 1) := by decide +kernel
theorem d_Srv_goOn_2 : decode b_Srv_goOn 2 = .ok (.getfield 31, 3) := by decide +kernel
theorem d_Srv_goOn_5 : decode b_Srv_goOn 5 = .ok (.iload_n 1, 1) := by decide +kernel
theorem d_Srv_goOn_6 : decode b_Srv_goOn 6 = .ok (.iaload, 1) := by decide +kernel
theorem d_Srv_goOn_7 : decode b_Srv_goOn 7 = .ok (.if_icmp .ne 7, 3) := by decide +kernel
theorem d_Srv_goOn_10 : decode b_Srv_goOn 10 = .ok (.iconst 1, 1) := by decide +kernel
theorem d_Srv_goOn_11 : decode b_Srv_goOn 11 = .ok (.goto 4, 3) := by decide +kernel
theorem d_Srv_goOn_14 : decode b_Srv_goOn 14 = .ok (.iconst 0, 1) := by decide +kernel
theorem d_Srv_goOn_15 : decode b_Srv_goOn 15 = .ok (.istore 4, 2) := by decide +kernel
theorem d_Srv_goOn_17 : decode b_Srv_goOn 17 = .ok (.iload 4, 2) := by decide +kernel
theorem d_Srv_goOn_19 : decode b_Srv_goOn 19 = .ok (.ifCond .eq 29, 3) := by decide +kernel
theorem d_Srv_goOn_22 : decode b_Srv_goOn 22 = .ok (.iload_n 3, 1) := by decide +kernel
theorem d_Srv_goOn_23 : decode b_Srv_goOn 23 = .ok (.bipush 16, 2) := by decide +kernel
theorem d_Srv_goOn_25 : decode b_Srv_goOn 25 = .ok (.if_icmp .ne 23, 3) := by decide +kernel
theorem d_Srv_goOn_28 : decode b_Srv_goOn 28 = .ok (.aload_n 0, 1) := by decide +kernel
theorem d_Srv_goOn_29 : decode b_Srv_goOn 29 = .ok (.getfield 31, 3) := by decide +kernel
theorem d_Srv_goOn_32 : decode b_Srv_goOn 32 = .ok (.iload_n 1, 1) := by decide +kernel
theorem d_Srv_goOn_33 : decode b_Srv_goOn 33 = .ok (.dup2, 1) := by decide +kernel
theorem d_Srv_goOn_34 : decode b_Srv_goOn 34 = .ok (.iaload, 1) := by decide +kernel
theorem d_Srv_goOn_35 : decode b_Srv_goOn 35 = .ok (.iconst 1, 1) := by decide +kernel
theorem d_Srv_goOn_36 : decode b_Srv_goOn 36 = .ok (.iadd, 1) := by decide +kernel
theorem d_Srv_goOn_37 : decode b_Srv_goOn 37 = .ok (.iastore, 1) := by decide +kernel
theorem d_Srv_goOn_38 : decode b_Srv_goOn 38 = .ok (.aload_n 0, 1) := by decide +kernel
theorem d_Srv_goOn_39 : decode b_Srv_goOn 39 = .ok (.getfield 35, 3) := by decide +kernel
theorem d_Srv_goOn_42 : decode b_Srv_goOn 42 = .ok (.iload_n 1, 1) := by decide +kernel
theorem d_Srv_goOn_43 : decode b_Srv_goOn 43 = .ok (.dup2, 1) := by decide +kernel
theorem d_Srv_goOn_44 : decode b_Srv_goOn 44 = .ok (.iaload, 1) := by decide +kernel
theorem d_Srv_goOn_45 : decode b_Srv_goOn 45 = .ok (.iconst 1, 1) := by decide +kernel
theorem d_Srv_goOn_46 : decode b_Srv_goOn 46 = .ok (.iadd, 1) := by decide +kernel
theorem d_Srv_goOn_47 : decode b_Srv_goOn 47 = .ok (.iastore, 1) := by decide +kernel
theorem d_Srv_goOn_48 : decode b_Srv_goOn 48 = .ok (.aload_n 0, 1) := by decide +kernel
theorem d_Srv_goOn_49 : decode b_Srv_goOn 49 = .ok (.aload_n 0, 1) := by decide +kernel
theorem d_Srv_goOn_50 : decode b_Srv_goOn 50 = .ok (.getfield 35, 3) := by decide +kernel
theorem d_Srv_goOn_53 : decode b_Srv_goOn 53 = .ok (.iload_n 1, 1) := by decide +kernel
theorem d_Srv_goOn_54 : decode b_Srv_goOn 54 = .ok (.iaload, 1) := by decide +kernel
theorem d_Srv_goOn_55 : decode b_Srv_goOn 55 = .ok (.putfield 41, 3) := by decide +kernel
theorem d_Srv_goOn_58 : decode b_Srv_goOn 58 = .ok (.iload 4, 2) := by decide +kernel
theorem d_Srv_goOn_60 : decode b_Srv_goOn 60 = .ok (.ifCond .ne 5, 3) := by decide +kernel
theorem d_Srv_goOn_63 : decode b_Srv_goOn 63 = .ok (.iconst 3, 1) := by decide +kernel
theorem d_Srv_goOn_64 : decode b_Srv_goOn 64 = .ok (.ireturn, 1) := by decide +kernel
theorem d_Srv_goOn_65 : decode b_Srv_goOn 65 = .ok (.iload_n 3, 1) := by decide +kernel
theorem d_Srv_goOn_66 : decode b_Srv_goOn 66 = .ok (.bipush 16, 2) := by decide +kernel
theorem d_Srv_goOn_68 : decode b_Srv_goOn 68 = .ok (.if_icmp .ne 5, 3) := by decide +kernel
theorem d_Srv_goOn_71 : decode b_Srv_goOn 71 = .ok (.iconst 2, 1) := by decide +kernel
theorem d_Srv_goOn_72 : decode b_Srv_goOn 72 = .ok (.ireturn, 1) := by decide +kernel
theorem d_Srv_goOn_73 : decode b_Srv_goOn 73 = .ok (.aload_n 0, 1) := by decide +kernel
theorem d_Srv_goOn_74 : decode b_Srv_goOn 74 = .ok (.getfield 16, 3) := by decide +kernel
theorem d_Srv_goOn_77 : decode b_Srv_goOn 77 = .ok (.iload_n 1, 1) := by decide +kernel
theorem d_Srv_goOn_78 : decode b_Srv_goOn 78 = .ok (.invokevirtual 55, 3) := by decide +kernel
theorem d_Srv_goOn_81 : decode b_Srv_goOn 81 = .ok (.iconst 5, 1) := by decide +kernel
theorem d_Srv_goOn_82 : decode b_Srv_goOn 82 = .ok (.ireturn, 1) := by decide +kernel
theorem d_Srv_receive_0 : decode b_Srv_receive 0 = .ok (.aload_n 0, 1) := by decide +kernel
theorem d_Srv_receive_1 : decode b_Srv_receive 1 = .ok (.iconst 0, 1) := by decide +kernel
theorem d_Srv_receive_2 : decode b_Srv_receive 2 = .ok (.putfield 41, 3) := by decide +kernel
theorem d_Srv_receive_5 : decode b_Srv_receive 5 = .ok (.iload 4, 2) := by decide +kernel
theorem d_Srv_receive_7 : decode b_Srv_receive 7 = .ok (.iconst 2, 1) := by decide +kernel
theorem d_Srv_receive_8 : decode b_Srv_receive 8 = .ok (.if_icmp .ne 18, 3) := by decide +kernel
theorem d_Srv_receive_11 : decode b_Srv_receive 11 = .ok (.aload_n 0, 1) := by decide +kernel
theorem d_Srv_receive_12 : decode b_Srv_receive 12 = .ok (.aload_n 0, 1) := by decide +kernel
theorem d_Srv_receive_13 : decode b_Srv_receive 13 = .ok (.getfield 16, 3) := by decide +kernel
theorem d_Srv_receive_16 : decode b_Srv_receive 16 = .ok (.iload_n 1, 1) := by decide +kernel
theorem d_Srv_receive_17 : decode b_Srv_receive 17 = .ok (.iload_n 2, 1) := by decide +kernel
theorem d_Srv_receive_18 : decode b_Srv_receive 18 = .ok (.invokevirtual 45, 3) := by decide +kernel
theorem d_Srv_receive_21 : decode b_Srv_receive 21 = .ok (.iload_n 3, 1) := by decide +kernel
theorem d_Srv_receive_22 : decode b_Srv_receive 22 = .ok (.invokevirtual 49, 3) := by decide +kernel
theorem d_Srv_receive_25 : decode b_Srv_receive 25 = .ok (.ireturn, 1) := by decide +kernel
theorem d_Srv_receive_26 : decode b_Srv_receive 26 = .ok (.aload_n 0, 1) := by decide +kernel
theorem d_Srv_receive_27 : decode b_Srv_receive 27 = .ok (.getfield 16, 3) := by decide +kernel
theorem d_Srv_receive_30 : decode b_Srv_receive 30 = .ok (.iload_n 1, 1) := by decide +kernel
theorem d_Srv_receive_31 : decode b_Srv_receive 31 = .ok (.iload_n 2, 1) := by decide +kernel
theorem d_Srv_receive_32 : decode b_Srv_receive 32 = .ok (.invokevirtual 52, 3) := by decide +kernel
theorem d_Srv_receive_35 : decode b_Srv_receive 35 = .ok (.istore 5, 2) := by decide +kernel
theorem d_Srv_receive_37 : decode b_Srv_receive 37 = .ok (.iload 4, 2) := by decide +kernel
theorem d_Srv_receive_39 : decode b_Srv_receive 39 = .ok (.iconst 4, 1) := by decide +kernel
theorem d_Srv_receive_40 : decode b_Srv_receive 40 = .ok (.if_icmp .ne 20, 3) := by decide +kernel
theorem d_Srv_receive_43 : decode b_Srv_receive 43 = .ok (.iload 5, 2) := by decide +kernel
theorem d_Srv_receive_45 : decode b_Srv_receive 45 = .ok (.iconst (-1), 1) := by decide +kernel
theorem d_Srv_receive_46 : decode b_Srv_receive 46 = .ok (.if_icmp .eq 12, 3) := by decide +kernel
theorem d_Srv_receive_49 : decode b_Srv_receive 49 = .ok (.aload_n 0, 1) := by decide +kernel
theorem d_Srv_receive_50 : decode b_Srv_receive 50 = .ok (.getfield 16, 3) := by decide +kernel
theorem d_Srv_receive_53 : decode b_Srv_receive 53 = .ok (.iload 5, 2) := by decide +kernel
theorem d_Srv_receive_55 : decode b_Srv_receive 55 = .ok (.invokevirtual 55, 3) := by decide +kernel
theorem d_Srv_receive_58 : decode b_Srv_receive 58 = .ok (.iconst 0, 1) := by decide +kernel
theorem d_Srv_receive_59 : decode b_Srv_receive 59 = .ok (.ireturn, 1) := by decide +kernel
theorem d_Srv_receive_60 : decode b_Srv_receive 60 = .ok (.iload 5, 2) := by decide +kernel
theorem d_Srv_receive_62 : decode b_Srv_receive 62 = .ok (.iconst (-1), 1) := by decide +kernel
theorem d_Srv_receive_63 : decode b_Srv_receive 63 = .ok (.if_icmp .ne 7, 3) := by decide +kernel
theorem d_Srv_receive_66 : decode b_Srv_receive 66 = .ok (.iconst 4, 1) := by decide +kernel
theorem d_Srv_receive_67 : decode b_Srv_receive 67 = .ok (.goto 12, 3) := by decide +kernel
theorem d_Srv_receive_70 : decode b_Srv_receive 70 = .ok (.aload_n 0, 1) := by decide +kernel
theorem d_Srv_receive_71 : decode b_Srv_receive 71 = .ok (.iload 5, 2) := by decide +kernel
theorem d_Srv_receive_73 : decode b_Srv_receive 73 = .ok (.iload_n 3, 1) := by decide +kernel
theorem d_Srv_receive_74 : decode b_Srv_receive 74 = .ok (.iload 4, 2) := by decide +kernel
theorem d_Srv_receive_76 : decode b_Srv_receive 76 = .ok (.invokevirtual 58, 3) := by decide +kernel
theorem d_Srv_receive_79 : decode b_Srv_receive 79 = .ok (.ireturn, 1) := by decide +kernel
