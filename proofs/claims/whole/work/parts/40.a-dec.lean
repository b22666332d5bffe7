theorem d_Mod_within_0 : decode b_Mod_within 0 = .ok (.iload_n 0, 1) := by decide +kernel
theorem d_Mod_within_1 : decode b_Mod_within 1 = .ok (.iload_n 1, 1) := by decide +kernel
theorem d_Mod_within_2 : decode b_Mod_within 2 = .ok (.if_icmp .ge 7, 3) := by decide +kernel
theorem d_Mod_within_5 : decode b_Mod_within 5 = .ok (.iload_n 1, 1) := by decide +kernel
theorem d_Mod_within_6 : decode b_Mod_within 6 = .ok (.goto 13, 3) := by decide +kernel
theorem d_Mod_within_9 : decode b_Mod_within 9 = .ok (.iload_n 0, 1) := by decide +kernel
theorem d_Mod_within_10 : decode b_Mod_within 10 = .ok (.iload_n 2, 1) := by decide +kernel
theorem d_Mod_within_11 : decode b_Mod_within 11 = .ok (.if_icmp .le 7, 3) := by decide +kernel
theorem d_Mod_within_14 : decode b_Mod_within 14 = .ok (.iload_n 2, 1) := by decide +kernel
theorem d_Mod_within_15 : decode b_Mod_within 15 = .ok (.goto 4, 3) := by decide +kernel
theorem d_Mod_within_18 : decode b_Mod_within 18 = .ok (.iload_n 0, 1) := by decide +kernel
theorem d_Mod_within_19 : decode b_Mod_within 19 = .ok (.ireturn, 1) := by decide +kernel
theorem d_Mod_prime_0 : decode b_Mod_prime 0 = .ok (.iconst 2, 1) := by decide +kernel
theorem d_Mod_prime_1 : decode b_Mod_prime 1 = .ok (.istore_n 1, 1) := by decide +kernel
theorem d_Mod_prime_2 : decode b_Mod_prime 2 = .ok (.iload_n 1, 1) := by decide +kernel
theorem d_Mod_prime_3 : decode b_Mod_prime 3 = .ok (.iload_n 0, 1) := by decide +kernel
theorem d_Mod_prime_4 : decode b_Mod_prime 4 = .ok (.if_icmp .ge 17, 3) := by decide +kernel
theorem d_Mod_prime_7 : decode b_Mod_prime 7 = .ok (.iload_n 0, 1) := by decide +kernel
theorem d_Mod_prime_8 : decode b_Mod_prime 8 = .ok (.iload_n 1, 1) := by decide +kernel
theorem d_Mod_prime_9 : decode b_Mod_prime 9 = .ok (.irem, 1) := by decide +kernel
theorem d_Mod_prime_10 : decode b_Mod_prime 10 = .ok (.ifCond .ne 5, 3) := by decide +kernel
theorem d_Mod_prime_13 : decode b_Mod_prime 13 = .ok (.iconst 0, 1) := by decide +kernel
theorem d_Mod_prime_14 : decode b_Mod_prime 14 = .ok (.ireturn, 1) := by decide +kernel
theorem d_Mod_prime_15 : decode b_Mod_prime 15 = .ok (.iinc 1 1, 3) := by decide +kernel
theorem d_Mod_prime_18 : decode b_Mod_prime 18 = .ok (.goto (-16), 3) := by decide +kernel
theorem d_Mod_prime_21 : decode b_Mod_prime 21 = .ok (.iconst 1, 1) := by decide +kernel
theorem d_Mod_prime_22 : decode b_Mod_prime 22 = .ok (.ireturn, 1) := by decide +kernel
theorem d_Mod_upper_0 : decode b_Mod_upper 0 = .ok (.lload_n 0, 1) := by decide +kernel
theorem d_Mod_upper_1 : decode b_Mod_upper 1 = .ok (.ldc2_w 134, 3) := by decide +kernel
theorem d_Mod_upper_4 : decode b_Mod_upper 4 = .ok (.ldiv, 1) := by decide +kernel
theorem d_Mod_upper_5 : decode b_Mod_upper 5 = .ok (.ldc2_w 134, 3) := by decide +kernel
theorem d_Mod_upper_8 : decode b_Mod_upper 8 = .ok (.ldiv, 1) := by decide +kernel
theorem d_Mod_upper_9 : decode b_Mod_upper 9 = .ok (.lstore_n 2, 1) := by decide +kernel
theorem d_Mod_upper_10 : decode b_Mod_upper 10 = .ok (.lload_n 0, 1) := by decide +kernel
theorem d_Mod_upper_11 : decode b_Mod_upper 11 = .ok (.lload_n 2, 1) := by decide +kernel
theorem d_Mod_upper_12 : decode b_Mod_upper 12 = .ok (.ldc2_w 134, 3) := by decide +kernel
theorem d_Mod_upper_15 : decode b_Mod_upper 15 = .ok (.lmul, 1) := by decide +kernel
theorem d_Mod_upper_16 : decode b_Mod_upper 16 = .ok (.ldc2_w 134, 3) := by decide +kernel
theorem d_Mod_upper_19 : decode b_Mod_upper 19 = .ok (.lmul, 1) := by decide +kernel
theorem d_Mod_upper_20 : decode b_Mod_upper 20 = .ok (.lsub, 1) := by decide +kernel
theorem d_Mod_upper_21 : decode b_Mod_upper 21 = .ok (.lstore 4, 2) := by decide +kernel
theorem d_Mod_upper_23 : decode b_Mod_upper 23 = .ok (.lload 4, 2) := by decide +kernel
theorem d_Mod_upper_25 : decode b_Mod_upper 25 = .ok (.lconst 0, 1) := by decide +kernel
theorem d_Mod_upper_26 : decode b_Mod_upper 26 = .ok (.lcmp, 1) := by decide +kernel
theorem d_Mod_upper_27 : decode b_Mod_upper 27 = .ok (.ifCond .ge 9, 3) := by decide +kernel
theorem d_Mod_upper_30 : decode b_Mod_upper 30 = .ok (.lload_n 2, 1) := by decide +kernel
theorem d_Mod_upper_31 : decode b_Mod_upper 31 = .ok (.lconst 1, 1) := by decide +kernel
theorem d_Mod_upper_32 : decode b_Mod_upper 32 = .ok (.lsub, 1) := by decide +kernel
theorem d_Mod_upper_33 : decode b_Mod_upper 33 = .ok (.goto 4, 3) := by decide +kernel
theorem d_Mod_upper_36 : decode b_Mod_upper 36 = .ok (.lload_n 2, 1) := by decide +kernel
theorem d_Mod_upper_37 : decode b_Mod_upper 37 = .ok (.lstore 6, 2) := by decide +kernel
theorem d_Mod_upper_39 : decode b_Mod_upper 39 = .ok (.lload 6, 2) := by decide +kernel
theorem d_Mod_upper_41 : decode b_Mod_upper 41 = .ok (.lconst 0, 1) := by decide +kernel
theorem d_Mod_upper_42 : decode b_Mod_upper 42 = .ok (.lcmp, 1) := by decide +kernel
theorem d_Mod_upper_43 : decode b_Mod_upper 43 = .ok (.ifCond .ge 12, 3) := by decide +kernel
theorem d_Mod_upper_46 : decode b_Mod_upper 46 = .ok (.lload 6, 2) := by decide +kernel
theorem d_Mod_upper_48 : decode b_Mod_upper 48 = .ok (.ldc2_w 136, 3) := by decide +kernel
theorem d_Mod_upper_51 : decode b_Mod_upper 51 = .ok (.ladd, 1) := by decide +kernel
theorem d_Mod_upper_52 : decode b_Mod_upper 52 = .ok (.goto 5, 3) := by decide +kernel
theorem d_Mod_upper_55 : decode b_Mod_upper 55 = .ok (.lload 6, 2) := by decide +kernel
theorem d_Mod_upper_57 : decode b_Mod_upper 57 = .ok (.lreturn, 1) := by decide +kernel
theorem d_Mod_lower_0 : decode b_Mod_lower 0 = .ok (.lload_n 0, 1) := by decide +kernel
theorem d_Mod_lower_1 : decode b_Mod_lower 1 = .ok (.ldc2_w 136, 3) := by decide +kernel
theorem d_Mod_lower_4 : decode b_Mod_lower 4 = .ok (.lrem, 1) := by decide +kernel
theorem d_Mod_lower_5 : decode b_Mod_lower 5 = .ok (.lstore_n 2, 1) := by decide +kernel
theorem d_Mod_lower_6 : decode b_Mod_lower 6 = .ok (.lload_n 2, 1) := by decide +kernel
theorem d_Mod_lower_7 : decode b_Mod_lower 7 = .ok (.lconst 0, 1) := by decide +kernel
theorem d_Mod_lower_8 : decode b_Mod_lower 8 = .ok (.lcmp, 1) := by decide +kernel
theorem d_Mod_lower_9 : decode b_Mod_lower 9 = .ok (.ifCond .ge 11, 3) := by decide +kernel
theorem d_Mod_lower_12 : decode b_Mod_lower 12 = .ok (.lload_n 2, 1) := by decide +kernel
theorem d_Mod_lower_13 : decode b_Mod_lower 13 = .ok (.ldc2_w 136, 3) := by decide +kernel
theorem d_Mod_lower_16 : decode b_Mod_lower 16 = .ok (.ladd, 1) := by decide +kernel
theorem d_Mod_lower_17 : decode b_Mod_lower 17 = .ok (.goto 4, 3) := by decide +kernel
theorem d_Mod_lower_20 : decode b_Mod_lower 20 = .ok (.lload_n 2, 1) := by decide +kernel
theorem d_Mod_lower_21 : decode b_Mod_lower 21 = .ok (.lreturn, 1) := by decide +kernel
theorem d_Mod_halves_0 : decode b_Mod_halves 0 = .ok (.iload_n 0, 1) := by decide +kernel
theorem d_Mod_halves_1 : decode b_Mod_halves 1 = .ok (.ldc 138, 2) := by decide +kernel
theorem d_Mod_halves_3 : decode b_Mod_halves 3 = .ok (.iand, 1) := by decide +kernel
theorem d_Mod_halves_4 : decode b_Mod_halves 4 = .ok (.istore_n 1, 1) := by decide +kernel
theorem d_Mod_halves_5 : decode b_Mod_halves 5 = .ok (.iload_n 0, 1) := by decide +kernel
theorem d_Mod_halves_6 : decode b_Mod_halves 6 = .ok (.bipush 16, 2) := by decide +kernel
theorem d_Mod_halves_8 : decode b_Mod_halves 8 = .ok (.ishr, 1) := by decide +kernel
theorem d_Mod_halves_9 : decode b_Mod_halves 9 = .ok (.ldc 138, 2) := by decide +kernel
theorem d_Mod_halves_11 : decode b_Mod_halves 11 = .ok (.iand, 1) := by decide +kernel
theorem d_Mod_halves_12 : decode b_Mod_halves 12 = .ok (.istore_n 2, 1) := by decide +kernel
theorem d_Mod_halves_13 : decode b_Mod_halves 13 = .ok (.iload_n 1, 1) := by decide +kernel
theorem d_Mod_halves_14 : decode b_Mod_halves 14 = .ok (.iload_n 2, 1) := by decide +kernel
theorem d_Mod_halves_15 : decode b_Mod_halves 15 = .ok (.iadd, 1) := by decide +kernel
theorem d_Mod_halves_16 : decode b_Mod_halves 16 = .ok (.ireturn, 1) := by decide +kernel
theorem d_Mod_fold_0 : decode b_Mod_fold 0 = .ok (.iload_n 0, 1) := by decide +kernel
theorem d_Mod_fold_1 : decode b_Mod_fold 1 = .ok (.istore_n 1, 1) := by decide +kernel
theorem d_Mod_fold_2 : decode b_Mod_fold 2 = .ok (.iconst 0, 1) := by decide +kernel
theorem d_Mod_fold_3 : decode b_Mod_fold 3 = .ok (.istore_n 2, 1) := by decide +kernel
theorem d_Mod_fold_4 : decode b_Mod_fold 4 = .ok (.iload_n 2, 1) := by decide +kernel
theorem d_Mod_fold_5 : decode b_Mod_fold 5 = .ok (.bipush 20, 2) := by decide +kernel
theorem d_Mod_fold_7 : decode b_Mod_fold 7 = .ok (.if_icmp .ge 25, 3) := by decide +kernel
theorem d_Mod_fold_10 : decode b_Mod_fold 10 = .ok (.iload_n 1, 1) := by decide +kernel
theorem d_Mod_fold_11 : decode b_Mod_fold 11 = .ok (.ldc 138, 2) := by decide +kernel
theorem d_Mod_fold_13 : decode b_Mod_fold 13 = .ok (.if_icmp .le 19, 3) := by decide +kernel
theorem d_Mod_fold_16 : decode b_Mod_fold 16 = .ok (.iload_n 1, 1) := by decide +kernel
theorem d_Mod_fold_17 : decode b_Mod_fold 17 = .ok (.ldc 139, 2) := by decide +kernel
theorem d_Mod_fold_19 : decode b_Mod_fold 19 = .ok (.irem, 1) := by decide +kernel
theorem d_Mod_fold_20 : decode b_Mod_fold 20 = .ok (.iload_n 1, 1) := by decide +kernel
theorem d_Mod_fold_21 : decode b_Mod_fold 21 = .ok (.ldc 139, 2) := by decide +kernel
theorem d_Mod_fold_23 : decode b_Mod_fold 23 = .ok (.idiv, 1) := by decide +kernel
theorem d_Mod_fold_24 : decode b_Mod_fold 24 = .ok (.iadd, 1) := by decide +kernel
theorem d_Mod_fold_25 : decode b_Mod_fold 25 = .ok (.istore_n 1, 1) := by decide +kernel
theorem d_Mod_fold_26 : decode b_Mod_fold 26 = .ok (.iinc 2 1, 3) := by decide +kernel
theorem d_Mod_fold_29 : decode b_Mod_fold 29 = .ok (.goto (-25), 3) := by decide +kernel
theorem d_Mod_fold_32 : decode b_Mod_fold 32 = .ok (.iload_n 1, 1) := by decide +kernel
theorem d_Mod_fold_33 : decode b_Mod_fold 33 = .ok (.ireturn, 1) := by decide +kernel
theorem d_Mod_checksum_0 : decode b_Mod_checksum 0 = .ok (.iload_n 1, 1) := by decide +kernel
theorem d_Mod_checksum_1 : decode b_Mod_checksum 1 = .ok (.invokestatic 140, 3) := by decide +kernel
theorem d_Mod_checksum_4 : decode b_Mod_checksum 4 = .ok (.iload_n 2, 1) := by decide +kernel
theorem d_Mod_checksum_5 : decode b_Mod_checksum 5 = .ok (.invokestatic 140, 3) := by decide +kernel
theorem d_Mod_checksum_8 : decode b_Mod_checksum 8 = .ok (.iadd, 1) := by decide +kernel
theorem d_Mod_checksum_9 : decode b_Mod_checksum 9 = .ok (.iload_n 3, 1) := by decide +kernel
theorem d_Mod_checksum_10 : decode b_Mod_checksum 10 = .ok (.bipush 16, 2) := by decide +kernel
theorem d_Mod_checksum_12 : decode b_Mod_checksum 12 = .ok (.ishr, 1) := by decide +kernel
theorem d_Mod_checksum_13 : decode b_Mod_checksum 13 = .ok (.ldc 138, 2) := by decide +kernel
theorem d_Mod_checksum_15 : decode b_Mod_checksum 15 = .ok (.iand, 1) := by decide +kernel
theorem d_Mod_checksum_16 : decode b_Mod_checksum 16 = .ok (.iadd, 1) := by decide +kernel
theorem d_Mod_checksum_17 : decode b_Mod_checksum 17 = .ok (.iload 4, 2) := by decide +kernel
theorem d_Mod_checksum_19 : decode b_Mod_checksum 19 = .ok (.invokestatic 140, 3) := by decide +kernel
theorem d_Mod_checksum_22 : decode b_Mod_checksum 22 = .ok (.iadd, 1) := by decide +kernel
theorem d_Mod_checksum_23 : decode b_Mod_checksum 23 = .ok (.iload 5, 2) := by decide +kernel
theorem d_Mod_checksum_25 : decode b_Mod_checksum 25 = .ok (.invokestatic 140, 3) := by decide +kernel
theorem d_Mod_checksum_28 : decode b_Mod_checksum 28 = .ok (.iadd, 1) := by decide +kernel
theorem d_Mod_checksum_29 : decode b_Mod_checksum 29 = .ok (.istore 6, 2) := by decide +kernel
theorem d_Mod_checksum_31 : decode b_Mod_checksum 31 = .ok (.ldc 138, 2) := by decide +kernel
theorem d_Mod_checksum_33 : decode b_Mod_checksum 33 = .ok (.iload 6, 2) := by decide +kernel
theorem d_Mod_checksum_35 : decode b_Mod_checksum 35 = .ok (.invokestatic 144, 3) := by decide +kernel
theorem d_Mod_checksum_38 : decode b_Mod_checksum 38 = .ok (.isub, 1) := by decide +kernel
theorem d_Mod_checksum_39 : decode b_Mod_checksum 39 = .ok (.ireturn, 1) := by decide +kernel
theorem d_Mod_header_0 : decode b_Mod_header 0 = .ok (.iload_n 1, 1) := by decide +kernel
theorem d_Mod_header_1 : decode b_Mod_header 1 = .ok (.invokestatic 140, 3) := by decide +kernel
theorem d_Mod_header_4 : decode b_Mod_header 4 = .ok (.iload_n 2, 1) := by decide +kernel
theorem d_Mod_header_5 : decode b_Mod_header 5 = .ok (.invokestatic 140, 3) := by decide +kernel
theorem d_Mod_header_8 : decode b_Mod_header 8 = .ok (.iadd, 1) := by decide +kernel
theorem d_Mod_header_9 : decode b_Mod_header 9 = .ok (.iload_n 3, 1) := by decide +kernel
theorem d_Mod_header_10 : decode b_Mod_header 10 = .ok (.invokestatic 140, 3) := by decide +kernel
theorem d_Mod_header_13 : decode b_Mod_header 13 = .ok (.iadd, 1) := by decide +kernel
theorem d_Mod_header_14 : decode b_Mod_header 14 = .ok (.iload 4, 2) := by decide +kernel
theorem d_Mod_header_16 : decode b_Mod_header 16 = .ok (.invokestatic 140, 3) := by decide +kernel
theorem d_Mod_header_19 : decode b_Mod_header 19 = .ok (.iadd, 1) := by decide +kernel
theorem d_Mod_header_20 : decode b_Mod_header 20 = .ok (.iload 5, 2) := by decide +kernel
theorem d_Mod_header_22 : decode b_Mod_header 22 = .ok (.invokestatic 140, 3) := by decide +kernel
theorem d_Mod_header_25 : decode b_Mod_header 25 = .ok (.iadd, 1) := by decide +kernel
theorem d_Mod_header_26 : decode b_Mod_header 26 = .ok (.invokestatic 144, 3) := by decide +kernel
theorem d_Mod_header_29 : decode b_Mod_header 29 = .ok (.istore 6, 2) := by decide +kernel
theorem d_Mod_header_31 : decode b_Mod_header 31 = .ok (.iload_n 1, 1) := by decide +kernel
theorem d_Mod_header_32 : decode b_Mod_header 32 = .ok (.ldc 138, 2) := by decide +kernel
theorem d_Mod_header_34 : decode b_Mod_header 34 = .ok (.iand, 1) := by decide +kernel
theorem d_Mod_header_35 : decode b_Mod_header 35 = .ok (.istore 7, 2) := by decide +kernel
theorem d_Mod_header_37 : decode b_Mod_header 37 = .ok (.iload_n 1, 1) := by decide +kernel
theorem d_Mod_header_38 : decode b_Mod_header 38 = .ok (.bipush 24, 2) := by decide +kernel
theorem d_Mod_header_40 : decode b_Mod_header 40 = .ok (.ishr, 1) := by decide +kernel
theorem d_Mod_header_41 : decode b_Mod_header 41 = .ok (.sipush 255, 3) := by decide +kernel
theorem d_Mod_header_44 : decode b_Mod_header 44 = .ok (.iand, 1) := by decide +kernel
theorem d_Mod_header_45 : decode b_Mod_header 45 = .ok (.bipush 69, 2) := by decide +kernel
theorem d_Mod_header_47 : decode b_Mod_header 47 = .ok (.if_icmp .eq 5, 3) := by decide +kernel
theorem d_Mod_header_50 : decode b_Mod_header 50 = .ok (.iconst 1, 1) := by decide +kernel
theorem d_Mod_header_51 : decode b_Mod_header 51 = .ok (.ireturn, 1) := by decide +kernel
theorem d_Mod_header_52 : decode b_Mod_header 52 = .ok (.iload 6, 2) := by decide +kernel
theorem d_Mod_header_54 : decode b_Mod_header 54 = .ok (.ldc 138, 2) := by decide +kernel
theorem d_Mod_header_56 : decode b_Mod_header 56 = .ok (.if_icmp .eq 5, 3) := by decide +kernel
theorem d_Mod_header_59 : decode b_Mod_header 59 = .ok (.iconst 2, 1) := by decide +kernel
theorem d_Mod_header_60 : decode b_Mod_header 60 = .ok (.ireturn, 1) := by decide +kernel
theorem d_Mod_header_61 : decode b_Mod_header 61 = .ok (.iload 7, 2) := by decide +kernel
theorem d_Mod_header_63 : decode b_Mod_header 63 = .ok (.bipush 40, 2) := by decide +kernel
theorem d_Mod_header_65 : decode b_Mod_header 65 = .ok (.if_icmp .lt 11, 3) := by decide +kernel
theorem d_Mod_header_68 : decode b_Mod_header 68 = .ok (.iload 7, 2) := by decide +kernel
theorem d_Mod_header_70 : decode b_Mod_header 70 = .ok (.sipush 1480, 3) := by decide +kernel
theorem d_Mod_header_73 : decode b_Mod_header 73 = .ok (.if_icmp .le 5, 3) := by decide +kernel
theorem d_Mod_header_76 : decode b_Mod_header 76 = .ok (.iconst 3, 1) := by decide +kernel
theorem d_Mod_header_77 : decode b_Mod_header 77 = .ok (.ireturn, 1) := by decide +kernel
theorem d_Mod_header_78 : decode b_Mod_header 78 = .ok (.iload_n 2, 1) := by decide +kernel
theorem d_Mod_header_79 : decode b_Mod_header 79 = .ok (.sipush 16384, 3) := by decide +kernel
theorem d_Mod_header_82 : decode b_Mod_header 82 = .ok (.irem, 1) := by decide +kernel
theorem d_Mod_header_83 : decode b_Mod_header 83 = .ok (.ifCond .eq 5, 3) := by decide +kernel
theorem d_Mod_header_86 : decode b_Mod_header 86 = .ok (.iconst 4, 1) := by decide +kernel
theorem d_Mod_header_87 : decode b_Mod_header 87 = .ok (.ireturn, 1) := by decide +kernel
theorem d_Mod_header_88 : decode b_Mod_header 88 = .ok (.iload_n 3, 1) := by decide +kernel
theorem d_Mod_header_89 : decode b_Mod_header 89 = .ok (.bipush 24, 2) := by decide +kernel
theorem d_Mod_header_91 : decode b_Mod_header 91 = .ok (.ishr, 1) := by decide +kernel
theorem d_Mod_header_92 : decode b_Mod_header 92 = .ok (.sipush 255, 3) := by decide +kernel
theorem d_Mod_header_95 : decode b_Mod_header 95 = .ok (.iand, 1) := by decide +kernel
theorem d_Mod_header_96 : decode b_Mod_header 96 = .ok (.ifCond .ne 5, 3) := by decide +kernel
theorem d_Mod_header_99 : decode b_Mod_header 99 = .ok (.iconst 5, 1) := by decide +kernel
theorem d_Mod_header_100 : decode b_Mod_header 100 = .ok (.ireturn, 1) := by decide +kernel
theorem d_Mod_header_101 : decode b_Mod_header 101 = .ok (.iload_n 3, 1) := by decide +kernel
theorem d_Mod_header_102 : decode b_Mod_header 102 = .ok (.bipush 16, 2) := by decide +kernel
theorem d_Mod_header_104 : decode b_Mod_header 104 = .ok (.ishr, 1) := by decide +kernel
theorem d_Mod_header_105 : decode b_Mod_header 105 = .ok (.sipush 255, 3) := by decide +kernel
theorem d_Mod_header_108 : decode b_Mod_header 108 = .ok (.iand, 1) := by decide +kernel
theorem d_Mod_header_109 : decode b_Mod_header 109 = .ok (.bipush 6, 2) := by decide +kernel
theorem d_Mod_header_111 : decode b_Mod_header 111 = .ok (.if_icmp .eq 6, 3) := by decide +kernel
theorem d_Mod_header_114 : decode b_Mod_header 114 = .ok (.bipush 6, 2) := by decide +kernel
theorem d_Mod_header_116 : decode b_Mod_header 116 = .ok (.ireturn, 1) := by decide +kernel
theorem d_Mod_header_117 : decode b_Mod_header 117 = .ok (.iload 5, 2) := by decide +kernel
theorem d_Mod_header_119 : decode b_Mod_header 119 = .ok (.ldc 147, 2) := by decide +kernel
theorem d_Mod_header_121 : decode b_Mod_header 121 = .ok (.if_icmp .eq 6, 3) := by decide +kernel
theorem d_Mod_header_124 : decode b_Mod_header 124 = .ok (.bipush 7, 2) := by decide +kernel
theorem d_Mod_header_126 : decode b_Mod_header 126 = .ok (.ireturn, 1) := by decide +kernel
theorem d_Mod_header_127 : decode b_Mod_header 127 = .ok (.aload_n 0, 1) := by decide +kernel
theorem d_Mod_header_128 : decode b_Mod_header 128 = .ok (.iconst 1, 1) := by decide +kernel
theorem d_Mod_header_129 : decode b_Mod_header 129 = .ok (.putfield 148, 3) := by decide +kernel
theorem d_Mod_header_132 : decode b_Mod_header 132 = .ok (.aload_n 0, 1) := by decide +kernel
theorem d_Mod_header_133 : decode b_Mod_header 133 = .ok (.getfield 81, 3) := by decide +kernel
theorem d_Mod_header_136 : decode b_Mod_header 136 = .ok (.iconst 0, 1) := by decide +kernel
theorem d_Mod_header_137 : decode b_Mod_header 137 = .ok (.iload_n 1, 1) := by decide +kernel
theorem d_Mod_header_138 : decode b_Mod_header 138 = .ok (.iastore, 1) := by decide +kernel
theorem d_Mod_header_139 : decode b_Mod_header 139 = .ok (.aload_n 0, 1) := by decide +kernel
theorem d_Mod_header_140 : decode b_Mod_header 140 = .ok (.getfield 81, 3) := by decide +kernel
theorem d_Mod_header_143 : decode b_Mod_header 143 = .ok (.iconst 1, 1) := by decide +kernel
theorem d_Mod_header_144 : decode b_Mod_header 144 = .ok (.iload_n 2, 1) := by decide +kernel
theorem d_Mod_header_145 : decode b_Mod_header 145 = .ok (.iastore, 1) := by decide +kernel
theorem d_Mod_header_146 : decode b_Mod_header 146 = .ok (.aload_n 0, 1) := by decide +kernel
theorem d_Mod_header_147 : decode b_Mod_header 147 = .ok (.getfield 81, 3) := by decide +kernel
theorem d_Mod_header_150 : decode b_Mod_header 150 = .ok (.iconst 2, 1) := by decide +kernel
theorem d_Mod_header_151 : decode b_Mod_header 151 = .ok (.iload_n 3, 1) := by decide +kernel
theorem d_Mod_header_152 : decode b_Mod_header 152 = .ok (.iastore, 1) := by decide +kernel
theorem d_Mod_header_153 : decode b_Mod_header 153 = .ok (.aload_n 0, 1) := by decide +kernel
theorem d_Mod_header_154 : decode b_Mod_header 154 = .ok (.getfield 81, 3) := by decide +kernel
theorem d_Mod_header_157 : decode b_Mod_header 157 = .ok (.iconst 3, 1) := by decide +kernel
theorem d_Mod_header_158 : decode b_Mod_header 158 = .ok (.iload 4, 2) := by decide +kernel
theorem d_Mod_header_160 : decode b_Mod_header 160 = .ok (.iastore, 1) := by decide +kernel
theorem d_Mod_header_161 : decode b_Mod_header 161 = .ok (.aload_n 0, 1) := by decide +kernel
theorem d_Mod_header_162 : decode b_Mod_header 162 = .ok (.getfield 81, 3) := by decide +kernel
theorem d_Mod_header_165 : decode b_Mod_header 165 = .ok (.iconst 4, 1) := by decide +kernel
theorem d_Mod_header_166 : decode b_Mod_header 166 = .ok (.iload 5, 2) := by decide +kernel
theorem d_Mod_header_168 : decode b_Mod_header 168 = .ok (.iastore, 1) := by decide +kernel
theorem d_Mod_header_169 : decode b_Mod_header 169 = .ok (.iconst 0, 1) := by decide +kernel
theorem d_Mod_header_170 : decode b_Mod_header 170 = .ok (.ireturn, 1) := by decide +kernel
theorem d_Mod_turned_0 : decode b_Mod_turned 0 = .ok (.lload_n 0, 1) := by decide +kernel
theorem d_Mod_turned_1 : decode b_Mod_turned 1 = .ok (.lstore_n 3, 1) := by decide +kernel
theorem d_Mod_turned_2 : decode b_Mod_turned 2 = .ok (.iconst 0, 1) := by decide +kernel
theorem d_Mod_turned_3 : decode b_Mod_turned 3 = .ok (.istore 5, 2) := by decide +kernel
theorem d_Mod_turned_5 : decode b_Mod_turned 5 = .ok (.iload 5, 2) := by decide +kernel
theorem d_Mod_turned_7 : decode b_Mod_turned 7 = .ok (.iload_n 2, 1) := by decide +kernel
theorem d_Mod_turned_8 : decode b_Mod_turned 8 = .ok (.if_icmp .ge 27, 3) := by decide +kernel
theorem d_Mod_turned_11 : decode b_Mod_turned 11 = .ok (.lload_n 3, 1) := by decide +kernel
theorem d_Mod_turned_12 : decode b_Mod_turned 12 = .ok (.lconst 0, 1) := by decide +kernel
theorem d_Mod_turned_13 : decode b_Mod_turned 13 = .ok (.lcmp, 1) := by decide +kernel
theorem d_Mod_turned_14 : decode b_Mod_turned 14 = .ok (.ifCond .ge 11, 3) := by decide +kernel
theorem d_Mod_turned_17 : decode b_Mod_turned 17 = .ok (.lload_n 3, 1) := by decide +kernel
theorem d_Mod_turned_18 : decode b_Mod_turned 18 = .ok (.lload_n 3, 1) := by decide +kernel
theorem d_Mod_turned_19 : decode b_Mod_turned 19 = .ok (.ladd, 1) := by decide +kernel
theorem d_Mod_turned_20 : decode b_Mod_turned 20 = .ok (.lconst 1, 1) := by decide +kernel
theorem d_Mod_turned_21 : decode b_Mod_turned 21 = .ok (.ladd, 1) := by decide +kernel
theorem d_Mod_turned_22 : decode b_Mod_turned 22 = .ok (.goto 6, 3) := by decide +kernel
theorem d_Mod_turned_25 : decode b_Mod_turned 25 = .ok (.lload_n 3, 1) := by decide +kernel
theorem d_Mod_turned_26 : decode b_Mod_turned 26 = .ok (.lload_n 3, 1) := by decide +kernel
theorem d_Mod_turned_27 : decode b_Mod_turned 27 = .ok (.ladd, 1) := by decide +kernel
theorem d_Mod_turned_28 : decode b_Mod_turned 28 = .ok (.lstore_n 3, 1) := by decide +kernel
theorem d_Mod_turned_29 : decode b_Mod_turned 29 = .ok (.iinc 5 1, 3) := by decide +kernel
theorem d_Mod_turned_32 : decode b_Mod_turned 32 = .ok (.goto (-27), 3) := by decide +kernel
theorem d_Mod_turned_35 : decode b_Mod_turned 35 = .ok (.lload_n 3, 1) := by decide +kernel
theorem d_Mod_turned_36 : decode b_Mod_turned 36 = .ok (.lreturn, 1) := by decide +kernel
theorem d_Mod_mix_0 : decode b_Mod_mix 0 = .ok (.aload_n 0, 1) := by decide +kernel
theorem d_Mod_mix_1 : decode b_Mod_mix 1 = .ok (.getfield 7, 3) := by decide +kernel
theorem d_Mod_mix_4 : decode b_Mod_mix 4 = .ok (.iload_n 1, 1) := by decide +kernel
theorem d_Mod_mix_5 : decode b_Mod_mix 5 = .ok (.aload_n 0, 1) := by decide +kernel
theorem d_Mod_mix_6 : decode b_Mod_mix 6 = .ok (.getfield 7, 3) := by decide +kernel
theorem d_Mod_mix_9 : decode b_Mod_mix 9 = .ok (.iload_n 1, 1) := by decide +kernel
theorem d_Mod_mix_10 : decode b_Mod_mix 10 = .ok (.laload, 1) := by decide +kernel
theorem d_Mod_mix_11 : decode b_Mod_mix 11 = .ok (.aload_n 0, 1) := by decide +kernel
theorem d_Mod_mix_12 : decode b_Mod_mix 12 = .ok (.getfield 7, 3) := by decide +kernel
theorem d_Mod_mix_15 : decode b_Mod_mix 15 = .ok (.iload_n 2, 1) := by decide +kernel
theorem d_Mod_mix_16 : decode b_Mod_mix 16 = .ok (.laload, 1) := by decide +kernel
theorem d_Mod_mix_17 : decode b_Mod_mix 17 = .ok (.ladd, 1) := by decide +kernel
theorem d_Mod_mix_18 : decode b_Mod_mix 18 = .ok (.lastore, 1) := by decide +kernel
theorem d_Mod_mix_19 : decode b_Mod_mix 19 = .ok (.aload_n 0, 1) := by decide +kernel
theorem d_Mod_mix_20 : decode b_Mod_mix 20 = .ok (.getfield 7, 3) := by decide +kernel
theorem d_Mod_mix_23 : decode b_Mod_mix 23 = .ok (.iload_n 2, 1) := by decide +kernel
theorem d_Mod_mix_24 : decode b_Mod_mix 24 = .ok (.aload_n 0, 1) := by decide +kernel
theorem d_Mod_mix_25 : decode b_Mod_mix 25 = .ok (.getfield 7, 3) := by decide +kernel
theorem d_Mod_mix_28 : decode b_Mod_mix 28 = .ok (.iload_n 2, 1) := by decide +kernel
theorem d_Mod_mix_29 : decode b_Mod_mix 29 = .ok (.laload, 1) := by decide +kernel
theorem d_Mod_mix_30 : decode b_Mod_mix 30 = .ok (.iload_n 3, 1) := by decide +kernel
theorem d_Mod_mix_31 : decode b_Mod_mix 31 = .ok (.invokestatic 152, 3) := by decide +kernel
theorem d_Mod_mix_34 : decode b_Mod_mix 34 = .ok (.lastore, 1) := by decide +kernel
theorem d_Mod_mix_35 : decode b_Mod_mix 35 = .ok (.aload_n 0, 1) := by decide +kernel
theorem d_Mod_mix_36 : decode b_Mod_mix 36 = .ok (.getfield 7, 3) := by decide +kernel
theorem d_Mod_mix_39 : decode b_Mod_mix 39 = .ok (.iload_n 2, 1) := by decide +kernel
theorem d_Mod_mix_40 : decode b_Mod_mix 40 = .ok (.aload_n 0, 1) := by decide +kernel
theorem d_Mod_mix_41 : decode b_Mod_mix 41 = .ok (.getfield 7, 3) := by decide +kernel
theorem d_Mod_mix_44 : decode b_Mod_mix 44 = .ok (.iload_n 2, 1) := by decide +kernel
theorem d_Mod_mix_45 : decode b_Mod_mix 45 = .ok (.laload, 1) := by decide +kernel
theorem d_Mod_mix_46 : decode b_Mod_mix 46 = .ok (.aload_n 0, 1) := by decide +kernel
theorem d_Mod_mix_47 : decode b_Mod_mix 47 = .ok (.getfield 7, 3) := by decide +kernel
theorem d_Mod_mix_50 : decode b_Mod_mix 50 = .ok (.iload_n 1, 1) := by decide +kernel
theorem d_Mod_mix_51 : decode b_Mod_mix 51 = .ok (.laload, 1) := by decide +kernel
theorem d_Mod_mix_52 : decode b_Mod_mix 52 = .ok (.lxor, 1) := by decide +kernel
theorem d_Mod_mix_53 : decode b_Mod_mix 53 = .ok (.lastore, 1) := by decide +kernel
theorem d_Mod_mix_54 : decode b_Mod_mix 54 = .ok (.aload_n 0, 1) := by decide +kernel
theorem d_Mod_mix_55 : decode b_Mod_mix 55 = .ok (.getfield 7, 3) := by decide +kernel
theorem d_Mod_mix_58 : decode b_Mod_mix 58 = .ok (.iload_n 1, 1) := by decide +kernel
theorem d_Mod_mix_59 : decode b_Mod_mix 59 = .ok (.aload_n 0, 1) := by decide +kernel
theorem d_Mod_mix_60 : decode b_Mod_mix 60 = .ok (.getfield 7, 3) := by decide +kernel
theorem d_Mod_mix_63 : decode b_Mod_mix 63 = .ok (.iload_n 1, 1) := by decide +kernel
theorem d_Mod_mix_64 : decode b_Mod_mix 64 = .ok (.laload, 1) := by decide +kernel
theorem d_Mod_mix_65 : decode b_Mod_mix 65 = .ok (.iload 4, 2) := by decide +kernel
theorem d_Mod_mix_67 : decode b_Mod_mix 67 = .ok (.invokestatic 152, 3) := by decide +kernel
theorem d_Mod_mix_70 : decode b_Mod_mix 70 = .ok (.lastore, 1) := by decide +kernel
theorem d_Mod_mix_71 : decode b_Mod_mix 71 = .ok (.return_, 1) := by decide +kernel
theorem d_Mod_rounds_0 : decode b_Mod_rounds 0 = .ok (.iconst 0, 1) := by decide +kernel
theorem d_Mod_rounds_1 : decode b_Mod_rounds 1 = .ok (.istore_n 2, 1) := by decide +kernel
theorem d_Mod_rounds_2 : decode b_Mod_rounds 2 = .ok (.iload_n 2, 1) := by decide +kernel
theorem d_Mod_rounds_3 : decode b_Mod_rounds 3 = .ok (.iload_n 1, 1) := by decide +kernel
theorem d_Mod_rounds_4 : decode b_Mod_rounds 4 = .ok (.if_icmp .ge 47, 3) := by decide +kernel
theorem d_Mod_rounds_7 : decode b_Mod_rounds 7 = .ok (.aload_n 0, 1) := by decide +kernel
theorem d_Mod_rounds_8 : decode b_Mod_rounds 8 = .ok (.iconst 0, 1) := by decide +kernel
theorem d_Mod_rounds_9 : decode b_Mod_rounds 9 = .ok (.iconst 1, 1) := by decide +kernel
theorem d_Mod_rounds_10 : decode b_Mod_rounds 10 = .ok (.bipush 13, 2) := by decide +kernel
theorem d_Mod_rounds_12 : decode b_Mod_rounds 12 = .ok (.bipush 32, 2) := by decide +kernel
theorem d_Mod_rounds_14 : decode b_Mod_rounds 14 = .ok (.invokevirtual 156, 3) := by decide +kernel
theorem d_Mod_rounds_17 : decode b_Mod_rounds 17 = .ok (.aload_n 0, 1) := by decide +kernel
theorem d_Mod_rounds_18 : decode b_Mod_rounds 18 = .ok (.iconst 2, 1) := by decide +kernel
theorem d_Mod_rounds_19 : decode b_Mod_rounds 19 = .ok (.iconst 3, 1) := by decide +kernel
theorem d_Mod_rounds_20 : decode b_Mod_rounds 20 = .ok (.bipush 16, 2) := by decide +kernel
theorem d_Mod_rounds_22 : decode b_Mod_rounds 22 = .ok (.iconst 0, 1) := by decide +kernel
theorem d_Mod_rounds_23 : decode b_Mod_rounds 23 = .ok (.invokevirtual 156, 3) := by decide +kernel
theorem d_Mod_rounds_26 : decode b_Mod_rounds 26 = .ok (.aload_n 0, 1) := by decide +kernel
theorem d_Mod_rounds_27 : decode b_Mod_rounds 27 = .ok (.iconst 0, 1) := by decide +kernel
theorem d_Mod_rounds_28 : decode b_Mod_rounds 28 = .ok (.iconst 3, 1) := by decide +kernel
theorem d_Mod_rounds_29 : decode b_Mod_rounds 29 = .ok (.bipush 21, 2) := by decide +kernel
theorem d_Mod_rounds_31 : decode b_Mod_rounds 31 = .ok (.iconst 0, 1) := by decide +kernel
theorem d_Mod_rounds_32 : decode b_Mod_rounds 32 = .ok (.invokevirtual 156, 3) := by decide +kernel
theorem d_Mod_rounds_35 : decode b_Mod_rounds 35 = .ok (.aload_n 0, 1) := by decide +kernel
theorem d_Mod_rounds_36 : decode b_Mod_rounds 36 = .ok (.iconst 2, 1) := by decide +kernel
theorem d_Mod_rounds_37 : decode b_Mod_rounds 37 = .ok (.iconst 1, 1) := by decide +kernel
theorem d_Mod_rounds_38 : decode b_Mod_rounds 38 = .ok (.bipush 17, 2) := by decide +kernel
theorem d_Mod_rounds_40 : decode b_Mod_rounds 40 = .ok (.bipush 32, 2) := by decide +kernel
theorem d_Mod_rounds_42 : decode b_Mod_rounds 42 = .ok (.invokevirtual 156, 3) := by decide +kernel
theorem d_Mod_rounds_45 : decode b_Mod_rounds 45 = .ok (.iinc 2 1, 3) := by decide +kernel
theorem d_Mod_rounds_48 : decode b_Mod_rounds 48 = .ok (.goto (-46), 3) := by decide +kernel
theorem d_Mod_rounds_51 : decode b_Mod_rounds 51 = .ok (.return_, 1) := by decide +kernel
theorem d_Mod_takeIn_0 : decode b_Mod_takeIn 0 = .ok (.aload_n 0, 1) := by decide +kernel
theorem d_Mod_takeIn_1 : decode b_Mod_takeIn 1 = .ok (.getfield 7, 3) := by decide +kernel
theorem d_Mod_takeIn_4 : decode b_Mod_takeIn 4 = .ok (.iconst 3, 1) := by decide +kernel
theorem d_Mod_takeIn_5 : decode b_Mod_takeIn 5 = .ok (.aload_n 0, 1) := by decide +kernel
theorem d_Mod_takeIn_6 : decode b_Mod_takeIn 6 = .ok (.getfield 7, 3) := by decide +kernel
theorem d_Mod_takeIn_9 : decode b_Mod_takeIn 9 = .ok (.iconst 3, 1) := by decide +kernel
theorem d_Mod_takeIn_10 : decode b_Mod_takeIn 10 = .ok (.laload, 1) := by decide +kernel
theorem d_Mod_takeIn_11 : decode b_Mod_takeIn 11 = .ok (.lload_n 1, 1) := by decide +kernel
theorem d_Mod_takeIn_12 : decode b_Mod_takeIn 12 = .ok (.lxor, 1) := by decide +kernel
theorem d_Mod_takeIn_13 : decode b_Mod_takeIn 13 = .ok (.lastore, 1) := by decide +kernel
theorem d_Mod_takeIn_14 : decode b_Mod_takeIn 14 = .ok (.aload_n 0, 1) := by decide +kernel
theorem d_Mod_takeIn_15 : decode b_Mod_takeIn 15 = .ok (.iconst 2, 1) := by decide +kernel
theorem d_Mod_takeIn_16 : decode b_Mod_takeIn 16 = .ok (.invokevirtual 160, 3) := by decide +kernel
theorem d_Mod_takeIn_19 : decode b_Mod_takeIn 19 = .ok (.aload_n 0, 1) := by decide +kernel
theorem d_Mod_takeIn_20 : decode b_Mod_takeIn 20 = .ok (.getfield 7, 3) := by decide +kernel
theorem d_Mod_takeIn_23 : decode b_Mod_takeIn 23 = .ok (.iconst 0, 1) := by decide +kernel
theorem d_Mod_takeIn_24 : decode b_Mod_takeIn 24 = .ok (.aload_n 0, 1) := by decide +kernel
theorem d_Mod_takeIn_25 : decode b_Mod_takeIn 25 = .ok (.getfield 7, 3) := by decide +kernel
theorem d_Mod_takeIn_28 : decode b_Mod_takeIn 28 = .ok (.iconst 0, 1) := by decide +kernel
theorem d_Mod_takeIn_29 : decode b_Mod_takeIn 29 = .ok (.laload, 1) := by decide +kernel
theorem d_Mod_takeIn_30 : decode b_Mod_takeIn 30 = .ok (.lload_n 1, 1) := by decide +kernel
theorem d_Mod_takeIn_31 : decode b_Mod_takeIn 31 = .ok (.lxor, 1) := by decide +kernel
theorem d_Mod_takeIn_32 : decode b_Mod_takeIn 32 = .ok (.lastore, 1) := by decide +kernel
theorem d_Mod_takeIn_33 : decode b_Mod_takeIn 33 = .ok (.return_, 1) := by decide +kernel
theorem d_Mod_digestOf_0 : decode b_Mod_digestOf 0 = .ok (.aload_n 0, 1) := by decide +kernel
theorem d_Mod_digestOf_1 : decode b_Mod_digestOf 1 = .ok (.getfield 7, 3) := by decide +kernel
theorem d_Mod_digestOf_4 : decode b_Mod_digestOf 4 = .ok (.iconst 0, 1) := by decide +kernel
theorem d_Mod_digestOf_5 : decode b_Mod_digestOf 5 = .ok (.aload_n 0, 1) := by decide +kernel
theorem d_Mod_digestOf_6 : decode b_Mod_digestOf 6 = .ok (.getfield 114, 3) := by decide +kernel
theorem d_Mod_digestOf_9 : decode b_Mod_digestOf 9 = .ok (.ldc2_w 164, 3) := by decide +kernel
theorem d_Mod_digestOf_12 : decode b_Mod_digestOf 12 = .ok (.lxor, 1) := by decide +kernel
theorem d_Mod_digestOf_13 : decode b_Mod_digestOf 13 = .ok (.lastore, 1) := by decide +kernel
theorem d_Mod_digestOf_14 : decode b_Mod_digestOf 14 = .ok (.aload_n 0, 1) := by decide +kernel
theorem d_Mod_digestOf_15 : decode b_Mod_digestOf 15 = .ok (.getfield 7, 3) := by decide +kernel
theorem d_Mod_digestOf_18 : decode b_Mod_digestOf 18 = .ok (.iconst 1, 1) := by decide +kernel
theorem d_Mod_digestOf_19 : decode b_Mod_digestOf 19 = .ok (.aload_n 0, 1) := by decide +kernel
theorem d_Mod_digestOf_20 : decode b_Mod_digestOf 20 = .ok (.getfield 120, 3) := by decide +kernel
theorem d_Mod_digestOf_23 : decode b_Mod_digestOf 23 = .ok (.ldc2_w 166, 3) := by decide +kernel
theorem d_Mod_digestOf_26 : decode b_Mod_digestOf 26 = .ok (.lxor, 1) := by decide +kernel
theorem d_Mod_digestOf_27 : decode b_Mod_digestOf 27 = .ok (.lastore, 1) := by decide +kernel
theorem d_Mod_digestOf_28 : decode b_Mod_digestOf 28 = .ok (.aload_n 0, 1) := by decide +kernel
theorem d_Mod_digestOf_29 : decode b_Mod_digestOf 29 = .ok (.getfield 7, 3) := by decide +kernel
theorem d_Mod_digestOf_32 : decode b_Mod_digestOf 32 = .ok (.iconst 2, 1) := by decide +kernel
theorem d_Mod_digestOf_33 : decode b_Mod_digestOf 33 = .ok (.aload_n 0, 1) := by decide +kernel
theorem d_Mod_digestOf_34 : decode b_Mod_digestOf 34 = .ok (.getfield 114, 3) := by decide +kernel
theorem d_Mod_digestOf_37 : decode b_Mod_digestOf 37 = .ok (.ldc2_w 168, 3) := by decide +kernel
theorem d_Mod_digestOf_40 : decode b_Mod_digestOf 40 = .ok (.lxor, 1) := by decide +kernel
theorem d_Mod_digestOf_41 : decode b_Mod_digestOf 41 = .ok (.lastore, 1) := by decide +kernel
theorem d_Mod_digestOf_42 : decode b_Mod_digestOf 42 = .ok (.aload_n 0, 1) := by decide +kernel
theorem d_Mod_digestOf_43 : decode b_Mod_digestOf 43 = .ok (.getfield 7, 3) := by decide +kernel
theorem d_Mod_digestOf_46 : decode b_Mod_digestOf 46 = .ok (.iconst 3, 1) := by decide +kernel
theorem d_Mod_digestOf_47 : decode b_Mod_digestOf 47 = .ok (.aload_n 0, 1) := by decide +kernel
theorem d_Mod_digestOf_48 : decode b_Mod_digestOf 48 = .ok (.getfield 120, 3) := by decide +kernel
theorem d_Mod_digestOf_51 : decode b_Mod_digestOf 51 = .ok (.ldc2_w 170, 3) := by decide +kernel
theorem d_Mod_digestOf_54 : decode b_Mod_digestOf 54 = .ok (.lxor, 1) := by decide +kernel
theorem d_Mod_digestOf_55 : decode b_Mod_digestOf 55 = .ok (.lastore, 1) := by decide +kernel
theorem d_Mod_digestOf_56 : decode b_Mod_digestOf 56 = .ok (.aload_n 0, 1) := by decide +kernel
theorem d_Mod_digestOf_57 : decode b_Mod_digestOf 57 = .ok (.lload_n 1, 1) := by decide +kernel
theorem d_Mod_digestOf_58 : decode b_Mod_digestOf 58 = .ok (.invokevirtual 172, 3) := by decide +kernel
theorem d_Mod_digestOf_61 : decode b_Mod_digestOf 61 = .ok (.aload_n 0, 1) := by decide +kernel
theorem d_Mod_digestOf_62 : decode b_Mod_digestOf 62 = .ok (.ldc2_w 176, 3) := by decide +kernel
theorem d_Mod_digestOf_65 : decode b_Mod_digestOf 65 = .ok (.invokevirtual 172, 3) := by decide +kernel
theorem d_Mod_digestOf_68 : decode b_Mod_digestOf 68 = .ok (.aload_n 0, 1) := by decide +kernel
theorem d_Mod_digestOf_69 : decode b_Mod_digestOf 69 = .ok (.getfield 7, 3) := by decide +kernel
theorem d_Mod_digestOf_72 : decode b_Mod_digestOf 72 = .ok (.iconst 2, 1) := by decide +kernel
theorem d_Mod_digestOf_73 : decode b_Mod_digestOf 73 = .ok (.aload_n 0, 1) := by decide +kernel
theorem d_Mod_digestOf_74 : decode b_Mod_digestOf 74 = .ok (.getfield 7, 3) := by decide +kernel
theorem d_Mod_digestOf_77 : decode b_Mod_digestOf 77 = .ok (.iconst 2, 1) := by decide +kernel
theorem d_Mod_digestOf_78 : decode b_Mod_digestOf 78 = .ok (.laload, 1) := by decide +kernel
theorem d_Mod_digestOf_79 : decode b_Mod_digestOf 79 = .ok (.ldc2_w 178, 3) := by decide +kernel
theorem d_Mod_digestOf_82 : decode b_Mod_digestOf 82 = .ok (.lxor, 1) := by decide +kernel
theorem d_Mod_digestOf_83 : decode b_Mod_digestOf 83 = .ok (.lastore, 1) := by decide +kernel
theorem d_Mod_digestOf_84 : decode b_Mod_digestOf 84 = .ok (.aload_n 0, 1) := by decide +kernel
theorem d_Mod_digestOf_85 : decode b_Mod_digestOf 85 = .ok (.iconst 4, 1) := by decide +kernel
theorem d_Mod_digestOf_86 : decode b_Mod_digestOf 86 = .ok (.invokevirtual 160, 3) := by decide +kernel
theorem d_Mod_digestOf_89 : decode b_Mod_digestOf 89 = .ok (.aload_n 0, 1) := by decide +kernel
theorem d_Mod_digestOf_90 : decode b_Mod_digestOf 90 = .ok (.getfield 7, 3) := by decide +kernel
theorem d_Mod_digestOf_93 : decode b_Mod_digestOf 93 = .ok (.iconst 0, 1) := by decide +kernel
theorem d_Mod_digestOf_94 : decode b_Mod_digestOf 94 = .ok (.laload, 1) := by decide +kernel
theorem d_Mod_digestOf_95 : decode b_Mod_digestOf 95 = .ok (.aload_n 0, 1) := by decide +kernel
theorem d_Mod_digestOf_96 : decode b_Mod_digestOf 96 = .ok (.getfield 7, 3) := by decide +kernel
theorem d_Mod_digestOf_99 : decode b_Mod_digestOf 99 = .ok (.iconst 1, 1) := by decide +kernel
theorem d_Mod_digestOf_100 : decode b_Mod_digestOf 100 = .ok (.laload, 1) := by decide +kernel
theorem d_Mod_digestOf_101 : decode b_Mod_digestOf 101 = .ok (.lxor, 1) := by decide +kernel
theorem d_Mod_digestOf_102 : decode b_Mod_digestOf 102 = .ok (.aload_n 0, 1) := by decide +kernel
theorem d_Mod_digestOf_103 : decode b_Mod_digestOf 103 = .ok (.getfield 7, 3) := by decide +kernel
theorem d_Mod_digestOf_106 : decode b_Mod_digestOf 106 = .ok (.iconst 2, 1) := by decide +kernel
theorem d_Mod_digestOf_107 : decode b_Mod_digestOf 107 = .ok (.laload, 1) := by decide +kernel
theorem d_Mod_digestOf_108 : decode b_Mod_digestOf 108 = .ok (.lxor, 1) := by decide +kernel
theorem d_Mod_digestOf_109 : decode b_Mod_digestOf 109 = .ok (.aload_n 0, 1) := by decide +kernel
theorem d_Mod_digestOf_110 : decode b_Mod_digestOf 110 = .ok (.getfield 7, 3) := by decide +kernel
theorem d_Mod_digestOf_113 : decode b_Mod_digestOf 113 = .ok (.iconst 3, 1) := by decide +kernel
theorem d_Mod_digestOf_114 : decode b_Mod_digestOf 114 = .ok (.laload, 1) := by decide +kernel
theorem d_Mod_digestOf_115 : decode b_Mod_digestOf 115 = .ok (.lxor, 1) := by decide +kernel
theorem d_Mod_digestOf_116 : decode b_Mod_digestOf 116 = .ok (.lreturn, 1) := by decide +kernel
theorem d_Mod_digest_0 : decode b_Mod_digest 0 = .ok (.iload_n 2, 1) := by decide +kernel
theorem d_Mod_digest_1 : decode b_Mod_digest 1 = .ok (.ifCond .ge 12, 3) := by decide +kernel
theorem d_Mod_digest_4 : decode b_Mod_digest 4 = .ok (.iload_n 2, 1) := by decide +kernel
theorem d_Mod_digest_5 : decode b_Mod_digest 5 = .ok (.i2l, 1) := by decide +kernel
theorem d_Mod_digest_6 : decode b_Mod_digest 6 = .ok (.ldc2_w 136, 3) := by decide +kernel
theorem d_Mod_digest_9 : decode b_Mod_digest 9 = .ok (.ladd, 1) := by decide +kernel
theorem d_Mod_digest_10 : decode b_Mod_digest 10 = .ok (.goto 5, 3) := by decide +kernel
theorem d_Mod_digest_13 : decode b_Mod_digest 13 = .ok (.iload_n 2, 1) := by decide +kernel
theorem d_Mod_digest_14 : decode b_Mod_digest 14 = .ok (.i2l, 1) := by decide +kernel
theorem d_Mod_digest_15 : decode b_Mod_digest 15 = .ok (.lstore_n 3, 1) := by decide +kernel
theorem d_Mod_digest_16 : decode b_Mod_digest 16 = .ok (.aload_n 0, 1) := by decide +kernel
theorem d_Mod_digest_17 : decode b_Mod_digest 17 = .ok (.iload_n 1, 1) := by decide +kernel
theorem d_Mod_digest_18 : decode b_Mod_digest 18 = .ok (.i2l, 1) := by decide +kernel
theorem d_Mod_digest_19 : decode b_Mod_digest 19 = .ok (.ldc2_w 136, 3) := by decide +kernel
theorem d_Mod_digest_22 : decode b_Mod_digest 22 = .ok (.lmul, 1) := by decide +kernel
theorem d_Mod_digest_23 : decode b_Mod_digest 23 = .ok (.lload_n 3, 1) := by decide +kernel
theorem d_Mod_digest_24 : decode b_Mod_digest 24 = .ok (.ladd, 1) := by decide +kernel
theorem d_Mod_digest_25 : decode b_Mod_digest 25 = .ok (.invokevirtual 124, 3) := by decide +kernel
theorem d_Mod_digest_28 : decode b_Mod_digest 28 = .ok (.lreturn, 1) := by decide +kernel
theorem d_Mod_carrier_0 : decode b_Mod_carrier 0 = .ok (.aload_n 0, 1) := by decide +kernel
theorem d_Mod_carrier_1 : decode b_Mod_carrier 1 = .ok (.getfield 84, 3) := by decide +kernel
theorem d_Mod_carrier_4 : decode b_Mod_carrier 4 = .ok (.ireturn, 1) := by decide +kernel
theorem d_Mod_reply_0 : decode b_Mod_reply 0 = .ok (.aload_n 0, 1) := by decide +kernel
theorem d_Mod_reply_1 : decode b_Mod_reply 1 = .ok (.getfield 88, 3) := by decide +kernel
theorem d_Mod_reply_4 : decode b_Mod_reply 4 = .ok (.ireturn, 1) := by decide +kernel
theorem d_Mod_taken_0 : decode b_Mod_taken 0 = .ok (.aload_n 0, 1) := by decide +kernel
theorem d_Mod_taken_1 : decode b_Mod_taken 1 = .ok (.getfield 91, 3) := by decide +kernel
theorem d_Mod_taken_4 : decode b_Mod_taken 4 = .ok (.ireturn, 1) := by decide +kernel
theorem d_Mod_isBalancer_0 : decode b_Mod_isBalancer 0 = .ok (.iload_n 1, 1) := by decide +kernel
theorem d_Mod_isBalancer_1 : decode b_Mod_isBalancer 1 = .ok (.ifCond .lt 15, 3) := by decide +kernel
theorem d_Mod_isBalancer_4 : decode b_Mod_isBalancer 4 = .ok (.iload_n 1, 1) := by decide +kernel
theorem d_Mod_isBalancer_5 : decode b_Mod_isBalancer 5 = .ok (.aload_n 0, 1) := by decide +kernel
theorem d_Mod_isBalancer_6 : decode b_Mod_isBalancer 6 = .ok (.getfield 101, 3) := by decide +kernel
theorem d_Mod_isBalancer_9 : decode b_Mod_isBalancer 9 = .ok (.if_icmp .ge 7, 3) := by decide +kernel
theorem d_Mod_isBalancer_12 : decode b_Mod_isBalancer 12 = .ok (.iconst 1, 1) := by decide +kernel
theorem d_Mod_isBalancer_13 : decode b_Mod_isBalancer 13 = .ok (.goto 4, 3) := by decide +kernel
theorem d_Mod_isBalancer_16 : decode b_Mod_isBalancer 16 = .ok (.iconst 0, 1) := by decide +kernel
theorem d_Mod_isBalancer_17 : decode b_Mod_isBalancer 17 = .ok (.ireturn, 1) := by decide +kernel
theorem d_Mod_isServer_0 : decode b_Mod_isServer 0 = .ok (.iload_n 1, 1) := by decide +kernel
theorem d_Mod_isServer_1 : decode b_Mod_isServer 1 = .ok (.ifCond .lt 15, 3) := by decide +kernel
theorem d_Mod_isServer_4 : decode b_Mod_isServer 4 = .ok (.iload_n 1, 1) := by decide +kernel
theorem d_Mod_isServer_5 : decode b_Mod_isServer 5 = .ok (.aload_n 0, 1) := by decide +kernel
theorem d_Mod_isServer_6 : decode b_Mod_isServer 6 = .ok (.getfield 104, 3) := by decide +kernel
theorem d_Mod_isServer_9 : decode b_Mod_isServer 9 = .ok (.if_icmp .ge 7, 3) := by decide +kernel
theorem d_Mod_isServer_12 : decode b_Mod_isServer 12 = .ok (.iconst 1, 1) := by decide +kernel
theorem d_Mod_isServer_13 : decode b_Mod_isServer 13 = .ok (.goto 4, 3) := by decide +kernel
theorem d_Mod_isServer_16 : decode b_Mod_isServer 16 = .ok (.iconst 0, 1) := by decide +kernel
theorem d_Mod_isServer_17 : decode b_Mod_isServer 17 = .ok (.ireturn, 1) := by decide +kernel
