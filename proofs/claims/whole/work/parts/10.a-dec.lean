theorem d_Stp_next_0 : decode b_Stp_next 0 = .ok (.aload_n 0, 1) := by decide +kernel
theorem d_Stp_next_1 : decode b_Stp_next 1 = .ok (.getfield 9, 3) := by decide +kernel
theorem d_Stp_next_4 : decode b_Stp_next 4 = .ok (.istore_n 1, 1) := by decide +kernel
theorem d_Stp_next_5 : decode b_Stp_next 5 = .ok (.aload_n 0, 1) := by decide +kernel
theorem d_Stp_next_6 : decode b_Stp_next 6 = .ok (.iload_n 1, 1) := by decide +kernel
theorem d_Stp_next_7 : decode b_Stp_next 7 = .ok (.iconst 1, 1) := by decide +kernel
theorem d_Stp_next_8 : decode b_Stp_next 8 = .ok (.iadd, 1) := by decide +kernel
theorem d_Stp_next_9 : decode b_Stp_next 9 = .ok (.ldc 15, 2) := by decide +kernel
theorem d_Stp_next_11 : decode b_Stp_next 11 = .ok (.iand, 1) := by decide +kernel
theorem d_Stp_next_12 : decode b_Stp_next 12 = .ok (.putfield 9, 3) := by decide +kernel
theorem d_Stp_next_15 : decode b_Stp_next 15 = .ok (.iload_n 1, 1) := by decide +kernel
theorem d_Stp_next_16 : decode b_Stp_next 16 = .ok (.ireturn, 1) := by decide +kernel
theorem d_Sum_halves_0 : decode b_Sum_halves 0 = .ok (.iload_n 0, 1) := by decide +kernel
theorem d_Sum_halves_1 : decode b_Sum_halves 1 = .ok (.bipush 16, 2) := by decide +kernel
theorem d_Sum_halves_3 : decode b_Sum_halves 3 = .ok (.iushr, 1) := by decide +kernel
theorem d_Sum_halves_4 : decode b_Sum_halves 4 = .ok (.iload_n 0, 1) := by decide +kernel
theorem d_Sum_halves_5 : decode b_Sum_halves 5 = .ok (.ldc 11, 2) := by decide +kernel
theorem d_Sum_halves_7 : decode b_Sum_halves 7 = .ok (.iand, 1) := by decide +kernel
theorem d_Sum_halves_8 : decode b_Sum_halves 8 = .ok (.iadd, 1) := by decide +kernel
theorem d_Sum_halves_9 : decode b_Sum_halves 9 = .ok (.ireturn, 1) := by decide +kernel
theorem d_Sum_fold_0 : decode b_Sum_fold 0 = .ok (.iload_n 0, 1) := by decide +kernel
theorem d_Sum_fold_1 : decode b_Sum_fold 1 = .ok (.ldc 11, 2) := by decide +kernel
theorem d_Sum_fold_3 : decode b_Sum_fold 3 = .ok (.iand, 1) := by decide +kernel
theorem d_Sum_fold_4 : decode b_Sum_fold 4 = .ok (.iload_n 0, 1) := by decide +kernel
theorem d_Sum_fold_5 : decode b_Sum_fold 5 = .ok (.bipush 16, 2) := by decide +kernel
theorem d_Sum_fold_7 : decode b_Sum_fold 7 = .ok (.iushr, 1) := by decide +kernel
theorem d_Sum_fold_8 : decode b_Sum_fold 8 = .ok (.iadd, 1) := by decide +kernel
theorem d_Sum_fold_9 : decode b_Sum_fold 9 = .ok (.ireturn, 1) := by decide +kernel
theorem d_Sum_sumOf_0 : decode b_Sum_sumOf 0 = .ok (.iload_n 0, 1) := by decide +kernel
theorem d_Sum_sumOf_1 : decode b_Sum_sumOf 1 = .ok (.invokestatic 17, 3) := by decide +kernel
theorem d_Sum_sumOf_4 : decode b_Sum_sumOf 4 = .ok (.iload_n 1, 1) := by decide +kernel
theorem d_Sum_sumOf_5 : decode b_Sum_sumOf 5 = .ok (.invokestatic 17, 3) := by decide +kernel
theorem d_Sum_sumOf_8 : decode b_Sum_sumOf 8 = .ok (.iadd, 1) := by decide +kernel
theorem d_Sum_sumOf_9 : decode b_Sum_sumOf 9 = .ok (.iload_n 2, 1) := by decide +kernel
theorem d_Sum_sumOf_10 : decode b_Sum_sumOf 10 = .ok (.invokestatic 17, 3) := by decide +kernel
theorem d_Sum_sumOf_13 : decode b_Sum_sumOf 13 = .ok (.iadd, 1) := by decide +kernel
theorem d_Sum_sumOf_14 : decode b_Sum_sumOf 14 = .ok (.iload_n 3, 1) := by decide +kernel
theorem d_Sum_sumOf_15 : decode b_Sum_sumOf 15 = .ok (.invokestatic 17, 3) := by decide +kernel
theorem d_Sum_sumOf_18 : decode b_Sum_sumOf 18 = .ok (.iadd, 1) := by decide +kernel
theorem d_Sum_sumOf_19 : decode b_Sum_sumOf 19 = .ok (.iload 4, 2) := by decide +kernel
theorem d_Sum_sumOf_21 : decode b_Sum_sumOf 21 = .ok (.invokestatic 17, 3) := by decide +kernel
theorem d_Sum_sumOf_24 : decode b_Sum_sumOf 24 = .ok (.iadd, 1) := by decide +kernel
theorem d_Sum_sumOf_25 : decode b_Sum_sumOf 25 = .ok (.istore 5, 2) := by decide +kernel
theorem d_Sum_sumOf_27 : decode b_Sum_sumOf 27 = .ok (.iload 5, 2) := by decide +kernel
theorem d_Sum_sumOf_29 : decode b_Sum_sumOf 29 = .ok (.invokestatic 21, 3) := by decide +kernel
theorem d_Sum_sumOf_32 : decode b_Sum_sumOf 32 = .ok (.invokestatic 21, 3) := by decide +kernel
theorem d_Sum_sumOf_35 : decode b_Sum_sumOf 35 = .ok (.ireturn, 1) := by decide +kernel
theorem d_Sum_rightChecksum_0 : decode b_Sum_rightChecksum 0 = .ok (.ldc 11, 2) := by decide +kernel
theorem d_Sum_rightChecksum_2 : decode b_Sum_rightChecksum 2 = .ok (.iload_n 0, 1) := by decide +kernel
theorem d_Sum_rightChecksum_3 : decode b_Sum_rightChecksum 3 = .ok (.iload_n 1, 1) := by decide +kernel
theorem d_Sum_rightChecksum_4 : decode b_Sum_rightChecksum 4 = .ok (.iload_n 2, 1) := by decide +kernel
theorem d_Sum_rightChecksum_5 : decode b_Sum_rightChecksum 5 = .ok (.ldc 12, 2) := by decide +kernel
theorem d_Sum_rightChecksum_7 : decode b_Sum_rightChecksum 7 = .ok (.iand, 1) := by decide +kernel
theorem d_Sum_rightChecksum_8 : decode b_Sum_rightChecksum 8 = .ok (.iload_n 3, 1) := by decide +kernel
theorem d_Sum_rightChecksum_9 : decode b_Sum_rightChecksum 9 = .ok (.iload 4, 2) := by decide +kernel
theorem d_Sum_rightChecksum_11 : decode b_Sum_rightChecksum 11 = .ok (.invokestatic 13, 3) := by decide +kernel
theorem d_Sum_rightChecksum_14 : decode b_Sum_rightChecksum 14 = .ok (.isub, 1) := by decide +kernel
theorem d_Sum_rightChecksum_15 : decode b_Sum_rightChecksum 15 = .ok (.ireturn, 1) := by decide +kernel
theorem d_Dig_turnedLeft_0 : decode b_Dig_turnedLeft 0 = .ok (.lload_n 0, 1) := by decide +kernel
theorem d_Dig_turnedLeft_1 : decode b_Dig_turnedLeft 1 = .ok (.iload_n 2, 1) := by decide +kernel
theorem d_Dig_turnedLeft_2 : decode b_Dig_turnedLeft 2 = .ok (.lshl, 1) := by decide +kernel
theorem d_Dig_turnedLeft_3 : decode b_Dig_turnedLeft 3 = .ok (.lload_n 0, 1) := by decide +kernel
theorem d_Dig_turnedLeft_4 : decode b_Dig_turnedLeft 4 = .ok (.bipush 64, 2) := by decide +kernel
theorem d_Dig_turnedLeft_6 : decode b_Dig_turnedLeft 6 = .ok (.iload_n 2, 1) := by decide +kernel
theorem d_Dig_turnedLeft_7 : decode b_Dig_turnedLeft 7 = .ok (.isub, 1) := by decide +kernel
theorem d_Dig_turnedLeft_8 : decode b_Dig_turnedLeft 8 = .ok (.lushr, 1) := by decide +kernel
theorem d_Dig_turnedLeft_9 : decode b_Dig_turnedLeft 9 = .ok (.lor, 1) := by decide +kernel
theorem d_Dig_turnedLeft_10 : decode b_Dig_turnedLeft 10 = .ok (.lreturn, 1) := by decide +kernel
theorem d_Dig_round_0 : decode b_Dig_round 0 = .ok (.aload_n 0, 1) := by decide +kernel
theorem d_Dig_round_1 : decode b_Dig_round 1 = .ok (.dup, 1) := by decide +kernel
theorem d_Dig_round_2 : decode b_Dig_round 2 = .ok (.getfield 18, 3) := by decide +kernel
theorem d_Dig_round_5 : decode b_Dig_round 5 = .ok (.aload_n 0, 1) := by decide +kernel
theorem d_Dig_round_6 : decode b_Dig_round 6 = .ok (.getfield 23, 3) := by decide +kernel
theorem d_Dig_round_9 : decode b_Dig_round 9 = .ok (.ladd, 1) := by decide +kernel
theorem d_Dig_round_10 : decode b_Dig_round 10 = .ok (.putfield 18, 3) := by decide +kernel
theorem d_Dig_round_13 : decode b_Dig_round 13 = .ok (.aload_n 0, 1) := by decide +kernel
theorem d_Dig_round_14 : decode b_Dig_round 14 = .ok (.aload_n 0, 1) := by decide +kernel
theorem d_Dig_round_15 : decode b_Dig_round 15 = .ok (.getfield 23, 3) := by decide +kernel
theorem d_Dig_round_18 : decode b_Dig_round 18 = .ok (.bipush 13, 2) := by decide +kernel
theorem d_Dig_round_20 : decode b_Dig_round 20 = .ok (.invokestatic 47, 3) := by decide +kernel
theorem d_Dig_round_23 : decode b_Dig_round 23 = .ok (.aload_n 0, 1) := by decide +kernel
theorem d_Dig_round_24 : decode b_Dig_round 24 = .ok (.getfield 18, 3) := by decide +kernel
theorem d_Dig_round_27 : decode b_Dig_round 27 = .ok (.lxor, 1) := by decide +kernel
theorem d_Dig_round_28 : decode b_Dig_round 28 = .ok (.putfield 23, 3) := by decide +kernel
theorem d_Dig_round_31 : decode b_Dig_round 31 = .ok (.aload_n 0, 1) := by decide +kernel
theorem d_Dig_round_32 : decode b_Dig_round 32 = .ok (.aload_n 0, 1) := by decide +kernel
theorem d_Dig_round_33 : decode b_Dig_round 33 = .ok (.getfield 18, 3) := by decide +kernel
theorem d_Dig_round_36 : decode b_Dig_round 36 = .ok (.bipush 32, 2) := by decide +kernel
theorem d_Dig_round_38 : decode b_Dig_round 38 = .ok (.invokestatic 47, 3) := by decide +kernel
theorem d_Dig_round_41 : decode b_Dig_round 41 = .ok (.putfield 18, 3) := by decide +kernel
theorem d_Dig_round_44 : decode b_Dig_round 44 = .ok (.aload_n 0, 1) := by decide +kernel
theorem d_Dig_round_45 : decode b_Dig_round 45 = .ok (.dup, 1) := by decide +kernel
theorem d_Dig_round_46 : decode b_Dig_round 46 = .ok (.getfield 28, 3) := by decide +kernel
theorem d_Dig_round_49 : decode b_Dig_round 49 = .ok (.aload_n 0, 1) := by decide +kernel
theorem d_Dig_round_50 : decode b_Dig_round 50 = .ok (.getfield 33, 3) := by decide +kernel
theorem d_Dig_round_53 : decode b_Dig_round 53 = .ok (.ladd, 1) := by decide +kernel
theorem d_Dig_round_54 : decode b_Dig_round 54 = .ok (.putfield 28, 3) := by decide +kernel
theorem d_Dig_round_57 : decode b_Dig_round 57 = .ok (.aload_n 0, 1) := by decide +kernel
theorem d_Dig_round_58 : decode b_Dig_round 58 = .ok (.aload_n 0, 1) := by decide +kernel
theorem d_Dig_round_59 : decode b_Dig_round 59 = .ok (.getfield 33, 3) := by decide +kernel
theorem d_Dig_round_62 : decode b_Dig_round 62 = .ok (.bipush 16, 2) := by decide +kernel
theorem d_Dig_round_64 : decode b_Dig_round 64 = .ok (.invokestatic 47, 3) := by decide +kernel
theorem d_Dig_round_67 : decode b_Dig_round 67 = .ok (.aload_n 0, 1) := by decide +kernel
theorem d_Dig_round_68 : decode b_Dig_round 68 = .ok (.getfield 28, 3) := by decide +kernel
theorem d_Dig_round_71 : decode b_Dig_round 71 = .ok (.lxor, 1) := by decide +kernel
theorem d_Dig_round_72 : decode b_Dig_round 72 = .ok (.putfield 33, 3) := by decide +kernel
theorem d_Dig_round_75 : decode b_Dig_round 75 = .ok (.aload_n 0, 1) := by decide +kernel
theorem d_Dig_round_76 : decode b_Dig_round 76 = .ok (.dup, 1) := by decide +kernel
theorem d_Dig_round_77 : decode b_Dig_round 77 = .ok (.getfield 18, 3) := by decide +kernel
theorem d_Dig_round_80 : decode b_Dig_round 80 = .ok (.aload_n 0, 1) := by decide +kernel
theorem d_Dig_round_81 : decode b_Dig_round 81 = .ok (.getfield 33, 3) := by decide +kernel
theorem d_Dig_round_84 : decode b_Dig_round 84 = .ok (.ladd, 1) := by decide +kernel
theorem d_Dig_round_85 : decode b_Dig_round 85 = .ok (.putfield 18, 3) := by decide +kernel
theorem d_Dig_round_88 : decode b_Dig_round 88 = .ok (.aload_n 0, 1) := by decide +kernel
theorem d_Dig_round_89 : decode b_Dig_round 89 = .ok (.aload_n 0, 1) := by decide +kernel
theorem d_Dig_round_90 : decode b_Dig_round 90 = .ok (.getfield 33, 3) := by decide +kernel
theorem d_Dig_round_93 : decode b_Dig_round 93 = .ok (.bipush 21, 2) := by decide +kernel
theorem d_Dig_round_95 : decode b_Dig_round 95 = .ok (.invokestatic 47, 3) := by decide +kernel
theorem d_Dig_round_98 : decode b_Dig_round 98 = .ok (.aload_n 0, 1) := by decide +kernel
theorem d_Dig_round_99 : decode b_Dig_round 99 = .ok (.getfield 18, 3) := by decide +kernel
theorem d_Dig_round_102 : decode b_Dig_round 102 = .ok (.lxor, 1) := by decide +kernel
theorem d_Dig_round_103 : decode b_Dig_round 103 = .ok (.putfield 33, 3) := by decide +kernel
theorem d_Dig_round_106 : decode b_Dig_round 106 = .ok (.aload_n 0, 1) := by decide +kernel
theorem d_Dig_round_107 : decode b_Dig_round 107 = .ok (.dup, 1) := by decide +kernel
theorem d_Dig_round_108 : decode b_Dig_round 108 = .ok (.getfield 28, 3) := by decide +kernel
theorem d_Dig_round_111 : decode b_Dig_round 111 = .ok (.aload_n 0, 1) := by decide +kernel
theorem d_Dig_round_112 : decode b_Dig_round 112 = .ok (.getfield 23, 3) := by decide +kernel
theorem d_Dig_round_115 : decode b_Dig_round 115 = .ok (.ladd, 1) := by decide +kernel
theorem d_Dig_round_116 : decode b_Dig_round 116 = .ok (.putfield 28, 3) := by decide +kernel
theorem d_Dig_round_119 : decode b_Dig_round 119 = .ok (.aload_n 0, 1) := by decide +kernel
theorem d_Dig_round_120 : decode b_Dig_round 120 = .ok (.aload_n 0, 1) := by decide +kernel
theorem d_Dig_round_121 : decode b_Dig_round 121 = .ok (.getfield 23, 3) := by decide +kernel
theorem d_Dig_round_124 : decode b_Dig_round 124 = .ok (.bipush 17, 2) := by decide +kernel
theorem d_Dig_round_126 : decode b_Dig_round 126 = .ok (.invokestatic 47, 3) := by decide +kernel
theorem d_Dig_round_129 : decode b_Dig_round 129 = .ok (.aload_n 0, 1) := by decide +kernel
theorem d_Dig_round_130 : decode b_Dig_round 130 = .ok (.getfield 28, 3) := by decide +kernel
theorem d_Dig_round_133 : decode b_Dig_round 133 = .ok (.lxor, 1) := by decide +kernel
theorem d_Dig_round_134 : decode b_Dig_round 134 = .ok (.putfield 23, 3) := by decide +kernel
theorem d_Dig_round_137 : decode b_Dig_round 137 = .ok (.aload_n 0, 1) := by decide +kernel
theorem d_Dig_round_138 : decode b_Dig_round 138 = .ok (.aload_n 0, 1) := by decide +kernel
theorem d_Dig_round_139 : decode b_Dig_round 139 = .ok (.getfield 28, 3) := by decide +kernel
theorem d_Dig_round_142 : decode b_Dig_round 142 = .ok (.bipush 32, 2) := by decide +kernel
theorem d_Dig_round_144 : decode b_Dig_round 144 = .ok (.invokestatic 47, 3) := by decide +kernel
theorem d_Dig_round_147 : decode b_Dig_round 147 = .ok (.putfield 28, 3) := by decide +kernel
theorem d_Dig_round_150 : decode b_Dig_round 150 = .ok (.return_, 1) := by decide +kernel
theorem d_Dig_takeIn_0 : decode b_Dig_takeIn 0 = .ok (.aload_n 0, 1) := by decide +kernel
theorem d_Dig_takeIn_1 : decode b_Dig_takeIn 1 = .ok (.dup, 1) := by decide +kernel
theorem d_Dig_takeIn_2 : decode b_Dig_takeIn 2 = .ok (.getfield 33, 3) := by decide +kernel
theorem d_Dig_takeIn_5 : decode b_Dig_takeIn 5 = .ok (.lload_n 1, 1) := by decide +kernel
theorem d_Dig_takeIn_6 : decode b_Dig_takeIn 6 = .ok (.lxor, 1) := by decide +kernel
theorem d_Dig_takeIn_7 : decode b_Dig_takeIn 7 = .ok (.putfield 33, 3) := by decide +kernel
theorem d_Dig_takeIn_10 : decode b_Dig_takeIn 10 = .ok (.aload_n 0, 1) := by decide +kernel
theorem d_Dig_takeIn_11 : decode b_Dig_takeIn 11 = .ok (.invokevirtual 44, 3) := by decide +kernel
theorem d_Dig_takeIn_14 : decode b_Dig_takeIn 14 = .ok (.aload_n 0, 1) := by decide +kernel
theorem d_Dig_takeIn_15 : decode b_Dig_takeIn 15 = .ok (.invokevirtual 44, 3) := by decide +kernel
theorem d_Dig_takeIn_18 : decode b_Dig_takeIn 18 = .ok (.aload_n 0, 1) := by decide +kernel
theorem d_Dig_takeIn_19 : decode b_Dig_takeIn 19 = .ok (.dup, 1) := by decide +kernel
theorem d_Dig_takeIn_20 : decode b_Dig_takeIn 20 = .ok (.getfield 18, 3) := by decide +kernel
theorem d_Dig_takeIn_23 : decode b_Dig_takeIn 23 = .ok (.lload_n 1, 1) := by decide +kernel
theorem d_Dig_takeIn_24 : decode b_Dig_takeIn 24 = .ok (.lxor, 1) := by decide +kernel
theorem d_Dig_takeIn_25 : decode b_Dig_takeIn 25 = .ok (.putfield 18, 3) := by decide +kernel
theorem d_Dig_takeIn_28 : decode b_Dig_takeIn 28 = .ok (.return_, 1) := by decide +kernel
theorem d_Dig_digestOf_0 : decode b_Dig_digestOf 0 = .ok (.aload_n 0, 1) := by decide +kernel
theorem d_Dig_digestOf_1 : decode b_Dig_digestOf 1 = .ok (.aload_n 0, 1) := by decide +kernel
theorem d_Dig_digestOf_2 : decode b_Dig_digestOf 2 = .ok (.getfield 7, 3) := by decide +kernel
theorem d_Dig_digestOf_5 : decode b_Dig_digestOf 5 = .ok (.ldc2_w 16, 3) := by decide +kernel
theorem d_Dig_digestOf_8 : decode b_Dig_digestOf 8 = .ok (.lxor, 1) := by decide +kernel
theorem d_Dig_digestOf_9 : decode b_Dig_digestOf 9 = .ok (.putfield 18, 3) := by decide +kernel
theorem d_Dig_digestOf_12 : decode b_Dig_digestOf 12 = .ok (.aload_n 0, 1) := by decide +kernel
theorem d_Dig_digestOf_13 : decode b_Dig_digestOf 13 = .ok (.aload_n 0, 1) := by decide +kernel
theorem d_Dig_digestOf_14 : decode b_Dig_digestOf 14 = .ok (.getfield 13, 3) := by decide +kernel
theorem d_Dig_digestOf_17 : decode b_Dig_digestOf 17 = .ok (.ldc2_w 21, 3) := by decide +kernel
theorem d_Dig_digestOf_20 : decode b_Dig_digestOf 20 = .ok (.lxor, 1) := by decide +kernel
theorem d_Dig_digestOf_21 : decode b_Dig_digestOf 21 = .ok (.putfield 23, 3) := by decide +kernel
theorem d_Dig_digestOf_24 : decode b_Dig_digestOf 24 = .ok (.aload_n 0, 1) := by decide +kernel
theorem d_Dig_digestOf_25 : decode b_Dig_digestOf 25 = .ok (.aload_n 0, 1) := by decide +kernel
theorem d_Dig_digestOf_26 : decode b_Dig_digestOf 26 = .ok (.getfield 7, 3) := by decide +kernel
theorem d_Dig_digestOf_29 : decode b_Dig_digestOf 29 = .ok (.ldc2_w 26, 3) := by decide +kernel
theorem d_Dig_digestOf_32 : decode b_Dig_digestOf 32 = .ok (.lxor, 1) := by decide +kernel
theorem d_Dig_digestOf_33 : decode b_Dig_digestOf 33 = .ok (.putfield 28, 3) := by decide +kernel
theorem d_Dig_digestOf_36 : decode b_Dig_digestOf 36 = .ok (.aload_n 0, 1) := by decide +kernel
theorem d_Dig_digestOf_37 : decode b_Dig_digestOf 37 = .ok (.aload_n 0, 1) := by decide +kernel
theorem d_Dig_digestOf_38 : decode b_Dig_digestOf 38 = .ok (.getfield 13, 3) := by decide +kernel
theorem d_Dig_digestOf_41 : decode b_Dig_digestOf 41 = .ok (.ldc2_w 31, 3) := by decide +kernel
theorem d_Dig_digestOf_44 : decode b_Dig_digestOf 44 = .ok (.lxor, 1) := by decide +kernel
theorem d_Dig_digestOf_45 : decode b_Dig_digestOf 45 = .ok (.putfield 33, 3) := by decide +kernel
theorem d_Dig_digestOf_48 : decode b_Dig_digestOf 48 = .ok (.aload_n 0, 1) := by decide +kernel
theorem d_Dig_digestOf_49 : decode b_Dig_digestOf 49 = .ok (.lload_n 1, 1) := by decide +kernel
theorem d_Dig_digestOf_50 : decode b_Dig_digestOf 50 = .ok (.invokevirtual 36, 3) := by decide +kernel
theorem d_Dig_digestOf_53 : decode b_Dig_digestOf 53 = .ok (.aload_n 0, 1) := by decide +kernel
theorem d_Dig_digestOf_54 : decode b_Dig_digestOf 54 = .ok (.ldc2_w 40, 3) := by decide +kernel
theorem d_Dig_digestOf_57 : decode b_Dig_digestOf 57 = .ok (.invokevirtual 36, 3) := by decide +kernel
theorem d_Dig_digestOf_60 : decode b_Dig_digestOf 60 = .ok (.aload_n 0, 1) := by decide +kernel
theorem d_Dig_digestOf_61 : decode b_Dig_digestOf 61 = .ok (.dup, 1) := by decide +kernel
theorem d_Dig_digestOf_62 : decode b_Dig_digestOf 62 = .ok (.getfield 28, 3) := by decide +kernel
theorem d_Dig_digestOf_65 : decode b_Dig_digestOf 65 = .ok (.ldc2_w 42, 3) := by decide +kernel
theorem d_Dig_digestOf_68 : decode b_Dig_digestOf 68 = .ok (.lxor, 1) := by decide +kernel
theorem d_Dig_digestOf_69 : decode b_Dig_digestOf 69 = .ok (.putfield 28, 3) := by decide +kernel
theorem d_Dig_digestOf_72 : decode b_Dig_digestOf 72 = .ok (.iconst 0, 1) := by decide +kernel
theorem d_Dig_digestOf_73 : decode b_Dig_digestOf 73 = .ok (.istore_n 3, 1) := by decide +kernel
theorem d_Dig_digestOf_74 : decode b_Dig_digestOf 74 = .ok (.iload_n 3, 1) := by decide +kernel
theorem d_Dig_digestOf_75 : decode b_Dig_digestOf 75 = .ok (.iconst 4, 1) := by decide +kernel
theorem d_Dig_digestOf_76 : decode b_Dig_digestOf 76 = .ok (.if_icmp .ge 13, 3) := by decide +kernel
theorem d_Dig_digestOf_79 : decode b_Dig_digestOf 79 = .ok (.aload_n 0, 1) := by decide +kernel
theorem d_Dig_digestOf_80 : decode b_Dig_digestOf 80 = .ok (.invokevirtual 44, 3) := by decide +kernel
theorem d_Dig_digestOf_83 : decode b_Dig_digestOf 83 = .ok (.iinc 3 1, 3) := by decide +kernel
theorem d_Dig_digestOf_86 : decode b_Dig_digestOf 86 = .ok (.goto (-12), 3) := by decide +kernel
theorem d_Dig_digestOf_89 : decode b_Dig_digestOf 89 = .ok (.aload_n 0, 1) := by decide +kernel
theorem d_Dig_digestOf_90 : decode b_Dig_digestOf 90 = .ok (.getfield 18, 3) := by decide +kernel
theorem d_Dig_digestOf_93 : decode b_Dig_digestOf 93 = .ok (.aload_n 0, 1) := by decide +kernel
theorem d_Dig_digestOf_94 : decode b_Dig_digestOf 94 = .ok (.getfield 23, 3) := by decide +kernel
theorem d_Dig_digestOf_97 : decode b_Dig_digestOf 97 = .ok (.lxor, 1) := by decide +kernel
theorem d_Dig_digestOf_98 : decode b_Dig_digestOf 98 = .ok (.aload_n 0, 1) := by decide +kernel
theorem d_Dig_digestOf_99 : decode b_Dig_digestOf 99 = .ok (.getfield 28, 3) := by decide +kernel
theorem d_Dig_digestOf_102 : decode b_Dig_digestOf 102 = .ok (.lxor, 1) := by decide +kernel
theorem d_Dig_digestOf_103 : decode b_Dig_digestOf 103 = .ok (.aload_n 0, 1) := by decide +kernel
theorem d_Dig_digestOf_104 : decode b_Dig_digestOf 104 = .ok (.getfield 33, 3) := by decide +kernel
theorem d_Dig_digestOf_107 : decode b_Dig_digestOf 107 = .ok (.lxor, 1) := by decide +kernel
theorem d_Dig_digestOf_108 : decode b_Dig_digestOf 108 = .ok (.lreturn, 1) := by decide +kernel
theorem d_Wat_isUp_0 : decode b_Wat_isUp 0 = .ok (.aload_n 0, 1) := by decide +kernel
theorem d_Wat_isUp_1 : decode b_Wat_isUp 1 = .ok (.getfield 7, 3) := by decide +kernel
theorem d_Wat_isUp_4 : decode b_Wat_isUp 4 = .ok (.iload_n 1, 1) := by decide +kernel
theorem d_Wat_isUp_5 : decode b_Wat_isUp 5 = .ok (.baload, 1) := by decide +kernel
theorem d_Wat_isUp_6 : decode b_Wat_isUp 6 = .ok (.ireturn, 1) := by decide +kernel
theorem d_Wat_stateOf_0 : decode b_Wat_stateOf 0 = .ok (.aload_n 0, 1) := by decide +kernel
theorem d_Wat_stateOf_1 : decode b_Wat_stateOf 1 = .ok (.getfield 7, 3) := by decide +kernel
theorem d_Wat_stateOf_4 : decode b_Wat_stateOf 4 = .ok (.iload_n 1, 1) := by decide +kernel
theorem d_Wat_stateOf_5 : decode b_Wat_stateOf 5 = .ok (.baload, 1) := by decide +kernel
theorem d_Wat_stateOf_6 : decode b_Wat_stateOf 6 = .ok (.ifCond .eq 12, 3) := by decide +kernel
theorem d_Wat_stateOf_9 : decode b_Wat_stateOf 9 = .ok (.aload_n 0, 1) := by decide +kernel
theorem d_Wat_stateOf_10 : decode b_Wat_stateOf 10 = .ok (.getfield 13, 3) := by decide +kernel
theorem d_Wat_stateOf_13 : decode b_Wat_stateOf 13 = .ok (.iload_n 1, 1) := by decide +kernel
theorem d_Wat_stateOf_14 : decode b_Wat_stateOf 14 = .ok (.iaload, 1) := by decide +kernel
theorem d_Wat_stateOf_15 : decode b_Wat_stateOf 15 = .ok (.goto 12, 3) := by decide +kernel
theorem d_Wat_stateOf_18 : decode b_Wat_stateOf 18 = .ok (.bipush 10, 2) := by decide +kernel
theorem d_Wat_stateOf_20 : decode b_Wat_stateOf 20 = .ok (.aload_n 0, 1) := by decide +kernel
theorem d_Wat_stateOf_21 : decode b_Wat_stateOf 21 = .ok (.getfield 13, 3) := by decide +kernel
theorem d_Wat_stateOf_24 : decode b_Wat_stateOf 24 = .ok (.iload_n 1, 1) := by decide +kernel
theorem d_Wat_stateOf_25 : decode b_Wat_stateOf 25 = .ok (.iaload, 1) := by decide +kernel
theorem d_Wat_stateOf_26 : decode b_Wat_stateOf 26 = .ok (.iadd, 1) := by decide +kernel
theorem d_Wat_stateOf_27 : decode b_Wat_stateOf 27 = .ok (.ireturn, 1) := by decide +kernel
theorem d_Wat_observe_0 : decode b_Wat_observe 0 = .ok (.aload_n 0, 1) := by decide +kernel
theorem d_Wat_observe_1 : decode b_Wat_observe 1 = .ok (.getfield 13, 3) := by decide +kernel
theorem d_Wat_observe_4 : decode b_Wat_observe 4 = .ok (.iload_n 1, 1) := by decide +kernel
theorem d_Wat_observe_5 : decode b_Wat_observe 5 = .ok (.iload_n 2, 1) := by decide +kernel
theorem d_Wat_observe_6 : decode b_Wat_observe 6 = .ok (.aload_n 0, 1) := by decide +kernel
theorem d_Wat_observe_7 : decode b_Wat_observe 7 = .ok (.getfield 7, 3) := by decide +kernel
theorem d_Wat_observe_10 : decode b_Wat_observe 10 = .ok (.iload_n 1, 1) := by decide +kernel
theorem d_Wat_observe_11 : decode b_Wat_observe 11 = .ok (.baload, 1) := by decide +kernel
theorem d_Wat_observe_12 : decode b_Wat_observe 12 = .ok (.if_icmp .ne 7, 3) := by decide +kernel
theorem d_Wat_observe_15 : decode b_Wat_observe 15 = .ok (.iconst 0, 1) := by decide +kernel
theorem d_Wat_observe_16 : decode b_Wat_observe 16 = .ok (.goto 11, 3) := by decide +kernel
theorem d_Wat_observe_19 : decode b_Wat_observe 19 = .ok (.aload_n 0, 1) := by decide +kernel
theorem d_Wat_observe_20 : decode b_Wat_observe 20 = .ok (.getfield 13, 3) := by decide +kernel
theorem d_Wat_observe_23 : decode b_Wat_observe 23 = .ok (.iload_n 1, 1) := by decide +kernel
theorem d_Wat_observe_24 : decode b_Wat_observe 24 = .ok (.iaload, 1) := by decide +kernel
theorem d_Wat_observe_25 : decode b_Wat_observe 25 = .ok (.iconst 1, 1) := by decide +kernel
theorem d_Wat_observe_26 : decode b_Wat_observe 26 = .ok (.iadd, 1) := by decide +kernel
theorem d_Wat_observe_27 : decode b_Wat_observe 27 = .ok (.iastore, 1) := by decide +kernel
theorem d_Wat_observe_28 : decode b_Wat_observe 28 = .ok (.aload_n 0, 1) := by decide +kernel
theorem d_Wat_observe_29 : decode b_Wat_observe 29 = .ok (.getfield 13, 3) := by decide +kernel
theorem d_Wat_observe_32 : decode b_Wat_observe 32 = .ok (.iload_n 1, 1) := by decide +kernel
theorem d_Wat_observe_33 : decode b_Wat_observe 33 = .ok (.iaload, 1) := by decide +kernel
theorem d_Wat_observe_34 : decode b_Wat_observe 34 = .ok (.iconst 3, 1) := by decide +kernel
theorem d_Wat_observe_35 : decode b_Wat_observe 35 = .ok (.if_icmp .ge 5, 3) := by decide +kernel
theorem d_Wat_observe_38 : decode b_Wat_observe 38 = .ok (.iconst 0, 1) := by decide +kernel
theorem d_Wat_observe_39 : decode b_Wat_observe 39 = .ok (.ireturn, 1) := by decide +kernel
theorem d_Wat_observe_40 : decode b_Wat_observe 40 = .ok (.aload_n 0, 1) := by decide +kernel
theorem d_Wat_observe_41 : decode b_Wat_observe 41 = .ok (.getfield 7, 3) := by decide +kernel
theorem d_Wat_observe_44 : decode b_Wat_observe 44 = .ok (.iload_n 1, 1) := by decide +kernel
theorem d_Wat_observe_45 : decode b_Wat_observe 45 = .ok (.iload_n 2, 1) := by decide +kernel
theorem d_Wat_observe_46 : decode b_Wat_observe 46 = .ok (.bastore, 1) := by decide +kernel
theorem d_Wat_observe_47 : decode b_Wat_observe 47 = .ok (.aload_n 0, 1) := by decide +kernel
theorem d_Wat_observe_48 : decode b_Wat_observe 48 = .ok (.getfield 13, 3) := by decide +kernel
theorem d_Wat_observe_51 : decode b_Wat_observe 51 = .ok (.iload_n 1, 1) := by decide +kernel
theorem d_Wat_observe_52 : decode b_Wat_observe 52 = .ok (.iconst 0, 1) := by decide +kernel
theorem d_Wat_observe_53 : decode b_Wat_observe 53 = .ok (.iastore, 1) := by decide +kernel
theorem d_Wat_observe_54 : decode b_Wat_observe 54 = .ok (.iconst 1, 1) := by decide +kernel
theorem d_Wat_observe_55 : decode b_Wat_observe 55 = .ok (.ireturn, 1) := by decide +kernel
theorem d_Slo_used_0 : decode b_Slo_used 0 = .ok (.aload_n 0, 1) := by decide +kernel
theorem d_Slo_used_1 : decode b_Slo_used 1 = .ok (.getfield 22, 3) := by decide +kernel
theorem d_Slo_used_4 : decode b_Slo_used 4 = .ok (.ireturn, 1) := by decide +kernel
theorem d_Slo_find_0 : decode b_Slo_find 0 = .ok (.iconst 0, 1) := by decide +kernel
theorem d_Slo_find_1 : decode b_Slo_find 1 = .ok (.istore_n 3, 1) := by decide +kernel
theorem d_Slo_find_2 : decode b_Slo_find 2 = .ok (.iload_n 3, 1) := by decide +kernel
theorem d_Slo_find_3 : decode b_Slo_find 3 = .ok (.aload_n 0, 1) := by decide +kernel
theorem d_Slo_find_4 : decode b_Slo_find 4 = .ok (.getfield 18, 3) := by decide +kernel
theorem d_Slo_find_7 : decode b_Slo_find 7 = .ok (.arraylength, 1) := by decide +kernel
theorem d_Slo_find_8 : decode b_Slo_find 8 = .ok (.if_icmp .ge 40, 3) := by decide +kernel
theorem d_Slo_find_11 : decode b_Slo_find 11 = .ok (.aload_n 0, 1) := by decide +kernel
theorem d_Slo_find_12 : decode b_Slo_find 12 = .ok (.getfield 18, 3) := by decide +kernel
theorem d_Slo_find_15 : decode b_Slo_find 15 = .ok (.iload_n 3, 1) := by decide +kernel
theorem d_Slo_find_16 : decode b_Slo_find 16 = .ok (.baload, 1) := by decide +kernel
theorem d_Slo_find_17 : decode b_Slo_find 17 = .ok (.ifCond .eq 25, 3) := by decide +kernel
theorem d_Slo_find_20 : decode b_Slo_find 20 = .ok (.aload_n 0, 1) := by decide +kernel
theorem d_Slo_find_21 : decode b_Slo_find 21 = .ok (.getfield 9, 3) := by decide +kernel
theorem d_Slo_find_24 : decode b_Slo_find 24 = .ok (.iload_n 3, 1) := by decide +kernel
theorem d_Slo_find_25 : decode b_Slo_find 25 = .ok (.iaload, 1) := by decide +kernel
theorem d_Slo_find_26 : decode b_Slo_find 26 = .ok (.iload_n 1, 1) := by decide +kernel
theorem d_Slo_find_27 : decode b_Slo_find 27 = .ok (.if_icmp .ne 15, 3) := by decide +kernel
theorem d_Slo_find_30 : decode b_Slo_find 30 = .ok (.aload_n 0, 1) := by decide +kernel
theorem d_Slo_find_31 : decode b_Slo_find 31 = .ok (.getfield 15, 3) := by decide +kernel
theorem d_Slo_find_34 : decode b_Slo_find 34 = .ok (.iload_n 3, 1) := by decide +kernel
theorem d_Slo_find_35 : decode b_Slo_find 35 = .ok (.iaload, 1) := by decide +kernel
theorem d_Slo_find_36 : decode b_Slo_find 36 = .ok (.iload_n 2, 1) := by decide +kernel
theorem d_Slo_find_37 : decode b_Slo_find 37 = .ok (.if_icmp .ne 5, 3) := by decide +kernel
theorem d_Slo_find_40 : decode b_Slo_find 40 = .ok (.iload_n 3, 1) := by decide +kernel
theorem d_Slo_find_41 : decode b_Slo_find 41 = .ok (.ireturn, 1) := by decide +kernel
theorem d_Slo_find_42 : decode b_Slo_find 42 = .ok (.iinc 3 1, 3) := by decide +kernel
theorem d_Slo_find_45 : decode b_Slo_find 45 = .ok (.goto (-43), 3) := by decide +kernel
theorem d_Slo_find_48 : decode b_Slo_find 48 = .ok (.iconst (-1), 1) := by decide +kernel
theorem d_Slo_find_49 : decode b_Slo_find 49 = .ok (.ireturn, 1) := by decide +kernel
theorem d_Slo_release_0 : decode b_Slo_release 0 = .ok (.aload_n 0, 1) := by decide +kernel
theorem d_Slo_release_1 : decode b_Slo_release 1 = .ok (.getfield 18, 3) := by decide +kernel
theorem d_Slo_release_4 : decode b_Slo_release 4 = .ok (.iload_n 1, 1) := by decide +kernel
theorem d_Slo_release_5 : decode b_Slo_release 5 = .ok (.baload, 1) := by decide +kernel
theorem d_Slo_release_6 : decode b_Slo_release 6 = .ok (.ifCond .eq 20, 3) := by decide +kernel
theorem d_Slo_release_9 : decode b_Slo_release 9 = .ok (.aload_n 0, 1) := by decide +kernel
theorem d_Slo_release_10 : decode b_Slo_release 10 = .ok (.getfield 18, 3) := by decide +kernel
theorem d_Slo_release_13 : decode b_Slo_release 13 = .ok (.iload_n 1, 1) := by decide +kernel
theorem d_Slo_release_14 : decode b_Slo_release 14 = .ok (.iconst 0, 1) := by decide +kernel
theorem d_Slo_release_15 : decode b_Slo_release 15 = .ok (.bastore, 1) := by decide +kernel
theorem d_Slo_release_16 : decode b_Slo_release 16 = .ok (.aload_n 0, 1) := by decide +kernel
theorem d_Slo_release_17 : decode b_Slo_release 17 = .ok (.dup, 1) := by decide +kernel
theorem d_Slo_release_18 : decode b_Slo_release 18 = .ok (.getfield 22, 3) := by decide +kernel
theorem d_Slo_release_21 : decode b_Slo_release 21 = .ok (.iconst 1, 1) := by decide +kernel
theorem d_Slo_release_22 : decode b_Slo_release 22 = .ok (.isub, 1) := by decide +kernel
theorem d_Slo_release_23 : decode b_Slo_release 23 = .ok (.putfield 22, 3) := by decide +kernel
theorem d_Slo_release_26 : decode b_Slo_release 26 = .ok (.return_, 1) := by decide +kernel
theorem d_Slo_releaseAll_0 : decode b_Slo_releaseAll 0 = .ok (.iconst 0, 1) := by decide +kernel
theorem d_Slo_releaseAll_1 : decode b_Slo_releaseAll 1 = .ok (.istore_n 1, 1) := by decide +kernel
theorem d_Slo_releaseAll_2 : decode b_Slo_releaseAll 2 = .ok (.iload_n 1, 1) := by decide +kernel
theorem d_Slo_releaseAll_3 : decode b_Slo_releaseAll 3 = .ok (.aload_n 0, 1) := by decide +kernel
theorem d_Slo_releaseAll_4 : decode b_Slo_releaseAll 4 = .ok (.getfield 18, 3) := by decide +kernel
theorem d_Slo_releaseAll_7 : decode b_Slo_releaseAll 7 = .ok (.arraylength, 1) := by decide +kernel
theorem d_Slo_releaseAll_8 : decode b_Slo_releaseAll 8 = .ok (.if_icmp .ge 14, 3) := by decide +kernel
theorem d_Slo_releaseAll_11 : decode b_Slo_releaseAll 11 = .ok (.aload_n 0, 1) := by decide +kernel
theorem d_Slo_releaseAll_12 : decode b_Slo_releaseAll 12 = .ok (.iload_n 1, 1) := by decide +kernel
theorem d_Slo_releaseAll_13 : decode b_Slo_releaseAll 13 = .ok (.invokevirtual 30, 3) := by decide +kernel
theorem d_Slo_releaseAll_16 : decode b_Slo_releaseAll 16 = .ok (.iinc 1 1, 3) := by decide +kernel
theorem d_Slo_releaseAll_19 : decode b_Slo_releaseAll 19 = .ok (.goto (-17), 3) := by decide +kernel
theorem d_Slo_releaseAll_22 : decode b_Slo_releaseAll 22 = .ok (.return_, 1) := by decide +kernel
theorem d_Slo_findOrTake_0 : decode b_Slo_findOrTake 0 = .ok (.aload_n 0, 1) := by decide +kernel
theorem d_Slo_findOrTake_1 : decode b_Slo_findOrTake 1 = .ok (.iload_n 1, 1) := by decide +kernel
theorem d_Slo_findOrTake_2 : decode b_Slo_findOrTake 2 = .ok (.iload_n 2, 1) := by decide +kernel
theorem d_Slo_findOrTake_3 : decode b_Slo_findOrTake 3 = .ok (.invokevirtual 26, 3) := by decide +kernel
theorem d_Slo_findOrTake_6 : decode b_Slo_findOrTake 6 = .ok (.istore_n 3, 1) := by decide +kernel
theorem d_Slo_findOrTake_7 : decode b_Slo_findOrTake 7 = .ok (.iload_n 3, 1) := by decide +kernel
theorem d_Slo_findOrTake_8 : decode b_Slo_findOrTake 8 = .ok (.iconst (-1), 1) := by decide +kernel
theorem d_Slo_findOrTake_9 : decode b_Slo_findOrTake 9 = .ok (.if_icmp .eq 5, 3) := by decide +kernel
theorem d_Slo_findOrTake_12 : decode b_Slo_findOrTake 12 = .ok (.iload_n 3, 1) := by decide +kernel
theorem d_Slo_findOrTake_13 : decode b_Slo_findOrTake 13 = .ok (.ireturn, 1) := by decide +kernel
theorem d_Slo_findOrTake_14 : decode b_Slo_findOrTake 14 = .ok (.iconst 0, 1) := by decide +kernel
theorem d_Slo_findOrTake_15 : decode b_Slo_findOrTake 15 = .ok (.istore 4, 2) := by decide +kernel
theorem d_Slo_findOrTake_17 : decode b_Slo_findOrTake 17 = .ok (.iload 4, 2) := by decide +kernel
theorem d_Slo_findOrTake_19 : decode b_Slo_findOrTake 19 = .ok (.aload_n 0, 1) := by decide +kernel
theorem d_Slo_findOrTake_20 : decode b_Slo_findOrTake 20 = .ok (.getfield 18, 3) := by decide +kernel
theorem d_Slo_findOrTake_23 : decode b_Slo_findOrTake 23 = .ok (.arraylength, 1) := by decide +kernel
theorem d_Slo_findOrTake_24 : decode b_Slo_findOrTake 24 = .ok (.if_icmp .ge 56, 3) := by decide +kernel
theorem d_Slo_findOrTake_27 : decode b_Slo_findOrTake 27 = .ok (.aload_n 0, 1) := by decide +kernel
theorem d_Slo_findOrTake_28 : decode b_Slo_findOrTake 28 = .ok (.getfield 18, 3) := by decide +kernel
theorem d_Slo_findOrTake_31 : decode b_Slo_findOrTake 31 = .ok (.iload 4, 2) := by decide +kernel
theorem d_Slo_findOrTake_33 : decode b_Slo_findOrTake 33 = .ok (.baload, 1) := by decide +kernel
theorem d_Slo_findOrTake_34 : decode b_Slo_findOrTake 34 = .ok (.ifCond .ne 40, 3) := by decide +kernel
theorem d_Slo_findOrTake_37 : decode b_Slo_findOrTake 37 = .ok (.aload_n 0, 1) := by decide +kernel
theorem d_Slo_findOrTake_38 : decode b_Slo_findOrTake 38 = .ok (.getfield 18, 3) := by decide +kernel
theorem d_Slo_findOrTake_41 : decode b_Slo_findOrTake 41 = .ok (.iload 4, 2) := by decide +kernel
theorem d_Slo_findOrTake_43 : decode b_Slo_findOrTake 43 = .ok (.iconst 1, 1) := by decide +kernel
theorem d_Slo_findOrTake_44 : decode b_Slo_findOrTake 44 = .ok (.bastore, 1) := by decide +kernel
theorem d_Slo_findOrTake_45 : decode b_Slo_findOrTake 45 = .ok (.aload_n 0, 1) := by decide +kernel
theorem d_Slo_findOrTake_46 : decode b_Slo_findOrTake 46 = .ok (.getfield 9, 3) := by decide +kernel
theorem d_Slo_findOrTake_49 : decode b_Slo_findOrTake 49 = .ok (.iload 4, 2) := by decide +kernel
theorem d_Slo_findOrTake_51 : decode b_Slo_findOrTake 51 = .ok (.iload_n 1, 1) := by decide +kernel
theorem d_Slo_findOrTake_52 : decode b_Slo_findOrTake 52 = .ok (.iastore, 1) := by decide +kernel
theorem d_Slo_findOrTake_53 : decode b_Slo_findOrTake 53 = .ok (.aload_n 0, 1) := by decide +kernel
theorem d_Slo_findOrTake_54 : decode b_Slo_findOrTake 54 = .ok (.getfield 15, 3) := by decide +kernel
theorem d_Slo_findOrTake_57 : decode b_Slo_findOrTake 57 = .ok (.iload 4, 2) := by decide +kernel
theorem d_Slo_findOrTake_59 : decode b_Slo_findOrTake 59 = .ok (.iload_n 2, 1) := by decide +kernel
theorem d_Slo_findOrTake_60 : decode b_Slo_findOrTake 60 = .ok (.iastore, 1) := by decide +kernel
theorem d_Slo_findOrTake_61 : decode b_Slo_findOrTake 61 = .ok (.aload_n 0, 1) := by decide +kernel
theorem d_Slo_findOrTake_62 : decode b_Slo_findOrTake 62 = .ok (.dup, 1) := by decide +kernel
theorem d_Slo_findOrTake_63 : decode b_Slo_findOrTake 63 = .ok (.getfield 22, 3) := by decide +kernel
theorem d_Slo_findOrTake_66 : decode b_Slo_findOrTake 66 = .ok (.iconst 1, 1) := by decide +kernel
theorem d_Slo_findOrTake_67 : decode b_Slo_findOrTake 67 = .ok (.iadd, 1) := by decide +kernel
theorem d_Slo_findOrTake_68 : decode b_Slo_findOrTake 68 = .ok (.putfield 22, 3) := by decide +kernel
theorem d_Slo_findOrTake_71 : decode b_Slo_findOrTake 71 = .ok (.iload 4, 2) := by decide +kernel
theorem d_Slo_findOrTake_73 : decode b_Slo_findOrTake 73 = .ok (.ireturn, 1) := by decide +kernel
theorem d_Slo_findOrTake_74 : decode b_Slo_findOrTake 74 = .ok (.iinc 4 1, 3) := by decide +kernel
theorem d_Slo_findOrTake_77 : decode b_Slo_findOrTake 77 = .ok (.goto (-60), 3) := by decide +kernel
theorem d_Slo_findOrTake_80 : decode b_Slo_findOrTake 80 = .ok (.iconst (-1), 1) := by decide +kernel
theorem d_Slo_findOrTake_81 : decode b_Slo_findOrTake 81 = .ok (.ireturn, 1) := by decide +kernel
theorem d_Lst_placeAt_0 : decode b_Lst_placeAt 0 = .ok (.aload_n 0, 1) := by decide +kernel
theorem d_Lst_placeAt_1 : decode b_Lst_placeAt 1 = .ok (.getfield 15, 3) := by decide +kernel
theorem d_Lst_placeAt_4 : decode b_Lst_placeAt 4 = .ok (.iload_n 1, 1) := by decide +kernel
theorem d_Lst_placeAt_5 : decode b_Lst_placeAt 5 = .ok (.iaload, 1) := by decide +kernel
theorem d_Lst_placeAt_6 : decode b_Lst_placeAt 6 = .ok (.iload_n 2, 1) := by decide +kernel
theorem d_Lst_placeAt_7 : decode b_Lst_placeAt 7 = .ok (.aload_n 0, 1) := by decide +kernel
theorem d_Lst_placeAt_8 : decode b_Lst_placeAt 8 = .ok (.getfield 19, 3) := by decide +kernel
theorem d_Lst_placeAt_11 : decode b_Lst_placeAt 11 = .ok (.iload_n 1, 1) := by decide +kernel
theorem d_Lst_placeAt_12 : decode b_Lst_placeAt 12 = .ok (.iaload, 1) := by decide +kernel
theorem d_Lst_placeAt_13 : decode b_Lst_placeAt 13 = .ok (.imul, 1) := by decide +kernel
theorem d_Lst_placeAt_14 : decode b_Lst_placeAt 14 = .ok (.iadd, 1) := by decide +kernel
theorem d_Lst_placeAt_15 : decode b_Lst_placeAt 15 = .ok (.aload_n 0, 1) := by decide +kernel
theorem d_Lst_placeAt_16 : decode b_Lst_placeAt 16 = .ok (.getfield 9, 3) := by decide +kernel
theorem d_Lst_placeAt_19 : decode b_Lst_placeAt 19 = .ok (.irem, 1) := by decide +kernel
theorem d_Lst_placeAt_20 : decode b_Lst_placeAt 20 = .ok (.ireturn, 1) := by decide +kernel
