theorem d_PS_init_0 : decode b_PS_init 0 = .ok (.aload_n 0, 1) := by decide +kernel
theorem d_PS_init_1 : decode b_PS_init 1 = .ok (.invokespecial 1, 3) := by decide +kernel
theorem d_PS_init_4 : decode b_PS_init 4 = .ok (.aload_n 0, 1) := by decide +kernel
theorem d_PS_init_5 : decode b_PS_init 5 = .ok (.iconst 5, 1) := by decide +kernel
theorem d_PS_init_6 : decode b_PS_init 6 = .ok (.newarray .int, 2) := by decide +kernel
theorem d_PS_init_8 : decode b_PS_init 8 = .ok (.putfield 7, 3) := by decide +kernel
theorem d_PS_init_11 : decode b_PS_init 11 = .ok (.aload_n 0, 1) := by decide +kernel
theorem d_PS_init_12 : decode b_PS_init 12 = .ok (.new 13, 3) := by decide +kernel
theorem d_PS_init_15 : decode b_PS_init 15 = .ok (.dup, 1) := by decide +kernel
theorem d_PS_init_16 : decode b_PS_init 16 = .ok (.invokespecial 15, 3) := by decide +kernel
theorem d_PS_init_19 : decode b_PS_init 19 = .ok (.putfield 16, 3) := by decide +kernel
theorem d_PS_init_22 : decode b_PS_init 22 = .ok (.aload_n 0, 1) := by decide +kernel
theorem d_PS_init_23 : decode b_PS_init 23 = .ok (.iconst (-1), 1) := by decide +kernel
theorem d_PS_init_24 : decode b_PS_init 24 = .ok (.putfield 20, 3) := by decide +kernel
theorem d_PS_init_27 : decode b_PS_init 27 = .ok (.aload_n 0, 1) := by decide +kernel
theorem d_PS_init_28 : decode b_PS_init 28 = .ok (.iconst (-1), 1) := by decide +kernel
theorem d_PS_init_29 : decode b_PS_init 29 = .ok (.putfield 24, 3) := by decide +kernel
theorem d_PS_init_32 : decode b_PS_init 32 = .ok (.aload_n 0, 1) := by decide +kernel
theorem d_PS_init_33 : decode b_PS_init 33 = .ok (.iconst (-1), 1) := by decide +kernel
theorem d_PS_init_34 : decode b_PS_init 34 = .ok (.putfield 27, 3) := by decide +kernel
theorem d_PS_init_37 : decode b_PS_init 37 = .ok (.iload_n 1, 1) := by decide +kernel
theorem d_PS_init_38 : decode b_PS_init 38 = .ok (.iconst 1, 1) := by decide +kernel
theorem d_PS_init_39 : decode b_PS_init 39 = .ok (.iconst 4, 1) := by decide +kernel
theorem d_PS_init_40 : decode b_PS_init 40 = .ok (.invokestatic 30, 3) := by decide +kernel
theorem d_PS_init_43 : decode b_PS_init 43 = .ok (.istore 5, 2) := by decide +kernel
theorem d_PS_init_45 : decode b_PS_init 45 = .ok (.iload_n 2, 1) := by decide +kernel
theorem d_PS_init_46 : decode b_PS_init 46 = .ok (.iconst 1, 1) := by decide +kernel
theorem d_PS_init_47 : decode b_PS_init 47 = .ok (.bipush 8, 2) := by decide +kernel
theorem d_PS_init_49 : decode b_PS_init 49 = .ok (.invokestatic 30, 3) := by decide +kernel
theorem d_PS_init_52 : decode b_PS_init 52 = .ok (.istore 6, 2) := by decide +kernel
theorem d_PS_init_54 : decode b_PS_init 54 = .ok (.aload_n 0, 1) := by decide +kernel
theorem d_PS_init_55 : decode b_PS_init 55 = .ok (.iload_n 3, 1) := by decide +kernel
theorem d_PS_init_56 : decode b_PS_init 56 = .ok (.bipush 7, 2) := by decide +kernel
theorem d_PS_init_58 : decode b_PS_init 58 = .ok (.bipush 101, 2) := by decide +kernel
theorem d_PS_init_60 : decode b_PS_init 60 = .ok (.invokestatic 30, 3) := by decide +kernel
theorem d_PS_init_63 : decode b_PS_init 63 = .ok (.invokestatic 34, 3) := by decide +kernel
theorem d_PS_init_66 : decode b_PS_init 66 = .ok (.putfield 38, 3) := by decide +kernel
theorem d_PS_init_69 : decode b_PS_init 69 = .ok (.aload_n 0, 1) := by decide +kernel
theorem d_PS_init_70 : decode b_PS_init 70 = .ok (.new 41, 3) := by decide +kernel
theorem d_PS_init_73 : decode b_PS_init 73 = .ok (.dup, 1) := by decide +kernel
theorem d_PS_init_74 : decode b_PS_init 74 = .ok (.iload 4, 2) := by decide +kernel
theorem d_PS_init_76 : decode b_PS_init 76 = .ok (.i2l, 1) := by decide +kernel
theorem d_PS_init_77 : decode b_PS_init 77 = .ok (.iload 4, 2) := by decide +kernel
theorem d_PS_init_79 : decode b_PS_init 79 = .ok (.i2l, 1) := by decide +kernel
theorem d_PS_init_80 : decode b_PS_init 80 = .ok (.ldc2_w 43, 3) := by decide +kernel
theorem d_PS_init_83 : decode b_PS_init 83 = .ok (.lxor, 1) := by decide +kernel
theorem d_PS_init_84 : decode b_PS_init 84 = .ok (.invokespecial 45, 3) := by decide +kernel
theorem d_PS_init_87 : decode b_PS_init 87 = .ok (.putfield 48, 3) := by decide +kernel
theorem d_PS_init_90 : decode b_PS_init 90 = .ok (.aload_n 0, 1) := by decide +kernel
theorem d_PS_init_91 : decode b_PS_init 91 = .ok (.iload 6, 2) := by decide +kernel
theorem d_PS_init_93 : decode b_PS_init 93 = .ok (.anewarray 52, 3) := by decide +kernel
theorem d_PS_init_96 : decode b_PS_init 96 = .ok (.putfield 54, 3) := by decide +kernel
theorem d_PS_init_99 : decode b_PS_init 99 = .ok (.iconst 0, 1) := by decide +kernel
theorem d_PS_init_100 : decode b_PS_init 100 = .ok (.istore 7, 2) := by decide +kernel
theorem d_PS_init_102 : decode b_PS_init 102 = .ok (.iload 7, 2) := by decide +kernel
theorem d_PS_init_104 : decode b_PS_init 104 = .ok (.iload 6, 2) := by decide +kernel
theorem d_PS_init_106 : decode b_PS_init 106 = .ok (.if_icmp .ge 23, 3) := by decide +kernel
theorem d_PS_init_109 : decode b_PS_init 109 = .ok (.aload_n 0, 1) := by decide +kernel
theorem d_PS_init_110 : decode b_PS_init 110 = .ok (.getfield 54, 3) := by decide +kernel
theorem d_PS_init_113 : decode b_PS_init 113 = .ok (.iload 7, 2) := by decide +kernel
theorem d_PS_init_115 : decode b_PS_init 115 = .ok (.new 52, 3) := by decide +kernel
theorem d_PS_init_118 : decode b_PS_init 118 = .ok (.dup, 1) := by decide +kernel
theorem d_PS_init_119 : decode b_PS_init 119 = .ok (.invokespecial 58, 3) := by decide +kernel
theorem d_PS_init_122 : decode b_PS_init 122 = .ok (.aastore, 1) := by decide +kernel
theorem d_PS_init_123 : decode b_PS_init 123 = .ok (.iinc 7 1, 3) := by decide +kernel
theorem d_PS_init_126 : decode b_PS_init 126 = .ok (.goto (-24), 3) := by decide +kernel
theorem d_PS_init_129 : decode b_PS_init 129 = .ok (.new 59, 3) := by decide +kernel
theorem d_PS_init_132 : decode b_PS_init 132 = .ok (.dup, 1) := by decide +kernel
theorem d_PS_init_133 : decode b_PS_init 133 = .ok (.iload 6, 2) := by decide +kernel
theorem d_PS_init_135 : decode b_PS_init 135 = .ok (.aload_n 0, 1) := by decide +kernel
theorem d_PS_init_136 : decode b_PS_init 136 = .ok (.getfield 38, 3) := by decide +kernel
theorem d_PS_init_139 : decode b_PS_init 139 = .ok (.aload_n 0, 1) := by decide +kernel
theorem d_PS_init_140 : decode b_PS_init 140 = .ok (.getfield 48, 3) := by decide +kernel
theorem d_PS_init_143 : decode b_PS_init 143 = .ok (.invokespecial 61, 3) := by decide +kernel
theorem d_PS_init_146 : decode b_PS_init 146 = .ok (.astore 7, 2) := by decide +kernel
theorem d_PS_init_148 : decode b_PS_init 148 = .ok (.aload_n 0, 1) := by decide +kernel
theorem d_PS_init_149 : decode b_PS_init 149 = .ok (.iload 5, 2) := by decide +kernel
theorem d_PS_init_151 : decode b_PS_init 151 = .ok (.anewarray 64, 3) := by decide +kernel
theorem d_PS_init_154 : decode b_PS_init 154 = .ok (.putfield 66, 3) := by decide +kernel
theorem d_PS_init_157 : decode b_PS_init 157 = .ok (.iconst 0, 1) := by decide +kernel
theorem d_PS_init_158 : decode b_PS_init 158 = .ok (.istore 8, 2) := by decide +kernel
theorem d_PS_init_160 : decode b_PS_init 160 = .ok (.iload 8, 2) := by decide +kernel
theorem d_PS_init_162 : decode b_PS_init 162 = .ok (.iload 5, 2) := by decide +kernel
theorem d_PS_init_164 : decode b_PS_init 164 = .ok (.if_icmp .ge 27, 3) := by decide +kernel
theorem d_PS_init_167 : decode b_PS_init 167 = .ok (.aload_n 0, 1) := by decide +kernel
theorem d_PS_init_168 : decode b_PS_init 168 = .ok (.getfield 66, 3) := by decide +kernel
theorem d_PS_init_171 : decode b_PS_init 171 = .ok (.iload 8, 2) := by decide +kernel
theorem d_PS_init_173 : decode b_PS_init 173 = .ok (.new 64, 3) := by decide +kernel
theorem d_PS_init_176 : decode b_PS_init 176 = .ok (.dup, 1) := by decide +kernel
theorem d_PS_init_177 : decode b_PS_init 177 = .ok (.iload 6, 2) := by decide +kernel
theorem d_PS_init_179 : decode b_PS_init 179 = .ok (.aload 7, 2) := by decide +kernel
theorem d_PS_init_181 : decode b_PS_init 181 = .ok (.invokespecial 70, 3) := by decide +kernel
theorem d_PS_init_184 : decode b_PS_init 184 = .ok (.aastore, 1) := by decide +kernel
theorem d_PS_init_185 : decode b_PS_init 185 = .ok (.iinc 8 1, 3) := by decide +kernel
theorem d_PS_init_188 : decode b_PS_init 188 = .ok (.goto (-28), 3) := by decide +kernel
theorem d_PS_init_191 : decode b_PS_init 191 = .ok (.return_, 1) := by decide +kernel
