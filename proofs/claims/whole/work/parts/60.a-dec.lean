theorem d_Mod_probe_0 : decode b_Mod_probe 0 = .ok (.aload_n 0, 1) := by decide +kernel
theorem d_Mod_probe_1 : decode b_Mod_probe 1 = .ok (.iload_n 1, 1) := by decide +kernel
theorem d_Mod_probe_2 : decode b_Mod_probe 2 = .ok (.invokevirtual 186, 3) := by decide +kernel
theorem d_Mod_probe_5 : decode b_Mod_probe 5 = .ok (.ifCond .eq 12, 3) := by decide +kernel
theorem d_Mod_probe_8 : decode b_Mod_probe 8 = .ok (.aload_n 0, 1) := by decide +kernel
theorem d_Mod_probe_9 : decode b_Mod_probe 9 = .ok (.getfield 26, 3) := by decide +kernel
theorem d_Mod_probe_12 : decode b_Mod_probe 12 = .ok (.iload_n 1, 1) := by decide +kernel
theorem d_Mod_probe_13 : decode b_Mod_probe 13 = .ok (.baload, 1) := by decide +kernel
theorem d_Mod_probe_14 : decode b_Mod_probe 14 = .ok (.ifCond .ne 5, 3) := by decide +kernel
theorem d_Mod_probe_17 : decode b_Mod_probe 17 = .ok (.iconst (-1), 1) := by decide +kernel
theorem d_Mod_probe_18 : decode b_Mod_probe 18 = .ok (.ireturn, 1) := by decide +kernel
theorem d_Mod_probe_19 : decode b_Mod_probe 19 = .ok (.aload_n 0, 1) := by decide +kernel
theorem d_Mod_probe_20 : decode b_Mod_probe 20 = .ok (.iload_n 1, 1) := by decide +kernel
theorem d_Mod_probe_21 : decode b_Mod_probe 21 = .ok (.invokevirtual 189, 3) := by decide +kernel
theorem d_Mod_probe_24 : decode b_Mod_probe 24 = .ok (.iconst 0, 1) := by decide +kernel
theorem d_Mod_probe_25 : decode b_Mod_probe 25 = .ok (.istore_n 2, 1) := by decide +kernel
theorem d_Mod_probe_26 : decode b_Mod_probe 26 = .ok (.iload_n 2, 1) := by decide +kernel
theorem d_Mod_probe_27 : decode b_Mod_probe 27 = .ok (.bipush 101, 2) := by decide +kernel
theorem d_Mod_probe_29 : decode b_Mod_probe 29 = .ok (.if_icmp .ge 21, 3) := by decide +kernel
theorem d_Mod_probe_32 : decode b_Mod_probe 32 = .ok (.aload_n 0, 1) := by decide +kernel
theorem d_Mod_probe_33 : decode b_Mod_probe 33 = .ok (.getfield 23, 3) := by decide +kernel
theorem d_Mod_probe_36 : decode b_Mod_probe 36 = .ok (.iload_n 2, 1) := by decide +kernel
theorem d_Mod_probe_37 : decode b_Mod_probe 37 = .ok (.aload_n 0, 1) := by decide +kernel
theorem d_Mod_probe_38 : decode b_Mod_probe 38 = .ok (.getfield 20, 3) := by decide +kernel
theorem d_Mod_probe_41 : decode b_Mod_probe 41 = .ok (.iload_n 2, 1) := by decide +kernel
theorem d_Mod_probe_42 : decode b_Mod_probe 42 = .ok (.iaload, 1) := by decide +kernel
theorem d_Mod_probe_43 : decode b_Mod_probe 43 = .ok (.iastore, 1) := by decide +kernel
theorem d_Mod_probe_44 : decode b_Mod_probe 44 = .ok (.iinc 2 1, 3) := by decide +kernel
theorem d_Mod_probe_47 : decode b_Mod_probe 47 = .ok (.goto (-21), 3) := by decide +kernel
theorem d_Mod_probe_50 : decode b_Mod_probe 50 = .ok (.iconst 0, 1) := by decide +kernel
theorem d_Mod_probe_51 : decode b_Mod_probe 51 = .ok (.istore_n 2, 1) := by decide +kernel
theorem d_Mod_probe_52 : decode b_Mod_probe 52 = .ok (.iconst 0, 1) := by decide +kernel
theorem d_Mod_probe_53 : decode b_Mod_probe 53 = .ok (.istore_n 3, 1) := by decide +kernel
theorem d_Mod_probe_54 : decode b_Mod_probe 54 = .ok (.iload_n 3, 1) := by decide +kernel
theorem d_Mod_probe_55 : decode b_Mod_probe 55 = .ok (.aload_n 0, 1) := by decide +kernel
theorem d_Mod_probe_56 : decode b_Mod_probe 56 = .ok (.getfield 104, 3) := by decide +kernel
theorem d_Mod_probe_59 : decode b_Mod_probe 59 = .ok (.if_icmp .ge 26, 3) := by decide +kernel
theorem d_Mod_probe_62 : decode b_Mod_probe 62 = .ok (.aload_n 0, 1) := by decide +kernel
theorem d_Mod_probe_63 : decode b_Mod_probe 63 = .ok (.iload_n 1, 1) := by decide +kernel
theorem d_Mod_probe_64 : decode b_Mod_probe 64 = .ok (.iload_n 3, 1) := by decide +kernel
theorem d_Mod_probe_65 : decode b_Mod_probe 65 = .ok (.invokevirtual 199, 3) := by decide +kernel
theorem d_Mod_probe_68 : decode b_Mod_probe 68 = .ok (.ifCond .eq 9, 3) := by decide +kernel
theorem d_Mod_probe_71 : decode b_Mod_probe 71 = .ok (.iload_n 2, 1) := by decide +kernel
theorem d_Mod_probe_72 : decode b_Mod_probe 72 = .ok (.iconst 1, 1) := by decide +kernel
theorem d_Mod_probe_73 : decode b_Mod_probe 73 = .ok (.iadd, 1) := by decide +kernel
theorem d_Mod_probe_74 : decode b_Mod_probe 74 = .ok (.goto 4, 3) := by decide +kernel
theorem d_Mod_probe_77 : decode b_Mod_probe 77 = .ok (.iload_n 2, 1) := by decide +kernel
theorem d_Mod_probe_78 : decode b_Mod_probe 78 = .ok (.istore_n 2, 1) := by decide +kernel
theorem d_Mod_probe_79 : decode b_Mod_probe 79 = .ok (.iinc 3 1, 3) := by decide +kernel
theorem d_Mod_probe_82 : decode b_Mod_probe 82 = .ok (.goto (-28), 3) := by decide +kernel
theorem d_Mod_probe_85 : decode b_Mod_probe 85 = .ok (.iload_n 2, 1) := by decide +kernel
theorem d_Mod_probe_86 : decode b_Mod_probe 86 = .ok (.ifCond .ne 5, 3) := by decide +kernel
theorem d_Mod_probe_89 : decode b_Mod_probe 89 = .ok (.iconst 0, 1) := by decide +kernel
theorem d_Mod_probe_90 : decode b_Mod_probe 90 = .ok (.ireturn, 1) := by decide +kernel
theorem d_Mod_probe_91 : decode b_Mod_probe 91 = .ok (.bipush 8, 2) := by decide +kernel
theorem d_Mod_probe_93 : decode b_Mod_probe 93 = .ok (.iload_n 1, 1) := by decide +kernel
theorem d_Mod_probe_94 : decode b_Mod_probe 94 = .ok (.imul, 1) := by decide +kernel
theorem d_Mod_probe_95 : decode b_Mod_probe 95 = .ok (.istore_n 3, 1) := by decide +kernel
theorem d_Mod_probe_96 : decode b_Mod_probe 96 = .ok (.iload_n 3, 1) := by decide +kernel
theorem d_Mod_probe_97 : decode b_Mod_probe 97 = .ok (.bipush 8, 2) := by decide +kernel
theorem d_Mod_probe_99 : decode b_Mod_probe 99 = .ok (.iload_n 1, 1) := by decide +kernel
theorem d_Mod_probe_100 : decode b_Mod_probe 100 = .ok (.imul, 1) := by decide +kernel
theorem d_Mod_probe_101 : decode b_Mod_probe 101 = .ok (.bipush 8, 2) := by decide +kernel
theorem d_Mod_probe_103 : decode b_Mod_probe 103 = .ok (.iadd, 1) := by decide +kernel
theorem d_Mod_probe_104 : decode b_Mod_probe 104 = .ok (.if_icmp .ge 44, 3) := by decide +kernel
theorem d_Mod_probe_107 : decode b_Mod_probe 107 = .ok (.aload_n 0, 1) := by decide +kernel
theorem d_Mod_probe_108 : decode b_Mod_probe 108 = .ok (.getfield 45, 3) := by decide +kernel
theorem d_Mod_probe_111 : decode b_Mod_probe 111 = .ok (.iload_n 3, 1) := by decide +kernel
theorem d_Mod_probe_112 : decode b_Mod_probe 112 = .ok (.iaload, 1) := by decide +kernel
theorem d_Mod_probe_113 : decode b_Mod_probe 113 = .ok (.ifCond .le 29, 3) := by decide +kernel
theorem d_Mod_probe_116 : decode b_Mod_probe 116 = .ok (.aload_n 0, 1) := by decide +kernel
theorem d_Mod_probe_117 : decode b_Mod_probe 117 = .ok (.getfield 36, 3) := by decide +kernel
theorem d_Mod_probe_120 : decode b_Mod_probe 120 = .ok (.bipush 8, 2) := by decide +kernel
theorem d_Mod_probe_122 : decode b_Mod_probe 122 = .ok (.iload_n 1, 1) := by decide +kernel
theorem d_Mod_probe_123 : decode b_Mod_probe 123 = .ok (.imul, 1) := by decide +kernel
theorem d_Mod_probe_124 : decode b_Mod_probe 124 = .ok (.aload_n 0, 1) := by decide +kernel
theorem d_Mod_probe_125 : decode b_Mod_probe 125 = .ok (.getfield 51, 3) := by decide +kernel
theorem d_Mod_probe_128 : decode b_Mod_probe 128 = .ok (.iload_n 3, 1) := by decide +kernel
theorem d_Mod_probe_129 : decode b_Mod_probe 129 = .ok (.iaload, 1) := by decide +kernel
theorem d_Mod_probe_130 : decode b_Mod_probe 130 = .ok (.iadd, 1) := by decide +kernel
theorem d_Mod_probe_131 : decode b_Mod_probe 131 = .ok (.baload, 1) := by decide +kernel
theorem d_Mod_probe_132 : decode b_Mod_probe 132 = .ok (.ifCond .eq 10, 3) := by decide +kernel
theorem d_Mod_probe_135 : decode b_Mod_probe 135 = .ok (.aload_n 0, 1) := by decide +kernel
theorem d_Mod_probe_136 : decode b_Mod_probe 136 = .ok (.getfield 45, 3) := by decide +kernel
theorem d_Mod_probe_139 : decode b_Mod_probe 139 = .ok (.iload_n 3, 1) := by decide +kernel
theorem d_Mod_probe_140 : decode b_Mod_probe 140 = .ok (.iconst 0, 1) := by decide +kernel
theorem d_Mod_probe_141 : decode b_Mod_probe 141 = .ok (.iastore, 1) := by decide +kernel
theorem d_Mod_probe_142 : decode b_Mod_probe 142 = .ok (.iinc 3 1, 3) := by decide +kernel
theorem d_Mod_probe_145 : decode b_Mod_probe 145 = .ok (.goto (-49), 3) := by decide +kernel
theorem d_Mod_probe_148 : decode b_Mod_probe 148 = .ok (.aload_n 0, 1) := by decide +kernel
theorem d_Mod_probe_149 : decode b_Mod_probe 149 = .ok (.iload_n 1, 1) := by decide +kernel
theorem d_Mod_probe_150 : decode b_Mod_probe 150 = .ok (.invokevirtual 189, 3) := by decide +kernel
theorem d_Mod_probe_153 : decode b_Mod_probe 153 = .ok (.iconst 0, 1) := by decide +kernel
theorem d_Mod_probe_154 : decode b_Mod_probe 154 = .ok (.istore_n 3, 1) := by decide +kernel
theorem d_Mod_probe_155 : decode b_Mod_probe 155 = .ok (.iconst 0, 1) := by decide +kernel
theorem d_Mod_probe_156 : decode b_Mod_probe 156 = .ok (.istore 4, 2) := by decide +kernel
theorem d_Mod_probe_158 : decode b_Mod_probe 158 = .ok (.iload 4, 2) := by decide +kernel
theorem d_Mod_probe_160 : decode b_Mod_probe 160 = .ok (.aload_n 0, 1) := by decide +kernel
theorem d_Mod_probe_161 : decode b_Mod_probe 161 = .ok (.getfield 107, 3) := by decide +kernel
theorem d_Mod_probe_164 : decode b_Mod_probe 164 = .ok (.if_icmp .ge 34, 3) := by decide +kernel
theorem d_Mod_probe_167 : decode b_Mod_probe 167 = .ok (.aload_n 0, 1) := by decide +kernel
theorem d_Mod_probe_168 : decode b_Mod_probe 168 = .ok (.getfield 20, 3) := by decide +kernel
theorem d_Mod_probe_171 : decode b_Mod_probe 171 = .ok (.iload 4, 2) := by decide +kernel
theorem d_Mod_probe_173 : decode b_Mod_probe 173 = .ok (.iaload, 1) := by decide +kernel
theorem d_Mod_probe_174 : decode b_Mod_probe 174 = .ok (.aload_n 0, 1) := by decide +kernel
theorem d_Mod_probe_175 : decode b_Mod_probe 175 = .ok (.getfield 23, 3) := by decide +kernel
theorem d_Mod_probe_178 : decode b_Mod_probe 178 = .ok (.iload 4, 2) := by decide +kernel
theorem d_Mod_probe_180 : decode b_Mod_probe 180 = .ok (.iaload, 1) := by decide +kernel
theorem d_Mod_probe_181 : decode b_Mod_probe 181 = .ok (.if_icmp .ne 7, 3) := by decide +kernel
theorem d_Mod_probe_184 : decode b_Mod_probe 184 = .ok (.iload_n 3, 1) := by decide +kernel
theorem d_Mod_probe_185 : decode b_Mod_probe 185 = .ok (.goto 6, 3) := by decide +kernel
theorem d_Mod_probe_188 : decode b_Mod_probe 188 = .ok (.iload_n 3, 1) := by decide +kernel
theorem d_Mod_probe_189 : decode b_Mod_probe 189 = .ok (.iconst 1, 1) := by decide +kernel
theorem d_Mod_probe_190 : decode b_Mod_probe 190 = .ok (.iadd, 1) := by decide +kernel
theorem d_Mod_probe_191 : decode b_Mod_probe 191 = .ok (.istore_n 3, 1) := by decide +kernel
theorem d_Mod_probe_192 : decode b_Mod_probe 192 = .ok (.iinc 4 1, 3) := by decide +kernel
theorem d_Mod_probe_195 : decode b_Mod_probe 195 = .ok (.goto (-37), 3) := by decide +kernel
theorem d_Mod_probe_198 : decode b_Mod_probe 198 = .ok (.aload_n 0, 1) := by decide +kernel
theorem d_Mod_probe_199 : decode b_Mod_probe 199 = .ok (.getfield 33, 3) := by decide +kernel
theorem d_Mod_probe_202 : decode b_Mod_probe 202 = .ok (.iload_n 1, 1) := by decide +kernel
theorem d_Mod_probe_203 : decode b_Mod_probe 203 = .ok (.iload_n 3, 1) := by decide +kernel
theorem d_Mod_probe_204 : decode b_Mod_probe 204 = .ok (.iastore, 1) := by decide +kernel
theorem d_Mod_probe_205 : decode b_Mod_probe 205 = .ok (.iload_n 2, 1) := by decide +kernel
theorem d_Mod_probe_206 : decode b_Mod_probe 206 = .ok (.ireturn, 1) := by decide +kernel
theorem d_Mod_held_0 : decode b_Mod_held 0 = .ok (.aload_n 0, 1) := by decide +kernel
theorem d_Mod_held_1 : decode b_Mod_held 1 = .ok (.iload_n 1, 1) := by decide +kernel
theorem d_Mod_held_2 : decode b_Mod_held 2 = .ok (.invokevirtual 186, 3) := by decide +kernel
theorem d_Mod_held_5 : decode b_Mod_held 5 = .ok (.ifCond .eq 11, 3) := by decide +kernel
theorem d_Mod_held_8 : decode b_Mod_held 8 = .ok (.aload_n 0, 1) := by decide +kernel
theorem d_Mod_held_9 : decode b_Mod_held 9 = .ok (.iload_n 2, 1) := by decide +kernel
theorem d_Mod_held_10 : decode b_Mod_held 10 = .ok (.invokevirtual 192, 3) := by decide +kernel
theorem d_Mod_held_13 : decode b_Mod_held 13 = .ok (.ifCond .ne 5, 3) := by decide +kernel
theorem d_Mod_held_16 : decode b_Mod_held 16 = .ok (.iconst (-1), 1) := by decide +kernel
theorem d_Mod_held_17 : decode b_Mod_held 17 = .ok (.ireturn, 1) := by decide +kernel
theorem d_Mod_held_18 : decode b_Mod_held 18 = .ok (.bipush 8, 2) := by decide +kernel
theorem d_Mod_held_20 : decode b_Mod_held 20 = .ok (.iload_n 1, 1) := by decide +kernel
theorem d_Mod_held_21 : decode b_Mod_held 21 = .ok (.imul, 1) := by decide +kernel
theorem d_Mod_held_22 : decode b_Mod_held 22 = .ok (.iload_n 2, 1) := by decide +kernel
theorem d_Mod_held_23 : decode b_Mod_held 23 = .ok (.iadd, 1) := by decide +kernel
theorem d_Mod_held_24 : decode b_Mod_held 24 = .ok (.istore_n 3, 1) := by decide +kernel
theorem d_Mod_held_25 : decode b_Mod_held 25 = .ok (.aload_n 0, 1) := by decide +kernel
theorem d_Mod_held_26 : decode b_Mod_held 26 = .ok (.getfield 36, 3) := by decide +kernel
theorem d_Mod_held_29 : decode b_Mod_held 29 = .ok (.iload_n 3, 1) := by decide +kernel
theorem d_Mod_held_30 : decode b_Mod_held 30 = .ok (.baload, 1) := by decide +kernel
theorem d_Mod_held_31 : decode b_Mod_held 31 = .ok (.ifCond .eq 15, 3) := by decide +kernel
theorem d_Mod_held_34 : decode b_Mod_held 34 = .ok (.bipush 10, 2) := by decide +kernel
theorem d_Mod_held_36 : decode b_Mod_held 36 = .ok (.aload_n 0, 1) := by decide +kernel
theorem d_Mod_held_37 : decode b_Mod_held 37 = .ok (.getfield 39, 3) := by decide +kernel
theorem d_Mod_held_40 : decode b_Mod_held 40 = .ok (.iload_n 3, 1) := by decide +kernel
theorem d_Mod_held_41 : decode b_Mod_held 41 = .ok (.iaload, 1) := by decide +kernel
theorem d_Mod_held_42 : decode b_Mod_held 42 = .ok (.iadd, 1) := by decide +kernel
theorem d_Mod_held_43 : decode b_Mod_held 43 = .ok (.goto 9, 3) := by decide +kernel
theorem d_Mod_held_46 : decode b_Mod_held 46 = .ok (.aload_n 0, 1) := by decide +kernel
theorem d_Mod_held_47 : decode b_Mod_held 47 = .ok (.getfield 39, 3) := by decide +kernel
theorem d_Mod_held_50 : decode b_Mod_held 50 = .ok (.iload_n 3, 1) := by decide +kernel
theorem d_Mod_held_51 : decode b_Mod_held 51 = .ok (.iaload, 1) := by decide +kernel
theorem d_Mod_held_52 : decode b_Mod_held 52 = .ok (.ireturn, 1) := by decide +kernel
theorem d_Mod_tick_0 : decode b_Mod_tick 0 = .ok (.iload_n 1, 1) := by decide +kernel
theorem d_Mod_tick_1 : decode b_Mod_tick 1 = .ok (.ifCond .lt 10, 3) := by decide +kernel
theorem d_Mod_tick_4 : decode b_Mod_tick 4 = .ok (.iload_n 1, 1) := by decide +kernel
theorem d_Mod_tick_5 : decode b_Mod_tick 5 = .ok (.sipush 1000, 3) := by decide +kernel
theorem d_Mod_tick_8 : decode b_Mod_tick 8 = .ok (.if_icmp .le 5, 3) := by decide +kernel
theorem d_Mod_tick_11 : decode b_Mod_tick 11 = .ok (.iconst 0, 1) := by decide +kernel
theorem d_Mod_tick_12 : decode b_Mod_tick 12 = .ok (.ireturn, 1) := by decide +kernel
theorem d_Mod_tick_13 : decode b_Mod_tick 13 = .ok (.aload_n 0, 1) := by decide +kernel
theorem d_Mod_tick_14 : decode b_Mod_tick 14 = .ok (.aload_n 0, 1) := by decide +kernel
theorem d_Mod_tick_15 : decode b_Mod_tick 15 = .ok (.getfield 202, 3) := by decide +kernel
theorem d_Mod_tick_18 : decode b_Mod_tick 18 = .ok (.iload_n 1, 1) := by decide +kernel
theorem d_Mod_tick_19 : decode b_Mod_tick 19 = .ok (.iadd, 1) := by decide +kernel
theorem d_Mod_tick_20 : decode b_Mod_tick 20 = .ok (.putfield 202, 3) := by decide +kernel
theorem d_Mod_tick_23 : decode b_Mod_tick 23 = .ok (.iconst 0, 1) := by decide +kernel
theorem d_Mod_tick_24 : decode b_Mod_tick 24 = .ok (.istore_n 2, 1) := by decide +kernel
theorem d_Mod_tick_25 : decode b_Mod_tick 25 = .ok (.iload_n 2, 1) := by decide +kernel
theorem d_Mod_tick_26 : decode b_Mod_tick 26 = .ok (.bipush 32, 2) := by decide +kernel
theorem d_Mod_tick_28 : decode b_Mod_tick 28 = .ok (.if_icmp .ge 36, 3) := by decide +kernel
theorem d_Mod_tick_31 : decode b_Mod_tick 31 = .ok (.aload_n 0, 1) := by decide +kernel
theorem d_Mod_tick_32 : decode b_Mod_tick 32 = .ok (.getfield 202, 3) := by decide +kernel
theorem d_Mod_tick_35 : decode b_Mod_tick 35 = .ok (.aload_n 0, 1) := by decide +kernel
theorem d_Mod_tick_36 : decode b_Mod_tick 36 = .ok (.getfield 48, 3) := by decide +kernel
theorem d_Mod_tick_39 : decode b_Mod_tick 39 = .ok (.iload_n 2, 1) := by decide +kernel
theorem d_Mod_tick_40 : decode b_Mod_tick 40 = .ok (.iaload, 1) := by decide +kernel
theorem d_Mod_tick_41 : decode b_Mod_tick 41 = .ok (.isub, 1) := by decide +kernel
theorem d_Mod_tick_42 : decode b_Mod_tick 42 = .ok (.aload_n 0, 1) := by decide +kernel
theorem d_Mod_tick_43 : decode b_Mod_tick 43 = .ok (.getfield 45, 3) := by decide +kernel
theorem d_Mod_tick_46 : decode b_Mod_tick 46 = .ok (.iload_n 2, 1) := by decide +kernel
theorem d_Mod_tick_47 : decode b_Mod_tick 47 = .ok (.iaload, 1) := by decide +kernel
theorem d_Mod_tick_48 : decode b_Mod_tick 48 = .ok (.if_icmp .le 10, 3) := by decide +kernel
theorem d_Mod_tick_51 : decode b_Mod_tick 51 = .ok (.aload_n 0, 1) := by decide +kernel
theorem d_Mod_tick_52 : decode b_Mod_tick 52 = .ok (.getfield 45, 3) := by decide +kernel
theorem d_Mod_tick_55 : decode b_Mod_tick 55 = .ok (.iload_n 2, 1) := by decide +kernel
theorem d_Mod_tick_56 : decode b_Mod_tick 56 = .ok (.iconst 0, 1) := by decide +kernel
theorem d_Mod_tick_57 : decode b_Mod_tick 57 = .ok (.iastore, 1) := by decide +kernel
theorem d_Mod_tick_58 : decode b_Mod_tick 58 = .ok (.iinc 2 1, 3) := by decide +kernel
theorem d_Mod_tick_61 : decode b_Mod_tick 61 = .ok (.goto (-36), 3) := by decide +kernel
theorem d_Mod_tick_64 : decode b_Mod_tick 64 = .ok (.iconst 1, 1) := by decide +kernel
theorem d_Mod_tick_65 : decode b_Mod_tick 65 = .ok (.ireturn, 1) := by decide +kernel
theorem d_Mod_slot_0 : decode b_Mod_slot 0 = .ok (.bipush 8, 2) := by decide +kernel
theorem d_Mod_slot_2 : decode b_Mod_slot 2 = .ok (.iload_n 1, 1) := by decide +kernel
theorem d_Mod_slot_3 : decode b_Mod_slot 3 = .ok (.imul, 1) := by decide +kernel
theorem d_Mod_slot_4 : decode b_Mod_slot 4 = .ok (.istore 4, 2) := by decide +kernel
theorem d_Mod_slot_6 : decode b_Mod_slot 6 = .ok (.iload 4, 2) := by decide +kernel
theorem d_Mod_slot_8 : decode b_Mod_slot 8 = .ok (.bipush 8, 2) := by decide +kernel
theorem d_Mod_slot_10 : decode b_Mod_slot 10 = .ok (.iload_n 1, 1) := by decide +kernel
theorem d_Mod_slot_11 : decode b_Mod_slot 11 = .ok (.imul, 1) := by decide +kernel
theorem d_Mod_slot_12 : decode b_Mod_slot 12 = .ok (.bipush 8, 2) := by decide +kernel
theorem d_Mod_slot_14 : decode b_Mod_slot 14 = .ok (.iadd, 1) := by decide +kernel
theorem d_Mod_slot_15 : decode b_Mod_slot 15 = .ok (.if_icmp .ge 44, 3) := by decide +kernel
theorem d_Mod_slot_18 : decode b_Mod_slot 18 = .ok (.aload_n 0, 1) := by decide +kernel
theorem d_Mod_slot_19 : decode b_Mod_slot 19 = .ok (.getfield 45, 3) := by decide +kernel
theorem d_Mod_slot_22 : decode b_Mod_slot 22 = .ok (.iload 4, 2) := by decide +kernel
theorem d_Mod_slot_24 : decode b_Mod_slot 24 = .ok (.iaload, 1) := by decide +kernel
theorem d_Mod_slot_25 : decode b_Mod_slot 25 = .ok (.ifCond .le 28, 3) := by decide +kernel
theorem d_Mod_slot_28 : decode b_Mod_slot 28 = .ok (.aload_n 0, 1) := by decide +kernel
theorem d_Mod_slot_29 : decode b_Mod_slot 29 = .ok (.getfield 54, 3) := by decide +kernel
theorem d_Mod_slot_32 : decode b_Mod_slot 32 = .ok (.iload 4, 2) := by decide +kernel
theorem d_Mod_slot_34 : decode b_Mod_slot 34 = .ok (.iaload, 1) := by decide +kernel
theorem d_Mod_slot_35 : decode b_Mod_slot 35 = .ok (.iload_n 2, 1) := by decide +kernel
theorem d_Mod_slot_36 : decode b_Mod_slot 36 = .ok (.if_icmp .ne 17, 3) := by decide +kernel
theorem d_Mod_slot_39 : decode b_Mod_slot 39 = .ok (.aload_n 0, 1) := by decide +kernel
theorem d_Mod_slot_40 : decode b_Mod_slot 40 = .ok (.getfield 57, 3) := by decide +kernel
theorem d_Mod_slot_43 : decode b_Mod_slot 43 = .ok (.iload 4, 2) := by decide +kernel
theorem d_Mod_slot_45 : decode b_Mod_slot 45 = .ok (.iaload, 1) := by decide +kernel
theorem d_Mod_slot_46 : decode b_Mod_slot 46 = .ok (.iload_n 3, 1) := by decide +kernel
theorem d_Mod_slot_47 : decode b_Mod_slot 47 = .ok (.if_icmp .ne 6, 3) := by decide +kernel
theorem d_Mod_slot_50 : decode b_Mod_slot 50 = .ok (.iload 4, 2) := by decide +kernel
theorem d_Mod_slot_52 : decode b_Mod_slot 52 = .ok (.ireturn, 1) := by decide +kernel
theorem d_Mod_slot_53 : decode b_Mod_slot 53 = .ok (.iinc 4 1, 3) := by decide +kernel
theorem d_Mod_slot_56 : decode b_Mod_slot 56 = .ok (.goto (-50), 3) := by decide +kernel
theorem d_Mod_slot_59 : decode b_Mod_slot 59 = .ok (.iconst (-1), 1) := by decide +kernel
theorem d_Mod_slot_60 : decode b_Mod_slot 60 = .ok (.ireturn, 1) := by decide +kernel
theorem d_Mod_freeSlot_0 : decode b_Mod_freeSlot 0 = .ok (.bipush 8, 2) := by decide +kernel
theorem d_Mod_freeSlot_2 : decode b_Mod_freeSlot 2 = .ok (.iload_n 1, 1) := by decide +kernel
theorem d_Mod_freeSlot_3 : decode b_Mod_freeSlot 3 = .ok (.imul, 1) := by decide +kernel
theorem d_Mod_freeSlot_4 : decode b_Mod_freeSlot 4 = .ok (.istore_n 2, 1) := by decide +kernel
theorem d_Mod_freeSlot_5 : decode b_Mod_freeSlot 5 = .ok (.iload_n 2, 1) := by decide +kernel
theorem d_Mod_freeSlot_6 : decode b_Mod_freeSlot 6 = .ok (.bipush 8, 2) := by decide +kernel
theorem d_Mod_freeSlot_8 : decode b_Mod_freeSlot 8 = .ok (.iload_n 1, 1) := by decide +kernel
theorem d_Mod_freeSlot_9 : decode b_Mod_freeSlot 9 = .ok (.imul, 1) := by decide +kernel
theorem d_Mod_freeSlot_10 : decode b_Mod_freeSlot 10 = .ok (.bipush 8, 2) := by decide +kernel
theorem d_Mod_freeSlot_12 : decode b_Mod_freeSlot 12 = .ok (.iadd, 1) := by decide +kernel
theorem d_Mod_freeSlot_13 : decode b_Mod_freeSlot 13 = .ok (.if_icmp .ge 20, 3) := by decide +kernel
theorem d_Mod_freeSlot_16 : decode b_Mod_freeSlot 16 = .ok (.aload_n 0, 1) := by decide +kernel
theorem d_Mod_freeSlot_17 : decode b_Mod_freeSlot 17 = .ok (.getfield 45, 3) := by decide +kernel
theorem d_Mod_freeSlot_20 : decode b_Mod_freeSlot 20 = .ok (.iload_n 2, 1) := by decide +kernel
theorem d_Mod_freeSlot_21 : decode b_Mod_freeSlot 21 = .ok (.iaload, 1) := by decide +kernel
theorem d_Mod_freeSlot_22 : decode b_Mod_freeSlot 22 = .ok (.ifCond .ne 5, 3) := by decide +kernel
theorem d_Mod_freeSlot_25 : decode b_Mod_freeSlot 25 = .ok (.iload_n 2, 1) := by decide +kernel
theorem d_Mod_freeSlot_26 : decode b_Mod_freeSlot 26 = .ok (.ireturn, 1) := by decide +kernel
theorem d_Mod_freeSlot_27 : decode b_Mod_freeSlot 27 = .ok (.iinc 2 1, 3) := by decide +kernel
theorem d_Mod_freeSlot_30 : decode b_Mod_freeSlot 30 = .ok (.goto (-25), 3) := by decide +kernel
theorem d_Mod_freeSlot_33 : decode b_Mod_freeSlot 33 = .ok (.iconst (-1), 1) := by decide +kernel
theorem d_Mod_freeSlot_34 : decode b_Mod_freeSlot 34 = .ok (.ireturn, 1) := by decide +kernel
theorem d_Mod_session_0 : decode b_Mod_session 0 = .ok (.bipush 10, 2) := by decide +kernel
theorem d_Mod_session_2 : decode b_Mod_session 2 = .ok (.iload_n 1, 1) := by decide +kernel
theorem d_Mod_session_3 : decode b_Mod_session 3 = .ok (.imul, 1) := by decide +kernel
theorem d_Mod_session_4 : decode b_Mod_session 4 = .ok (.istore_n 3, 1) := by decide +kernel
theorem d_Mod_session_5 : decode b_Mod_session 5 = .ok (.iload_n 3, 1) := by decide +kernel
theorem d_Mod_session_6 : decode b_Mod_session 6 = .ok (.bipush 10, 2) := by decide +kernel
theorem d_Mod_session_8 : decode b_Mod_session 8 = .ok (.iload_n 1, 1) := by decide +kernel
theorem d_Mod_session_9 : decode b_Mod_session 9 = .ok (.imul, 1) := by decide +kernel
theorem d_Mod_session_10 : decode b_Mod_session 10 = .ok (.bipush 10, 2) := by decide +kernel
theorem d_Mod_session_12 : decode b_Mod_session 12 = .ok (.iadd, 1) := by decide +kernel
theorem d_Mod_session_13 : decode b_Mod_session 13 = .ok (.if_icmp .ge 45, 3) := by decide +kernel
theorem d_Mod_session_16 : decode b_Mod_session 16 = .ok (.aload_n 0, 1) := by decide +kernel
theorem d_Mod_session_17 : decode b_Mod_session 17 = .ok (.getfield 66, 3) := by decide +kernel
theorem d_Mod_session_20 : decode b_Mod_session 20 = .ok (.iload_n 3, 1) := by decide +kernel
theorem d_Mod_session_21 : decode b_Mod_session 21 = .ok (.baload, 1) := by decide +kernel
theorem d_Mod_session_22 : decode b_Mod_session 22 = .ok (.ifCond .eq 30, 3) := by decide +kernel
theorem d_Mod_session_25 : decode b_Mod_session 25 = .ok (.aload_n 0, 1) := by decide +kernel
theorem d_Mod_session_26 : decode b_Mod_session 26 = .ok (.getfield 69, 3) := by decide +kernel
theorem d_Mod_session_29 : decode b_Mod_session 29 = .ok (.iload_n 3, 1) := by decide +kernel
theorem d_Mod_session_30 : decode b_Mod_session 30 = .ok (.iaload, 1) := by decide +kernel
theorem d_Mod_session_31 : decode b_Mod_session 31 = .ok (.aload_n 0, 1) := by decide +kernel
theorem d_Mod_session_32 : decode b_Mod_session 32 = .ok (.getfield 81, 3) := by decide +kernel
theorem d_Mod_session_35 : decode b_Mod_session 35 = .ok (.iconst 3, 1) := by decide +kernel
theorem d_Mod_session_36 : decode b_Mod_session 36 = .ok (.iaload, 1) := by decide +kernel
theorem d_Mod_session_37 : decode b_Mod_session 37 = .ok (.if_icmp .ne 15, 3) := by decide +kernel
theorem d_Mod_session_40 : decode b_Mod_session 40 = .ok (.aload_n 0, 1) := by decide +kernel
theorem d_Mod_session_41 : decode b_Mod_session 41 = .ok (.getfield 72, 3) := by decide +kernel
theorem d_Mod_session_44 : decode b_Mod_session 44 = .ok (.iload_n 3, 1) := by decide +kernel
theorem d_Mod_session_45 : decode b_Mod_session 45 = .ok (.iaload, 1) := by decide +kernel
theorem d_Mod_session_46 : decode b_Mod_session 46 = .ok (.iload_n 2, 1) := by decide +kernel
theorem d_Mod_session_47 : decode b_Mod_session 47 = .ok (.if_icmp .ne 5, 3) := by decide +kernel
theorem d_Mod_session_50 : decode b_Mod_session 50 = .ok (.iload_n 3, 1) := by decide +kernel
theorem d_Mod_session_51 : decode b_Mod_session 51 = .ok (.ireturn, 1) := by decide +kernel
theorem d_Mod_session_52 : decode b_Mod_session 52 = .ok (.iinc 3 1, 3) := by decide +kernel
theorem d_Mod_session_55 : decode b_Mod_session 55 = .ok (.goto (-50), 3) := by decide +kernel
theorem d_Mod_session_58 : decode b_Mod_session 58 = .ok (.iconst (-1), 1) := by decide +kernel
theorem d_Mod_session_59 : decode b_Mod_session 59 = .ok (.ireturn, 1) := by decide +kernel
theorem d_Mod_freeSession_0 : decode b_Mod_freeSession 0 = .ok (.bipush 10, 2) := by decide +kernel
theorem d_Mod_freeSession_2 : decode b_Mod_freeSession 2 = .ok (.iload_n 1, 1) := by decide +kernel
theorem d_Mod_freeSession_3 : decode b_Mod_freeSession 3 = .ok (.imul, 1) := by decide +kernel
theorem d_Mod_freeSession_4 : decode b_Mod_freeSession 4 = .ok (.istore_n 2, 1) := by decide +kernel
theorem d_Mod_freeSession_5 : decode b_Mod_freeSession 5 = .ok (.iload_n 2, 1) := by decide +kernel
theorem d_Mod_freeSession_6 : decode b_Mod_freeSession 6 = .ok (.bipush 10, 2) := by decide +kernel
theorem d_Mod_freeSession_8 : decode b_Mod_freeSession 8 = .ok (.iload_n 1, 1) := by decide +kernel
theorem d_Mod_freeSession_9 : decode b_Mod_freeSession 9 = .ok (.imul, 1) := by decide +kernel
theorem d_Mod_freeSession_10 : decode b_Mod_freeSession 10 = .ok (.bipush 10, 2) := by decide +kernel
theorem d_Mod_freeSession_12 : decode b_Mod_freeSession 12 = .ok (.iadd, 1) := by decide +kernel
theorem d_Mod_freeSession_13 : decode b_Mod_freeSession 13 = .ok (.if_icmp .ge 20, 3) := by decide +kernel
theorem d_Mod_freeSession_16 : decode b_Mod_freeSession 16 = .ok (.aload_n 0, 1) := by decide +kernel
theorem d_Mod_freeSession_17 : decode b_Mod_freeSession 17 = .ok (.getfield 66, 3) := by decide +kernel
theorem d_Mod_freeSession_20 : decode b_Mod_freeSession 20 = .ok (.iload_n 2, 1) := by decide +kernel
theorem d_Mod_freeSession_21 : decode b_Mod_freeSession 21 = .ok (.baload, 1) := by decide +kernel
theorem d_Mod_freeSession_22 : decode b_Mod_freeSession 22 = .ok (.ifCond .ne 5, 3) := by decide +kernel
theorem d_Mod_freeSession_25 : decode b_Mod_freeSession 25 = .ok (.iload_n 2, 1) := by decide +kernel
theorem d_Mod_freeSession_26 : decode b_Mod_freeSession 26 = .ok (.ireturn, 1) := by decide +kernel
theorem d_Mod_freeSession_27 : decode b_Mod_freeSession 27 = .ok (.iinc 2 1, 3) := by decide +kernel
theorem d_Mod_freeSession_30 : decode b_Mod_freeSession 30 = .ok (.goto (-25), 3) := by decide +kernel
theorem d_Mod_freeSession_33 : decode b_Mod_freeSession 33 = .ok (.iconst (-1), 1) := by decide +kernel
theorem d_Mod_freeSession_34 : decode b_Mod_freeSession 34 = .ok (.ireturn, 1) := by decide +kernel
theorem d_Mod_entry_0 : decode b_Mod_entry 0 = .ok (.aload_n 0, 1) := by decide +kernel
theorem d_Mod_entry_1 : decode b_Mod_entry 1 = .ok (.iload_n 1, 1) := by decide +kernel
theorem d_Mod_entry_2 : decode b_Mod_entry 2 = .ok (.invokevirtual 186, 3) := by decide +kernel
theorem d_Mod_entry_5 : decode b_Mod_entry 5 = .ok (.ifCond .eq 13, 3) := by decide +kernel
theorem d_Mod_entry_8 : decode b_Mod_entry 8 = .ok (.aload_n 0, 1) := by decide +kernel
theorem d_Mod_entry_9 : decode b_Mod_entry 9 = .ok (.iload_n 1, 1) := by decide +kernel
theorem d_Mod_entry_10 : decode b_Mod_entry 10 = .ok (.iload_n 2, 1) := by decide +kernel
theorem d_Mod_entry_11 : decode b_Mod_entry 11 = .ok (.iload_n 3, 1) := by decide +kernel
theorem d_Mod_entry_12 : decode b_Mod_entry 12 = .ok (.invokevirtual 213, 3) := by decide +kernel
theorem d_Mod_entry_15 : decode b_Mod_entry 15 = .ok (.goto 4, 3) := by decide +kernel
theorem d_Mod_entry_18 : decode b_Mod_entry 18 = .ok (.iconst (-1), 1) := by decide +kernel
theorem d_Mod_entry_19 : decode b_Mod_entry 19 = .ok (.istore 4, 2) := by decide +kernel
theorem d_Mod_entry_21 : decode b_Mod_entry 21 = .ok (.iload 4, 2) := by decide +kernel
theorem d_Mod_entry_23 : decode b_Mod_entry 23 = .ok (.ifCond .ge 7, 3) := by decide +kernel
theorem d_Mod_entry_26 : decode b_Mod_entry 26 = .ok (.iconst (-1), 1) := by decide +kernel
theorem d_Mod_entry_27 : decode b_Mod_entry 27 = .ok (.goto 10, 3) := by decide +kernel
theorem d_Mod_entry_30 : decode b_Mod_entry 30 = .ok (.aload_n 0, 1) := by decide +kernel
theorem d_Mod_entry_31 : decode b_Mod_entry 31 = .ok (.getfield 51, 3) := by decide +kernel
theorem d_Mod_entry_34 : decode b_Mod_entry 34 = .ok (.iload 4, 2) := by decide +kernel
theorem d_Mod_entry_36 : decode b_Mod_entry 36 = .ok (.iaload, 1) := by decide +kernel
theorem d_Mod_entry_37 : decode b_Mod_entry 37 = .ok (.ireturn, 1) := by decide +kernel
theorem d_Mod_five_0 : decode b_Mod_five 0 = .ok (.iload_n 3, 1) := by decide +kernel
theorem d_Mod_five_1 : decode b_Mod_five 1 = .ok (.ldc 139, 2) := by decide +kernel
theorem d_Mod_five_3 : decode b_Mod_five 3 = .ok (.imul, 1) := by decide +kernel
theorem d_Mod_five_4 : decode b_Mod_five 4 = .ok (.istore 7, 2) := by decide +kernel
theorem d_Mod_five_6 : decode b_Mod_five 6 = .ok (.aload_n 0, 1) := by decide +kernel
theorem d_Mod_five_7 : decode b_Mod_five 7 = .ok (.iload_n 2, 1) := by decide +kernel
theorem d_Mod_five_8 : decode b_Mod_five 8 = .ok (.iload 7, 2) := by decide +kernel
theorem d_Mod_five_10 : decode b_Mod_five 10 = .ok (.iload 4, 2) := by decide +kernel
theorem d_Mod_five_12 : decode b_Mod_five 12 = .ok (.iload 5, 2) := by decide +kernel
theorem d_Mod_five_14 : decode b_Mod_five 14 = .ok (.iload 6, 2) := by decide +kernel
theorem d_Mod_five_16 : decode b_Mod_five 16 = .ok (.invokevirtual 256, 3) := by decide +kernel
theorem d_Mod_five_19 : decode b_Mod_five 19 = .ok (.istore 8, 2) := by decide +kernel
theorem d_Mod_five_21 : decode b_Mod_five 21 = .ok (.iload_n 1, 1) := by decide +kernel
theorem d_Mod_five_22 : decode b_Mod_five 22 = .ok (.ifCond .ne 7, 3) := by decide +kernel
theorem d_Mod_five_25 : decode b_Mod_five 25 = .ok (.iload_n 2, 1) := by decide +kernel
theorem d_Mod_five_26 : decode b_Mod_five 26 = .ok (.goto 38, 3) := by decide +kernel
theorem d_Mod_five_29 : decode b_Mod_five 29 = .ok (.iload_n 1, 1) := by decide +kernel
theorem d_Mod_five_30 : decode b_Mod_five 30 = .ok (.iconst 1, 1) := by decide +kernel
theorem d_Mod_five_31 : decode b_Mod_five 31 = .ok (.if_icmp .ne 8, 3) := by decide +kernel
theorem d_Mod_five_34 : decode b_Mod_five 34 = .ok (.iload 7, 2) := by decide +kernel
theorem d_Mod_five_36 : decode b_Mod_five 36 = .ok (.goto 28, 3) := by decide +kernel
theorem d_Mod_five_39 : decode b_Mod_five 39 = .ok (.iload_n 1, 1) := by decide +kernel
theorem d_Mod_five_40 : decode b_Mod_five 40 = .ok (.iconst 2, 1) := by decide +kernel
theorem d_Mod_five_41 : decode b_Mod_five 41 = .ok (.if_icmp .ne 11, 3) := by decide +kernel
theorem d_Mod_five_44 : decode b_Mod_five 44 = .ok (.iload 4, 2) := by decide +kernel
theorem d_Mod_five_46 : decode b_Mod_five 46 = .ok (.iload 8, 2) := by decide +kernel
theorem d_Mod_five_48 : decode b_Mod_five 48 = .ok (.iadd, 1) := by decide +kernel
theorem d_Mod_five_49 : decode b_Mod_five 49 = .ok (.goto 15, 3) := by decide +kernel
theorem d_Mod_five_52 : decode b_Mod_five 52 = .ok (.iload_n 1, 1) := by decide +kernel
theorem d_Mod_five_53 : decode b_Mod_five 53 = .ok (.iconst 3, 1) := by decide +kernel
theorem d_Mod_five_54 : decode b_Mod_five 54 = .ok (.if_icmp .ne 8, 3) := by decide +kernel
theorem d_Mod_five_57 : decode b_Mod_five 57 = .ok (.iload 5, 2) := by decide +kernel
theorem d_Mod_five_59 : decode b_Mod_five 59 = .ok (.goto 5, 3) := by decide +kernel
theorem d_Mod_five_62 : decode b_Mod_five 62 = .ok (.iload 6, 2) := by decide +kernel
theorem d_Mod_five_64 : decode b_Mod_five 64 = .ok (.ireturn, 1) := by decide +kernel
