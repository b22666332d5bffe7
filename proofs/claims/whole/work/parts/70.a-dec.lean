theorem d_Mod_load_0 : decode b_Mod_load 0 = .ok (.iconst 0, 1) := by decide +kernel
theorem d_Mod_load_1 : decode b_Mod_load 1 = .ok (.istore_n 3, 1) := by decide +kernel
theorem d_Mod_load_2 : decode b_Mod_load 2 = .ok (.iconst 0, 1) := by decide +kernel
theorem d_Mod_load_3 : decode b_Mod_load 3 = .ok (.istore 4, 2) := by decide +kernel
theorem d_Mod_load_5 : decode b_Mod_load 5 = .ok (.iload 4, 2) := by decide +kernel
theorem d_Mod_load_7 : decode b_Mod_load 7 = .ok (.bipush 8, 2) := by decide +kernel
theorem d_Mod_load_9 : decode b_Mod_load 9 = .ok (.if_icmp .ge 40, 3) := by decide +kernel
theorem d_Mod_load_12 : decode b_Mod_load 12 = .ok (.aload_n 0, 1) := by decide +kernel
theorem d_Mod_load_13 : decode b_Mod_load 13 = .ok (.iload_n 1, 1) := by decide +kernel
theorem d_Mod_load_14 : decode b_Mod_load 14 = .ok (.invokevirtual 186, 3) := by decide +kernel
theorem d_Mod_load_17 : decode b_Mod_load 17 = .ok (.ifCond .eq 32, 3) := by decide +kernel
theorem d_Mod_load_20 : decode b_Mod_load 20 = .ok (.aload_n 0, 1) := by decide +kernel
theorem d_Mod_load_21 : decode b_Mod_load 21 = .ok (.getfield 45, 3) := by decide +kernel
theorem d_Mod_load_24 : decode b_Mod_load 24 = .ok (.bipush 8, 2) := by decide +kernel
theorem d_Mod_load_26 : decode b_Mod_load 26 = .ok (.iload_n 1, 1) := by decide +kernel
theorem d_Mod_load_27 : decode b_Mod_load 27 = .ok (.imul, 1) := by decide +kernel
theorem d_Mod_load_28 : decode b_Mod_load 28 = .ok (.iload 4, 2) := by decide +kernel
theorem d_Mod_load_30 : decode b_Mod_load 30 = .ok (.iadd, 1) := by decide +kernel
theorem d_Mod_load_31 : decode b_Mod_load 31 = .ok (.iaload, 1) := by decide +kernel
theorem d_Mod_load_32 : decode b_Mod_load 32 = .ok (.ifCond .le 9, 3) := by decide +kernel
theorem d_Mod_load_35 : decode b_Mod_load 35 = .ok (.iload_n 3, 1) := by decide +kernel
theorem d_Mod_load_36 : decode b_Mod_load 36 = .ok (.iconst 1, 1) := by decide +kernel
theorem d_Mod_load_37 : decode b_Mod_load 37 = .ok (.iadd, 1) := by decide +kernel
theorem d_Mod_load_38 : decode b_Mod_load 38 = .ok (.goto 4, 3) := by decide +kernel
theorem d_Mod_load_41 : decode b_Mod_load 41 = .ok (.iload_n 3, 1) := by decide +kernel
theorem d_Mod_load_42 : decode b_Mod_load 42 = .ok (.istore_n 3, 1) := by decide +kernel
theorem d_Mod_load_43 : decode b_Mod_load 43 = .ok (.iinc 4 1, 3) := by decide +kernel
theorem d_Mod_load_46 : decode b_Mod_load 46 = .ok (.goto (-41), 3) := by decide +kernel
theorem d_Mod_load_49 : decode b_Mod_load 49 = .ok (.iconst 0, 1) := by decide +kernel
theorem d_Mod_load_50 : decode b_Mod_load 50 = .ok (.istore 4, 2) := by decide +kernel
theorem d_Mod_load_52 : decode b_Mod_load 52 = .ok (.iload 4, 2) := by decide +kernel
theorem d_Mod_load_54 : decode b_Mod_load 54 = .ok (.bipush 10, 2) := by decide +kernel
theorem d_Mod_load_56 : decode b_Mod_load 56 = .ok (.if_icmp .ge 41, 3) := by decide +kernel
theorem d_Mod_load_59 : decode b_Mod_load 59 = .ok (.aload_n 0, 1) := by decide +kernel
theorem d_Mod_load_60 : decode b_Mod_load 60 = .ok (.iload_n 2, 1) := by decide +kernel
theorem d_Mod_load_61 : decode b_Mod_load 61 = .ok (.invokevirtual 192, 3) := by decide +kernel
theorem d_Mod_load_64 : decode b_Mod_load 64 = .ok (.ifCond .eq 33, 3) := by decide +kernel
theorem d_Mod_load_67 : decode b_Mod_load 67 = .ok (.aload_n 0, 1) := by decide +kernel
theorem d_Mod_load_68 : decode b_Mod_load 68 = .ok (.getfield 66, 3) := by decide +kernel
theorem d_Mod_load_71 : decode b_Mod_load 71 = .ok (.bipush 10, 2) := by decide +kernel
theorem d_Mod_load_73 : decode b_Mod_load 73 = .ok (.iload_n 2, 1) := by decide +kernel
theorem d_Mod_load_74 : decode b_Mod_load 74 = .ok (.imul, 1) := by decide +kernel
theorem d_Mod_load_75 : decode b_Mod_load 75 = .ok (.iload 4, 2) := by decide +kernel
theorem d_Mod_load_77 : decode b_Mod_load 77 = .ok (.iadd, 1) := by decide +kernel
theorem d_Mod_load_78 : decode b_Mod_load 78 = .ok (.baload, 1) := by decide +kernel
theorem d_Mod_load_79 : decode b_Mod_load 79 = .ok (.ifCond .eq 10, 3) := by decide +kernel
theorem d_Mod_load_82 : decode b_Mod_load 82 = .ok (.iload_n 3, 1) := by decide +kernel
theorem d_Mod_load_83 : decode b_Mod_load 83 = .ok (.bipush 100, 2) := by decide +kernel
theorem d_Mod_load_85 : decode b_Mod_load 85 = .ok (.iadd, 1) := by decide +kernel
theorem d_Mod_load_86 : decode b_Mod_load 86 = .ok (.goto 4, 3) := by decide +kernel
theorem d_Mod_load_89 : decode b_Mod_load 89 = .ok (.iload_n 3, 1) := by decide +kernel
theorem d_Mod_load_90 : decode b_Mod_load 90 = .ok (.istore_n 3, 1) := by decide +kernel
theorem d_Mod_load_91 : decode b_Mod_load 91 = .ok (.iinc 4 1, 3) := by decide +kernel
theorem d_Mod_load_94 : decode b_Mod_load 94 = .ok (.goto (-42), 3) := by decide +kernel
theorem d_Mod_load_97 : decode b_Mod_load 97 = .ok (.iload_n 3, 1) := by decide +kernel
theorem d_Mod_load_98 : decode b_Mod_load 98 = .ok (.ireturn, 1) := by decide +kernel
theorem d_Mod_wire_0 : decode b_Mod_wire 0 = .ok (.aload_n 0, 1) := by decide +kernel
theorem d_Mod_wire_1 : decode b_Mod_wire 1 = .ok (.getfield 84, 3) := by decide +kernel
theorem d_Mod_wire_4 : decode b_Mod_wire 4 = .ok (.ifCond .lt 13, 3) := by decide +kernel
theorem d_Mod_wire_7 : decode b_Mod_wire 7 = .ok (.iload_n 1, 1) := by decide +kernel
theorem d_Mod_wire_8 : decode b_Mod_wire 8 = .ok (.ifCond .lt 9, 3) := by decide +kernel
theorem d_Mod_wire_11 : decode b_Mod_wire 11 = .ok (.iload_n 1, 1) := by decide +kernel
theorem d_Mod_wire_12 : decode b_Mod_wire 12 = .ok (.bipush 15, 2) := by decide +kernel
theorem d_Mod_wire_14 : decode b_Mod_wire 14 = .ok (.if_icmp .le 5, 3) := by decide +kernel
theorem d_Mod_wire_17 : decode b_Mod_wire 17 = .ok (.iconst 0, 1) := by decide +kernel
theorem d_Mod_wire_18 : decode b_Mod_wire 18 = .ok (.ireturn, 1) := by decide +kernel
theorem d_Mod_wire_19 : decode b_Mod_wire 19 = .ok (.iload_n 1, 1) := by decide +kernel
theorem d_Mod_wire_20 : decode b_Mod_wire 20 = .ok (.iconst 5, 1) := by decide +kernel
theorem d_Mod_wire_21 : decode b_Mod_wire 21 = .ok (.if_icmp .ne 7, 3) := by decide +kernel
theorem d_Mod_wire_24 : decode b_Mod_wire 24 = .ok (.sipush 2048, 3) := by decide +kernel
theorem d_Mod_wire_27 : decode b_Mod_wire 27 = .ok (.ireturn, 1) := by decide +kernel
theorem d_Mod_wire_28 : decode b_Mod_wire 28 = .ok (.iload_n 1, 1) := by decide +kernel
theorem d_Mod_wire_29 : decode b_Mod_wire 29 = .ok (.iconst 5, 1) := by decide +kernel
theorem d_Mod_wire_30 : decode b_Mod_wire 30 = .ok (.if_icmp .le 19, 3) := by decide +kernel
theorem d_Mod_wire_33 : decode b_Mod_wire 33 = .ok (.iload_n 1, 1) := by decide +kernel
theorem d_Mod_wire_34 : decode b_Mod_wire 34 = .ok (.bipush 11, 2) := by decide +kernel
theorem d_Mod_wire_36 : decode b_Mod_wire 36 = .ok (.if_icmp .ge 13, 3) := by decide +kernel
theorem d_Mod_wire_39 : decode b_Mod_wire 39 = .ok (.aload_n 0, 1) := by decide +kernel
theorem d_Mod_wire_40 : decode b_Mod_wire 40 = .ok (.getfield 94, 3) := by decide +kernel
theorem d_Mod_wire_43 : decode b_Mod_wire 43 = .ok (.iload_n 1, 1) := by decide +kernel
theorem d_Mod_wire_44 : decode b_Mod_wire 44 = .ok (.bipush 6, 2) := by decide +kernel
theorem d_Mod_wire_46 : decode b_Mod_wire 46 = .ok (.isub, 1) := by decide +kernel
theorem d_Mod_wire_47 : decode b_Mod_wire 47 = .ok (.iaload, 1) := by decide +kernel
theorem d_Mod_wire_48 : decode b_Mod_wire 48 = .ok (.ireturn, 1) := by decide +kernel
theorem d_Mod_wire_49 : decode b_Mod_wire 49 = .ok (.iload_n 1, 1) := by decide +kernel
theorem d_Mod_wire_50 : decode b_Mod_wire 50 = .ok (.bipush 10, 2) := by decide +kernel
theorem d_Mod_wire_52 : decode b_Mod_wire 52 = .ok (.if_icmp .le 39, 3) := by decide +kernel
theorem d_Mod_wire_55 : decode b_Mod_wire 55 = .ok (.aload_n 0, 1) := by decide +kernel
theorem d_Mod_wire_56 : decode b_Mod_wire 56 = .ok (.getfield 88, 3) := by decide +kernel
theorem d_Mod_wire_59 : decode b_Mod_wire 59 = .ok (.ifCond .ne 7, 3) := by decide +kernel
theorem d_Mod_wire_62 : decode b_Mod_wire 62 = .ok (.iconst 0, 1) := by decide +kernel
theorem d_Mod_wire_63 : decode b_Mod_wire 63 = .ok (.goto 27, 3) := by decide +kernel
theorem d_Mod_wire_66 : decode b_Mod_wire 66 = .ok (.aload_n 0, 1) := by decide +kernel
theorem d_Mod_wire_67 : decode b_Mod_wire 67 = .ok (.iload_n 1, 1) := by decide +kernel
theorem d_Mod_wire_68 : decode b_Mod_wire 68 = .ok (.bipush 11, 2) := by decide +kernel
theorem d_Mod_wire_70 : decode b_Mod_wire 70 = .ok (.isub, 1) := by decide +kernel
theorem d_Mod_wire_71 : decode b_Mod_wire 71 = .ok (.ldc 246, 2) := by decide +kernel
theorem d_Mod_wire_73 : decode b_Mod_wire 73 = .ok (.aload_n 0, 1) := by decide +kernel
theorem d_Mod_wire_74 : decode b_Mod_wire 74 = .ok (.getfield 230, 3) := by decide +kernel
theorem d_Mod_wire_77 : decode b_Mod_wire 77 = .ok (.ldc 247, 2) := by decide +kernel
theorem d_Mod_wire_79 : decode b_Mod_wire 79 = .ok (.ldc 147, 2) := by decide +kernel
theorem d_Mod_wire_81 : decode b_Mod_wire 81 = .ok (.aload_n 0, 1) := by decide +kernel
theorem d_Mod_wire_82 : decode b_Mod_wire 82 = .ok (.getfield 94, 3) := by decide +kernel
theorem d_Mod_wire_85 : decode b_Mod_wire 85 = .ok (.iconst 3, 1) := by decide +kernel
theorem d_Mod_wire_86 : decode b_Mod_wire 86 = .ok (.iaload, 1) := by decide +kernel
theorem d_Mod_wire_87 : decode b_Mod_wire 87 = .ok (.invokevirtual 248, 3) := by decide +kernel
theorem d_Mod_wire_90 : decode b_Mod_wire 90 = .ok (.ireturn, 1) := by decide +kernel
theorem d_Mod_wire_91 : decode b_Mod_wire 91 = .ok (.ldc 252, 2) := by decide +kernel
theorem d_Mod_wire_93 : decode b_Mod_wire 93 = .ok (.aload_n 0, 1) := by decide +kernel
theorem d_Mod_wire_94 : decode b_Mod_wire 94 = .ok (.getfield 94, 3) := by decide +kernel
theorem d_Mod_wire_97 : decode b_Mod_wire 97 = .ok (.iconst 0, 1) := by decide +kernel
theorem d_Mod_wire_98 : decode b_Mod_wire 98 = .ok (.iaload, 1) := by decide +kernel
theorem d_Mod_wire_99 : decode b_Mod_wire 99 = .ok (.ldc 138, 2) := by decide +kernel
theorem d_Mod_wire_101 : decode b_Mod_wire 101 = .ok (.iand, 1) := by decide +kernel
theorem d_Mod_wire_102 : decode b_Mod_wire 102 = .ok (.iadd, 1) := by decide +kernel
theorem d_Mod_wire_103 : decode b_Mod_wire 103 = .ok (.istore_n 2, 1) := by decide +kernel
theorem d_Mod_wire_104 : decode b_Mod_wire 104 = .ok (.aload_n 0, 1) := by decide +kernel
theorem d_Mod_wire_105 : decode b_Mod_wire 105 = .ok (.iload_n 1, 1) := by decide +kernel
theorem d_Mod_wire_106 : decode b_Mod_wire 106 = .ok (.iload_n 2, 1) := by decide +kernel
theorem d_Mod_wire_107 : decode b_Mod_wire 107 = .ok (.aload_n 0, 1) := by decide +kernel
theorem d_Mod_wire_108 : decode b_Mod_wire 108 = .ok (.getfield 223, 3) := by decide +kernel
theorem d_Mod_wire_111 : decode b_Mod_wire 111 = .ok (.ldc 253, 2) := by decide +kernel
theorem d_Mod_wire_113 : decode b_Mod_wire 113 = .ok (.ldc 254, 2) := by decide +kernel
theorem d_Mod_wire_115 : decode b_Mod_wire 115 = .ok (.aload_n 0, 1) := by decide +kernel
theorem d_Mod_wire_116 : decode b_Mod_wire 116 = .ok (.getfield 84, 3) := by decide +kernel
theorem d_Mod_wire_119 : decode b_Mod_wire 119 = .ok (.iadd, 1) := by decide +kernel
theorem d_Mod_wire_120 : decode b_Mod_wire 120 = .ok (.ldc 255, 2) := by decide +kernel
theorem d_Mod_wire_122 : decode b_Mod_wire 122 = .ok (.aload_n 0, 1) := by decide +kernel
theorem d_Mod_wire_123 : decode b_Mod_wire 123 = .ok (.getfield 220, 3) := by decide +kernel
theorem d_Mod_wire_126 : decode b_Mod_wire 126 = .ok (.iadd, 1) := by decide +kernel
theorem d_Mod_wire_127 : decode b_Mod_wire 127 = .ok (.invokevirtual 248, 3) := by decide +kernel
theorem d_Mod_wire_130 : decode b_Mod_wire 130 = .ok (.ireturn, 1) := by decide +kernel
theorem d_Mod_route_0 : decode b_Mod_route 0 = .ok (.lconst 0, 1) := by decide +kernel
theorem d_Mod_route_1 : decode b_Mod_route 1 = .ok (.lstore_n 3, 1) := by decide +kernel
theorem d_Mod_route_2 : decode b_Mod_route 2 = .ok (.iconst 0, 1) := by decide +kernel
theorem d_Mod_route_3 : decode b_Mod_route 3 = .ok (.istore 5, 2) := by decide +kernel
theorem d_Mod_route_5 : decode b_Mod_route 5 = .ok (.iload 5, 2) := by decide +kernel
theorem d_Mod_route_7 : decode b_Mod_route 7 = .ok (.aload_n 0, 1) := by decide +kernel
theorem d_Mod_route_8 : decode b_Mod_route 8 = .ok (.getfield 101, 3) := by decide +kernel
theorem d_Mod_route_11 : decode b_Mod_route 11 = .ok (.if_icmp .ge 27, 3) := by decide +kernel
theorem d_Mod_route_14 : decode b_Mod_route 14 = .ok (.aload_n 0, 1) := by decide +kernel
theorem d_Mod_route_15 : decode b_Mod_route 15 = .ok (.getfield 26, 3) := by decide +kernel
theorem d_Mod_route_18 : decode b_Mod_route 18 = .ok (.iload 5, 2) := by decide +kernel
theorem d_Mod_route_20 : decode b_Mod_route 20 = .ok (.baload, 1) := by decide +kernel
theorem d_Mod_route_21 : decode b_Mod_route 21 = .ok (.ifCond .eq 9, 3) := by decide +kernel
theorem d_Mod_route_24 : decode b_Mod_route 24 = .ok (.lload_n 3, 1) := by decide +kernel
theorem d_Mod_route_25 : decode b_Mod_route 25 = .ok (.lconst 1, 1) := by decide +kernel
theorem d_Mod_route_26 : decode b_Mod_route 26 = .ok (.ladd, 1) := by decide +kernel
theorem d_Mod_route_27 : decode b_Mod_route 27 = .ok (.goto 4, 3) := by decide +kernel
theorem d_Mod_route_30 : decode b_Mod_route 30 = .ok (.lload_n 3, 1) := by decide +kernel
theorem d_Mod_route_31 : decode b_Mod_route 31 = .ok (.lstore_n 3, 1) := by decide +kernel
theorem d_Mod_route_32 : decode b_Mod_route 32 = .ok (.iinc 5 1, 3) := by decide +kernel
theorem d_Mod_route_35 : decode b_Mod_route 35 = .ok (.goto (-30), 3) := by decide +kernel
theorem d_Mod_route_38 : decode b_Mod_route 38 = .ok (.lload_n 1, 1) := by decide +kernel
theorem d_Mod_route_39 : decode b_Mod_route 39 = .ok (.invokestatic 128, 3) := by decide +kernel
theorem d_Mod_route_42 : decode b_Mod_route 42 = .ok (.lload_n 3, 1) := by decide +kernel
theorem d_Mod_route_43 : decode b_Mod_route 43 = .ok (.lmul, 1) := by decide +kernel
theorem d_Mod_route_44 : decode b_Mod_route 44 = .ok (.ldc2_w 136, 3) := by decide +kernel
theorem d_Mod_route_47 : decode b_Mod_route 47 = .ok (.ldiv, 1) := by decide +kernel
theorem d_Mod_route_48 : decode b_Mod_route 48 = .ok (.lstore 5, 2) := by decide +kernel
theorem d_Mod_route_50 : decode b_Mod_route 50 = .ok (.iconst 0, 1) := by decide +kernel
theorem d_Mod_route_51 : decode b_Mod_route 51 = .ok (.istore 7, 2) := by decide +kernel
theorem d_Mod_route_53 : decode b_Mod_route 53 = .ok (.iload 7, 2) := by decide +kernel
theorem d_Mod_route_55 : decode b_Mod_route 55 = .ok (.aload_n 0, 1) := by decide +kernel
theorem d_Mod_route_56 : decode b_Mod_route 56 = .ok (.getfield 101, 3) := by decide +kernel
theorem d_Mod_route_59 : decode b_Mod_route 59 = .ok (.if_icmp .ge 50, 3) := by decide +kernel
theorem d_Mod_route_62 : decode b_Mod_route 62 = .ok (.aload_n 0, 1) := by decide +kernel
theorem d_Mod_route_63 : decode b_Mod_route 63 = .ok (.getfield 26, 3) := by decide +kernel
theorem d_Mod_route_66 : decode b_Mod_route 66 = .ok (.iload 7, 2) := by decide +kernel
theorem d_Mod_route_68 : decode b_Mod_route 68 = .ok (.baload, 1) := by decide +kernel
theorem d_Mod_route_69 : decode b_Mod_route 69 = .ok (.ifCond .eq 13, 3) := by decide +kernel
theorem d_Mod_route_72 : decode b_Mod_route 72 = .ok (.lload 5, 2) := by decide +kernel
theorem d_Mod_route_74 : decode b_Mod_route 74 = .ok (.lconst 0, 1) := by decide +kernel
theorem d_Mod_route_75 : decode b_Mod_route 75 = .ok (.lcmp, 1) := by decide +kernel
theorem d_Mod_route_76 : decode b_Mod_route 76 = .ok (.ifCond .ne 6, 3) := by decide +kernel
theorem d_Mod_route_79 : decode b_Mod_route 79 = .ok (.iload 7, 2) := by decide +kernel
theorem d_Mod_route_81 : decode b_Mod_route 81 = .ok (.ireturn, 1) := by decide +kernel
theorem d_Mod_route_82 : decode b_Mod_route 82 = .ok (.aload_n 0, 1) := by decide +kernel
theorem d_Mod_route_83 : decode b_Mod_route 83 = .ok (.getfield 26, 3) := by decide +kernel
theorem d_Mod_route_86 : decode b_Mod_route 86 = .ok (.iload 7, 2) := by decide +kernel
theorem d_Mod_route_88 : decode b_Mod_route 88 = .ok (.baload, 1) := by decide +kernel
theorem d_Mod_route_89 : decode b_Mod_route 89 = .ok (.ifCond .eq 10, 3) := by decide +kernel
theorem d_Mod_route_92 : decode b_Mod_route 92 = .ok (.lload 5, 2) := by decide +kernel
theorem d_Mod_route_94 : decode b_Mod_route 94 = .ok (.lconst 1, 1) := by decide +kernel
theorem d_Mod_route_95 : decode b_Mod_route 95 = .ok (.lsub, 1) := by decide +kernel
theorem d_Mod_route_96 : decode b_Mod_route 96 = .ok (.goto 5, 3) := by decide +kernel
theorem d_Mod_route_99 : decode b_Mod_route 99 = .ok (.lload 5, 2) := by decide +kernel
theorem d_Mod_route_101 : decode b_Mod_route 101 = .ok (.lstore 5, 2) := by decide +kernel
theorem d_Mod_route_103 : decode b_Mod_route 103 = .ok (.iinc 7 1, 3) := by decide +kernel
theorem d_Mod_route_106 : decode b_Mod_route 106 = .ok (.goto (-53), 3) := by decide +kernel
theorem d_Mod_route_109 : decode b_Mod_route 109 = .ok (.iconst (-1), 1) := by decide +kernel
theorem d_Mod_route_110 : decode b_Mod_route 110 = .ok (.ireturn, 1) := by decide +kernel
theorem d_Mod_note_0 : decode b_Mod_note 0 = .ok (.iload 5, 2) := by decide +kernel
theorem d_Mod_note_2 : decode b_Mod_note 2 = .ok (.iconst 2, 1) := by decide +kernel
theorem d_Mod_note_3 : decode b_Mod_note 3 = .ok (.if_icmp .ne 15, 3) := by decide +kernel
theorem d_Mod_note_6 : decode b_Mod_note 6 = .ok (.iload_n 3, 1) := by decide +kernel
theorem d_Mod_note_7 : decode b_Mod_note 7 = .ok (.ifCond .ge 11, 3) := by decide +kernel
theorem d_Mod_note_10 : decode b_Mod_note 10 = .ok (.aload_n 0, 1) := by decide +kernel
theorem d_Mod_note_11 : decode b_Mod_note 11 = .ok (.iload_n 1, 1) := by decide +kernel
theorem d_Mod_note_12 : decode b_Mod_note 12 = .ok (.invokevirtual 233, 3) := by decide +kernel
theorem d_Mod_note_15 : decode b_Mod_note 15 = .ok (.goto 4, 3) := by decide +kernel
theorem d_Mod_note_18 : decode b_Mod_note 18 = .ok (.iload_n 3, 1) := by decide +kernel
theorem d_Mod_note_19 : decode b_Mod_note 19 = .ok (.istore 6, 2) := by decide +kernel
theorem d_Mod_note_21 : decode b_Mod_note 21 = .ok (.iload 6, 2) := by decide +kernel
theorem d_Mod_note_23 : decode b_Mod_note 23 = .ok (.ifCond .ge 4, 3) := by decide +kernel
theorem d_Mod_note_26 : decode b_Mod_note 26 = .ok (.return_, 1) := by decide +kernel
theorem d_Mod_note_27 : decode b_Mod_note 27 = .ok (.aload_n 0, 1) := by decide +kernel
theorem d_Mod_note_28 : decode b_Mod_note 28 = .ok (.getfield 54, 3) := by decide +kernel
theorem d_Mod_note_31 : decode b_Mod_note 31 = .ok (.iload 6, 2) := by decide +kernel
theorem d_Mod_note_33 : decode b_Mod_note 33 = .ok (.aload_n 0, 1) := by decide +kernel
theorem d_Mod_note_34 : decode b_Mod_note 34 = .ok (.getfield 81, 3) := by decide +kernel
theorem d_Mod_note_37 : decode b_Mod_note 37 = .ok (.iconst 3, 1) := by decide +kernel
theorem d_Mod_note_38 : decode b_Mod_note 38 = .ok (.iaload, 1) := by decide +kernel
theorem d_Mod_note_39 : decode b_Mod_note 39 = .ok (.iastore, 1) := by decide +kernel
theorem d_Mod_note_40 : decode b_Mod_note 40 = .ok (.aload_n 0, 1) := by decide +kernel
theorem d_Mod_note_41 : decode b_Mod_note 41 = .ok (.getfield 57, 3) := by decide +kernel
theorem d_Mod_note_44 : decode b_Mod_note 44 = .ok (.iload 6, 2) := by decide +kernel
theorem d_Mod_note_46 : decode b_Mod_note 46 = .ok (.iload 4, 2) := by decide +kernel
theorem d_Mod_note_48 : decode b_Mod_note 48 = .ok (.iastore, 1) := by decide +kernel
theorem d_Mod_note_49 : decode b_Mod_note 49 = .ok (.aload_n 0, 1) := by decide +kernel
theorem d_Mod_note_50 : decode b_Mod_note 50 = .ok (.getfield 51, 3) := by decide +kernel
theorem d_Mod_note_53 : decode b_Mod_note 53 = .ok (.iload 6, 2) := by decide +kernel
theorem d_Mod_note_55 : decode b_Mod_note 55 = .ok (.iload_n 2, 1) := by decide +kernel
theorem d_Mod_note_56 : decode b_Mod_note 56 = .ok (.iastore, 1) := by decide +kernel
theorem d_Mod_note_57 : decode b_Mod_note 57 = .ok (.aload_n 0, 1) := by decide +kernel
theorem d_Mod_note_58 : decode b_Mod_note 58 = .ok (.getfield 48, 3) := by decide +kernel
theorem d_Mod_note_61 : decode b_Mod_note 61 = .ok (.iload 6, 2) := by decide +kernel
theorem d_Mod_note_63 : decode b_Mod_note 63 = .ok (.aload_n 0, 1) := by decide +kernel
theorem d_Mod_note_64 : decode b_Mod_note 64 = .ok (.getfield 202, 3) := by decide +kernel
theorem d_Mod_note_67 : decode b_Mod_note 67 = .ok (.iastore, 1) := by decide +kernel
theorem d_Mod_note_68 : decode b_Mod_note 68 = .ok (.aload_n 0, 1) := by decide +kernel
theorem d_Mod_note_69 : decode b_Mod_note 69 = .ok (.getfield 45, 3) := by decide +kernel
theorem d_Mod_note_72 : decode b_Mod_note 72 = .ok (.iload 6, 2) := by decide +kernel
theorem d_Mod_note_74 : decode b_Mod_note 74 = .ok (.iload 5, 2) := by decide +kernel
theorem d_Mod_note_76 : decode b_Mod_note 76 = .ok (.iconst 2, 1) := by decide +kernel
theorem d_Mod_note_77 : decode b_Mod_note 77 = .ok (.if_icmp .ne 7, 3) := by decide +kernel
theorem d_Mod_note_80 : decode b_Mod_note 80 = .ok (.iconst 4, 1) := by decide +kernel
theorem d_Mod_note_81 : decode b_Mod_note 81 = .ok (.goto 27, 3) := by decide +kernel
theorem d_Mod_note_84 : decode b_Mod_note 84 = .ok (.iload 5, 2) := by decide +kernel
theorem d_Mod_note_86 : decode b_Mod_note 86 = .ok (.bipush 16, 2) := by decide +kernel
theorem d_Mod_note_88 : decode b_Mod_note 88 = .ok (.if_icmp .ne 8, 3) := by decide +kernel
theorem d_Mod_note_91 : decode b_Mod_note 91 = .ok (.bipush 16, 2) := by decide +kernel
theorem d_Mod_note_93 : decode b_Mod_note 93 = .ok (.goto 15, 3) := by decide +kernel
theorem d_Mod_note_96 : decode b_Mod_note 96 = .ok (.iload 5, 2) := by decide +kernel
theorem d_Mod_note_98 : decode b_Mod_note 98 = .ok (.bipush 17, 2) := by decide +kernel
theorem d_Mod_note_100 : decode b_Mod_note 100 = .ok (.if_icmp .ne 7, 3) := by decide +kernel
theorem d_Mod_note_103 : decode b_Mod_note 103 = .ok (.iconst 2, 1) := by decide +kernel
theorem d_Mod_note_104 : decode b_Mod_note 104 = .ok (.goto 4, 3) := by decide +kernel
theorem d_Mod_note_107 : decode b_Mod_note 107 = .ok (.iconst 0, 1) := by decide +kernel
theorem d_Mod_note_108 : decode b_Mod_note 108 = .ok (.iastore, 1) := by decide +kernel
theorem d_Mod_note_109 : decode b_Mod_note 109 = .ok (.return_, 1) := by decide +kernel
theorem d_Mod_greet_0 : decode b_Mod_greet 0 = .ok (.iload_n 1, 1) := by decide +kernel
theorem d_Mod_greet_1 : decode b_Mod_greet 1 = .ok (.ifCond .ge 5, 3) := by decide +kernel
theorem d_Mod_greet_4 : decode b_Mod_greet 4 = .ok (.iconst 4, 1) := by decide +kernel
theorem d_Mod_greet_5 : decode b_Mod_greet 5 = .ok (.ireturn, 1) := by decide +kernel
theorem d_Mod_greet_6 : decode b_Mod_greet 6 = .ok (.aload_n 0, 1) := by decide +kernel
theorem d_Mod_greet_7 : decode b_Mod_greet 7 = .ok (.getfield 66, 3) := by decide +kernel
theorem d_Mod_greet_10 : decode b_Mod_greet 10 = .ok (.iload_n 1, 1) := by decide +kernel
theorem d_Mod_greet_11 : decode b_Mod_greet 11 = .ok (.iconst 1, 1) := by decide +kernel
theorem d_Mod_greet_12 : decode b_Mod_greet 12 = .ok (.bastore, 1) := by decide +kernel
theorem d_Mod_greet_13 : decode b_Mod_greet 13 = .ok (.aload_n 0, 1) := by decide +kernel
theorem d_Mod_greet_14 : decode b_Mod_greet 14 = .ok (.getfield 69, 3) := by decide +kernel
theorem d_Mod_greet_17 : decode b_Mod_greet 17 = .ok (.iload_n 1, 1) := by decide +kernel
theorem d_Mod_greet_18 : decode b_Mod_greet 18 = .ok (.aload_n 0, 1) := by decide +kernel
theorem d_Mod_greet_19 : decode b_Mod_greet 19 = .ok (.getfield 81, 3) := by decide +kernel
theorem d_Mod_greet_22 : decode b_Mod_greet 22 = .ok (.iconst 3, 1) := by decide +kernel
theorem d_Mod_greet_23 : decode b_Mod_greet 23 = .ok (.iaload, 1) := by decide +kernel
theorem d_Mod_greet_24 : decode b_Mod_greet 24 = .ok (.iastore, 1) := by decide +kernel
theorem d_Mod_greet_25 : decode b_Mod_greet 25 = .ok (.aload_n 0, 1) := by decide +kernel
theorem d_Mod_greet_26 : decode b_Mod_greet 26 = .ok (.getfield 72, 3) := by decide +kernel
theorem d_Mod_greet_29 : decode b_Mod_greet 29 = .ok (.iload_n 1, 1) := by decide +kernel
theorem d_Mod_greet_30 : decode b_Mod_greet 30 = .ok (.iload_n 2, 1) := by decide +kernel
theorem d_Mod_greet_31 : decode b_Mod_greet 31 = .ok (.iastore, 1) := by decide +kernel
theorem d_Mod_greet_32 : decode b_Mod_greet 32 = .ok (.aload_n 0, 1) := by decide +kernel
theorem d_Mod_greet_33 : decode b_Mod_greet 33 = .ok (.getfield 75, 3) := by decide +kernel
theorem d_Mod_greet_36 : decode b_Mod_greet 36 = .ok (.iload_n 1, 1) := by decide +kernel
theorem d_Mod_greet_37 : decode b_Mod_greet 37 = .ok (.iload_n 3, 1) := by decide +kernel
theorem d_Mod_greet_38 : decode b_Mod_greet 38 = .ok (.iconst 1, 1) := by decide +kernel
theorem d_Mod_greet_39 : decode b_Mod_greet 39 = .ok (.iadd, 1) := by decide +kernel
theorem d_Mod_greet_40 : decode b_Mod_greet 40 = .ok (.iastore, 1) := by decide +kernel
theorem d_Mod_greet_41 : decode b_Mod_greet 41 = .ok (.aload_n 0, 1) := by decide +kernel
theorem d_Mod_greet_42 : decode b_Mod_greet 42 = .ok (.getfield 78, 3) := by decide +kernel
theorem d_Mod_greet_45 : decode b_Mod_greet 45 = .ok (.iload_n 1, 1) := by decide +kernel
theorem d_Mod_greet_46 : decode b_Mod_greet 46 = .ok (.iconst 0, 1) := by decide +kernel
theorem d_Mod_greet_47 : decode b_Mod_greet 47 = .ok (.iastore, 1) := by decide +kernel
theorem d_Mod_greet_48 : decode b_Mod_greet 48 = .ok (.iconst 1, 1) := by decide +kernel
theorem d_Mod_greet_49 : decode b_Mod_greet 49 = .ok (.ireturn, 1) := by decide +kernel
theorem d_Mod_serve_0 : decode b_Mod_serve 0 = .ok (.aload_n 0, 1) := by decide +kernel
theorem d_Mod_serve_1 : decode b_Mod_serve 1 = .ok (.iload_n 1, 1) := by decide +kernel
theorem d_Mod_serve_2 : decode b_Mod_serve 2 = .ok (.iload_n 2, 1) := by decide +kernel
theorem d_Mod_serve_3 : decode b_Mod_serve 3 = .ok (.invokevirtual 236, 3) := by decide +kernel
theorem d_Mod_serve_6 : decode b_Mod_serve 6 = .ok (.istore 5, 2) := by decide +kernel
theorem d_Mod_serve_8 : decode b_Mod_serve 8 = .ok (.iload 4, 2) := by decide +kernel
theorem d_Mod_serve_10 : decode b_Mod_serve 10 = .ok (.iconst 4, 1) := by decide +kernel
theorem d_Mod_serve_11 : decode b_Mod_serve 11 = .ok (.if_icmp .ne 18, 3) := by decide +kernel
theorem d_Mod_serve_14 : decode b_Mod_serve 14 = .ok (.iload 5, 2) := by decide +kernel
theorem d_Mod_serve_16 : decode b_Mod_serve 16 = .ok (.ifCond .lt 11, 3) := by decide +kernel
theorem d_Mod_serve_19 : decode b_Mod_serve 19 = .ok (.aload_n 0, 1) := by decide +kernel
theorem d_Mod_serve_20 : decode b_Mod_serve 20 = .ok (.getfield 66, 3) := by decide +kernel
theorem d_Mod_serve_23 : decode b_Mod_serve 23 = .ok (.iload 5, 2) := by decide +kernel
theorem d_Mod_serve_25 : decode b_Mod_serve 25 = .ok (.iconst 0, 1) := by decide +kernel
theorem d_Mod_serve_26 : decode b_Mod_serve 26 = .ok (.bastore, 1) := by decide +kernel
theorem d_Mod_serve_27 : decode b_Mod_serve 27 = .ok (.iconst 0, 1) := by decide +kernel
theorem d_Mod_serve_28 : decode b_Mod_serve 28 = .ok (.ireturn, 1) := by decide +kernel
theorem d_Mod_serve_29 : decode b_Mod_serve 29 = .ok (.iload 4, 2) := by decide +kernel
theorem d_Mod_serve_31 : decode b_Mod_serve 31 = .ok (.iconst 2, 1) := by decide +kernel
theorem d_Mod_serve_32 : decode b_Mod_serve 32 = .ok (.if_icmp .ne 25, 3) := by decide +kernel
theorem d_Mod_serve_35 : decode b_Mod_serve 35 = .ok (.aload_n 0, 1) := by decide +kernel
theorem d_Mod_serve_36 : decode b_Mod_serve 36 = .ok (.iload 5, 2) := by decide +kernel
theorem d_Mod_serve_38 : decode b_Mod_serve 38 = .ok (.ifCond .ge 11, 3) := by decide +kernel
theorem d_Mod_serve_41 : decode b_Mod_serve 41 = .ok (.aload_n 0, 1) := by decide +kernel
theorem d_Mod_serve_42 : decode b_Mod_serve 42 = .ok (.iload_n 1, 1) := by decide +kernel
theorem d_Mod_serve_43 : decode b_Mod_serve 43 = .ok (.invokevirtual 240, 3) := by decide +kernel
theorem d_Mod_serve_46 : decode b_Mod_serve 46 = .ok (.goto 5, 3) := by decide +kernel
theorem d_Mod_serve_49 : decode b_Mod_serve 49 = .ok (.iload 5, 2) := by decide +kernel
theorem d_Mod_serve_51 : decode b_Mod_serve 51 = .ok (.iload_n 2, 1) := by decide +kernel
theorem d_Mod_serve_52 : decode b_Mod_serve 52 = .ok (.iload_n 3, 1) := by decide +kernel
theorem d_Mod_serve_53 : decode b_Mod_serve 53 = .ok (.invokevirtual 243, 3) := by decide +kernel
theorem d_Mod_serve_56 : decode b_Mod_serve 56 = .ok (.ireturn, 1) := by decide +kernel
theorem d_Mod_serve_57 : decode b_Mod_serve 57 = .ok (.iload 5, 2) := by decide +kernel
theorem d_Mod_serve_59 : decode b_Mod_serve 59 = .ok (.ifCond .ge 5, 3) := by decide +kernel
theorem d_Mod_serve_62 : decode b_Mod_serve 62 = .ok (.iconst 4, 1) := by decide +kernel
theorem d_Mod_serve_63 : decode b_Mod_serve 63 = .ok (.ireturn, 1) := by decide +kernel
theorem d_Mod_serve_64 : decode b_Mod_serve 64 = .ok (.aload_n 0, 1) := by decide +kernel
theorem d_Mod_serve_65 : decode b_Mod_serve 65 = .ok (.aload_n 0, 1) := by decide +kernel
theorem d_Mod_serve_66 : decode b_Mod_serve 66 = .ok (.getfield 78, 3) := by decide +kernel
theorem d_Mod_serve_69 : decode b_Mod_serve 69 = .ok (.iload 5, 2) := by decide +kernel
theorem d_Mod_serve_71 : decode b_Mod_serve 71 = .ok (.iaload, 1) := by decide +kernel
theorem d_Mod_serve_72 : decode b_Mod_serve 72 = .ok (.putfield 91, 3) := by decide +kernel
theorem d_Mod_serve_75 : decode b_Mod_serve 75 = .ok (.aload_n 0, 1) := by decide +kernel
theorem d_Mod_serve_76 : decode b_Mod_serve 76 = .ok (.getfield 75, 3) := by decide +kernel
theorem d_Mod_serve_79 : decode b_Mod_serve 79 = .ok (.iload 5, 2) := by decide +kernel
theorem d_Mod_serve_81 : decode b_Mod_serve 81 = .ok (.iaload, 1) := by decide +kernel
theorem d_Mod_serve_82 : decode b_Mod_serve 82 = .ok (.iload_n 3, 1) := by decide +kernel
theorem d_Mod_serve_83 : decode b_Mod_serve 83 = .ok (.if_icmp .eq 5, 3) := by decide +kernel
theorem d_Mod_serve_86 : decode b_Mod_serve 86 = .ok (.iconst 3, 1) := by decide +kernel
theorem d_Mod_serve_87 : decode b_Mod_serve 87 = .ok (.ireturn, 1) := by decide +kernel
theorem d_Mod_serve_88 : decode b_Mod_serve 88 = .ok (.iload 4, 2) := by decide +kernel
theorem d_Mod_serve_90 : decode b_Mod_serve 90 = .ok (.bipush 17, 2) := by decide +kernel
theorem d_Mod_serve_92 : decode b_Mod_serve 92 = .ok (.if_icmp .ne 13, 3) := by decide +kernel
theorem d_Mod_serve_95 : decode b_Mod_serve 95 = .ok (.aload_n 0, 1) := by decide +kernel
theorem d_Mod_serve_96 : decode b_Mod_serve 96 = .ok (.getfield 66, 3) := by decide +kernel
theorem d_Mod_serve_99 : decode b_Mod_serve 99 = .ok (.iload 5, 2) := by decide +kernel
theorem d_Mod_serve_101 : decode b_Mod_serve 101 = .ok (.iconst 0, 1) := by decide +kernel
theorem d_Mod_serve_102 : decode b_Mod_serve 102 = .ok (.bastore, 1) := by decide +kernel
theorem d_Mod_serve_103 : decode b_Mod_serve 103 = .ok (.iconst 5, 1) := by decide +kernel
theorem d_Mod_serve_104 : decode b_Mod_serve 104 = .ok (.ireturn, 1) := by decide +kernel
theorem d_Mod_serve_105 : decode b_Mod_serve 105 = .ok (.aload_n 0, 1) := by decide +kernel
theorem d_Mod_serve_106 : decode b_Mod_serve 106 = .ok (.getfield 75, 3) := by decide +kernel
theorem d_Mod_serve_109 : decode b_Mod_serve 109 = .ok (.iload 5, 2) := by decide +kernel
theorem d_Mod_serve_111 : decode b_Mod_serve 111 = .ok (.aload_n 0, 1) := by decide +kernel
theorem d_Mod_serve_112 : decode b_Mod_serve 112 = .ok (.getfield 75, 3) := by decide +kernel
theorem d_Mod_serve_115 : decode b_Mod_serve 115 = .ok (.iload 5, 2) := by decide +kernel
theorem d_Mod_serve_117 : decode b_Mod_serve 117 = .ok (.iaload, 1) := by decide +kernel
theorem d_Mod_serve_118 : decode b_Mod_serve 118 = .ok (.iconst 1, 1) := by decide +kernel
theorem d_Mod_serve_119 : decode b_Mod_serve 119 = .ok (.iadd, 1) := by decide +kernel
theorem d_Mod_serve_120 : decode b_Mod_serve 120 = .ok (.iastore, 1) := by decide +kernel
theorem d_Mod_serve_121 : decode b_Mod_serve 121 = .ok (.aload_n 0, 1) := by decide +kernel
theorem d_Mod_serve_122 : decode b_Mod_serve 122 = .ok (.getfield 78, 3) := by decide +kernel
theorem d_Mod_serve_125 : decode b_Mod_serve 125 = .ok (.iload 5, 2) := by decide +kernel
theorem d_Mod_serve_127 : decode b_Mod_serve 127 = .ok (.aload_n 0, 1) := by decide +kernel
theorem d_Mod_serve_128 : decode b_Mod_serve 128 = .ok (.getfield 78, 3) := by decide +kernel
theorem d_Mod_serve_131 : decode b_Mod_serve 131 = .ok (.iload 5, 2) := by decide +kernel
theorem d_Mod_serve_133 : decode b_Mod_serve 133 = .ok (.iaload, 1) := by decide +kernel
theorem d_Mod_serve_134 : decode b_Mod_serve 134 = .ok (.iconst 1, 1) := by decide +kernel
theorem d_Mod_serve_135 : decode b_Mod_serve 135 = .ok (.iadd, 1) := by decide +kernel
theorem d_Mod_serve_136 : decode b_Mod_serve 136 = .ok (.iastore, 1) := by decide +kernel
theorem d_Mod_serve_137 : decode b_Mod_serve 137 = .ok (.aload_n 0, 1) := by decide +kernel
theorem d_Mod_serve_138 : decode b_Mod_serve 138 = .ok (.aload_n 0, 1) := by decide +kernel
theorem d_Mod_serve_139 : decode b_Mod_serve 139 = .ok (.getfield 78, 3) := by decide +kernel
theorem d_Mod_serve_142 : decode b_Mod_serve 142 = .ok (.iload 5, 2) := by decide +kernel
theorem d_Mod_serve_144 : decode b_Mod_serve 144 = .ok (.iaload, 1) := by decide +kernel
theorem d_Mod_serve_145 : decode b_Mod_serve 145 = .ok (.putfield 91, 3) := by decide +kernel
theorem d_Mod_serve_148 : decode b_Mod_serve 148 = .ok (.iconst 2, 1) := by decide +kernel
theorem d_Mod_serve_149 : decode b_Mod_serve 149 = .ok (.ireturn, 1) := by decide +kernel
