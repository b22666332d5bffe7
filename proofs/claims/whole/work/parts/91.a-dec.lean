theorem d_PS_route_0 : decode b_PS_route 0 = .ok (.iconst 0, 1) := by decide +kernel
theorem d_PS_route_1 : decode b_PS_route 1 = .ok (.istore_n 3, 1) := by decide +kernel
theorem d_PS_route_2 : decode b_PS_route 2 = .ok (.iconst 0, 1) := by decide +kernel
theorem d_PS_route_3 : decode b_PS_route 3 = .ok (.istore 4, 2) := by decide +kernel
theorem d_PS_route_5 : decode b_PS_route 5 = .ok (.iload 4, 2) := by decide +kernel
theorem d_PS_route_7 : decode b_PS_route 7 = .ok (.aload_n 0, 1) := by decide +kernel
theorem d_PS_route_8 : decode b_PS_route 8 = .ok (.getfield 66, 3) := by decide +kernel
theorem d_PS_route_11 : decode b_PS_route 11 = .ok (.arraylength, 1) := by decide +kernel
theorem d_PS_route_12 : decode b_PS_route 12 = .ok (.if_icmp .ge 25, 3) := by decide +kernel
theorem d_PS_route_15 : decode b_PS_route 15 = .ok (.aload_n 0, 1) := by decide +kernel
theorem d_PS_route_16 : decode b_PS_route 16 = .ok (.getfield 66, 3) := by decide +kernel
theorem d_PS_route_19 : decode b_PS_route 19 = .ok (.iload 4, 2) := by decide +kernel
theorem d_PS_route_21 : decode b_PS_route 21 = .ok (.aaload, 1) := by decide +kernel
theorem d_PS_route_22 : decode b_PS_route 22 = .ok (.getfield 159, 3) := by decide +kernel
theorem d_PS_route_25 : decode b_PS_route 25 = .ok (.ifCond .eq 6, 3) := by decide +kernel
theorem d_PS_route_28 : decode b_PS_route 28 = .ok (.iinc 3 1, 3) := by decide +kernel
theorem d_PS_route_31 : decode b_PS_route 31 = .ok (.iinc 4 1, 3) := by decide +kernel
theorem d_PS_route_34 : decode b_PS_route 34 = .ok (.goto (-29), 3) := by decide +kernel
theorem d_PS_route_37 : decode b_PS_route 37 = .ok (.lload_n 1, 1) := by decide +kernel
theorem d_PS_route_38 : decode b_PS_route 38 = .ok (.bipush 32, 2) := by decide +kernel
theorem d_PS_route_40 : decode b_PS_route 40 = .ok (.lushr, 1) := by decide +kernel
theorem d_PS_route_41 : decode b_PS_route 41 = .ok (.iload_n 3, 1) := by decide +kernel
theorem d_PS_route_42 : decode b_PS_route 42 = .ok (.i2l, 1) := by decide +kernel
theorem d_PS_route_43 : decode b_PS_route 43 = .ok (.lmul, 1) := by decide +kernel
theorem d_PS_route_44 : decode b_PS_route 44 = .ok (.bipush 32, 2) := by decide +kernel
theorem d_PS_route_46 : decode b_PS_route 46 = .ok (.lushr, 1) := by decide +kernel
theorem d_PS_route_47 : decode b_PS_route 47 = .ok (.l2i, 1) := by decide +kernel
theorem d_PS_route_48 : decode b_PS_route 48 = .ok (.istore 4, 2) := by decide +kernel
theorem d_PS_route_50 : decode b_PS_route 50 = .ok (.iconst 0, 1) := by decide +kernel
theorem d_PS_route_51 : decode b_PS_route 51 = .ok (.istore 5, 2) := by decide +kernel
theorem d_PS_route_53 : decode b_PS_route 53 = .ok (.iload 5, 2) := by decide +kernel
theorem d_PS_route_55 : decode b_PS_route 55 = .ok (.aload_n 0, 1) := by decide +kernel
theorem d_PS_route_56 : decode b_PS_route 56 = .ok (.getfield 66, 3) := by decide +kernel
theorem d_PS_route_59 : decode b_PS_route 59 = .ok (.arraylength, 1) := by decide +kernel
theorem d_PS_route_60 : decode b_PS_route 60 = .ok (.if_icmp .ge 33, 3) := by decide +kernel
theorem d_PS_route_63 : decode b_PS_route 63 = .ok (.aload_n 0, 1) := by decide +kernel
theorem d_PS_route_64 : decode b_PS_route 64 = .ok (.getfield 66, 3) := by decide +kernel
theorem d_PS_route_67 : decode b_PS_route 67 = .ok (.iload 5, 2) := by decide +kernel
theorem d_PS_route_69 : decode b_PS_route 69 = .ok (.aaload, 1) := by decide +kernel
theorem d_PS_route_70 : decode b_PS_route 70 = .ok (.getfield 159, 3) := by decide +kernel
theorem d_PS_route_73 : decode b_PS_route 73 = .ok (.ifCond .eq 14, 3) := by decide +kernel
theorem d_PS_route_76 : decode b_PS_route 76 = .ok (.iload 4, 2) := by decide +kernel
theorem d_PS_route_78 : decode b_PS_route 78 = .ok (.ifCond .ne 6, 3) := by decide +kernel
theorem d_PS_route_81 : decode b_PS_route 81 = .ok (.iload 5, 2) := by decide +kernel
theorem d_PS_route_83 : decode b_PS_route 83 = .ok (.ireturn, 1) := by decide +kernel
theorem d_PS_route_84 : decode b_PS_route 84 = .ok (.iinc 4 (-1), 3) := by decide +kernel
theorem d_PS_route_87 : decode b_PS_route 87 = .ok (.iinc 5 1, 3) := by decide +kernel
theorem d_PS_route_90 : decode b_PS_route 90 = .ok (.goto (-37), 3) := by decide +kernel
theorem d_PS_route_93 : decode b_PS_route 93 = .ok (.iconst (-1), 1) := by decide +kernel
theorem d_PS_route_94 : decode b_PS_route 94 = .ok (.ireturn, 1) := by decide +kernel
theorem d_PS_deliver_0 : decode b_PS_deliver 0 = .ok (.aload_n 0, 1) := by decide +kernel
theorem d_PS_deliver_1 : decode b_PS_deliver 1 = .ok (.getfield 66, 3) := by decide +kernel
theorem d_PS_deliver_4 : decode b_PS_deliver 4 = .ok (.iload_n 1, 1) := by decide +kernel
theorem d_PS_deliver_5 : decode b_PS_deliver 5 = .ok (.aaload, 1) := by decide +kernel
theorem d_PS_deliver_6 : decode b_PS_deliver 6 = .ok (.astore 6, 2) := by decide +kernel
theorem d_PS_deliver_8 : decode b_PS_deliver 8 = .ok (.aload_n 0, 1) := by decide +kernel
theorem d_PS_deliver_9 : decode b_PS_deliver 9 = .ok (.getfield 54, 3) := by decide +kernel
theorem d_PS_deliver_12 : decode b_PS_deliver 12 = .ok (.iload_n 2, 1) := by decide +kernel
theorem d_PS_deliver_13 : decode b_PS_deliver 13 = .ok (.aaload, 1) := by decide +kernel
theorem d_PS_deliver_14 : decode b_PS_deliver 14 = .ok (.astore 7, 2) := by decide +kernel
theorem d_PS_deliver_16 : decode b_PS_deliver 16 = .ok (.aload_n 0, 1) := by decide +kernel
theorem d_PS_deliver_17 : decode b_PS_deliver 17 = .ok (.iload_n 1, 1) := by decide +kernel
theorem d_PS_deliver_18 : decode b_PS_deliver 18 = .ok (.putfield 20, 3) := by decide +kernel
theorem d_PS_deliver_21 : decode b_PS_deliver 21 = .ok (.aload_n 0, 1) := by decide +kernel
theorem d_PS_deliver_22 : decode b_PS_deliver 22 = .ok (.iconst 0, 1) := by decide +kernel
theorem d_PS_deliver_23 : decode b_PS_deliver 23 = .ok (.putfield 24, 3) := by decide +kernel
theorem d_PS_deliver_26 : decode b_PS_deliver 26 = .ok (.aload_n 0, 1) := by decide +kernel
theorem d_PS_deliver_27 : decode b_PS_deliver 27 = .ok (.iconst 0, 1) := by decide +kernel
theorem d_PS_deliver_28 : decode b_PS_deliver 28 = .ok (.putfield 27, 3) := by decide +kernel
theorem d_PS_deliver_31 : decode b_PS_deliver 31 = .ok (.aload 6, 2) := by decide +kernel
theorem d_PS_deliver_33 : decode b_PS_deliver 33 = .ok (.iload_n 2, 1) := by decide +kernel
theorem d_PS_deliver_34 : decode b_PS_deliver 34 = .ok (.aload 7, 2) := by decide +kernel
theorem d_PS_deliver_36 : decode b_PS_deliver 36 = .ok (.invokevirtual 196, 3) := by decide +kernel
theorem d_PS_deliver_39 : decode b_PS_deliver 39 = .ok (.ifCond .eq 32, 3) := by decide +kernel
theorem d_PS_deliver_42 : decode b_PS_deliver 42 = .ok (.aload_n 0, 1) := by decide +kernel
theorem d_PS_deliver_43 : decode b_PS_deliver 43 = .ok (.aload 7, 2) := by decide +kernel
theorem d_PS_deliver_45 : decode b_PS_deliver 45 = .ok (.aload_n 0, 1) := by decide +kernel
theorem d_PS_deliver_46 : decode b_PS_deliver 46 = .ok (.getfield 7, 3) := by decide +kernel
theorem d_PS_deliver_49 : decode b_PS_deliver 49 = .ok (.iconst 3, 1) := by decide +kernel
theorem d_PS_deliver_50 : decode b_PS_deliver 50 = .ok (.iaload, 1) := by decide +kernel
theorem d_PS_deliver_51 : decode b_PS_deliver 51 = .ok (.iload_n 3, 1) := by decide +kernel
theorem d_PS_deliver_52 : decode b_PS_deliver 52 = .ok (.iload 4, 2) := by decide +kernel
theorem d_PS_deliver_54 : decode b_PS_deliver 54 = .ok (.iload 5, 2) := by decide +kernel
theorem d_PS_deliver_56 : decode b_PS_deliver 56 = .ok (.invokevirtual 200, 3) := by decide +kernel
theorem d_PS_deliver_59 : decode b_PS_deliver 59 = .ok (.putfield 24, 3) := by decide +kernel
theorem d_PS_deliver_62 : decode b_PS_deliver 62 = .ok (.aload_n 0, 1) := by decide +kernel
theorem d_PS_deliver_63 : decode b_PS_deliver 63 = .ok (.aload 7, 2) := by decide +kernel
theorem d_PS_deliver_65 : decode b_PS_deliver 65 = .ok (.getfield 204, 3) := by decide +kernel
theorem d_PS_deliver_68 : decode b_PS_deliver 68 = .ok (.putfield 27, 3) := by decide +kernel
theorem d_PS_deliver_71 : decode b_PS_deliver 71 = .ok (.aload_n 0, 1) := by decide +kernel
theorem d_PS_deliver_72 : decode b_PS_deliver 72 = .ok (.getfield 16, 3) := by decide +kernel
theorem d_PS_deliver_75 : decode b_PS_deliver 75 = .ok (.aload_n 0, 1) := by decide +kernel
theorem d_PS_deliver_76 : decode b_PS_deliver 76 = .ok (.getfield 7, 3) := by decide +kernel
theorem d_PS_deliver_79 : decode b_PS_deliver 79 = .ok (.aload 6, 2) := by decide +kernel
theorem d_PS_deliver_81 : decode b_PS_deliver 81 = .ok (.getfield 207, 3) := by decide +kernel
theorem d_PS_deliver_84 : decode b_PS_deliver 84 = .ok (.invokevirtual 211, 3) := by decide +kernel
theorem d_PS_deliver_87 : decode b_PS_deliver 87 = .ok (.iload_n 1, 1) := by decide +kernel
theorem d_PS_deliver_88 : decode b_PS_deliver 88 = .ok (.iload_n 2, 1) := by decide +kernel
theorem d_PS_deliver_89 : decode b_PS_deliver 89 = .ok (.invokevirtual 216, 3) := by decide +kernel
theorem d_PS_deliver_92 : decode b_PS_deliver 92 = .ok (.aload_n 0, 1) := by decide +kernel
theorem d_PS_deliver_93 : decode b_PS_deliver 93 = .ok (.getfield 24, 3) := by decide +kernel
theorem d_PS_deliver_96 : decode b_PS_deliver 96 = .ok (.ifCond .ne 13, 3) := by decide +kernel
theorem d_PS_deliver_99 : decode b_PS_deliver 99 = .ok (.aload_n 0, 1) := by decide +kernel
theorem d_PS_deliver_100 : decode b_PS_deliver 100 = .ok (.getfield 16, 3) := by decide +kernel
theorem d_PS_deliver_103 : decode b_PS_deliver 103 = .ok (.invokevirtual 220, 3) := by decide +kernel
theorem d_PS_deliver_106 : decode b_PS_deliver 106 = .ok (.goto 24, 3) := by decide +kernel
theorem d_PS_deliver_109 : decode b_PS_deliver 109 = .ok (.aload_n 0, 1) := by decide +kernel
theorem d_PS_deliver_110 : decode b_PS_deliver 110 = .ok (.getfield 16, 3) := by decide +kernel
theorem d_PS_deliver_113 : decode b_PS_deliver 113 = .ok (.aload 7, 2) := by decide +kernel
theorem d_PS_deliver_115 : decode b_PS_deliver 115 = .ok (.getfield 223, 3) := by decide +kernel
theorem d_PS_deliver_118 : decode b_PS_deliver 118 = .ok (.invokevirtual 211, 3) := by decide +kernel
theorem d_PS_deliver_121 : decode b_PS_deliver 121 = .ok (.aload_n 0, 1) := by decide +kernel
theorem d_PS_deliver_122 : decode b_PS_deliver 122 = .ok (.getfield 7, 3) := by decide +kernel
theorem d_PS_deliver_125 : decode b_PS_deliver 125 = .ok (.iconst 3, 1) := by decide +kernel
theorem d_PS_deliver_126 : decode b_PS_deliver 126 = .ok (.iaload, 1) := by decide +kernel
theorem d_PS_deliver_127 : decode b_PS_deliver 127 = .ok (.invokevirtual 224, 3) := by decide +kernel
theorem d_PS_deliver_130 : decode b_PS_deliver 130 = .ok (.return_, 1) := by decide +kernel
theorem d_PS_segment_0 : decode b_PS_segment 0 = .ok (.iload_n 3, 1) := by decide +kernel
theorem d_PS_segment_1 : decode b_PS_segment 1 = .ok (.invokestatic 86, 3) := by decide +kernel
theorem d_PS_segment_4 : decode b_PS_segment 4 = .ok (.ifCond .ne 6, 3) := by decide +kernel
theorem d_PS_segment_7 : decode b_PS_segment 7 = .ok (.bipush (-4), 2) := by decide +kernel
theorem d_PS_segment_9 : decode b_PS_segment 9 = .ok (.ireturn, 1) := by decide +kernel
theorem d_PS_segment_10 : decode b_PS_segment 10 = .ok (.aload_n 0, 1) := by decide +kernel
theorem d_PS_segment_11 : decode b_PS_segment 11 = .ok (.getfield 82, 3) := by decide +kernel
theorem d_PS_segment_14 : decode b_PS_segment 14 = .ok (.ifCond .ne 6, 3) := by decide +kernel
theorem d_PS_segment_17 : decode b_PS_segment 17 = .ok (.bipush (-2), 2) := by decide +kernel
theorem d_PS_segment_19 : decode b_PS_segment 19 = .ok (.ireturn, 1) := by decide +kernel
theorem d_PS_segment_20 : decode b_PS_segment 20 = .ok (.aload_n 0, 1) := by decide +kernel
theorem d_PS_segment_21 : decode b_PS_segment 21 = .ok (.getfield 7, 3) := by decide +kernel
theorem d_PS_segment_24 : decode b_PS_segment 24 = .ok (.iconst 3, 1) := by decide +kernel
theorem d_PS_segment_25 : decode b_PS_segment 25 = .ok (.iaload, 1) := by decide +kernel
theorem d_PS_segment_26 : decode b_PS_segment 26 = .ok (.istore 4, 2) := by decide +kernel
theorem d_PS_segment_28 : decode b_PS_segment 28 = .ok (.aload_n 0, 1) := by decide +kernel
theorem d_PS_segment_29 : decode b_PS_segment 29 = .ok (.getfield 48, 3) := by decide +kernel
theorem d_PS_segment_32 : decode b_PS_segment 32 = .ok (.iload 4, 2) := by decide +kernel
theorem d_PS_segment_34 : decode b_PS_segment 34 = .ok (.iload_n 1, 1) := by decide +kernel
theorem d_PS_segment_35 : decode b_PS_segment 35 = .ok (.invokestatic 90, 3) := by decide +kernel
theorem d_PS_segment_38 : decode b_PS_segment 38 = .ok (.invokevirtual 94, 3) := by decide +kernel
theorem d_PS_segment_41 : decode b_PS_segment 41 = .ok (.lstore 5, 2) := by decide +kernel
theorem d_PS_segment_43 : decode b_PS_segment 43 = .ok (.aload_n 0, 1) := by decide +kernel
theorem d_PS_segment_44 : decode b_PS_segment 44 = .ok (.lload 5, 2) := by decide +kernel
theorem d_PS_segment_46 : decode b_PS_segment 46 = .ok (.invokevirtual 98, 3) := by decide +kernel
theorem d_PS_segment_49 : decode b_PS_segment 49 = .ok (.istore 7, 2) := by decide +kernel
theorem d_PS_segment_51 : decode b_PS_segment 51 = .ok (.iload 7, 2) := by decide +kernel
theorem d_PS_segment_53 : decode b_PS_segment 53 = .ok (.iconst (-1), 1) := by decide +kernel
theorem d_PS_segment_54 : decode b_PS_segment 54 = .ok (.if_icmp .ne 6, 3) := by decide +kernel
theorem d_PS_segment_57 : decode b_PS_segment 57 = .ok (.bipush (-3), 2) := by decide +kernel
theorem d_PS_segment_59 : decode b_PS_segment 59 = .ok (.ireturn, 1) := by decide +kernel
theorem d_PS_segment_60 : decode b_PS_segment 60 = .ok (.aload_n 0, 1) := by decide +kernel
theorem d_PS_segment_61 : decode b_PS_segment 61 = .ok (.getfield 66, 3) := by decide +kernel
theorem d_PS_segment_64 : decode b_PS_segment 64 = .ok (.iload 7, 2) := by decide +kernel
theorem d_PS_segment_66 : decode b_PS_segment 66 = .ok (.aaload, 1) := by decide +kernel
theorem d_PS_segment_67 : decode b_PS_segment 67 = .ok (.iload 4, 2) := by decide +kernel
theorem d_PS_segment_69 : decode b_PS_segment 69 = .ok (.iload_n 1, 1) := by decide +kernel
theorem d_PS_segment_70 : decode b_PS_segment 70 = .ok (.aload_n 0, 1) := by decide +kernel
theorem d_PS_segment_71 : decode b_PS_segment 71 = .ok (.lload 5, 2) := by decide +kernel
theorem d_PS_segment_73 : decode b_PS_segment 73 = .ok (.invokevirtual 102, 3) := by decide +kernel
theorem d_PS_segment_76 : decode b_PS_segment 76 = .ok (.invokevirtual 105, 3) := by decide +kernel
theorem d_PS_segment_79 : decode b_PS_segment 79 = .ok (.istore 8, 2) := by decide +kernel
theorem d_PS_segment_81 : decode b_PS_segment 81 = .ok (.iload 8, 2) := by decide +kernel
theorem d_PS_segment_83 : decode b_PS_segment 83 = .ok (.iconst (-1), 1) := by decide +kernel
theorem d_PS_segment_84 : decode b_PS_segment 84 = .ok (.if_icmp .ne 5, 3) := by decide +kernel
theorem d_PS_segment_87 : decode b_PS_segment 87 = .ok (.iconst (-1), 1) := by decide +kernel
theorem d_PS_segment_88 : decode b_PS_segment 88 = .ok (.ireturn, 1) := by decide +kernel
theorem d_PS_segment_89 : decode b_PS_segment 89 = .ok (.aload_n 0, 1) := by decide +kernel
theorem d_PS_segment_90 : decode b_PS_segment 90 = .ok (.getfield 66, 3) := by decide +kernel
theorem d_PS_segment_93 : decode b_PS_segment 93 = .ok (.iload 7, 2) := by decide +kernel
theorem d_PS_segment_95 : decode b_PS_segment 95 = .ok (.aaload, 1) := by decide +kernel
theorem d_PS_segment_96 : decode b_PS_segment 96 = .ok (.getfield 108, 3) := by decide +kernel
theorem d_PS_segment_99 : decode b_PS_segment 99 = .ok (.iload 4, 2) := by decide +kernel
theorem d_PS_segment_101 : decode b_PS_segment 101 = .ok (.iload_n 1, 1) := by decide +kernel
theorem d_PS_segment_102 : decode b_PS_segment 102 = .ok (.iload 8, 2) := by decide +kernel
theorem d_PS_segment_104 : decode b_PS_segment 104 = .ok (.iload_n 3, 1) := by decide +kernel
theorem d_PS_segment_105 : decode b_PS_segment 105 = .ok (.aload_n 0, 1) := by decide +kernel
theorem d_PS_segment_106 : decode b_PS_segment 106 = .ok (.getfield 112, 3) := by decide +kernel
theorem d_PS_segment_109 : decode b_PS_segment 109 = .ok (.invokevirtual 115, 3) := by decide +kernel
theorem d_PS_segment_112 : decode b_PS_segment 112 = .ok (.aload_n 0, 1) := by decide +kernel
theorem d_PS_segment_113 : decode b_PS_segment 113 = .ok (.iload 7, 2) := by decide +kernel
theorem d_PS_segment_115 : decode b_PS_segment 115 = .ok (.iload 8, 2) := by decide +kernel
theorem d_PS_segment_117 : decode b_PS_segment 117 = .ok (.iload_n 1, 1) := by decide +kernel
theorem d_PS_segment_118 : decode b_PS_segment 118 = .ok (.iload_n 2, 1) := by decide +kernel
theorem d_PS_segment_119 : decode b_PS_segment 119 = .ok (.iload_n 3, 1) := by decide +kernel
theorem d_PS_segment_120 : decode b_PS_segment 120 = .ok (.invokevirtual 121, 3) := by decide +kernel
theorem d_PS_segment_123 : decode b_PS_segment 123 = .ok (.iload 8, 2) := by decide +kernel
theorem d_PS_segment_125 : decode b_PS_segment 125 = .ok (.ireturn, 1) := by decide +kernel
