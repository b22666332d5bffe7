theorem d_Mod_ups_0 : decode b_Mod_ups 0 = .ok (.iconst 0, 1) := by decide +kernel
theorem d_Mod_ups_1 : decode b_Mod_ups 1 = .ok (.istore_n 2, 1) := by decide +kernel
theorem d_Mod_ups_2 : decode b_Mod_ups 2 = .ok (.iconst 0, 1) := by decide +kernel
theorem d_Mod_ups_3 : decode b_Mod_ups 3 = .ok (.istore_n 3, 1) := by decide +kernel
theorem d_Mod_ups_4 : decode b_Mod_ups 4 = .ok (.iload_n 3, 1) := by decide +kernel
theorem d_Mod_ups_5 : decode b_Mod_ups 5 = .ok (.aload_n 0, 1) := by decide +kernel
theorem d_Mod_ups_6 : decode b_Mod_ups 6 = .ok (.getfield 104, 3) := by decide +kernel
theorem d_Mod_ups_9 : decode b_Mod_ups 9 = .ok (.if_icmp .ge 31, 3) := by decide +kernel
theorem d_Mod_ups_12 : decode b_Mod_ups 12 = .ok (.aload_n 0, 1) := by decide +kernel
theorem d_Mod_ups_13 : decode b_Mod_ups 13 = .ok (.getfield 36, 3) := by decide +kernel
theorem d_Mod_ups_16 : decode b_Mod_ups 16 = .ok (.bipush 8, 2) := by decide +kernel
theorem d_Mod_ups_18 : decode b_Mod_ups 18 = .ok (.iload_n 1, 1) := by decide +kernel
theorem d_Mod_ups_19 : decode b_Mod_ups 19 = .ok (.imul, 1) := by decide +kernel
theorem d_Mod_ups_20 : decode b_Mod_ups 20 = .ok (.iload_n 3, 1) := by decide +kernel
theorem d_Mod_ups_21 : decode b_Mod_ups 21 = .ok (.iadd, 1) := by decide +kernel
theorem d_Mod_ups_22 : decode b_Mod_ups 22 = .ok (.baload, 1) := by decide +kernel
theorem d_Mod_ups_23 : decode b_Mod_ups 23 = .ok (.ifCond .eq 7, 3) := by decide +kernel
theorem d_Mod_ups_26 : decode b_Mod_ups 26 = .ok (.iload_n 2, 1) := by decide +kernel
theorem d_Mod_ups_27 : decode b_Mod_ups 27 = .ok (.goto 6, 3) := by decide +kernel
theorem d_Mod_ups_30 : decode b_Mod_ups 30 = .ok (.iload_n 2, 1) := by decide +kernel
theorem d_Mod_ups_31 : decode b_Mod_ups 31 = .ok (.iconst 1, 1) := by decide +kernel
theorem d_Mod_ups_32 : decode b_Mod_ups 32 = .ok (.iadd, 1) := by decide +kernel
theorem d_Mod_ups_33 : decode b_Mod_ups 33 = .ok (.istore_n 2, 1) := by decide +kernel
theorem d_Mod_ups_34 : decode b_Mod_ups 34 = .ok (.iinc 3 1, 3) := by decide +kernel
theorem d_Mod_ups_37 : decode b_Mod_ups 37 = .ok (.goto (-33), 3) := by decide +kernel
theorem d_Mod_ups_40 : decode b_Mod_ups 40 = .ok (.iload_n 2, 1) := by decide +kernel
theorem d_Mod_ups_41 : decode b_Mod_ups 41 = .ok (.ireturn, 1) := by decide +kernel
theorem d_Mod_wish_0 : decode b_Mod_wish 0 = .ok (.iconst 0, 1) := by decide +kernel
theorem d_Mod_wish_1 : decode b_Mod_wish 1 = .ok (.istore_n 2, 1) := by decide +kernel
theorem d_Mod_wish_2 : decode b_Mod_wish 2 = .ok (.iload_n 2, 1) := by decide +kernel
theorem d_Mod_wish_3 : decode b_Mod_wish 3 = .ok (.aload_n 0, 1) := by decide +kernel
theorem d_Mod_wish_4 : decode b_Mod_wish 4 = .ok (.getfield 107, 3) := by decide +kernel
theorem d_Mod_wish_7 : decode b_Mod_wish 7 = .ok (.if_icmp .ge 41, 3) := by decide +kernel
theorem d_Mod_wish_10 : decode b_Mod_wish 10 = .ok (.aload_n 0, 1) := by decide +kernel
theorem d_Mod_wish_11 : decode b_Mod_wish 11 = .ok (.getfield 13, 3) := by decide +kernel
theorem d_Mod_wish_14 : decode b_Mod_wish 14 = .ok (.iload_n 1, 1) := by decide +kernel
theorem d_Mod_wish_15 : decode b_Mod_wish 15 = .ok (.iaload, 1) := by decide +kernel
theorem d_Mod_wish_16 : decode b_Mod_wish 16 = .ok (.iload_n 2, 1) := by decide +kernel
theorem d_Mod_wish_17 : decode b_Mod_wish 17 = .ok (.aload_n 0, 1) := by decide +kernel
theorem d_Mod_wish_18 : decode b_Mod_wish 18 = .ok (.getfield 17, 3) := by decide +kernel
theorem d_Mod_wish_21 : decode b_Mod_wish 21 = .ok (.iload_n 1, 1) := by decide +kernel
theorem d_Mod_wish_22 : decode b_Mod_wish 22 = .ok (.iaload, 1) := by decide +kernel
theorem d_Mod_wish_23 : decode b_Mod_wish 23 = .ok (.imul, 1) := by decide +kernel
theorem d_Mod_wish_24 : decode b_Mod_wish 24 = .ok (.iadd, 1) := by decide +kernel
theorem d_Mod_wish_25 : decode b_Mod_wish 25 = .ok (.aload_n 0, 1) := by decide +kernel
theorem d_Mod_wish_26 : decode b_Mod_wish 26 = .ok (.getfield 107, 3) := by decide +kernel
theorem d_Mod_wish_29 : decode b_Mod_wish 29 = .ok (.irem, 1) := by decide +kernel
theorem d_Mod_wish_30 : decode b_Mod_wish 30 = .ok (.istore_n 3, 1) := by decide +kernel
theorem d_Mod_wish_31 : decode b_Mod_wish 31 = .ok (.aload_n 0, 1) := by decide +kernel
theorem d_Mod_wish_32 : decode b_Mod_wish 32 = .ok (.getfield 20, 3) := by decide +kernel
theorem d_Mod_wish_35 : decode b_Mod_wish 35 = .ok (.iload_n 3, 1) := by decide +kernel
theorem d_Mod_wish_36 : decode b_Mod_wish 36 = .ok (.iaload, 1) := by decide +kernel
theorem d_Mod_wish_37 : decode b_Mod_wish 37 = .ok (.ifCond .ge 5, 3) := by decide +kernel
theorem d_Mod_wish_40 : decode b_Mod_wish 40 = .ok (.iload_n 3, 1) := by decide +kernel
theorem d_Mod_wish_41 : decode b_Mod_wish 41 = .ok (.ireturn, 1) := by decide +kernel
theorem d_Mod_wish_42 : decode b_Mod_wish 42 = .ok (.iinc 2 1, 3) := by decide +kernel
theorem d_Mod_wish_45 : decode b_Mod_wish 45 = .ok (.goto (-43), 3) := by decide +kernel
theorem d_Mod_wish_48 : decode b_Mod_wish 48 = .ok (.iconst (-1), 1) := by decide +kernel
theorem d_Mod_wish_49 : decode b_Mod_wish 49 = .ok (.ireturn, 1) := by decide +kernel
theorem d_Mod_deal_0 : decode b_Mod_deal 0 = .ok (.iconst 0, 1) := by decide +kernel
theorem d_Mod_deal_1 : decode b_Mod_deal 1 = .ok (.istore_n 2, 1) := by decide +kernel
theorem d_Mod_deal_2 : decode b_Mod_deal 2 = .ok (.iload_n 2, 1) := by decide +kernel
theorem d_Mod_deal_3 : decode b_Mod_deal 3 = .ok (.bipush 101, 2) := by decide +kernel
theorem d_Mod_deal_5 : decode b_Mod_deal 5 = .ok (.if_icmp .ge 16, 3) := by decide +kernel
theorem d_Mod_deal_8 : decode b_Mod_deal 8 = .ok (.aload_n 0, 1) := by decide +kernel
theorem d_Mod_deal_9 : decode b_Mod_deal 9 = .ok (.getfield 20, 3) := by decide +kernel
theorem d_Mod_deal_12 : decode b_Mod_deal 12 = .ok (.iload_n 2, 1) := by decide +kernel
theorem d_Mod_deal_13 : decode b_Mod_deal 13 = .ok (.iconst (-1), 1) := by decide +kernel
theorem d_Mod_deal_14 : decode b_Mod_deal 14 = .ok (.iastore, 1) := by decide +kernel
theorem d_Mod_deal_15 : decode b_Mod_deal 15 = .ok (.iinc 2 1, 3) := by decide +kernel
theorem d_Mod_deal_18 : decode b_Mod_deal 18 = .ok (.goto (-16), 3) := by decide +kernel
theorem d_Mod_deal_21 : decode b_Mod_deal 21 = .ok (.aload_n 0, 1) := by decide +kernel
theorem d_Mod_deal_22 : decode b_Mod_deal 22 = .ok (.iload_n 1, 1) := by decide +kernel
theorem d_Mod_deal_23 : decode b_Mod_deal 23 = .ok (.invokevirtual 180, 3) := by decide +kernel
theorem d_Mod_deal_26 : decode b_Mod_deal 26 = .ok (.ifCond .ne 7, 3) := by decide +kernel
theorem d_Mod_deal_29 : decode b_Mod_deal 29 = .ok (.iconst 0, 1) := by decide +kernel
theorem d_Mod_deal_30 : decode b_Mod_deal 30 = .ok (.goto 7, 3) := by decide +kernel
theorem d_Mod_deal_33 : decode b_Mod_deal 33 = .ok (.aload_n 0, 1) := by decide +kernel
theorem d_Mod_deal_34 : decode b_Mod_deal 34 = .ok (.getfield 107, 3) := by decide +kernel
theorem d_Mod_deal_37 : decode b_Mod_deal 37 = .ok (.istore_n 2, 1) := by decide +kernel
theorem d_Mod_deal_38 : decode b_Mod_deal 38 = .ok (.iconst 0, 1) := by decide +kernel
theorem d_Mod_deal_39 : decode b_Mod_deal 39 = .ok (.istore_n 3, 1) := by decide +kernel
theorem d_Mod_deal_40 : decode b_Mod_deal 40 = .ok (.iload_n 3, 1) := by decide +kernel
theorem d_Mod_deal_41 : decode b_Mod_deal 41 = .ok (.sipush 1000, 3) := by decide +kernel
theorem d_Mod_deal_44 : decode b_Mod_deal 44 = .ok (.if_icmp .ge 66, 3) := by decide +kernel
theorem d_Mod_deal_47 : decode b_Mod_deal 47 = .ok (.iload_n 2, 1) := by decide +kernel
theorem d_Mod_deal_48 : decode b_Mod_deal 48 = .ok (.ifCond .le 62, 3) := by decide +kernel
theorem d_Mod_deal_51 : decode b_Mod_deal 51 = .ok (.iload_n 3, 1) := by decide +kernel
theorem d_Mod_deal_52 : decode b_Mod_deal 52 = .ok (.aload_n 0, 1) := by decide +kernel
theorem d_Mod_deal_53 : decode b_Mod_deal 53 = .ok (.getfield 104, 3) := by decide +kernel
theorem d_Mod_deal_56 : decode b_Mod_deal 56 = .ok (.irem, 1) := by decide +kernel
theorem d_Mod_deal_57 : decode b_Mod_deal 57 = .ok (.istore 4, 2) := by decide +kernel
theorem d_Mod_deal_59 : decode b_Mod_deal 59 = .ok (.aload_n 0, 1) := by decide +kernel
theorem d_Mod_deal_60 : decode b_Mod_deal 60 = .ok (.getfield 36, 3) := by decide +kernel
theorem d_Mod_deal_63 : decode b_Mod_deal 63 = .ok (.bipush 8, 2) := by decide +kernel
theorem d_Mod_deal_65 : decode b_Mod_deal 65 = .ok (.iload_n 1, 1) := by decide +kernel
theorem d_Mod_deal_66 : decode b_Mod_deal 66 = .ok (.imul, 1) := by decide +kernel
theorem d_Mod_deal_67 : decode b_Mod_deal 67 = .ok (.iload 4, 2) := by decide +kernel
theorem d_Mod_deal_69 : decode b_Mod_deal 69 = .ok (.iadd, 1) := by decide +kernel
theorem d_Mod_deal_70 : decode b_Mod_deal 70 = .ok (.baload, 1) := by decide +kernel
theorem d_Mod_deal_71 : decode b_Mod_deal 71 = .ok (.ifCond .ne 33, 3) := by decide +kernel
theorem d_Mod_deal_74 : decode b_Mod_deal 74 = .ok (.iload_n 2, 1) := by decide +kernel
theorem d_Mod_deal_75 : decode b_Mod_deal 75 = .ok (.ifCond .le 29, 3) := by decide +kernel
theorem d_Mod_deal_78 : decode b_Mod_deal 78 = .ok (.aload_n 0, 1) := by decide +kernel
theorem d_Mod_deal_79 : decode b_Mod_deal 79 = .ok (.iload 4, 2) := by decide +kernel
theorem d_Mod_deal_81 : decode b_Mod_deal 81 = .ok (.invokevirtual 183, 3) := by decide +kernel
theorem d_Mod_deal_84 : decode b_Mod_deal 84 = .ok (.istore 5, 2) := by decide +kernel
theorem d_Mod_deal_86 : decode b_Mod_deal 86 = .ok (.iload 5, 2) := by decide +kernel
theorem d_Mod_deal_88 : decode b_Mod_deal 88 = .ok (.ifCond .lt 12, 3) := by decide +kernel
theorem d_Mod_deal_91 : decode b_Mod_deal 91 = .ok (.aload_n 0, 1) := by decide +kernel
theorem d_Mod_deal_92 : decode b_Mod_deal 92 = .ok (.getfield 20, 3) := by decide +kernel
theorem d_Mod_deal_95 : decode b_Mod_deal 95 = .ok (.iload 5, 2) := by decide +kernel
theorem d_Mod_deal_97 : decode b_Mod_deal 97 = .ok (.iload 4, 2) := by decide +kernel
theorem d_Mod_deal_99 : decode b_Mod_deal 99 = .ok (.iastore, 1) := by decide +kernel
theorem d_Mod_deal_100 : decode b_Mod_deal 100 = .ok (.iload_n 2, 1) := by decide +kernel
theorem d_Mod_deal_101 : decode b_Mod_deal 101 = .ok (.iconst 1, 1) := by decide +kernel
theorem d_Mod_deal_102 : decode b_Mod_deal 102 = .ok (.isub, 1) := by decide +kernel
theorem d_Mod_deal_103 : decode b_Mod_deal 103 = .ok (.istore_n 2, 1) := by decide +kernel
theorem d_Mod_deal_104 : decode b_Mod_deal 104 = .ok (.iinc 3 1, 3) := by decide +kernel
theorem d_Mod_deal_107 : decode b_Mod_deal 107 = .ok (.goto (-67), 3) := by decide +kernel
theorem d_Mod_deal_110 : decode b_Mod_deal 110 = .ok (.return_, 1) := by decide +kernel
theorem d_Mod_place_0 : decode b_Mod_place 0 = .ok (.aload_n 0, 1) := by decide +kernel
theorem d_Mod_place_1 : decode b_Mod_place 1 = .ok (.iload_n 1, 1) := by decide +kernel
theorem d_Mod_place_2 : decode b_Mod_place 2 = .ok (.invokevirtual 186, 3) := by decide +kernel
theorem d_Mod_place_5 : decode b_Mod_place 5 = .ok (.ifCond .eq 15, 3) := by decide +kernel
theorem d_Mod_place_8 : decode b_Mod_place 8 = .ok (.iload_n 2, 1) := by decide +kernel
theorem d_Mod_place_9 : decode b_Mod_place 9 = .ok (.ifCond .lt 11, 3) := by decide +kernel
theorem d_Mod_place_12 : decode b_Mod_place 12 = .ok (.iload_n 2, 1) := by decide +kernel
theorem d_Mod_place_13 : decode b_Mod_place 13 = .ok (.aload_n 0, 1) := by decide +kernel
theorem d_Mod_place_14 : decode b_Mod_place 14 = .ok (.getfield 107, 3) := by decide +kernel
theorem d_Mod_place_17 : decode b_Mod_place 17 = .ok (.if_icmp .lt 5, 3) := by decide +kernel
theorem d_Mod_place_20 : decode b_Mod_place 20 = .ok (.iconst (-1), 1) := by decide +kernel
theorem d_Mod_place_21 : decode b_Mod_place 21 = .ok (.ireturn, 1) := by decide +kernel
theorem d_Mod_place_22 : decode b_Mod_place 22 = .ok (.aload_n 0, 1) := by decide +kernel
theorem d_Mod_place_23 : decode b_Mod_place 23 = .ok (.iload_n 1, 1) := by decide +kernel
theorem d_Mod_place_24 : decode b_Mod_place 24 = .ok (.invokevirtual 189, 3) := by decide +kernel
theorem d_Mod_place_27 : decode b_Mod_place 27 = .ok (.aload_n 0, 1) := by decide +kernel
theorem d_Mod_place_28 : decode b_Mod_place 28 = .ok (.getfield 20, 3) := by decide +kernel
theorem d_Mod_place_31 : decode b_Mod_place 31 = .ok (.iload_n 2, 1) := by decide +kernel
theorem d_Mod_place_32 : decode b_Mod_place 32 = .ok (.iaload, 1) := by decide +kernel
theorem d_Mod_place_33 : decode b_Mod_place 33 = .ok (.ireturn, 1) := by decide +kernel
theorem d_Mod_share_0 : decode b_Mod_share 0 = .ok (.aload_n 0, 1) := by decide +kernel
theorem d_Mod_share_1 : decode b_Mod_share 1 = .ok (.iload_n 1, 1) := by decide +kernel
theorem d_Mod_share_2 : decode b_Mod_share 2 = .ok (.invokevirtual 186, 3) := by decide +kernel
theorem d_Mod_share_5 : decode b_Mod_share 5 = .ok (.ifCond .eq 11, 3) := by decide +kernel
theorem d_Mod_share_8 : decode b_Mod_share 8 = .ok (.aload_n 0, 1) := by decide +kernel
theorem d_Mod_share_9 : decode b_Mod_share 9 = .ok (.iload_n 2, 1) := by decide +kernel
theorem d_Mod_share_10 : decode b_Mod_share 10 = .ok (.invokevirtual 192, 3) := by decide +kernel
theorem d_Mod_share_13 : decode b_Mod_share 13 = .ok (.ifCond .ne 5, 3) := by decide +kernel
theorem d_Mod_share_16 : decode b_Mod_share 16 = .ok (.iconst (-1), 1) := by decide +kernel
theorem d_Mod_share_17 : decode b_Mod_share 17 = .ok (.ireturn, 1) := by decide +kernel
theorem d_Mod_share_18 : decode b_Mod_share 18 = .ok (.aload_n 0, 1) := by decide +kernel
theorem d_Mod_share_19 : decode b_Mod_share 19 = .ok (.iload_n 1, 1) := by decide +kernel
theorem d_Mod_share_20 : decode b_Mod_share 20 = .ok (.invokevirtual 189, 3) := by decide +kernel
theorem d_Mod_share_23 : decode b_Mod_share 23 = .ok (.iconst 0, 1) := by decide +kernel
theorem d_Mod_share_24 : decode b_Mod_share 24 = .ok (.istore_n 3, 1) := by decide +kernel
theorem d_Mod_share_25 : decode b_Mod_share 25 = .ok (.iconst 0, 1) := by decide +kernel
theorem d_Mod_share_26 : decode b_Mod_share 26 = .ok (.istore 4, 2) := by decide +kernel
theorem d_Mod_share_28 : decode b_Mod_share 28 = .ok (.iload 4, 2) := by decide +kernel
theorem d_Mod_share_30 : decode b_Mod_share 30 = .ok (.aload_n 0, 1) := by decide +kernel
theorem d_Mod_share_31 : decode b_Mod_share 31 = .ok (.getfield 107, 3) := by decide +kernel
theorem d_Mod_share_34 : decode b_Mod_share 34 = .ok (.if_icmp .ge 28, 3) := by decide +kernel
theorem d_Mod_share_37 : decode b_Mod_share 37 = .ok (.aload_n 0, 1) := by decide +kernel
theorem d_Mod_share_38 : decode b_Mod_share 38 = .ok (.getfield 20, 3) := by decide +kernel
theorem d_Mod_share_41 : decode b_Mod_share 41 = .ok (.iload 4, 2) := by decide +kernel
theorem d_Mod_share_43 : decode b_Mod_share 43 = .ok (.iaload, 1) := by decide +kernel
theorem d_Mod_share_44 : decode b_Mod_share 44 = .ok (.iload_n 2, 1) := by decide +kernel
theorem d_Mod_share_45 : decode b_Mod_share 45 = .ok (.if_icmp .ne 9, 3) := by decide +kernel
theorem d_Mod_share_48 : decode b_Mod_share 48 = .ok (.iload_n 3, 1) := by decide +kernel
theorem d_Mod_share_49 : decode b_Mod_share 49 = .ok (.iconst 1, 1) := by decide +kernel
theorem d_Mod_share_50 : decode b_Mod_share 50 = .ok (.iadd, 1) := by decide +kernel
theorem d_Mod_share_51 : decode b_Mod_share 51 = .ok (.goto 4, 3) := by decide +kernel
theorem d_Mod_share_54 : decode b_Mod_share 54 = .ok (.iload_n 3, 1) := by decide +kernel
theorem d_Mod_share_55 : decode b_Mod_share 55 = .ok (.istore_n 3, 1) := by decide +kernel
theorem d_Mod_share_56 : decode b_Mod_share 56 = .ok (.iinc 4 1, 3) := by decide +kernel
theorem d_Mod_share_59 : decode b_Mod_share 59 = .ok (.goto (-31), 3) := by decide +kernel
theorem d_Mod_share_62 : decode b_Mod_share 62 = .ok (.iload_n 3, 1) := by decide +kernel
theorem d_Mod_share_63 : decode b_Mod_share 63 = .ok (.ireturn, 1) := by decide +kernel
theorem d_Mod_moved_0 : decode b_Mod_moved 0 = .ok (.aload_n 0, 1) := by decide +kernel
theorem d_Mod_moved_1 : decode b_Mod_moved 1 = .ok (.iload_n 1, 1) := by decide +kernel
theorem d_Mod_moved_2 : decode b_Mod_moved 2 = .ok (.invokevirtual 186, 3) := by decide +kernel
theorem d_Mod_moved_5 : decode b_Mod_moved 5 = .ok (.ifCond .eq 12, 3) := by decide +kernel
theorem d_Mod_moved_8 : decode b_Mod_moved 8 = .ok (.aload_n 0, 1) := by decide +kernel
theorem d_Mod_moved_9 : decode b_Mod_moved 9 = .ok (.getfield 33, 3) := by decide +kernel
theorem d_Mod_moved_12 : decode b_Mod_moved 12 = .ok (.iload_n 1, 1) := by decide +kernel
theorem d_Mod_moved_13 : decode b_Mod_moved 13 = .ok (.iaload, 1) := by decide +kernel
theorem d_Mod_moved_14 : decode b_Mod_moved 14 = .ok (.goto 4, 3) := by decide +kernel
theorem d_Mod_moved_17 : decode b_Mod_moved 17 = .ok (.iconst (-1), 1) := by decide +kernel
theorem d_Mod_moved_18 : decode b_Mod_moved 18 = .ok (.ireturn, 1) := by decide +kernel
theorem d_Mod_live_0 : decode b_Mod_live 0 = .ok (.aload_n 0, 1) := by decide +kernel
theorem d_Mod_live_1 : decode b_Mod_live 1 = .ok (.iload_n 1, 1) := by decide +kernel
theorem d_Mod_live_2 : decode b_Mod_live 2 = .ok (.invokevirtual 186, 3) := by decide +kernel
theorem d_Mod_live_5 : decode b_Mod_live 5 = .ok (.ifCond .eq 13, 3) := by decide +kernel
theorem d_Mod_live_8 : decode b_Mod_live 8 = .ok (.aload_n 0, 1) := by decide +kernel
theorem d_Mod_live_9 : decode b_Mod_live 9 = .ok (.getfield 26, 3) := by decide +kernel
theorem d_Mod_live_12 : decode b_Mod_live 12 = .ok (.iload_n 1, 1) := by decide +kernel
theorem d_Mod_live_13 : decode b_Mod_live 13 = .ok (.baload, 1) := by decide +kernel
theorem d_Mod_live_14 : decode b_Mod_live 14 = .ok (.iload_n 2, 1) := by decide +kernel
theorem d_Mod_live_15 : decode b_Mod_live 15 = .ok (.if_icmp .ne 5, 3) := by decide +kernel
theorem d_Mod_live_18 : decode b_Mod_live 18 = .ok (.iconst 0, 1) := by decide +kernel
theorem d_Mod_live_19 : decode b_Mod_live 19 = .ok (.ireturn, 1) := by decide +kernel
theorem d_Mod_live_20 : decode b_Mod_live 20 = .ok (.aload_n 0, 1) := by decide +kernel
theorem d_Mod_live_21 : decode b_Mod_live 21 = .ok (.getfield 26, 3) := by decide +kernel
theorem d_Mod_live_24 : decode b_Mod_live 24 = .ok (.iload_n 1, 1) := by decide +kernel
theorem d_Mod_live_25 : decode b_Mod_live 25 = .ok (.iload_n 2, 1) := by decide +kernel
theorem d_Mod_live_26 : decode b_Mod_live 26 = .ok (.bastore, 1) := by decide +kernel
theorem d_Mod_live_27 : decode b_Mod_live 27 = .ok (.iload_n 2, 1) := by decide +kernel
theorem d_Mod_live_28 : decode b_Mod_live 28 = .ok (.ifCond .ne 29, 3) := by decide +kernel
theorem d_Mod_live_31 : decode b_Mod_live 31 = .ok (.iconst 0, 1) := by decide +kernel
theorem d_Mod_live_32 : decode b_Mod_live 32 = .ok (.istore_n 3, 1) := by decide +kernel
theorem d_Mod_live_33 : decode b_Mod_live 33 = .ok (.iload_n 3, 1) := by decide +kernel
theorem d_Mod_live_34 : decode b_Mod_live 34 = .ok (.bipush 8, 2) := by decide +kernel
theorem d_Mod_live_36 : decode b_Mod_live 36 = .ok (.if_icmp .ge 21, 3) := by decide +kernel
theorem d_Mod_live_39 : decode b_Mod_live 39 = .ok (.aload_n 0, 1) := by decide +kernel
theorem d_Mod_live_40 : decode b_Mod_live 40 = .ok (.getfield 45, 3) := by decide +kernel
theorem d_Mod_live_43 : decode b_Mod_live 43 = .ok (.bipush 8, 2) := by decide +kernel
theorem d_Mod_live_45 : decode b_Mod_live 45 = .ok (.iload_n 1, 1) := by decide +kernel
theorem d_Mod_live_46 : decode b_Mod_live 46 = .ok (.imul, 1) := by decide +kernel
theorem d_Mod_live_47 : decode b_Mod_live 47 = .ok (.iload_n 3, 1) := by decide +kernel
theorem d_Mod_live_48 : decode b_Mod_live 48 = .ok (.iadd, 1) := by decide +kernel
theorem d_Mod_live_49 : decode b_Mod_live 49 = .ok (.iconst 0, 1) := by decide +kernel
theorem d_Mod_live_50 : decode b_Mod_live 50 = .ok (.iastore, 1) := by decide +kernel
theorem d_Mod_live_51 : decode b_Mod_live 51 = .ok (.iinc 3 1, 3) := by decide +kernel
theorem d_Mod_live_54 : decode b_Mod_live 54 = .ok (.goto (-21), 3) := by decide +kernel
theorem d_Mod_live_57 : decode b_Mod_live 57 = .ok (.iconst 1, 1) := by decide +kernel
theorem d_Mod_live_58 : decode b_Mod_live 58 = .ok (.ireturn, 1) := by decide +kernel
theorem d_Mod_power_0 : decode b_Mod_power 0 = .ok (.aload_n 0, 1) := by decide +kernel
theorem d_Mod_power_1 : decode b_Mod_power 1 = .ok (.iload_n 1, 1) := by decide +kernel
theorem d_Mod_power_2 : decode b_Mod_power 2 = .ok (.invokevirtual 192, 3) := by decide +kernel
theorem d_Mod_power_5 : decode b_Mod_power 5 = .ok (.ifCond .eq 13, 3) := by decide +kernel
theorem d_Mod_power_8 : decode b_Mod_power 8 = .ok (.aload_n 0, 1) := by decide +kernel
theorem d_Mod_power_9 : decode b_Mod_power 9 = .ok (.getfield 60, 3) := by decide +kernel
theorem d_Mod_power_12 : decode b_Mod_power 12 = .ok (.iload_n 1, 1) := by decide +kernel
theorem d_Mod_power_13 : decode b_Mod_power 13 = .ok (.baload, 1) := by decide +kernel
theorem d_Mod_power_14 : decode b_Mod_power 14 = .ok (.iload_n 2, 1) := by decide +kernel
theorem d_Mod_power_15 : decode b_Mod_power 15 = .ok (.if_icmp .eq 5, 3) := by decide +kernel
theorem d_Mod_power_18 : decode b_Mod_power 18 = .ok (.iconst 0, 1) := by decide +kernel
theorem d_Mod_power_19 : decode b_Mod_power 19 = .ok (.ireturn, 1) := by decide +kernel
theorem d_Mod_power_20 : decode b_Mod_power 20 = .ok (.aload_n 0, 1) := by decide +kernel
theorem d_Mod_power_21 : decode b_Mod_power 21 = .ok (.getfield 60, 3) := by decide +kernel
theorem d_Mod_power_24 : decode b_Mod_power 24 = .ok (.iload_n 1, 1) := by decide +kernel
theorem d_Mod_power_25 : decode b_Mod_power 25 = .ok (.iload_n 2, 1) := by decide +kernel
theorem d_Mod_power_26 : decode b_Mod_power 26 = .ok (.ifCond .ne 7, 3) := by decide +kernel
theorem d_Mod_power_29 : decode b_Mod_power 29 = .ok (.iconst 1, 1) := by decide +kernel
theorem d_Mod_power_30 : decode b_Mod_power 30 = .ok (.goto 4, 3) := by decide +kernel
theorem d_Mod_power_33 : decode b_Mod_power 33 = .ok (.iconst 0, 1) := by decide +kernel
theorem d_Mod_power_34 : decode b_Mod_power 34 = .ok (.bastore, 1) := by decide +kernel
theorem d_Mod_power_35 : decode b_Mod_power 35 = .ok (.iconst 0, 1) := by decide +kernel
theorem d_Mod_power_36 : decode b_Mod_power 36 = .ok (.istore_n 3, 1) := by decide +kernel
theorem d_Mod_power_37 : decode b_Mod_power 37 = .ok (.iload_n 3, 1) := by decide +kernel
theorem d_Mod_power_38 : decode b_Mod_power 38 = .ok (.bipush 10, 2) := by decide +kernel
theorem d_Mod_power_40 : decode b_Mod_power 40 = .ok (.if_icmp .ge 21, 3) := by decide +kernel
theorem d_Mod_power_43 : decode b_Mod_power 43 = .ok (.aload_n 0, 1) := by decide +kernel
theorem d_Mod_power_44 : decode b_Mod_power 44 = .ok (.getfield 66, 3) := by decide +kernel
theorem d_Mod_power_47 : decode b_Mod_power 47 = .ok (.bipush 10, 2) := by decide +kernel
theorem d_Mod_power_49 : decode b_Mod_power 49 = .ok (.iload_n 1, 1) := by decide +kernel
theorem d_Mod_power_50 : decode b_Mod_power 50 = .ok (.imul, 1) := by decide +kernel
theorem d_Mod_power_51 : decode b_Mod_power 51 = .ok (.iload_n 3, 1) := by decide +kernel
theorem d_Mod_power_52 : decode b_Mod_power 52 = .ok (.iadd, 1) := by decide +kernel
theorem d_Mod_power_53 : decode b_Mod_power 53 = .ok (.iconst 0, 1) := by decide +kernel
theorem d_Mod_power_54 : decode b_Mod_power 54 = .ok (.bastore, 1) := by decide +kernel
theorem d_Mod_power_55 : decode b_Mod_power 55 = .ok (.iinc 3 1, 3) := by decide +kernel
theorem d_Mod_power_58 : decode b_Mod_power 58 = .ok (.goto (-21), 3) := by decide +kernel
theorem d_Mod_power_61 : decode b_Mod_power 61 = .ok (.iconst 1, 1) := by decide +kernel
theorem d_Mod_power_62 : decode b_Mod_power 62 = .ok (.ireturn, 1) := by decide +kernel
theorem d_Mod_path_0 : decode b_Mod_path 0 = .ok (.aload_n 0, 1) := by decide +kernel
theorem d_Mod_path_1 : decode b_Mod_path 1 = .ok (.iload_n 1, 1) := by decide +kernel
theorem d_Mod_path_2 : decode b_Mod_path 2 = .ok (.invokevirtual 186, 3) := by decide +kernel
theorem d_Mod_path_5 : decode b_Mod_path 5 = .ok (.ifCond .eq 26, 3) := by decide +kernel
theorem d_Mod_path_8 : decode b_Mod_path 8 = .ok (.aload_n 0, 1) := by decide +kernel
theorem d_Mod_path_9 : decode b_Mod_path 9 = .ok (.iload_n 2, 1) := by decide +kernel
theorem d_Mod_path_10 : decode b_Mod_path 10 = .ok (.invokevirtual 192, 3) := by decide +kernel
theorem d_Mod_path_13 : decode b_Mod_path 13 = .ok (.ifCond .eq 18, 3) := by decide +kernel
theorem d_Mod_path_16 : decode b_Mod_path 16 = .ok (.aload_n 0, 1) := by decide +kernel
theorem d_Mod_path_17 : decode b_Mod_path 17 = .ok (.getfield 42, 3) := by decide +kernel
theorem d_Mod_path_20 : decode b_Mod_path 20 = .ok (.bipush 8, 2) := by decide +kernel
theorem d_Mod_path_22 : decode b_Mod_path 22 = .ok (.iload_n 1, 1) := by decide +kernel
theorem d_Mod_path_23 : decode b_Mod_path 23 = .ok (.imul, 1) := by decide +kernel
theorem d_Mod_path_24 : decode b_Mod_path 24 = .ok (.iload_n 2, 1) := by decide +kernel
theorem d_Mod_path_25 : decode b_Mod_path 25 = .ok (.iadd, 1) := by decide +kernel
theorem d_Mod_path_26 : decode b_Mod_path 26 = .ok (.baload, 1) := by decide +kernel
theorem d_Mod_path_27 : decode b_Mod_path 27 = .ok (.iload_n 3, 1) := by decide +kernel
theorem d_Mod_path_28 : decode b_Mod_path 28 = .ok (.if_icmp .eq 5, 3) := by decide +kernel
theorem d_Mod_path_31 : decode b_Mod_path 31 = .ok (.iconst 0, 1) := by decide +kernel
theorem d_Mod_path_32 : decode b_Mod_path 32 = .ok (.ireturn, 1) := by decide +kernel
theorem d_Mod_path_33 : decode b_Mod_path 33 = .ok (.aload_n 0, 1) := by decide +kernel
theorem d_Mod_path_34 : decode b_Mod_path 34 = .ok (.getfield 42, 3) := by decide +kernel
theorem d_Mod_path_37 : decode b_Mod_path 37 = .ok (.bipush 8, 2) := by decide +kernel
theorem d_Mod_path_39 : decode b_Mod_path 39 = .ok (.iload_n 1, 1) := by decide +kernel
theorem d_Mod_path_40 : decode b_Mod_path 40 = .ok (.imul, 1) := by decide +kernel
theorem d_Mod_path_41 : decode b_Mod_path 41 = .ok (.iload_n 2, 1) := by decide +kernel
theorem d_Mod_path_42 : decode b_Mod_path 42 = .ok (.iadd, 1) := by decide +kernel
theorem d_Mod_path_43 : decode b_Mod_path 43 = .ok (.iload_n 3, 1) := by decide +kernel
theorem d_Mod_path_44 : decode b_Mod_path 44 = .ok (.ifCond .ne 7, 3) := by decide +kernel
theorem d_Mod_path_47 : decode b_Mod_path 47 = .ok (.iconst 1, 1) := by decide +kernel
theorem d_Mod_path_48 : decode b_Mod_path 48 = .ok (.goto 4, 3) := by decide +kernel
theorem d_Mod_path_51 : decode b_Mod_path 51 = .ok (.iconst 0, 1) := by decide +kernel
theorem d_Mod_path_52 : decode b_Mod_path 52 = .ok (.bastore, 1) := by decide +kernel
theorem d_Mod_path_53 : decode b_Mod_path 53 = .ok (.iconst 1, 1) := by decide +kernel
theorem d_Mod_path_54 : decode b_Mod_path 54 = .ok (.ireturn, 1) := by decide +kernel
theorem d_Mod_meets_0 : decode b_Mod_meets 0 = .ok (.aload_n 0, 1) := by decide +kernel
theorem d_Mod_meets_1 : decode b_Mod_meets 1 = .ok (.getfield 60, 3) := by decide +kernel
theorem d_Mod_meets_4 : decode b_Mod_meets 4 = .ok (.iload_n 2, 1) := by decide +kernel
theorem d_Mod_meets_5 : decode b_Mod_meets 5 = .ok (.baload, 1) := by decide +kernel
theorem d_Mod_meets_6 : decode b_Mod_meets 6 = .ok (.ifCond .ne 21, 3) := by decide +kernel
theorem d_Mod_meets_9 : decode b_Mod_meets 9 = .ok (.aload_n 0, 1) := by decide +kernel
theorem d_Mod_meets_10 : decode b_Mod_meets 10 = .ok (.getfield 42, 3) := by decide +kernel
theorem d_Mod_meets_13 : decode b_Mod_meets 13 = .ok (.bipush 8, 2) := by decide +kernel
theorem d_Mod_meets_15 : decode b_Mod_meets 15 = .ok (.iload_n 1, 1) := by decide +kernel
theorem d_Mod_meets_16 : decode b_Mod_meets 16 = .ok (.imul, 1) := by decide +kernel
theorem d_Mod_meets_17 : decode b_Mod_meets 17 = .ok (.iload_n 2, 1) := by decide +kernel
theorem d_Mod_meets_18 : decode b_Mod_meets 18 = .ok (.iadd, 1) := by decide +kernel
theorem d_Mod_meets_19 : decode b_Mod_meets 19 = .ok (.baload, 1) := by decide +kernel
theorem d_Mod_meets_20 : decode b_Mod_meets 20 = .ok (.ifCond .ne 7, 3) := by decide +kernel
theorem d_Mod_meets_23 : decode b_Mod_meets 23 = .ok (.iconst 1, 1) := by decide +kernel
theorem d_Mod_meets_24 : decode b_Mod_meets 24 = .ok (.goto 4, 3) := by decide +kernel
theorem d_Mod_meets_27 : decode b_Mod_meets 27 = .ok (.iconst 0, 1) := by decide +kernel
theorem d_Mod_meets_28 : decode b_Mod_meets 28 = .ok (.ireturn, 1) := by decide +kernel
theorem d_Mod_ask_0 : decode b_Mod_ask 0 = .ok (.bipush 8, 2) := by decide +kernel
theorem d_Mod_ask_2 : decode b_Mod_ask 2 = .ok (.iload_n 1, 1) := by decide +kernel
theorem d_Mod_ask_3 : decode b_Mod_ask 3 = .ok (.imul, 1) := by decide +kernel
theorem d_Mod_ask_4 : decode b_Mod_ask 4 = .ok (.iload_n 2, 1) := by decide +kernel
theorem d_Mod_ask_5 : decode b_Mod_ask 5 = .ok (.iadd, 1) := by decide +kernel
theorem d_Mod_ask_6 : decode b_Mod_ask 6 = .ok (.istore_n 3, 1) := by decide +kernel
theorem d_Mod_ask_7 : decode b_Mod_ask 7 = .ok (.aload_n 0, 1) := by decide +kernel
theorem d_Mod_ask_8 : decode b_Mod_ask 8 = .ok (.iload_n 1, 1) := by decide +kernel
theorem d_Mod_ask_9 : decode b_Mod_ask 9 = .ok (.iload_n 2, 1) := by decide +kernel
theorem d_Mod_ask_10 : decode b_Mod_ask 10 = .ok (.invokevirtual 195, 3) := by decide +kernel
theorem d_Mod_ask_13 : decode b_Mod_ask 13 = .ok (.istore 4, 2) := by decide +kernel
theorem d_Mod_ask_15 : decode b_Mod_ask 15 = .ok (.aload_n 0, 1) := by decide +kernel
theorem d_Mod_ask_16 : decode b_Mod_ask 16 = .ok (.getfield 39, 3) := by decide +kernel
theorem d_Mod_ask_19 : decode b_Mod_ask 19 = .ok (.iload_n 3, 1) := by decide +kernel
theorem d_Mod_ask_20 : decode b_Mod_ask 20 = .ok (.iload 4, 2) := by decide +kernel
theorem d_Mod_ask_22 : decode b_Mod_ask 22 = .ok (.aload_n 0, 1) := by decide +kernel
theorem d_Mod_ask_23 : decode b_Mod_ask 23 = .ok (.getfield 36, 3) := by decide +kernel
theorem d_Mod_ask_26 : decode b_Mod_ask 26 = .ok (.iload_n 3, 1) := by decide +kernel
theorem d_Mod_ask_27 : decode b_Mod_ask 27 = .ok (.baload, 1) := by decide +kernel
theorem d_Mod_ask_28 : decode b_Mod_ask 28 = .ok (.if_icmp .ne 14, 3) := by decide +kernel
theorem d_Mod_ask_31 : decode b_Mod_ask 31 = .ok (.aload_n 0, 1) := by decide +kernel
theorem d_Mod_ask_32 : decode b_Mod_ask 32 = .ok (.getfield 39, 3) := by decide +kernel
theorem d_Mod_ask_35 : decode b_Mod_ask 35 = .ok (.iload_n 3, 1) := by decide +kernel
theorem d_Mod_ask_36 : decode b_Mod_ask 36 = .ok (.iaload, 1) := by decide +kernel
theorem d_Mod_ask_37 : decode b_Mod_ask 37 = .ok (.iconst 1, 1) := by decide +kernel
theorem d_Mod_ask_38 : decode b_Mod_ask 38 = .ok (.iadd, 1) := by decide +kernel
theorem d_Mod_ask_39 : decode b_Mod_ask 39 = .ok (.goto 4, 3) := by decide +kernel
theorem d_Mod_ask_42 : decode b_Mod_ask 42 = .ok (.iconst 0, 1) := by decide +kernel
theorem d_Mod_ask_43 : decode b_Mod_ask 43 = .ok (.iastore, 1) := by decide +kernel
theorem d_Mod_ask_44 : decode b_Mod_ask 44 = .ok (.aload_n 0, 1) := by decide +kernel
theorem d_Mod_ask_45 : decode b_Mod_ask 45 = .ok (.getfield 39, 3) := by decide +kernel
theorem d_Mod_ask_48 : decode b_Mod_ask 48 = .ok (.iload_n 3, 1) := by decide +kernel
theorem d_Mod_ask_49 : decode b_Mod_ask 49 = .ok (.iaload, 1) := by decide +kernel
theorem d_Mod_ask_50 : decode b_Mod_ask 50 = .ok (.iconst 3, 1) := by decide +kernel
theorem d_Mod_ask_51 : decode b_Mod_ask 51 = .ok (.if_icmp .ge 5, 3) := by decide +kernel
theorem d_Mod_ask_54 : decode b_Mod_ask 54 = .ok (.iconst 0, 1) := by decide +kernel
theorem d_Mod_ask_55 : decode b_Mod_ask 55 = .ok (.ireturn, 1) := by decide +kernel
theorem d_Mod_ask_56 : decode b_Mod_ask 56 = .ok (.aload_n 0, 1) := by decide +kernel
theorem d_Mod_ask_57 : decode b_Mod_ask 57 = .ok (.getfield 39, 3) := by decide +kernel
theorem d_Mod_ask_60 : decode b_Mod_ask 60 = .ok (.iload_n 3, 1) := by decide +kernel
theorem d_Mod_ask_61 : decode b_Mod_ask 61 = .ok (.iconst 0, 1) := by decide +kernel
theorem d_Mod_ask_62 : decode b_Mod_ask 62 = .ok (.iastore, 1) := by decide +kernel
theorem d_Mod_ask_63 : decode b_Mod_ask 63 = .ok (.aload_n 0, 1) := by decide +kernel
theorem d_Mod_ask_64 : decode b_Mod_ask 64 = .ok (.getfield 36, 3) := by decide +kernel
theorem d_Mod_ask_67 : decode b_Mod_ask 67 = .ok (.iload_n 3, 1) := by decide +kernel
theorem d_Mod_ask_68 : decode b_Mod_ask 68 = .ok (.aload_n 0, 1) := by decide +kernel
theorem d_Mod_ask_69 : decode b_Mod_ask 69 = .ok (.getfield 36, 3) := by decide +kernel
theorem d_Mod_ask_72 : decode b_Mod_ask 72 = .ok (.iload_n 3, 1) := by decide +kernel
theorem d_Mod_ask_73 : decode b_Mod_ask 73 = .ok (.baload, 1) := by decide +kernel
theorem d_Mod_ask_74 : decode b_Mod_ask 74 = .ok (.ifCond .ne 7, 3) := by decide +kernel
theorem d_Mod_ask_77 : decode b_Mod_ask 77 = .ok (.iconst 1, 1) := by decide +kernel
theorem d_Mod_ask_78 : decode b_Mod_ask 78 = .ok (.goto 4, 3) := by decide +kernel
theorem d_Mod_ask_81 : decode b_Mod_ask 81 = .ok (.iconst 0, 1) := by decide +kernel
theorem d_Mod_ask_82 : decode b_Mod_ask 82 = .ok (.bastore, 1) := by decide +kernel
theorem d_Mod_ask_83 : decode b_Mod_ask 83 = .ok (.iconst 1, 1) := by decide +kernel
theorem d_Mod_ask_84 : decode b_Mod_ask 84 = .ok (.ireturn, 1) := by decide +kernel
