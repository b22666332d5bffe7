theorem d_Arr_fill_0 : decode b_Arr_fill 0 = .ok (.iconst 0, 1) := by decide +kernel
theorem d_Arr_fill_1 : decode b_Arr_fill 1 = .ok (.istore_n 2, 1) := by decide +kernel
theorem d_Arr_fill_2 : decode b_Arr_fill 2 = .ok (.aload_n 0, 1) := by decide +kernel
theorem d_Arr_fill_3 : decode b_Arr_fill 3 = .ok (.arraylength, 1) := by decide +kernel
theorem d_Arr_fill_4 : decode b_Arr_fill 4 = .ok (.istore_n 3, 1) := by decide +kernel
theorem d_Arr_fill_5 : decode b_Arr_fill 5 = .ok (.iload_n 2, 1) := by decide +kernel
theorem d_Arr_fill_6 : decode b_Arr_fill 6 = .ok (.iload_n 3, 1) := by decide +kernel
theorem d_Arr_fill_7 : decode b_Arr_fill 7 = .ok (.if_icmp .ge 13, 3) := by decide +kernel
theorem d_Arr_fill_10 : decode b_Arr_fill 10 = .ok (.aload_n 0, 1) := by decide +kernel
theorem d_Arr_fill_11 : decode b_Arr_fill 11 = .ok (.iload_n 2, 1) := by decide +kernel
theorem d_Arr_fill_12 : decode b_Arr_fill 12 = .ok (.iload_n 1, 1) := by decide +kernel
theorem d_Arr_fill_13 : decode b_Arr_fill 13 = .ok (.iastore, 1) := by decide +kernel
theorem d_Arr_fill_14 : decode b_Arr_fill 14 = .ok (.iinc 2 1, 3) := by decide +kernel
theorem d_Arr_fill_17 : decode b_Arr_fill 17 = .ok (.goto (-12), 3) := by decide +kernel
theorem d_Arr_fill_20 : decode b_Arr_fill 20 = .ok (.return_, 1) := by decide +kernel
theorem d_Tab_serverAt_0 : decode b_Tab_serverAt 0 = .ok (.aload_n 0, 1) := by decide +kernel
theorem d_Tab_serverAt_1 : decode b_Tab_serverAt 1 = .ok (.getfield 21, 3) := by decide +kernel
theorem d_Tab_serverAt_4 : decode b_Tab_serverAt 4 = .ok (.iload_n 1, 1) := by decide +kernel
theorem d_Tab_serverAt_5 : decode b_Tab_serverAt 5 = .ok (.iaload, 1) := by decide +kernel
theorem d_Tab_serverAt_6 : decode b_Tab_serverAt 6 = .ok (.ireturn, 1) := by decide +kernel
theorem d_Tab_placesOf_0 : decode b_Tab_placesOf 0 = .ok (.iconst 0, 1) := by decide +kernel
theorem d_Tab_placesOf_1 : decode b_Tab_placesOf 1 = .ok (.istore_n 2, 1) := by decide +kernel
theorem d_Tab_placesOf_2 : decode b_Tab_placesOf 2 = .ok (.iconst 0, 1) := by decide +kernel
theorem d_Tab_placesOf_3 : decode b_Tab_placesOf 3 = .ok (.istore_n 3, 1) := by decide +kernel
theorem d_Tab_placesOf_4 : decode b_Tab_placesOf 4 = .ok (.iload_n 3, 1) := by decide +kernel
theorem d_Tab_placesOf_5 : decode b_Tab_placesOf 5 = .ok (.aload_n 0, 1) := by decide +kernel
theorem d_Tab_placesOf_6 : decode b_Tab_placesOf 6 = .ok (.getfield 21, 3) := by decide +kernel
theorem d_Tab_placesOf_9 : decode b_Tab_placesOf 9 = .ok (.arraylength, 1) := by decide +kernel
theorem d_Tab_placesOf_10 : decode b_Tab_placesOf 10 = .ok (.if_icmp .ge 22, 3) := by decide +kernel
theorem d_Tab_placesOf_13 : decode b_Tab_placesOf 13 = .ok (.aload_n 0, 1) := by decide +kernel
theorem d_Tab_placesOf_14 : decode b_Tab_placesOf 14 = .ok (.getfield 21, 3) := by decide +kernel
theorem d_Tab_placesOf_17 : decode b_Tab_placesOf 17 = .ok (.iload_n 3, 1) := by decide +kernel
theorem d_Tab_placesOf_18 : decode b_Tab_placesOf 18 = .ok (.iaload, 1) := by decide +kernel
theorem d_Tab_placesOf_19 : decode b_Tab_placesOf 19 = .ok (.iload_n 1, 1) := by decide +kernel
theorem d_Tab_placesOf_20 : decode b_Tab_placesOf 20 = .ok (.if_icmp .ne 6, 3) := by decide +kernel
theorem d_Tab_placesOf_23 : decode b_Tab_placesOf 23 = .ok (.iinc 2 1, 3) := by decide +kernel
theorem d_Tab_placesOf_26 : decode b_Tab_placesOf 26 = .ok (.iinc 3 1, 3) := by decide +kernel
theorem d_Tab_placesOf_29 : decode b_Tab_placesOf 29 = .ok (.goto (-25), 3) := by decide +kernel
theorem d_Tab_placesOf_32 : decode b_Tab_placesOf 32 = .ok (.iload_n 2, 1) := by decide +kernel
theorem d_Tab_placesOf_33 : decode b_Tab_placesOf 33 = .ok (.ireturn, 1) := by decide +kernel
theorem d_Tab_takeFirstFree_0 : decode b_Tab_takeFirstFree 0 = .ok (.aload_n 0, 1) := by decide +kernel
theorem d_Tab_takeFirstFree_1 : decode b_Tab_takeFirstFree 1 = .ok (.getfield 28, 3) := by decide +kernel
theorem d_Tab_takeFirstFree_4 : decode b_Tab_takeFirstFree 4 = .ok (.iload_n 1, 1) := by decide +kernel
theorem d_Tab_takeFirstFree_5 : decode b_Tab_takeFirstFree 5 = .ok (.iaload, 1) := by decide +kernel
theorem d_Tab_takeFirstFree_6 : decode b_Tab_takeFirstFree 6 = .ok (.istore_n 2, 1) := by decide +kernel
theorem d_Tab_takeFirstFree_7 : decode b_Tab_takeFirstFree 7 = .ok (.iload_n 2, 1) := by decide +kernel
theorem d_Tab_takeFirstFree_8 : decode b_Tab_takeFirstFree 8 = .ok (.aload_n 0, 1) := by decide +kernel
theorem d_Tab_takeFirstFree_9 : decode b_Tab_takeFirstFree 9 = .ok (.getfield 21, 3) := by decide +kernel
theorem d_Tab_takeFirstFree_12 : decode b_Tab_takeFirstFree 12 = .ok (.arraylength, 1) := by decide +kernel
theorem d_Tab_takeFirstFree_13 : decode b_Tab_takeFirstFree 13 = .ok (.if_icmp .ge 27, 3) := by decide +kernel
theorem d_Tab_takeFirstFree_16 : decode b_Tab_takeFirstFree 16 = .ok (.aload_n 0, 1) := by decide +kernel
theorem d_Tab_takeFirstFree_17 : decode b_Tab_takeFirstFree 17 = .ok (.getfield 21, 3) := by decide +kernel
theorem d_Tab_takeFirstFree_20 : decode b_Tab_takeFirstFree 20 = .ok (.aload_n 0, 1) := by decide +kernel
theorem d_Tab_takeFirstFree_21 : decode b_Tab_takeFirstFree 21 = .ok (.getfield 9, 3) := by decide +kernel
theorem d_Tab_takeFirstFree_24 : decode b_Tab_takeFirstFree 24 = .ok (.iload_n 1, 1) := by decide +kernel
theorem d_Tab_takeFirstFree_25 : decode b_Tab_takeFirstFree 25 = .ok (.iload_n 2, 1) := by decide +kernel
theorem d_Tab_takeFirstFree_26 : decode b_Tab_takeFirstFree 26 = .ok (.invokevirtual 59, 3) := by decide +kernel
theorem d_Tab_takeFirstFree_29 : decode b_Tab_takeFirstFree 29 = .ok (.iaload, 1) := by decide +kernel
theorem d_Tab_takeFirstFree_30 : decode b_Tab_takeFirstFree 30 = .ok (.iconst (-1), 1) := by decide +kernel
theorem d_Tab_takeFirstFree_31 : decode b_Tab_takeFirstFree 31 = .ok (.if_icmp .eq 9, 3) := by decide +kernel
theorem d_Tab_takeFirstFree_34 : decode b_Tab_takeFirstFree 34 = .ok (.iinc 2 1, 3) := by decide +kernel
theorem d_Tab_takeFirstFree_37 : decode b_Tab_takeFirstFree 37 = .ok (.goto (-30), 3) := by decide +kernel
theorem d_Tab_takeFirstFree_40 : decode b_Tab_takeFirstFree 40 = .ok (.aload_n 0, 1) := by decide +kernel
theorem d_Tab_takeFirstFree_41 : decode b_Tab_takeFirstFree 41 = .ok (.getfield 28, 3) := by decide +kernel
theorem d_Tab_takeFirstFree_44 : decode b_Tab_takeFirstFree 44 = .ok (.iload_n 1, 1) := by decide +kernel
theorem d_Tab_takeFirstFree_45 : decode b_Tab_takeFirstFree 45 = .ok (.iload_n 2, 1) := by decide +kernel
theorem d_Tab_takeFirstFree_46 : decode b_Tab_takeFirstFree 46 = .ok (.iconst 1, 1) := by decide +kernel
theorem d_Tab_takeFirstFree_47 : decode b_Tab_takeFirstFree 47 = .ok (.iadd, 1) := by decide +kernel
theorem d_Tab_takeFirstFree_48 : decode b_Tab_takeFirstFree 48 = .ok (.iastore, 1) := by decide +kernel
theorem d_Tab_takeFirstFree_49 : decode b_Tab_takeFirstFree 49 = .ok (.aload_n 0, 1) := by decide +kernel
theorem d_Tab_takeFirstFree_50 : decode b_Tab_takeFirstFree 50 = .ok (.getfield 9, 3) := by decide +kernel
theorem d_Tab_takeFirstFree_53 : decode b_Tab_takeFirstFree 53 = .ok (.iload_n 1, 1) := by decide +kernel
theorem d_Tab_takeFirstFree_54 : decode b_Tab_takeFirstFree 54 = .ok (.iload_n 2, 1) := by decide +kernel
theorem d_Tab_takeFirstFree_55 : decode b_Tab_takeFirstFree 55 = .ok (.invokevirtual 59, 3) := by decide +kernel
theorem d_Tab_takeFirstFree_58 : decode b_Tab_takeFirstFree 58 = .ok (.ireturn, 1) := by decide +kernel
theorem d_Tab_fill_0 : decode b_Tab_fill 0 = .ok (.aload_n 0, 1) := by decide +kernel
theorem d_Tab_fill_1 : decode b_Tab_fill 1 = .ok (.getfield 21, 3) := by decide +kernel
theorem d_Tab_fill_4 : decode b_Tab_fill 4 = .ok (.iconst (-1), 1) := by decide +kernel
theorem d_Tab_fill_5 : decode b_Tab_fill 5 = .ok (.invokestatic 44, 3) := by decide +kernel
theorem d_Tab_fill_8 : decode b_Tab_fill 8 = .ok (.aload_n 0, 1) := by decide +kernel
theorem d_Tab_fill_9 : decode b_Tab_fill 9 = .ok (.getfield 28, 3) := by decide +kernel
theorem d_Tab_fill_12 : decode b_Tab_fill 12 = .ok (.iconst 0, 1) := by decide +kernel
theorem d_Tab_fill_13 : decode b_Tab_fill 13 = .ok (.invokestatic 44, 3) := by decide +kernel
theorem d_Tab_fill_16 : decode b_Tab_fill 16 = .ok (.iconst 0, 1) := by decide +kernel
theorem d_Tab_fill_17 : decode b_Tab_fill 17 = .ok (.istore_n 2, 1) := by decide +kernel
theorem d_Tab_fill_18 : decode b_Tab_fill 18 = .ok (.iconst 0, 1) := by decide +kernel
theorem d_Tab_fill_19 : decode b_Tab_fill 19 = .ok (.istore_n 3, 1) := by decide +kernel
theorem d_Tab_fill_20 : decode b_Tab_fill 20 = .ok (.iload_n 3, 1) := by decide +kernel
theorem d_Tab_fill_21 : decode b_Tab_fill 21 = .ok (.aload_n 0, 1) := by decide +kernel
theorem d_Tab_fill_22 : decode b_Tab_fill 22 = .ok (.getfield 21, 3) := by decide +kernel
theorem d_Tab_fill_25 : decode b_Tab_fill 25 = .ok (.arraylength, 1) := by decide +kernel
theorem d_Tab_fill_26 : decode b_Tab_fill 26 = .ok (.if_icmp .ge 62, 3) := by decide +kernel
theorem d_Tab_fill_29 : decode b_Tab_fill 29 = .ok (.iconst 0, 1) := by decide +kernel
theorem d_Tab_fill_30 : decode b_Tab_fill 30 = .ok (.istore 4, 2) := by decide +kernel
theorem d_Tab_fill_32 : decode b_Tab_fill 32 = .ok (.iload 4, 2) := by decide +kernel
theorem d_Tab_fill_34 : decode b_Tab_fill 34 = .ok (.aload_n 0, 1) := by decide +kernel
theorem d_Tab_fill_35 : decode b_Tab_fill 35 = .ok (.getfield 28, 3) := by decide +kernel
theorem d_Tab_fill_38 : decode b_Tab_fill 38 = .ok (.arraylength, 1) := by decide +kernel
theorem d_Tab_fill_39 : decode b_Tab_fill 39 = .ok (.if_icmp .ge 43, 3) := by decide +kernel
theorem d_Tab_fill_42 : decode b_Tab_fill 42 = .ok (.aload_n 1, 1) := by decide +kernel
theorem d_Tab_fill_43 : decode b_Tab_fill 43 = .ok (.iload 4, 2) := by decide +kernel
theorem d_Tab_fill_45 : decode b_Tab_fill 45 = .ok (.invokevirtual 49, 3) := by decide +kernel
theorem d_Tab_fill_48 : decode b_Tab_fill 48 = .ok (.ifCond .eq 28, 3) := by decide +kernel
theorem d_Tab_fill_51 : decode b_Tab_fill 51 = .ok (.iload_n 2, 1) := by decide +kernel
theorem d_Tab_fill_52 : decode b_Tab_fill 52 = .ok (.aload_n 0, 1) := by decide +kernel
theorem d_Tab_fill_53 : decode b_Tab_fill 53 = .ok (.getfield 21, 3) := by decide +kernel
theorem d_Tab_fill_56 : decode b_Tab_fill 56 = .ok (.arraylength, 1) := by decide +kernel
theorem d_Tab_fill_57 : decode b_Tab_fill 57 = .ok (.if_icmp .ge 19, 3) := by decide +kernel
theorem d_Tab_fill_60 : decode b_Tab_fill 60 = .ok (.aload_n 0, 1) := by decide +kernel
theorem d_Tab_fill_61 : decode b_Tab_fill 61 = .ok (.getfield 21, 3) := by decide +kernel
theorem d_Tab_fill_64 : decode b_Tab_fill 64 = .ok (.aload_n 0, 1) := by decide +kernel
theorem d_Tab_fill_65 : decode b_Tab_fill 65 = .ok (.iload 4, 2) := by decide +kernel
theorem d_Tab_fill_67 : decode b_Tab_fill 67 = .ok (.invokevirtual 55, 3) := by decide +kernel
theorem d_Tab_fill_70 : decode b_Tab_fill 70 = .ok (.iload 4, 2) := by decide +kernel
theorem d_Tab_fill_72 : decode b_Tab_fill 72 = .ok (.iastore, 1) := by decide +kernel
theorem d_Tab_fill_73 : decode b_Tab_fill 73 = .ok (.iinc 2 1, 3) := by decide +kernel
theorem d_Tab_fill_76 : decode b_Tab_fill 76 = .ok (.iinc 4 1, 3) := by decide +kernel
theorem d_Tab_fill_79 : decode b_Tab_fill 79 = .ok (.goto (-47), 3) := by decide +kernel
theorem d_Tab_fill_82 : decode b_Tab_fill 82 = .ok (.iinc 3 1, 3) := by decide +kernel
theorem d_Tab_fill_85 : decode b_Tab_fill 85 = .ok (.goto (-65), 3) := by decide +kernel
theorem d_Tab_fill_88 : decode b_Tab_fill 88 = .ok (.return_, 1) := by decide +kernel
theorem d_Tab_fillAnew_0 : decode b_Tab_fillAnew 0 = .ok (.aload_n 0, 1) := by decide +kernel
theorem d_Tab_fillAnew_1 : decode b_Tab_fillAnew 1 = .ok (.getfield 21, 3) := by decide +kernel
theorem d_Tab_fillAnew_4 : decode b_Tab_fillAnew 4 = .ok (.iconst 0, 1) := by decide +kernel
theorem d_Tab_fillAnew_5 : decode b_Tab_fillAnew 5 = .ok (.aload_n 0, 1) := by decide +kernel
theorem d_Tab_fillAnew_6 : decode b_Tab_fillAnew 6 = .ok (.getfield 25, 3) := by decide +kernel
theorem d_Tab_fillAnew_9 : decode b_Tab_fillAnew 9 = .ok (.iconst 0, 1) := by decide +kernel
theorem d_Tab_fillAnew_10 : decode b_Tab_fillAnew 10 = .ok (.aload_n 0, 1) := by decide +kernel
theorem d_Tab_fillAnew_11 : decode b_Tab_fillAnew 11 = .ok (.getfield 21, 3) := by decide +kernel
theorem d_Tab_fillAnew_14 : decode b_Tab_fillAnew 14 = .ok (.arraylength, 1) := by decide +kernel
theorem d_Tab_fillAnew_15 : decode b_Tab_fillAnew 15 = .ok (.invokestatic 31, 3) := by decide +kernel
theorem d_Tab_fillAnew_18 : decode b_Tab_fillAnew 18 = .ok (.aload_n 0, 1) := by decide +kernel
theorem d_Tab_fillAnew_19 : decode b_Tab_fillAnew 19 = .ok (.aload_n 1, 1) := by decide +kernel
theorem d_Tab_fillAnew_20 : decode b_Tab_fillAnew 20 = .ok (.invokevirtual 37, 3) := by decide +kernel
theorem d_Tab_fillAnew_23 : decode b_Tab_fillAnew 23 = .ok (.aload_n 0, 1) := by decide +kernel
theorem d_Tab_fillAnew_24 : decode b_Tab_fillAnew 24 = .ok (.iconst 0, 1) := by decide +kernel
theorem d_Tab_fillAnew_25 : decode b_Tab_fillAnew 25 = .ok (.putfield 41, 3) := by decide +kernel
theorem d_Tab_fillAnew_28 : decode b_Tab_fillAnew 28 = .ok (.iconst 0, 1) := by decide +kernel
theorem d_Tab_fillAnew_29 : decode b_Tab_fillAnew 29 = .ok (.istore_n 2, 1) := by decide +kernel
theorem d_Tab_fillAnew_30 : decode b_Tab_fillAnew 30 = .ok (.iload_n 2, 1) := by decide +kernel
theorem d_Tab_fillAnew_31 : decode b_Tab_fillAnew 31 = .ok (.aload_n 0, 1) := by decide +kernel
theorem d_Tab_fillAnew_32 : decode b_Tab_fillAnew 32 = .ok (.getfield 21, 3) := by decide +kernel
theorem d_Tab_fillAnew_35 : decode b_Tab_fillAnew 35 = .ok (.arraylength, 1) := by decide +kernel
theorem d_Tab_fillAnew_36 : decode b_Tab_fillAnew 36 = .ok (.if_icmp .ge 34, 3) := by decide +kernel
theorem d_Tab_fillAnew_39 : decode b_Tab_fillAnew 39 = .ok (.aload_n 0, 1) := by decide +kernel
theorem d_Tab_fillAnew_40 : decode b_Tab_fillAnew 40 = .ok (.getfield 21, 3) := by decide +kernel
theorem d_Tab_fillAnew_43 : decode b_Tab_fillAnew 43 = .ok (.iload_n 2, 1) := by decide +kernel
theorem d_Tab_fillAnew_44 : decode b_Tab_fillAnew 44 = .ok (.iaload, 1) := by decide +kernel
theorem d_Tab_fillAnew_45 : decode b_Tab_fillAnew 45 = .ok (.aload_n 0, 1) := by decide +kernel
theorem d_Tab_fillAnew_46 : decode b_Tab_fillAnew 46 = .ok (.getfield 25, 3) := by decide +kernel
theorem d_Tab_fillAnew_49 : decode b_Tab_fillAnew 49 = .ok (.iload_n 2, 1) := by decide +kernel
theorem d_Tab_fillAnew_50 : decode b_Tab_fillAnew 50 = .ok (.iaload, 1) := by decide +kernel
theorem d_Tab_fillAnew_51 : decode b_Tab_fillAnew 51 = .ok (.if_icmp .eq 13, 3) := by decide +kernel
theorem d_Tab_fillAnew_54 : decode b_Tab_fillAnew 54 = .ok (.aload_n 0, 1) := by decide +kernel
theorem d_Tab_fillAnew_55 : decode b_Tab_fillAnew 55 = .ok (.dup, 1) := by decide +kernel
theorem d_Tab_fillAnew_56 : decode b_Tab_fillAnew 56 = .ok (.getfield 41, 3) := by decide +kernel
theorem d_Tab_fillAnew_59 : decode b_Tab_fillAnew 59 = .ok (.iconst 1, 1) := by decide +kernel
theorem d_Tab_fillAnew_60 : decode b_Tab_fillAnew 60 = .ok (.iadd, 1) := by decide +kernel
theorem d_Tab_fillAnew_61 : decode b_Tab_fillAnew 61 = .ok (.putfield 41, 3) := by decide +kernel
theorem d_Tab_fillAnew_64 : decode b_Tab_fillAnew 64 = .ok (.iinc 2 1, 3) := by decide +kernel
theorem d_Tab_fillAnew_67 : decode b_Tab_fillAnew 67 = .ok (.goto (-37), 3) := by decide +kernel
theorem d_Tab_fillAnew_70 : decode b_Tab_fillAnew 70 = .ok (.return_, 1) := by decide +kernel
theorem d_Bal_setLive_0 : decode b_Bal_setLive 0 = .ok (.aload_n 0, 1) := by decide +kernel
theorem d_Bal_setLive_1 : decode b_Bal_setLive 1 = .ok (.getfield 28, 3) := by decide +kernel
theorem d_Bal_setLive_4 : decode b_Bal_setLive 4 = .ok (.iload_n 1, 1) := by decide +kernel
theorem d_Bal_setLive_5 : decode b_Bal_setLive 5 = .ok (.if_icmp .ne 5, 3) := by decide +kernel
theorem d_Bal_setLive_8 : decode b_Bal_setLive 8 = .ok (.iconst 0, 1) := by decide +kernel
theorem d_Bal_setLive_9 : decode b_Bal_setLive 9 = .ok (.ireturn, 1) := by decide +kernel
theorem d_Bal_setLive_10 : decode b_Bal_setLive 10 = .ok (.aload_n 0, 1) := by decide +kernel
theorem d_Bal_setLive_11 : decode b_Bal_setLive 11 = .ok (.iload_n 1, 1) := by decide +kernel
theorem d_Bal_setLive_12 : decode b_Bal_setLive 12 = .ok (.putfield 28, 3) := by decide +kernel
theorem d_Bal_setLive_15 : decode b_Bal_setLive 15 = .ok (.iload_n 1, 1) := by decide +kernel
theorem d_Bal_setLive_16 : decode b_Bal_setLive 16 = .ok (.ifCond .ne 13, 3) := by decide +kernel
theorem d_Bal_setLive_19 : decode b_Bal_setLive 19 = .ok (.aload_n 0, 1) := by decide +kernel
theorem d_Bal_setLive_20 : decode b_Bal_setLive 20 = .ok (.getfield 12, 3) := by decide +kernel
theorem d_Bal_setLive_23 : decode b_Bal_setLive 23 = .ok (.getfield 56, 3) := by decide +kernel
theorem d_Bal_setLive_26 : decode b_Bal_setLive 26 = .ok (.invokevirtual 60, 3) := by decide +kernel
theorem d_Bal_setLive_29 : decode b_Bal_setLive 29 = .ok (.iconst 1, 1) := by decide +kernel
theorem d_Bal_setLive_30 : decode b_Bal_setLive 30 = .ok (.ireturn, 1) := by decide +kernel
theorem d_Bal_setPath_0 : decode b_Bal_setPath 0 = .ok (.aload_n 0, 1) := by decide +kernel
theorem d_Bal_setPath_1 : decode b_Bal_setPath 1 = .ok (.getfield 48, 3) := by decide +kernel
theorem d_Bal_setPath_4 : decode b_Bal_setPath 4 = .ok (.iload_n 1, 1) := by decide +kernel
theorem d_Bal_setPath_5 : decode b_Bal_setPath 5 = .ok (.baload, 1) := by decide +kernel
theorem d_Bal_setPath_6 : decode b_Bal_setPath 6 = .ok (.iload_n 2, 1) := by decide +kernel
theorem d_Bal_setPath_7 : decode b_Bal_setPath 7 = .ok (.if_icmp .ne 7, 3) := by decide +kernel
theorem d_Bal_setPath_10 : decode b_Bal_setPath 10 = .ok (.iconst 1, 1) := by decide +kernel
theorem d_Bal_setPath_11 : decode b_Bal_setPath 11 = .ok (.goto 4, 3) := by decide +kernel
theorem d_Bal_setPath_14 : decode b_Bal_setPath 14 = .ok (.iconst 0, 1) := by decide +kernel
theorem d_Bal_setPath_15 : decode b_Bal_setPath 15 = .ok (.istore_n 3, 1) := by decide +kernel
theorem d_Bal_setPath_16 : decode b_Bal_setPath 16 = .ok (.aload_n 0, 1) := by decide +kernel
theorem d_Bal_setPath_17 : decode b_Bal_setPath 17 = .ok (.getfield 48, 3) := by decide +kernel
theorem d_Bal_setPath_20 : decode b_Bal_setPath 20 = .ok (.iload_n 1, 1) := by decide +kernel
theorem d_Bal_setPath_21 : decode b_Bal_setPath 21 = .ok (.iload_n 2, 1) := by decide +kernel
theorem d_Bal_setPath_22 : decode b_Bal_setPath 22 = .ok (.ifCond .ne 7, 3) := by decide +kernel
theorem d_Bal_setPath_25 : decode b_Bal_setPath 25 = .ok (.iconst 1, 1) := by decide +kernel
theorem d_Bal_setPath_26 : decode b_Bal_setPath 26 = .ok (.goto 4, 3) := by decide +kernel
theorem d_Bal_setPath_29 : decode b_Bal_setPath 29 = .ok (.iconst 0, 1) := by decide +kernel
theorem d_Bal_setPath_30 : decode b_Bal_setPath 30 = .ok (.bastore, 1) := by decide +kernel
theorem d_Bal_setPath_31 : decode b_Bal_setPath 31 = .ok (.iload_n 3, 1) := by decide +kernel
theorem d_Bal_setPath_32 : decode b_Bal_setPath 32 = .ok (.ireturn, 1) := by decide +kernel
theorem d_Bal_reaches_0 : decode b_Bal_reaches 0 = .ok (.aload_n 2, 1) := by decide +kernel
theorem d_Bal_reaches_1 : decode b_Bal_reaches 1 = .ok (.getfield 65, 3) := by decide +kernel
theorem d_Bal_reaches_4 : decode b_Bal_reaches 4 = .ok (.ifCond .eq 16, 3) := by decide +kernel
theorem d_Bal_reaches_7 : decode b_Bal_reaches 7 = .ok (.aload_n 0, 1) := by decide +kernel
theorem d_Bal_reaches_8 : decode b_Bal_reaches 8 = .ok (.getfield 48, 3) := by decide +kernel
theorem d_Bal_reaches_11 : decode b_Bal_reaches 11 = .ok (.iload_n 1, 1) := by decide +kernel
theorem d_Bal_reaches_12 : decode b_Bal_reaches 12 = .ok (.baload, 1) := by decide +kernel
theorem d_Bal_reaches_13 : decode b_Bal_reaches 13 = .ok (.ifCond .ne 7, 3) := by decide +kernel
theorem d_Bal_reaches_16 : decode b_Bal_reaches 16 = .ok (.iconst 1, 1) := by decide +kernel
theorem d_Bal_reaches_17 : decode b_Bal_reaches 17 = .ok (.goto 4, 3) := by decide +kernel
theorem d_Bal_reaches_20 : decode b_Bal_reaches 20 = .ok (.iconst 0, 1) := by decide +kernel
theorem d_Bal_reaches_21 : decode b_Bal_reaches 21 = .ok (.ireturn, 1) := by decide +kernel
theorem d_Bal_serverFor_0 : decode b_Bal_serverFor 0 = .ok (.aload_n 0, 1) := by decide +kernel
theorem d_Bal_serverFor_1 : decode b_Bal_serverFor 1 = .ok (.getfield 12, 3) := by decide +kernel
theorem d_Bal_serverFor_4 : decode b_Bal_serverFor 4 = .ok (.iload_n 1, 1) := by decide +kernel
theorem d_Bal_serverFor_5 : decode b_Bal_serverFor 5 = .ok (.iload_n 2, 1) := by decide +kernel
theorem d_Bal_serverFor_6 : decode b_Bal_serverFor 6 = .ok (.invokevirtual 70, 3) := by decide +kernel
theorem d_Bal_serverFor_9 : decode b_Bal_serverFor 9 = .ok (.istore 4, 2) := by decide +kernel
theorem d_Bal_serverFor_11 : decode b_Bal_serverFor 11 = .ok (.iload 4, 2) := by decide +kernel
theorem d_Bal_serverFor_13 : decode b_Bal_serverFor 13 = .ok (.iconst (-1), 1) := by decide +kernel
theorem d_Bal_serverFor_14 : decode b_Bal_serverFor 14 = .ok (.if_icmp .ne 14, 3) := by decide +kernel
theorem d_Bal_serverFor_17 : decode b_Bal_serverFor 17 = .ok (.aload_n 0, 1) := by decide +kernel
theorem d_Bal_serverFor_18 : decode b_Bal_serverFor 18 = .ok (.getfield 44, 3) := by decide +kernel
theorem d_Bal_serverFor_21 : decode b_Bal_serverFor 21 = .ok (.iload_n 3, 1) := by decide +kernel
theorem d_Bal_serverFor_22 : decode b_Bal_serverFor 22 = .ok (.invokevirtual 74, 3) := by decide +kernel
theorem d_Bal_serverFor_25 : decode b_Bal_serverFor 25 = .ok (.goto 5, 3) := by decide +kernel
theorem d_Bal_serverFor_28 : decode b_Bal_serverFor 28 = .ok (.iload 4, 2) := by decide +kernel
theorem d_Bal_serverFor_30 : decode b_Bal_serverFor 30 = .ok (.ireturn, 1) := by decide +kernel
