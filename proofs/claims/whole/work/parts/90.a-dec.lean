theorem d_PS_isKind_0 : decode b_PS_isKind 0 = .ok (.iload_n 0, 1) := by decide +kernel
theorem d_PS_isKind_1 : decode b_PS_isKind 1 = .ok (.iconst 2, 1) := by decide +kernel
theorem d_PS_isKind_2 : decode b_PS_isKind 2 = .ok (.if_icmp .eq 20, 3) := by decide +kernel
theorem d_PS_isKind_5 : decode b_PS_isKind 5 = .ok (.iload_n 0, 1) := by decide +kernel
theorem d_PS_isKind_6 : decode b_PS_isKind 6 = .ok (.bipush 16, 2) := by decide +kernel
theorem d_PS_isKind_8 : decode b_PS_isKind 8 = .ok (.if_icmp .eq 14, 3) := by decide +kernel
theorem d_PS_isKind_11 : decode b_PS_isKind 11 = .ok (.iload_n 0, 1) := by decide +kernel
theorem d_PS_isKind_12 : decode b_PS_isKind 12 = .ok (.bipush 17, 2) := by decide +kernel
theorem d_PS_isKind_14 : decode b_PS_isKind 14 = .ok (.if_icmp .eq 8, 3) := by decide +kernel
theorem d_PS_isKind_17 : decode b_PS_isKind 17 = .ok (.iload_n 0, 1) := by decide +kernel
theorem d_PS_isKind_18 : decode b_PS_isKind 18 = .ok (.iconst 4, 1) := by decide +kernel
theorem d_PS_isKind_19 : decode b_PS_isKind 19 = .ok (.if_icmp .ne 7, 3) := by decide +kernel
theorem d_PS_isKind_22 : decode b_PS_isKind 22 = .ok (.iconst 1, 1) := by decide +kernel
theorem d_PS_isKind_23 : decode b_PS_isKind 23 = .ok (.goto 4, 3) := by decide +kernel
theorem d_PS_isKind_26 : decode b_PS_isKind 26 = .ok (.iconst 0, 1) := by decide +kernel
theorem d_PS_isKind_27 : decode b_PS_isKind 27 = .ok (.ireturn, 1) := by decide +kernel
theorem d_PS_joined_0 : decode b_PS_joined 0 = .ok (.iload_n 0, 1) := by decide +kernel
theorem d_PS_joined_1 : decode b_PS_joined 1 = .ok (.i2l, 1) := by decide +kernel
theorem d_PS_joined_2 : decode b_PS_joined 2 = .ok (.bipush 32, 2) := by decide +kernel
theorem d_PS_joined_4 : decode b_PS_joined 4 = .ok (.lshl, 1) := by decide +kernel
theorem d_PS_joined_5 : decode b_PS_joined 5 = .ok (.iload_n 1, 1) := by decide +kernel
theorem d_PS_joined_6 : decode b_PS_joined 6 = .ok (.i2l, 1) := by decide +kernel
theorem d_PS_joined_7 : decode b_PS_joined 7 = .ok (.ldc2_w 194, 3) := by decide +kernel
theorem d_PS_joined_10 : decode b_PS_joined 10 = .ok (.land, 1) := by decide +kernel
theorem d_PS_joined_11 : decode b_PS_joined 11 = .ok (.lor, 1) := by decide +kernel
theorem d_PS_joined_12 : decode b_PS_joined 12 = .ok (.lreturn, 1) := by decide +kernel
theorem d_PS_clamp_0 : decode b_PS_clamp 0 = .ok (.iload_n 1, 1) := by decide +kernel
theorem d_PS_clamp_1 : decode b_PS_clamp 1 = .ok (.iload_n 2, 1) := by decide +kernel
theorem d_PS_clamp_2 : decode b_PS_clamp 2 = .ok (.iload_n 0, 1) := by decide +kernel
theorem d_PS_clamp_3 : decode b_PS_clamp 3 = .ok (.invokestatic 233, 3) := by decide +kernel
theorem d_PS_clamp_6 : decode b_PS_clamp 6 = .ok (.invokestatic 238, 3) := by decide +kernel
theorem d_PS_clamp_9 : decode b_PS_clamp 9 = .ok (.ireturn, 1) := by decide +kernel
theorem d_PS_isPrime_0 : decode b_PS_isPrime 0 = .ok (.iconst 2, 1) := by decide +kernel
theorem d_PS_isPrime_1 : decode b_PS_isPrime 1 = .ok (.istore_n 1, 1) := by decide +kernel
theorem d_PS_isPrime_2 : decode b_PS_isPrime 2 = .ok (.iload_n 1, 1) := by decide +kernel
theorem d_PS_isPrime_3 : decode b_PS_isPrime 3 = .ok (.iload_n 0, 1) := by decide +kernel
theorem d_PS_isPrime_4 : decode b_PS_isPrime 4 = .ok (.if_icmp .ge 17, 3) := by decide +kernel
theorem d_PS_isPrime_7 : decode b_PS_isPrime 7 = .ok (.iload_n 0, 1) := by decide +kernel
theorem d_PS_isPrime_8 : decode b_PS_isPrime 8 = .ok (.iload_n 1, 1) := by decide +kernel
theorem d_PS_isPrime_9 : decode b_PS_isPrime 9 = .ok (.irem, 1) := by decide +kernel
theorem d_PS_isPrime_10 : decode b_PS_isPrime 10 = .ok (.ifCond .ne 5, 3) := by decide +kernel
theorem d_PS_isPrime_13 : decode b_PS_isPrime 13 = .ok (.iconst 0, 1) := by decide +kernel
theorem d_PS_isPrime_14 : decode b_PS_isPrime 14 = .ok (.ireturn, 1) := by decide +kernel
theorem d_PS_isPrime_15 : decode b_PS_isPrime 15 = .ok (.iinc 1 1, 3) := by decide +kernel
theorem d_PS_isPrime_18 : decode b_PS_isPrime 18 = .ok (.goto (-16), 3) := by decide +kernel
theorem d_PS_isPrime_21 : decode b_PS_isPrime 21 = .ok (.iconst 1, 1) := by decide +kernel
theorem d_PS_isPrime_22 : decode b_PS_isPrime 22 = .ok (.ireturn, 1) := by decide +kernel
theorem d_PS_primeFrom_0 : decode b_PS_primeFrom 0 = .ok (.iload_n 0, 1) := by decide +kernel
theorem d_PS_primeFrom_1 : decode b_PS_primeFrom 1 = .ok (.istore_n 1, 1) := by decide +kernel
theorem d_PS_primeFrom_2 : decode b_PS_primeFrom 2 = .ok (.iload_n 1, 1) := by decide +kernel
theorem d_PS_primeFrom_3 : decode b_PS_primeFrom 3 = .ok (.bipush 101, 2) := by decide +kernel
theorem d_PS_primeFrom_5 : decode b_PS_primeFrom 5 = .ok (.if_icmp .ge 18, 3) := by decide +kernel
theorem d_PS_primeFrom_8 : decode b_PS_primeFrom 8 = .ok (.iload_n 1, 1) := by decide +kernel
theorem d_PS_primeFrom_9 : decode b_PS_primeFrom 9 = .ok (.invokestatic 241, 3) := by decide +kernel
theorem d_PS_primeFrom_12 : decode b_PS_primeFrom 12 = .ok (.ifCond .eq 5, 3) := by decide +kernel
theorem d_PS_primeFrom_15 : decode b_PS_primeFrom 15 = .ok (.iload_n 1, 1) := by decide +kernel
theorem d_PS_primeFrom_16 : decode b_PS_primeFrom 16 = .ok (.ireturn, 1) := by decide +kernel
theorem d_PS_primeFrom_17 : decode b_PS_primeFrom 17 = .ok (.iinc 1 1, 3) := by decide +kernel
theorem d_PS_primeFrom_20 : decode b_PS_primeFrom 20 = .ok (.goto (-18), 3) := by decide +kernel
theorem d_PS_primeFrom_23 : decode b_PS_primeFrom 23 = .ok (.bipush 101, 2) := by decide +kernel
theorem d_PS_primeFrom_25 : decode b_PS_primeFrom 25 = .ok (.ireturn, 1) := by decide +kernel
theorem d_PS_faultOf_0 : decode b_PS_faultOf 0 = .ok (.iload_n 0, 1) := by decide +kernel
theorem d_PS_faultOf_1 : decode b_PS_faultOf 1 = .ok (.bipush 24, 2) := by decide +kernel
theorem d_PS_faultOf_3 : decode b_PS_faultOf 3 = .ok (.iushr, 1) := by decide +kernel
theorem d_PS_faultOf_4 : decode b_PS_faultOf 4 = .ok (.bipush 69, 2) := by decide +kernel
theorem d_PS_faultOf_6 : decode b_PS_faultOf 6 = .ok (.if_icmp .eq 5, 3) := by decide +kernel
theorem d_PS_faultOf_9 : decode b_PS_faultOf 9 = .ok (.iconst 1, 1) := by decide +kernel
theorem d_PS_faultOf_10 : decode b_PS_faultOf 10 = .ok (.ireturn, 1) := by decide +kernel
theorem d_PS_faultOf_11 : decode b_PS_faultOf 11 = .ok (.iload_n 0, 1) := by decide +kernel
theorem d_PS_faultOf_12 : decode b_PS_faultOf 12 = .ok (.iload_n 1, 1) := by decide +kernel
theorem d_PS_faultOf_13 : decode b_PS_faultOf 13 = .ok (.iload_n 2, 1) := by decide +kernel
theorem d_PS_faultOf_14 : decode b_PS_faultOf 14 = .ok (.iload_n 3, 1) := by decide +kernel
theorem d_PS_faultOf_15 : decode b_PS_faultOf 15 = .ok (.iload 4, 2) := by decide +kernel
theorem d_PS_faultOf_17 : decode b_PS_faultOf 17 = .ok (.invokestatic 228, 3) := by decide +kernel
theorem d_PS_faultOf_20 : decode b_PS_faultOf 20 = .ok (.ldc 231, 2) := by decide +kernel
theorem d_PS_faultOf_22 : decode b_PS_faultOf 22 = .ok (.if_icmp .eq 5, 3) := by decide +kernel
theorem d_PS_faultOf_25 : decode b_PS_faultOf 25 = .ok (.iconst 2, 1) := by decide +kernel
theorem d_PS_faultOf_26 : decode b_PS_faultOf 26 = .ok (.ireturn, 1) := by decide +kernel
theorem d_PS_faultOf_27 : decode b_PS_faultOf 27 = .ok (.iload_n 0, 1) := by decide +kernel
theorem d_PS_faultOf_28 : decode b_PS_faultOf 28 = .ok (.ldc 231, 2) := by decide +kernel
theorem d_PS_faultOf_30 : decode b_PS_faultOf 30 = .ok (.iand, 1) := by decide +kernel
theorem d_PS_faultOf_31 : decode b_PS_faultOf 31 = .ok (.istore 5, 2) := by decide +kernel
theorem d_PS_faultOf_33 : decode b_PS_faultOf 33 = .ok (.iload 5, 2) := by decide +kernel
theorem d_PS_faultOf_35 : decode b_PS_faultOf 35 = .ok (.bipush 40, 2) := by decide +kernel
theorem d_PS_faultOf_37 : decode b_PS_faultOf 37 = .ok (.if_icmp .lt 11, 3) := by decide +kernel
theorem d_PS_faultOf_40 : decode b_PS_faultOf 40 = .ok (.iload 5, 2) := by decide +kernel
theorem d_PS_faultOf_42 : decode b_PS_faultOf 42 = .ok (.sipush 1480, 3) := by decide +kernel
theorem d_PS_faultOf_45 : decode b_PS_faultOf 45 = .ok (.if_icmp .le 5, 3) := by decide +kernel
theorem d_PS_faultOf_48 : decode b_PS_faultOf 48 = .ok (.iconst 3, 1) := by decide +kernel
theorem d_PS_faultOf_49 : decode b_PS_faultOf 49 = .ok (.ireturn, 1) := by decide +kernel
theorem d_PS_faultOf_50 : decode b_PS_faultOf 50 = .ok (.iload_n 1, 1) := by decide +kernel
theorem d_PS_faultOf_51 : decode b_PS_faultOf 51 = .ok (.sipush 16383, 3) := by decide +kernel
theorem d_PS_faultOf_54 : decode b_PS_faultOf 54 = .ok (.iand, 1) := by decide +kernel
theorem d_PS_faultOf_55 : decode b_PS_faultOf 55 = .ok (.ifCond .eq 5, 3) := by decide +kernel
theorem d_PS_faultOf_58 : decode b_PS_faultOf 58 = .ok (.iconst 4, 1) := by decide +kernel
theorem d_PS_faultOf_59 : decode b_PS_faultOf 59 = .ok (.ireturn, 1) := by decide +kernel
theorem d_PS_faultOf_60 : decode b_PS_faultOf 60 = .ok (.iload_n 2, 1) := by decide +kernel
theorem d_PS_faultOf_61 : decode b_PS_faultOf 61 = .ok (.bipush 24, 2) := by decide +kernel
theorem d_PS_faultOf_63 : decode b_PS_faultOf 63 = .ok (.iushr, 1) := by decide +kernel
theorem d_PS_faultOf_64 : decode b_PS_faultOf 64 = .ok (.ifCond .ne 5, 3) := by decide +kernel
theorem d_PS_faultOf_67 : decode b_PS_faultOf 67 = .ok (.iconst 5, 1) := by decide +kernel
theorem d_PS_faultOf_68 : decode b_PS_faultOf 68 = .ok (.ireturn, 1) := by decide +kernel
theorem d_PS_faultOf_69 : decode b_PS_faultOf 69 = .ok (.iload_n 2, 1) := by decide +kernel
theorem d_PS_faultOf_70 : decode b_PS_faultOf 70 = .ok (.bipush 16, 2) := by decide +kernel
theorem d_PS_faultOf_72 : decode b_PS_faultOf 72 = .ok (.iushr, 1) := by decide +kernel
theorem d_PS_faultOf_73 : decode b_PS_faultOf 73 = .ok (.sipush 255, 3) := by decide +kernel
theorem d_PS_faultOf_76 : decode b_PS_faultOf 76 = .ok (.iand, 1) := by decide +kernel
theorem d_PS_faultOf_77 : decode b_PS_faultOf 77 = .ok (.bipush 6, 2) := by decide +kernel
theorem d_PS_faultOf_79 : decode b_PS_faultOf 79 = .ok (.if_icmp .eq 6, 3) := by decide +kernel
theorem d_PS_faultOf_82 : decode b_PS_faultOf 82 = .ok (.bipush 6, 2) := by decide +kernel
theorem d_PS_faultOf_84 : decode b_PS_faultOf 84 = .ok (.ireturn, 1) := by decide +kernel
theorem d_PS_faultOf_85 : decode b_PS_faultOf 85 = .ok (.iload 4, 2) := by decide +kernel
theorem d_PS_faultOf_87 : decode b_PS_faultOf 87 = .ok (.ldc 232, 2) := by decide +kernel
theorem d_PS_faultOf_89 : decode b_PS_faultOf 89 = .ok (.if_icmp .eq 8, 3) := by decide +kernel
theorem d_PS_faultOf_92 : decode b_PS_faultOf 92 = .ok (.bipush 7, 2) := by decide +kernel
theorem d_PS_faultOf_94 : decode b_PS_faultOf 94 = .ok (.goto 4, 3) := by decide +kernel
theorem d_PS_faultOf_97 : decode b_PS_faultOf 97 = .ok (.iconst 0, 1) := by decide +kernel
theorem d_PS_faultOf_98 : decode b_PS_faultOf 98 = .ok (.ireturn, 1) := by decide +kernel
theorem d_PS_checksum_0 : decode b_PS_checksum 0 = .ok (.iload_n 1, 1) := by decide +kernel
theorem d_PS_checksum_1 : decode b_PS_checksum 1 = .ok (.iload_n 2, 1) := by decide +kernel
theorem d_PS_checksum_2 : decode b_PS_checksum 2 = .ok (.iload_n 3, 1) := by decide +kernel
theorem d_PS_checksum_3 : decode b_PS_checksum 3 = .ok (.iload 4, 2) := by decide +kernel
theorem d_PS_checksum_5 : decode b_PS_checksum 5 = .ok (.iload 5, 2) := by decide +kernel
theorem d_PS_checksum_7 : decode b_PS_checksum 7 = .ok (.invokestatic 73, 3) := by decide +kernel
theorem d_PS_checksum_10 : decode b_PS_checksum 10 = .ok (.ireturn, 1) := by decide +kernel
theorem d_PS_header_0 : decode b_PS_header 0 = .ok (.iload_n 1, 1) := by decide +kernel
theorem d_PS_header_1 : decode b_PS_header 1 = .ok (.iload_n 2, 1) := by decide +kernel
theorem d_PS_header_2 : decode b_PS_header 2 = .ok (.iload_n 3, 1) := by decide +kernel
theorem d_PS_header_3 : decode b_PS_header 3 = .ok (.iload 4, 2) := by decide +kernel
theorem d_PS_header_5 : decode b_PS_header 5 = .ok (.iload 5, 2) := by decide +kernel
theorem d_PS_header_7 : decode b_PS_header 7 = .ok (.invokestatic 79, 3) := by decide +kernel
theorem d_PS_header_10 : decode b_PS_header 10 = .ok (.istore 6, 2) := by decide +kernel
theorem d_PS_header_12 : decode b_PS_header 12 = .ok (.iload 6, 2) := by decide +kernel
theorem d_PS_header_14 : decode b_PS_header 14 = .ok (.ifCond .ne 45, 3) := by decide +kernel
theorem d_PS_header_17 : decode b_PS_header 17 = .ok (.aload_n 0, 1) := by decide +kernel
theorem d_PS_header_18 : decode b_PS_header 18 = .ok (.getfield 7, 3) := by decide +kernel
theorem d_PS_header_21 : decode b_PS_header 21 = .ok (.iconst 0, 1) := by decide +kernel
theorem d_PS_header_22 : decode b_PS_header 22 = .ok (.iload_n 1, 1) := by decide +kernel
theorem d_PS_header_23 : decode b_PS_header 23 = .ok (.iastore, 1) := by decide +kernel
theorem d_PS_header_24 : decode b_PS_header 24 = .ok (.aload_n 0, 1) := by decide +kernel
theorem d_PS_header_25 : decode b_PS_header 25 = .ok (.getfield 7, 3) := by decide +kernel
theorem d_PS_header_28 : decode b_PS_header 28 = .ok (.iconst 1, 1) := by decide +kernel
theorem d_PS_header_29 : decode b_PS_header 29 = .ok (.iload_n 2, 1) := by decide +kernel
theorem d_PS_header_30 : decode b_PS_header 30 = .ok (.iastore, 1) := by decide +kernel
theorem d_PS_header_31 : decode b_PS_header 31 = .ok (.aload_n 0, 1) := by decide +kernel
theorem d_PS_header_32 : decode b_PS_header 32 = .ok (.getfield 7, 3) := by decide +kernel
theorem d_PS_header_35 : decode b_PS_header 35 = .ok (.iconst 2, 1) := by decide +kernel
theorem d_PS_header_36 : decode b_PS_header 36 = .ok (.iload_n 3, 1) := by decide +kernel
theorem d_PS_header_37 : decode b_PS_header 37 = .ok (.iastore, 1) := by decide +kernel
theorem d_PS_header_38 : decode b_PS_header 38 = .ok (.aload_n 0, 1) := by decide +kernel
theorem d_PS_header_39 : decode b_PS_header 39 = .ok (.getfield 7, 3) := by decide +kernel
theorem d_PS_header_42 : decode b_PS_header 42 = .ok (.iconst 3, 1) := by decide +kernel
theorem d_PS_header_43 : decode b_PS_header 43 = .ok (.iload 4, 2) := by decide +kernel
theorem d_PS_header_45 : decode b_PS_header 45 = .ok (.iastore, 1) := by decide +kernel
theorem d_PS_header_46 : decode b_PS_header 46 = .ok (.aload_n 0, 1) := by decide +kernel
theorem d_PS_header_47 : decode b_PS_header 47 = .ok (.getfield 7, 3) := by decide +kernel
theorem d_PS_header_50 : decode b_PS_header 50 = .ok (.iconst 4, 1) := by decide +kernel
theorem d_PS_header_51 : decode b_PS_header 51 = .ok (.iload 5, 2) := by decide +kernel
theorem d_PS_header_53 : decode b_PS_header 53 = .ok (.iastore, 1) := by decide +kernel
theorem d_PS_header_54 : decode b_PS_header 54 = .ok (.aload_n 0, 1) := by decide +kernel
theorem d_PS_header_55 : decode b_PS_header 55 = .ok (.iconst 1, 1) := by decide +kernel
theorem d_PS_header_56 : decode b_PS_header 56 = .ok (.putfield 82, 3) := by decide +kernel
theorem d_PS_header_59 : decode b_PS_header 59 = .ok (.iload 6, 2) := by decide +kernel
theorem d_PS_header_61 : decode b_PS_header 61 = .ok (.ireturn, 1) := by decide +kernel
theorem d_PS_carrier_0 : decode b_PS_carrier 0 = .ok (.aload_n 0, 1) := by decide +kernel
theorem d_PS_carrier_1 : decode b_PS_carrier 1 = .ok (.getfield 20, 3) := by decide +kernel
theorem d_PS_carrier_4 : decode b_PS_carrier 4 = .ok (.ireturn, 1) := by decide +kernel
theorem d_PS_reply_0 : decode b_PS_reply 0 = .ok (.aload_n 0, 1) := by decide +kernel
theorem d_PS_reply_1 : decode b_PS_reply 1 = .ok (.getfield 24, 3) := by decide +kernel
theorem d_PS_reply_4 : decode b_PS_reply 4 = .ok (.ireturn, 1) := by decide +kernel
theorem d_PS_taken_0 : decode b_PS_taken 0 = .ok (.aload_n 0, 1) := by decide +kernel
theorem d_PS_taken_1 : decode b_PS_taken 1 = .ok (.getfield 27, 3) := by decide +kernel
theorem d_PS_taken_4 : decode b_PS_taken 4 = .ok (.ireturn, 1) := by decide +kernel
theorem d_PS_wire_0 : decode b_PS_wire 0 = .ok (.aload_n 0, 1) := by decide +kernel
theorem d_PS_wire_1 : decode b_PS_wire 1 = .ok (.getfield 16, 3) := by decide +kernel
theorem d_PS_wire_4 : decode b_PS_wire 4 = .ok (.iload_n 1, 1) := by decide +kernel
theorem d_PS_wire_5 : decode b_PS_wire 5 = .ok (.invokevirtual 124, 3) := by decide +kernel
theorem d_PS_wire_8 : decode b_PS_wire 8 = .ok (.ireturn, 1) := by decide +kernel
theorem d_PS_digest_0 : decode b_PS_digest 0 = .ok (.aload_n 0, 1) := by decide +kernel
theorem d_PS_digest_1 : decode b_PS_digest 1 = .ok (.getfield 48, 3) := by decide +kernel
theorem d_PS_digest_4 : decode b_PS_digest 4 = .ok (.iload_n 1, 1) := by decide +kernel
theorem d_PS_digest_5 : decode b_PS_digest 5 = .ok (.iload_n 2, 1) := by decide +kernel
theorem d_PS_digest_6 : decode b_PS_digest 6 = .ok (.invokestatic 90, 3) := by decide +kernel
theorem d_PS_digest_9 : decode b_PS_digest 9 = .ok (.invokevirtual 94, 3) := by decide +kernel
theorem d_PS_digest_12 : decode b_PS_digest 12 = .ok (.lreturn, 1) := by decide +kernel
theorem d_PS_isBalancer_0 : decode b_PS_isBalancer 0 = .ok (.iload_n 1, 1) := by decide +kernel
theorem d_PS_isBalancer_1 : decode b_PS_isBalancer 1 = .ok (.ifCond .lt 16, 3) := by decide +kernel
theorem d_PS_isBalancer_4 : decode b_PS_isBalancer 4 = .ok (.iload_n 1, 1) := by decide +kernel
theorem d_PS_isBalancer_5 : decode b_PS_isBalancer 5 = .ok (.aload_n 0, 1) := by decide +kernel
theorem d_PS_isBalancer_6 : decode b_PS_isBalancer 6 = .ok (.getfield 66, 3) := by decide +kernel
theorem d_PS_isBalancer_9 : decode b_PS_isBalancer 9 = .ok (.arraylength, 1) := by decide +kernel
theorem d_PS_isBalancer_10 : decode b_PS_isBalancer 10 = .ok (.if_icmp .ge 7, 3) := by decide +kernel
theorem d_PS_isBalancer_13 : decode b_PS_isBalancer 13 = .ok (.iconst 1, 1) := by decide +kernel
theorem d_PS_isBalancer_14 : decode b_PS_isBalancer 14 = .ok (.goto 4, 3) := by decide +kernel
theorem d_PS_isBalancer_17 : decode b_PS_isBalancer 17 = .ok (.iconst 0, 1) := by decide +kernel
theorem d_PS_isBalancer_18 : decode b_PS_isBalancer 18 = .ok (.ireturn, 1) := by decide +kernel
theorem d_PS_isServer_0 : decode b_PS_isServer 0 = .ok (.iload_n 1, 1) := by decide +kernel
theorem d_PS_isServer_1 : decode b_PS_isServer 1 = .ok (.ifCond .lt 16, 3) := by decide +kernel
theorem d_PS_isServer_4 : decode b_PS_isServer 4 = .ok (.iload_n 1, 1) := by decide +kernel
theorem d_PS_isServer_5 : decode b_PS_isServer 5 = .ok (.aload_n 0, 1) := by decide +kernel
theorem d_PS_isServer_6 : decode b_PS_isServer 6 = .ok (.getfield 54, 3) := by decide +kernel
theorem d_PS_isServer_9 : decode b_PS_isServer 9 = .ok (.arraylength, 1) := by decide +kernel
theorem d_PS_isServer_10 : decode b_PS_isServer 10 = .ok (.if_icmp .ge 7, 3) := by decide +kernel
theorem d_PS_isServer_13 : decode b_PS_isServer 13 = .ok (.iconst 1, 1) := by decide +kernel
theorem d_PS_isServer_14 : decode b_PS_isServer 14 = .ok (.goto 4, 3) := by decide +kernel
theorem d_PS_isServer_17 : decode b_PS_isServer 17 = .ok (.iconst 0, 1) := by decide +kernel
theorem d_PS_isServer_18 : decode b_PS_isServer 18 = .ok (.ireturn, 1) := by decide +kernel
theorem d_PS_placeOf_0 : decode b_PS_placeOf 0 = .ok (.lload_n 1, 1) := by decide +kernel
theorem d_PS_placeOf_1 : decode b_PS_placeOf 1 = .ok (.ldc2_w 194, 3) := by decide +kernel
theorem d_PS_placeOf_4 : decode b_PS_placeOf 4 = .ok (.land, 1) := by decide +kernel
theorem d_PS_placeOf_5 : decode b_PS_placeOf 5 = .ok (.aload_n 0, 1) := by decide +kernel
theorem d_PS_placeOf_6 : decode b_PS_placeOf 6 = .ok (.getfield 38, 3) := by decide +kernel
theorem d_PS_placeOf_9 : decode b_PS_placeOf 9 = .ok (.i2l, 1) := by decide +kernel
theorem d_PS_placeOf_10 : decode b_PS_placeOf 10 = .ok (.lrem, 1) := by decide +kernel
theorem d_PS_placeOf_11 : decode b_PS_placeOf 11 = .ok (.l2i, 1) := by decide +kernel
theorem d_PS_placeOf_12 : decode b_PS_placeOf 12 = .ok (.ireturn, 1) := by decide +kernel
theorem d_PS_place_0 : decode b_PS_place 0 = .ok (.aload_n 0, 1) := by decide +kernel
theorem d_PS_place_1 : decode b_PS_place 1 = .ok (.iload_n 1, 1) := by decide +kernel
theorem d_PS_place_2 : decode b_PS_place 2 = .ok (.invokevirtual 127, 3) := by decide +kernel
theorem d_PS_place_5 : decode b_PS_place 5 = .ok (.ifCond .eq 15, 3) := by decide +kernel
theorem d_PS_place_8 : decode b_PS_place 8 = .ok (.iload_n 2, 1) := by decide +kernel
theorem d_PS_place_9 : decode b_PS_place 9 = .ok (.ifCond .lt 11, 3) := by decide +kernel
theorem d_PS_place_12 : decode b_PS_place 12 = .ok (.iload_n 2, 1) := by decide +kernel
theorem d_PS_place_13 : decode b_PS_place 13 = .ok (.aload_n 0, 1) := by decide +kernel
theorem d_PS_place_14 : decode b_PS_place 14 = .ok (.getfield 38, 3) := by decide +kernel
theorem d_PS_place_17 : decode b_PS_place 17 = .ok (.if_icmp .lt 5, 3) := by decide +kernel
theorem d_PS_place_20 : decode b_PS_place 20 = .ok (.iconst (-1), 1) := by decide +kernel
theorem d_PS_place_21 : decode b_PS_place 21 = .ok (.ireturn, 1) := by decide +kernel
theorem d_PS_place_22 : decode b_PS_place 22 = .ok (.aload_n 0, 1) := by decide +kernel
theorem d_PS_place_23 : decode b_PS_place 23 = .ok (.getfield 66, 3) := by decide +kernel
theorem d_PS_place_26 : decode b_PS_place 26 = .ok (.iload_n 1, 1) := by decide +kernel
theorem d_PS_place_27 : decode b_PS_place 27 = .ok (.aaload, 1) := by decide +kernel
theorem d_PS_place_28 : decode b_PS_place 28 = .ok (.getfield 130, 3) := by decide +kernel
theorem d_PS_place_31 : decode b_PS_place 31 = .ok (.iload_n 2, 1) := by decide +kernel
theorem d_PS_place_32 : decode b_PS_place 32 = .ok (.invokevirtual 134, 3) := by decide +kernel
theorem d_PS_place_35 : decode b_PS_place 35 = .ok (.ireturn, 1) := by decide +kernel
theorem d_PS_share_0 : decode b_PS_share 0 = .ok (.aload_n 0, 1) := by decide +kernel
theorem d_PS_share_1 : decode b_PS_share 1 = .ok (.iload_n 1, 1) := by decide +kernel
theorem d_PS_share_2 : decode b_PS_share 2 = .ok (.invokevirtual 127, 3) := by decide +kernel
theorem d_PS_share_5 : decode b_PS_share 5 = .ok (.ifCond .eq 11, 3) := by decide +kernel
theorem d_PS_share_8 : decode b_PS_share 8 = .ok (.aload_n 0, 1) := by decide +kernel
theorem d_PS_share_9 : decode b_PS_share 9 = .ok (.iload_n 2, 1) := by decide +kernel
theorem d_PS_share_10 : decode b_PS_share 10 = .ok (.invokevirtual 139, 3) := by decide +kernel
theorem d_PS_share_13 : decode b_PS_share 13 = .ok (.ifCond .ne 5, 3) := by decide +kernel
theorem d_PS_share_16 : decode b_PS_share 16 = .ok (.iconst (-1), 1) := by decide +kernel
theorem d_PS_share_17 : decode b_PS_share 17 = .ok (.ireturn, 1) := by decide +kernel
theorem d_PS_share_18 : decode b_PS_share 18 = .ok (.aload_n 0, 1) := by decide +kernel
theorem d_PS_share_19 : decode b_PS_share 19 = .ok (.getfield 66, 3) := by decide +kernel
theorem d_PS_share_22 : decode b_PS_share 22 = .ok (.iload_n 1, 1) := by decide +kernel
theorem d_PS_share_23 : decode b_PS_share 23 = .ok (.aaload, 1) := by decide +kernel
theorem d_PS_share_24 : decode b_PS_share 24 = .ok (.getfield 130, 3) := by decide +kernel
theorem d_PS_share_27 : decode b_PS_share 27 = .ok (.iload_n 2, 1) := by decide +kernel
theorem d_PS_share_28 : decode b_PS_share 28 = .ok (.invokevirtual 142, 3) := by decide +kernel
theorem d_PS_share_31 : decode b_PS_share 31 = .ok (.ireturn, 1) := by decide +kernel
theorem d_PS_moved_0 : decode b_PS_moved 0 = .ok (.aload_n 0, 1) := by decide +kernel
theorem d_PS_moved_1 : decode b_PS_moved 1 = .ok (.iload_n 1, 1) := by decide +kernel
theorem d_PS_moved_2 : decode b_PS_moved 2 = .ok (.invokevirtual 127, 3) := by decide +kernel
theorem d_PS_moved_5 : decode b_PS_moved 5 = .ok (.ifCond .eq 18, 3) := by decide +kernel
theorem d_PS_moved_8 : decode b_PS_moved 8 = .ok (.aload_n 0, 1) := by decide +kernel
theorem d_PS_moved_9 : decode b_PS_moved 9 = .ok (.getfield 66, 3) := by decide +kernel
theorem d_PS_moved_12 : decode b_PS_moved 12 = .ok (.iload_n 1, 1) := by decide +kernel
theorem d_PS_moved_13 : decode b_PS_moved 13 = .ok (.aaload, 1) := by decide +kernel
theorem d_PS_moved_14 : decode b_PS_moved 14 = .ok (.getfield 130, 3) := by decide +kernel
theorem d_PS_moved_17 : decode b_PS_moved 17 = .ok (.getfield 145, 3) := by decide +kernel
theorem d_PS_moved_20 : decode b_PS_moved 20 = .ok (.goto 4, 3) := by decide +kernel
theorem d_PS_moved_23 : decode b_PS_moved 23 = .ok (.iconst (-1), 1) := by decide +kernel
theorem d_PS_moved_24 : decode b_PS_moved 24 = .ok (.ireturn, 1) := by decide +kernel
theorem d_PS_live_0 : decode b_PS_live 0 = .ok (.aload_n 0, 1) := by decide +kernel
theorem d_PS_live_1 : decode b_PS_live 1 = .ok (.iload_n 1, 1) := by decide +kernel
theorem d_PS_live_2 : decode b_PS_live 2 = .ok (.invokevirtual 127, 3) := by decide +kernel
theorem d_PS_live_5 : decode b_PS_live 5 = .ok (.ifCond .eq 20, 3) := by decide +kernel
theorem d_PS_live_8 : decode b_PS_live 8 = .ok (.aload_n 0, 1) := by decide +kernel
theorem d_PS_live_9 : decode b_PS_live 9 = .ok (.getfield 66, 3) := by decide +kernel
theorem d_PS_live_12 : decode b_PS_live 12 = .ok (.iload_n 1, 1) := by decide +kernel
theorem d_PS_live_13 : decode b_PS_live 13 = .ok (.aaload, 1) := by decide +kernel
theorem d_PS_live_14 : decode b_PS_live 14 = .ok (.iload_n 2, 1) := by decide +kernel
theorem d_PS_live_15 : decode b_PS_live 15 = .ok (.invokevirtual 148, 3) := by decide +kernel
theorem d_PS_live_18 : decode b_PS_live 18 = .ok (.ifCond .eq 7, 3) := by decide +kernel
theorem d_PS_live_21 : decode b_PS_live 21 = .ok (.iconst 1, 1) := by decide +kernel
theorem d_PS_live_22 : decode b_PS_live 22 = .ok (.goto 4, 3) := by decide +kernel
theorem d_PS_live_25 : decode b_PS_live 25 = .ok (.iconst 0, 1) := by decide +kernel
theorem d_PS_live_26 : decode b_PS_live 26 = .ok (.ireturn, 1) := by decide +kernel
theorem d_PS_power_0 : decode b_PS_power 0 = .ok (.aload_n 0, 1) := by decide +kernel
theorem d_PS_power_1 : decode b_PS_power 1 = .ok (.iload_n 1, 1) := by decide +kernel
theorem d_PS_power_2 : decode b_PS_power 2 = .ok (.invokevirtual 139, 3) := by decide +kernel
theorem d_PS_power_5 : decode b_PS_power 5 = .ok (.ifCond .eq 20, 3) := by decide +kernel
theorem d_PS_power_8 : decode b_PS_power 8 = .ok (.aload_n 0, 1) := by decide +kernel
theorem d_PS_power_9 : decode b_PS_power 9 = .ok (.getfield 54, 3) := by decide +kernel
theorem d_PS_power_12 : decode b_PS_power 12 = .ok (.iload_n 1, 1) := by decide +kernel
theorem d_PS_power_13 : decode b_PS_power 13 = .ok (.aaload, 1) := by decide +kernel
theorem d_PS_power_14 : decode b_PS_power 14 = .ok (.iload_n 2, 1) := by decide +kernel
theorem d_PS_power_15 : decode b_PS_power 15 = .ok (.invokevirtual 152, 3) := by decide +kernel
theorem d_PS_power_18 : decode b_PS_power 18 = .ok (.ifCond .eq 7, 3) := by decide +kernel
theorem d_PS_power_21 : decode b_PS_power 21 = .ok (.iconst 1, 1) := by decide +kernel
theorem d_PS_power_22 : decode b_PS_power 22 = .ok (.goto 4, 3) := by decide +kernel
theorem d_PS_power_25 : decode b_PS_power 25 = .ok (.iconst 0, 1) := by decide +kernel
theorem d_PS_power_26 : decode b_PS_power 26 = .ok (.ireturn, 1) := by decide +kernel
theorem d_PS_path_0 : decode b_PS_path 0 = .ok (.aload_n 0, 1) := by decide +kernel
theorem d_PS_path_1 : decode b_PS_path 1 = .ok (.iload_n 1, 1) := by decide +kernel
theorem d_PS_path_2 : decode b_PS_path 2 = .ok (.invokevirtual 127, 3) := by decide +kernel
theorem d_PS_path_5 : decode b_PS_path 5 = .ok (.ifCond .eq 11, 3) := by decide +kernel
theorem d_PS_path_8 : decode b_PS_path 8 = .ok (.aload_n 0, 1) := by decide +kernel
theorem d_PS_path_9 : decode b_PS_path 9 = .ok (.iload_n 2, 1) := by decide +kernel
theorem d_PS_path_10 : decode b_PS_path 10 = .ok (.invokevirtual 139, 3) := by decide +kernel
theorem d_PS_path_13 : decode b_PS_path 13 = .ok (.ifCond .ne 5, 3) := by decide +kernel
theorem d_PS_path_16 : decode b_PS_path 16 = .ok (.iconst 0, 1) := by decide +kernel
theorem d_PS_path_17 : decode b_PS_path 17 = .ok (.ireturn, 1) := by decide +kernel
theorem d_PS_path_18 : decode b_PS_path 18 = .ok (.aload_n 0, 1) := by decide +kernel
theorem d_PS_path_19 : decode b_PS_path 19 = .ok (.getfield 66, 3) := by decide +kernel
theorem d_PS_path_22 : decode b_PS_path 22 = .ok (.iload_n 1, 1) := by decide +kernel
theorem d_PS_path_23 : decode b_PS_path 23 = .ok (.aaload, 1) := by decide +kernel
theorem d_PS_path_24 : decode b_PS_path 24 = .ok (.iload_n 2, 1) := by decide +kernel
theorem d_PS_path_25 : decode b_PS_path 25 = .ok (.iload_n 3, 1) := by decide +kernel
theorem d_PS_path_26 : decode b_PS_path 26 = .ok (.invokevirtual 155, 3) := by decide +kernel
theorem d_PS_path_29 : decode b_PS_path 29 = .ok (.ireturn, 1) := by decide +kernel
theorem d_PS_held_0 : decode b_PS_held 0 = .ok (.aload_n 0, 1) := by decide +kernel
theorem d_PS_held_1 : decode b_PS_held 1 = .ok (.iload_n 1, 1) := by decide +kernel
theorem d_PS_held_2 : decode b_PS_held 2 = .ok (.invokevirtual 127, 3) := by decide +kernel
theorem d_PS_held_5 : decode b_PS_held 5 = .ok (.ifCond .eq 11, 3) := by decide +kernel
theorem d_PS_held_8 : decode b_PS_held 8 = .ok (.aload_n 0, 1) := by decide +kernel
theorem d_PS_held_9 : decode b_PS_held 9 = .ok (.iload_n 2, 1) := by decide +kernel
theorem d_PS_held_10 : decode b_PS_held 10 = .ok (.invokevirtual 139, 3) := by decide +kernel
theorem d_PS_held_13 : decode b_PS_held 13 = .ok (.ifCond .ne 5, 3) := by decide +kernel
theorem d_PS_held_16 : decode b_PS_held 16 = .ok (.iconst (-1), 1) := by decide +kernel
theorem d_PS_held_17 : decode b_PS_held 17 = .ok (.ireturn, 1) := by decide +kernel
theorem d_PS_held_18 : decode b_PS_held 18 = .ok (.aload_n 0, 1) := by decide +kernel
theorem d_PS_held_19 : decode b_PS_held 19 = .ok (.getfield 66, 3) := by decide +kernel
theorem d_PS_held_22 : decode b_PS_held 22 = .ok (.iload_n 1, 1) := by decide +kernel
theorem d_PS_held_23 : decode b_PS_held 23 = .ok (.aaload, 1) := by decide +kernel
theorem d_PS_held_24 : decode b_PS_held 24 = .ok (.getfield 166, 3) := by decide +kernel
theorem d_PS_held_27 : decode b_PS_held 27 = .ok (.iload_n 2, 1) := by decide +kernel
theorem d_PS_held_28 : decode b_PS_held 28 = .ok (.invokevirtual 170, 3) := by decide +kernel
theorem d_PS_held_31 : decode b_PS_held 31 = .ok (.ireturn, 1) := by decide +kernel
theorem d_PS_entry_0 : decode b_PS_entry 0 = .ok (.aload_n 0, 1) := by decide +kernel
theorem d_PS_entry_1 : decode b_PS_entry 1 = .ok (.iload_n 1, 1) := by decide +kernel
theorem d_PS_entry_2 : decode b_PS_entry 2 = .ok (.invokevirtual 127, 3) := by decide +kernel
theorem d_PS_entry_5 : decode b_PS_entry 5 = .ok (.ifCond .eq 20, 3) := by decide +kernel
theorem d_PS_entry_8 : decode b_PS_entry 8 = .ok (.aload_n 0, 1) := by decide +kernel
theorem d_PS_entry_9 : decode b_PS_entry 9 = .ok (.getfield 66, 3) := by decide +kernel
theorem d_PS_entry_12 : decode b_PS_entry 12 = .ok (.iload_n 1, 1) := by decide +kernel
theorem d_PS_entry_13 : decode b_PS_entry 13 = .ok (.aaload, 1) := by decide +kernel
theorem d_PS_entry_14 : decode b_PS_entry 14 = .ok (.getfield 108, 3) := by decide +kernel
theorem d_PS_entry_17 : decode b_PS_entry 17 = .ok (.iload_n 2, 1) := by decide +kernel
theorem d_PS_entry_18 : decode b_PS_entry 18 = .ok (.iload_n 3, 1) := by decide +kernel
theorem d_PS_entry_19 : decode b_PS_entry 19 = .ok (.invokevirtual 179, 3) := by decide +kernel
theorem d_PS_entry_22 : decode b_PS_entry 22 = .ok (.goto 4, 3) := by decide +kernel
theorem d_PS_entry_25 : decode b_PS_entry 25 = .ok (.iconst (-1), 1) := by decide +kernel
theorem d_PS_entry_26 : decode b_PS_entry 26 = .ok (.ireturn, 1) := by decide +kernel
theorem d_PS_load_0 : decode b_PS_load 0 = .ok (.aload_n 0, 1) := by decide +kernel
theorem d_PS_load_1 : decode b_PS_load 1 = .ok (.iload_n 1, 1) := by decide +kernel
theorem d_PS_load_2 : decode b_PS_load 2 = .ok (.invokevirtual 127, 3) := by decide +kernel
theorem d_PS_load_5 : decode b_PS_load 5 = .ok (.ifCond .eq 21, 3) := by decide +kernel
theorem d_PS_load_8 : decode b_PS_load 8 = .ok (.aload_n 0, 1) := by decide +kernel
theorem d_PS_load_9 : decode b_PS_load 9 = .ok (.getfield 66, 3) := by decide +kernel
theorem d_PS_load_12 : decode b_PS_load 12 = .ok (.iload_n 1, 1) := by decide +kernel
theorem d_PS_load_13 : decode b_PS_load 13 = .ok (.aaload, 1) := by decide +kernel
theorem d_PS_load_14 : decode b_PS_load 14 = .ok (.getfield 108, 3) := by decide +kernel
theorem d_PS_load_17 : decode b_PS_load 17 = .ok (.getfield 183, 3) := by decide +kernel
theorem d_PS_load_20 : decode b_PS_load 20 = .ok (.invokevirtual 187, 3) := by decide +kernel
theorem d_PS_load_23 : decode b_PS_load 23 = .ok (.goto 4, 3) := by decide +kernel
theorem d_PS_load_26 : decode b_PS_load 26 = .ok (.iconst 0, 1) := by decide +kernel
theorem d_PS_load_27 : decode b_PS_load 27 = .ok (.istore_n 3, 1) := by decide +kernel
theorem d_PS_load_28 : decode b_PS_load 28 = .ok (.aload_n 0, 1) := by decide +kernel
theorem d_PS_load_29 : decode b_PS_load 29 = .ok (.iload_n 2, 1) := by decide +kernel
theorem d_PS_load_30 : decode b_PS_load 30 = .ok (.invokevirtual 139, 3) := by decide +kernel
theorem d_PS_load_33 : decode b_PS_load 33 = .ok (.ifCond .eq 18, 3) := by decide +kernel
theorem d_PS_load_36 : decode b_PS_load 36 = .ok (.aload_n 0, 1) := by decide +kernel
theorem d_PS_load_37 : decode b_PS_load 37 = .ok (.getfield 54, 3) := by decide +kernel
theorem d_PS_load_40 : decode b_PS_load 40 = .ok (.iload_n 2, 1) := by decide +kernel
theorem d_PS_load_41 : decode b_PS_load 41 = .ok (.aaload, 1) := by decide +kernel
theorem d_PS_load_42 : decode b_PS_load 42 = .ok (.getfield 193, 3) := by decide +kernel
theorem d_PS_load_45 : decode b_PS_load 45 = .ok (.invokevirtual 187, 3) := by decide +kernel
theorem d_PS_load_48 : decode b_PS_load 48 = .ok (.goto 4, 3) := by decide +kernel
theorem d_PS_load_51 : decode b_PS_load 51 = .ok (.iconst 0, 1) := by decide +kernel
theorem d_PS_load_52 : decode b_PS_load 52 = .ok (.istore 4, 2) := by decide +kernel
theorem d_PS_load_54 : decode b_PS_load 54 = .ok (.iload_n 3, 1) := by decide +kernel
theorem d_PS_load_55 : decode b_PS_load 55 = .ok (.bipush 100, 2) := by decide +kernel
theorem d_PS_load_57 : decode b_PS_load 57 = .ok (.iload 4, 2) := by decide +kernel
theorem d_PS_load_59 : decode b_PS_load 59 = .ok (.imul, 1) := by decide +kernel
theorem d_PS_load_60 : decode b_PS_load 60 = .ok (.iadd, 1) := by decide +kernel
theorem d_PS_load_61 : decode b_PS_load 61 = .ok (.ireturn, 1) := by decide +kernel
