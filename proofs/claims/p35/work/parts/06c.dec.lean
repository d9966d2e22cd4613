theorem dX6_init_0 : decode cX6_init 0 = .ok (.aload_n 0, 1) := by decide +kernel
theorem dX6_init_1 : decode cX6_init 1 = .ok (.invokespecial 3, 3) := by decide +kernel
theorem dX6_init_4 : decode cX6_init 4 = .ok (.aload_n 0, 1) := by decide +kernel
theorem dX6_init_5 : decode cX6_init 5 = .ok (.new 9, 3) := by decide +kernel
theorem dX6_init_8 : decode cX6_init 8 = .ok (.dup, 1) := by decide +kernel
theorem dX6_init_9 : decode cX6_init 9 = .ok (.invokespecial 11, 3) := by decide +kernel
theorem dX6_init_12 : decode cX6_init 12 = .ok (.putfield 12, 3) := by decide +kernel
theorem dX6_init_15 : decode cX6_init 15 = .ok (.aload_n 0, 1) := by decide +kernel
theorem dX6_init_16 : decode cX6_init 16 = .ok (.new 16, 3) := by decide +kernel
theorem dX6_init_19 : decode cX6_init 19 = .ok (.dup, 1) := by decide +kernel
theorem dX6_init_20 : decode cX6_init 20 = .ok (.invokespecial 18, 3) := by decide +kernel
theorem dX6_init_23 : decode cX6_init 23 = .ok (.putfield 19, 3) := by decide +kernel
theorem dX6_init_26 : decode cX6_init 26 = .ok (.aload_n 0, 1) := by decide +kernel
theorem dX6_init_27 : decode cX6_init 27 = .ok (.new 23, 3) := by decide +kernel
theorem dX6_init_30 : decode cX6_init 30 = .ok (.dup, 1) := by decide +kernel
theorem dX6_init_31 : decode cX6_init 31 = .ok (.invokespecial 25, 3) := by decide +kernel
theorem dX6_init_34 : decode cX6_init 34 = .ok (.putfield 26, 3) := by decide +kernel
theorem dX6_init_37 : decode cX6_init 37 = .ok (.aload_n 0, 1) := by decide +kernel
theorem dX6_init_38 : decode cX6_init 38 = .ok (.new 30, 3) := by decide +kernel
theorem dX6_init_41 : decode cX6_init 41 = .ok (.dup, 1) := by decide +kernel
theorem dX6_init_42 : decode cX6_init 42 = .ok (.invokespecial 32, 3) := by decide +kernel
theorem dX6_init_45 : decode cX6_init 45 = .ok (.putfield 33, 3) := by decide +kernel
theorem dX6_init_48 : decode cX6_init 48 = .ok (.aload_n 0, 1) := by decide +kernel
theorem dX6_init_49 : decode cX6_init 49 = .ok (.iconst 2, 1) := by decide +kernel
theorem dX6_init_50 : decode cX6_init 50 = .ok (.anewarray 9, 3) := by decide +kernel
theorem dX6_init_53 : decode cX6_init 53 = .ok (.putfield 37, 3) := by decide +kernel
theorem dX6_init_56 : decode cX6_init 56 = .ok (.aload_n 0, 1) := by decide +kernel
theorem dX6_init_57 : decode cX6_init 57 = .ok (.iconst 2, 1) := by decide +kernel
theorem dX6_init_58 : decode cX6_init 58 = .ok (.newarray .boolean, 2) := by decide +kernel
theorem dX6_init_60 : decode cX6_init 60 = .ok (.putfield 41, 3) := by decide +kernel
theorem dX6_init_63 : decode cX6_init 63 = .ok (.iconst 0, 1) := by decide +kernel
theorem dX6_init_64 : decode cX6_init 64 = .ok (.istore_n 1, 1) := by decide +kernel
theorem dX6_init_65 : decode cX6_init 65 = .ok (.iload_n 1, 1) := by decide +kernel
theorem dX6_init_66 : decode cX6_init 66 = .ok (.iconst 2, 1) := by decide +kernel
theorem dX6_init_67 : decode cX6_init 67 = .ok (.if_icmp .ge 22, 3) := by decide +kernel
theorem dX6_init_70 : decode cX6_init 70 = .ok (.aload_n 0, 1) := by decide +kernel
theorem dX6_init_71 : decode cX6_init 71 = .ok (.getfield 37, 3) := by decide +kernel
theorem dX6_init_74 : decode cX6_init 74 = .ok (.iload_n 1, 1) := by decide +kernel
theorem dX6_init_75 : decode cX6_init 75 = .ok (.new 9, 3) := by decide +kernel
theorem dX6_init_78 : decode cX6_init 78 = .ok (.dup, 1) := by decide +kernel
theorem dX6_init_79 : decode cX6_init 79 = .ok (.invokespecial 11, 3) := by decide +kernel
theorem dX6_init_82 : decode cX6_init 82 = .ok (.aastore, 1) := by decide +kernel
theorem dX6_init_83 : decode cX6_init 83 = .ok (.iinc 1 1, 3) := by decide +kernel
theorem dX6_init_86 : decode cX6_init 86 = .ok (.goto (-21), 3) := by decide +kernel
theorem dX6_init_89 : decode cX6_init 89 = .ok (.return_, 1) := by decide +kernel
theorem dX6_access_0 : decode cX6_access 0 = .ok (.iload_n 1, 1) := by decide +kernel
theorem dX6_access_1 : decode cX6_access 1 = .ok (.invokestatic 45, 3) := by decide +kernel
theorem dX6_access_4 : decode cX6_access 4 = .ok (.iload_n 2, 1) := by decide +kernel
theorem dX6_access_5 : decode cX6_access 5 = .ok (.iconst 0, 1) := by decide +kernel
theorem dX6_access_6 : decode cX6_access 6 = .ok (.sipush 255, 3) := by decide +kernel
theorem dX6_access_9 : decode cX6_access 9 = .ok (.invokestatic 49, 3) := by decide +kernel
theorem dX6_access_12 : decode cX6_access 12 = .ok (.aload_n 0, 1) := by decide +kernel
theorem dX6_access_13 : decode cX6_access 13 = .ok (.getfield 26, 3) := by decide +kernel
theorem dX6_access_16 : decode cX6_access 16 = .ok (.aload_n 0, 1) := by decide +kernel
theorem dX6_access_17 : decode cX6_access 17 = .ok (.getfield 12, 3) := by decide +kernel
theorem dX6_access_20 : decode cX6_access 20 = .ok (.invokevirtual 53, 3) := by decide +kernel
theorem dX6_access_23 : decode cX6_access 23 = .ok (.aload_n 0, 1) := by decide +kernel
theorem dX6_access_24 : decode cX6_access 24 = .ok (.iload_n 1, 1) := by decide +kernel
theorem dX6_access_25 : decode cX6_access 25 = .ok (.iload_n 2, 1) := by decide +kernel
theorem dX6_access_26 : decode cX6_access 26 = .ok (.invokevirtual 57, 3) := by decide +kernel
theorem dX6_access_29 : decode cX6_access 29 = .ok (.ireturn, 1) := by decide +kernel
theorem dX6_stream_0 : decode cX6_stream 0 = .ok (.iload_n 1, 1) := by decide +kernel
theorem dX6_stream_1 : decode cX6_stream 1 = .ok (.invokestatic 45, 3) := by decide +kernel
theorem dX6_stream_4 : decode cX6_stream 4 = .ok (.iload_n 2, 1) := by decide +kernel
theorem dX6_stream_5 : decode cX6_stream 5 = .ok (.iconst 0, 1) := by decide +kernel
theorem dX6_stream_6 : decode cX6_stream 6 = .ok (.sipush 255, 3) := by decide +kernel
theorem dX6_stream_9 : decode cX6_stream 9 = .ok (.invokestatic 49, 3) := by decide +kernel
theorem dX6_stream_12 : decode cX6_stream 12 = .ok (.iload_n 3, 1) := by decide +kernel
theorem dX6_stream_13 : decode cX6_stream 13 = .ok (.iconst 1, 1) := by decide +kernel
theorem dX6_stream_14 : decode cX6_stream 14 = .ok (.bipush 64, 2) := by decide +kernel
theorem dX6_stream_16 : decode cX6_stream 16 = .ok (.invokestatic 49, 3) := by decide +kernel
theorem dX6_stream_19 : decode cX6_stream 19 = .ok (.iload 4, 2) := by decide +kernel
theorem dX6_stream_21 : decode cX6_stream 21 = .ok (.iconst 1, 1) := by decide +kernel
theorem dX6_stream_22 : decode cX6_stream 22 = .ok (.bipush 40, 2) := by decide +kernel
theorem dX6_stream_24 : decode cX6_stream 24 = .ok (.invokestatic 49, 3) := by decide +kernel
theorem dX6_stream_27 : decode cX6_stream 27 = .ok (.aload_n 0, 1) := by decide +kernel
theorem dX6_stream_28 : decode cX6_stream 28 = .ok (.getfield 26, 3) := by decide +kernel
theorem dX6_stream_31 : decode cX6_stream 31 = .ok (.aload_n 0, 1) := by decide +kernel
theorem dX6_stream_32 : decode cX6_stream 32 = .ok (.getfield 12, 3) := by decide +kernel
theorem dX6_stream_35 : decode cX6_stream 35 = .ok (.invokevirtual 53, 3) := by decide +kernel
theorem dX6_stream_38 : decode cX6_stream 38 = .ok (.iconst 0, 1) := by decide +kernel
theorem dX6_stream_39 : decode cX6_stream 39 = .ok (.istore 5, 2) := by decide +kernel
theorem dX6_stream_41 : decode cX6_stream 41 = .ok (.iconst 0, 1) := by decide +kernel
theorem dX6_stream_42 : decode cX6_stream 42 = .ok (.istore 6, 2) := by decide +kernel
theorem dX6_stream_44 : decode cX6_stream 44 = .ok (.iload 6, 2) := by decide +kernel
theorem dX6_stream_46 : decode cX6_stream 46 = .ok (.iload 4, 2) := by decide +kernel
theorem dX6_stream_48 : decode cX6_stream 48 = .ok (.if_icmp .ge 31, 3) := by decide +kernel
theorem dX6_stream_51 : decode cX6_stream 51 = .ok (.aload_n 0, 1) := by decide +kernel
theorem dX6_stream_52 : decode cX6_stream 52 = .ok (.iload_n 1, 1) := by decide +kernel
theorem dX6_stream_53 : decode cX6_stream 53 = .ok (.iload_n 2, 1) := by decide +kernel
theorem dX6_stream_54 : decode cX6_stream 54 = .ok (.iload 6, 2) := by decide +kernel
theorem dX6_stream_56 : decode cX6_stream 56 = .ok (.iload_n 3, 1) := by decide +kernel
theorem dX6_stream_57 : decode cX6_stream 57 = .ok (.imul, 1) := by decide +kernel
theorem dX6_stream_58 : decode cX6_stream 58 = .ok (.iadd, 1) := by decide +kernel
theorem dX6_stream_59 : decode cX6_stream 59 = .ok (.sipush 256, 3) := by decide +kernel
theorem dX6_stream_62 : decode cX6_stream 62 = .ok (.irem, 1) := by decide +kernel
theorem dX6_stream_63 : decode cX6_stream 63 = .ok (.invokevirtual 57, 3) := by decide +kernel
theorem dX6_stream_66 : decode cX6_stream 66 = .ok (.iconst 1, 1) := by decide +kernel
theorem dX6_stream_67 : decode cX6_stream 67 = .ok (.if_icmp .ne 6, 3) := by decide +kernel
theorem dX6_stream_70 : decode cX6_stream 70 = .ok (.iinc 5 1, 3) := by decide +kernel
theorem dX6_stream_73 : decode cX6_stream 73 = .ok (.iinc 6 1, 3) := by decide +kernel
theorem dX6_stream_76 : decode cX6_stream 76 = .ok (.goto (-32), 3) := by decide +kernel
theorem dX6_stream_79 : decode cX6_stream 79 = .ok (.iload 5, 2) := by decide +kernel
theorem dX6_stream_81 : decode cX6_stream 81 = .ok (.ireturn, 1) := by decide +kernel
theorem dX6_flush_0 : decode cX6_flush 0 = .ok (.iload_n 1, 1) := by decide +kernel
theorem dX6_flush_1 : decode cX6_flush 1 = .ok (.invokestatic 45, 3) := by decide +kernel
theorem dX6_flush_4 : decode cX6_flush 4 = .ok (.aload_n 0, 1) := by decide +kernel
theorem dX6_flush_5 : decode cX6_flush 5 = .ok (.getfield 26, 3) := by decide +kernel
theorem dX6_flush_8 : decode cX6_flush 8 = .ok (.aload_n 0, 1) := by decide +kernel
theorem dX6_flush_9 : decode cX6_flush 9 = .ok (.getfield 12, 3) := by decide +kernel
theorem dX6_flush_12 : decode cX6_flush 12 = .ok (.invokevirtual 53, 3) := by decide +kernel
theorem dX6_flush_15 : decode cX6_flush 15 = .ok (.aload_n 0, 1) := by decide +kernel
theorem dX6_flush_16 : decode cX6_flush 16 = .ok (.getfield 12, 3) := by decide +kernel
theorem dX6_flush_19 : decode cX6_flush 19 = .ok (.getfield 61, 3) := by decide +kernel
theorem dX6_flush_22 : decode cX6_flush 22 = .ok (.iload_n 1, 1) := by decide +kernel
theorem dX6_flush_23 : decode cX6_flush 23 = .ok (.invokevirtual 65, 3) := by decide +kernel
theorem dX6_flush_26 : decode cX6_flush 26 = .ok (.ireturn, 1) := by decide +kernel
theorem dX6_moveWay_0 : decode cX6_moveWay 0 = .ok (.aload_n 0, 1) := by decide +kernel
theorem dX6_moveWay_1 : decode cX6_moveWay 1 = .ok (.getfield 26, 3) := by decide +kernel
theorem dX6_moveWay_4 : decode cX6_moveWay 4 = .ok (.aload_n 0, 1) := by decide +kernel
theorem dX6_moveWay_5 : decode cX6_moveWay 5 = .ok (.getfield 12, 3) := by decide +kernel
theorem dX6_moveWay_8 : decode cX6_moveWay 8 = .ok (.invokevirtual 53, 3) := by decide +kernel
theorem dX6_moveWay_11 : decode cX6_moveWay 11 = .ok (.aload_n 0, 1) := by decide +kernel
theorem dX6_moveWay_12 : decode cX6_moveWay 12 = .ok (.invokevirtual 71, 3) := by decide +kernel
theorem dX6_moveWay_15 : decode cX6_moveWay 15 = .ok (.ireturn, 1) := by decide +kernel
theorem dX6_giveWay_0 : decode cX6_giveWay 0 = .ok (.iload_n 1, 1) := by decide +kernel
theorem dX6_giveWay_1 : decode cX6_giveWay 1 = .ok (.bipush 8, 2) := by decide +kernel
theorem dX6_giveWay_3 : decode cX6_giveWay 3 = .ok (.invokestatic 75, 3) := by decide +kernel
theorem dX6_giveWay_6 : decode cX6_giveWay 6 = .ok (.iload_n 2, 1) := by decide +kernel
theorem dX6_giveWay_7 : decode cX6_giveWay 7 = .ok (.invokestatic 45, 3) := by decide +kernel
theorem dX6_giveWay_10 : decode cX6_giveWay 10 = .ok (.aload_n 0, 1) := by decide +kernel
theorem dX6_giveWay_11 : decode cX6_giveWay 11 = .ok (.getfield 26, 3) := by decide +kernel
theorem dX6_giveWay_14 : decode cX6_giveWay 14 = .ok (.aload_n 0, 1) := by decide +kernel
theorem dX6_giveWay_15 : decode cX6_giveWay 15 = .ok (.getfield 12, 3) := by decide +kernel
theorem dX6_giveWay_18 : decode cX6_giveWay 18 = .ok (.invokevirtual 53, 3) := by decide +kernel
theorem dX6_giveWay_21 : decode cX6_giveWay 21 = .ok (.aload_n 0, 1) := by decide +kernel
theorem dX6_giveWay_22 : decode cX6_giveWay 22 = .ok (.getfield 12, 3) := by decide +kernel
theorem dX6_giveWay_25 : decode cX6_giveWay 25 = .ok (.getfield 61, 3) := by decide +kernel
theorem dX6_giveWay_28 : decode cX6_giveWay 28 = .ok (.getfield 79, 3) := by decide +kernel
theorem dX6_giveWay_31 : decode cX6_giveWay 31 = .ok (.iload_n 1, 1) := by decide +kernel
theorem dX6_giveWay_32 : decode cX6_giveWay 32 = .ok (.iaload, 1) := by decide +kernel
theorem dX6_giveWay_33 : decode cX6_giveWay 33 = .ok (.istore_n 3, 1) := by decide +kernel
theorem dX6_giveWay_34 : decode cX6_giveWay 34 = .ok (.aload_n 0, 1) := by decide +kernel
theorem dX6_giveWay_35 : decode cX6_giveWay 35 = .ok (.getfield 12, 3) := by decide +kernel
theorem dX6_giveWay_38 : decode cX6_giveWay 38 = .ok (.getfield 61, 3) := by decide +kernel
theorem dX6_giveWay_41 : decode cX6_giveWay 41 = .ok (.getfield 79, 3) := by decide +kernel
theorem dX6_giveWay_44 : decode cX6_giveWay 44 = .ok (.iload_n 1, 1) := by decide +kernel
theorem dX6_giveWay_45 : decode cX6_giveWay 45 = .ok (.iload_n 2, 1) := by decide +kernel
theorem dX6_giveWay_46 : decode cX6_giveWay 46 = .ok (.iastore, 1) := by decide +kernel
theorem dX6_giveWay_47 : decode cX6_giveWay 47 = .ok (.iload_n 3, 1) := by decide +kernel
theorem dX6_giveWay_48 : decode cX6_giveWay 48 = .ok (.ireturn, 1) := by decide +kernel
theorem dX6_setLeast_0 : decode cX6_setLeast 0 = .ok (.iload_n 1, 1) := by decide +kernel
theorem dX6_setLeast_1 : decode cX6_setLeast 1 = .ok (.invokestatic 45, 3) := by decide +kernel
theorem dX6_setLeast_4 : decode cX6_setLeast 4 = .ok (.iload_n 2, 1) := by decide +kernel
theorem dX6_setLeast_5 : decode cX6_setLeast 5 = .ok (.iconst 0, 1) := by decide +kernel
theorem dX6_setLeast_6 : decode cX6_setLeast 6 = .ok (.iconst 2, 1) := by decide +kernel
theorem dX6_setLeast_7 : decode cX6_setLeast 7 = .ok (.invokestatic 49, 3) := by decide +kernel
theorem dX6_setLeast_10 : decode cX6_setLeast 10 = .ok (.aload_n 0, 1) := by decide +kernel
theorem dX6_setLeast_11 : decode cX6_setLeast 11 = .ok (.getfield 26, 3) := by decide +kernel
theorem dX6_setLeast_14 : decode cX6_setLeast 14 = .ok (.aload_n 0, 1) := by decide +kernel
theorem dX6_setLeast_15 : decode cX6_setLeast 15 = .ok (.getfield 12, 3) := by decide +kernel
theorem dX6_setLeast_18 : decode cX6_setLeast 18 = .ok (.invokevirtual 53, 3) := by decide +kernel
theorem dX6_setLeast_21 : decode cX6_setLeast 21 = .ok (.aload_n 0, 1) := by decide +kernel
theorem dX6_setLeast_22 : decode cX6_setLeast 22 = .ok (.getfield 12, 3) := by decide +kernel
theorem dX6_setLeast_25 : decode cX6_setLeast 25 = .ok (.getfield 83, 3) := by decide +kernel
theorem dX6_setLeast_28 : decode cX6_setLeast 28 = .ok (.iload_n 1, 1) := by decide +kernel
theorem dX6_setLeast_29 : decode cX6_setLeast 29 = .ok (.iaload, 1) := by decide +kernel
theorem dX6_setLeast_30 : decode cX6_setLeast 30 = .ok (.istore_n 3, 1) := by decide +kernel
theorem dX6_setLeast_31 : decode cX6_setLeast 31 = .ok (.aload_n 0, 1) := by decide +kernel
theorem dX6_setLeast_32 : decode cX6_setLeast 32 = .ok (.getfield 12, 3) := by decide +kernel
theorem dX6_setLeast_35 : decode cX6_setLeast 35 = .ok (.getfield 83, 3) := by decide +kernel
theorem dX6_setLeast_38 : decode cX6_setLeast 38 = .ok (.iload_n 1, 1) := by decide +kernel
theorem dX6_setLeast_39 : decode cX6_setLeast 39 = .ok (.iload_n 2, 1) := by decide +kernel
theorem dX6_setLeast_40 : decode cX6_setLeast 40 = .ok (.iastore, 1) := by decide +kernel
theorem dX6_setLeast_41 : decode cX6_setLeast 41 = .ok (.iload_n 3, 1) := by decide +kernel
theorem dX6_setLeast_42 : decode cX6_setLeast 42 = .ok (.ireturn, 1) := by decide +kernel
theorem dX6_halveGains_0 : decode cX6_halveGains 0 = .ok (.aload_n 0, 1) := by decide +kernel
theorem dX6_halveGains_1 : decode cX6_halveGains 1 = .ok (.getfield 26, 3) := by decide +kernel
theorem dX6_halveGains_4 : decode cX6_halveGains 4 = .ok (.aload_n 0, 1) := by decide +kernel
theorem dX6_halveGains_5 : decode cX6_halveGains 5 = .ok (.getfield 12, 3) := by decide +kernel
theorem dX6_halveGains_8 : decode cX6_halveGains 8 = .ok (.invokevirtual 53, 3) := by decide +kernel
theorem dX6_halveGains_11 : decode cX6_halveGains 11 = .ok (.aload_n 0, 1) := by decide +kernel
theorem dX6_halveGains_12 : decode cX6_halveGains 12 = .ok (.getfield 12, 3) := by decide +kernel
theorem dX6_halveGains_15 : decode cX6_halveGains 15 = .ok (.getfield 90, 3) := by decide +kernel
theorem dX6_halveGains_18 : decode cX6_halveGains 18 = .ok (.invokevirtual 94, 3) := by decide +kernel
theorem dX6_halveGains_21 : decode cX6_halveGains 21 = .ok (.aload_n 0, 1) := by decide +kernel
theorem dX6_halveGains_22 : decode cX6_halveGains 22 = .ok (.getfield 12, 3) := by decide +kernel
theorem dX6_halveGains_25 : decode cX6_halveGains 25 = .ok (.getfield 90, 3) := by decide +kernel
theorem dX6_halveGains_28 : decode cX6_halveGains 28 = .ok (.invokevirtual 99, 3) := by decide +kernel
theorem dX6_halveGains_31 : decode cX6_halveGains 31 = .ok (.ireturn, 1) := by decide +kernel
theorem dX6_owner_0 : decode cX6_owner 0 = .ok (.iload_n 1, 1) := by decide +kernel
theorem dX6_owner_1 : decode cX6_owner 1 = .ok (.bipush 8, 2) := by decide +kernel
theorem dX6_owner_3 : decode cX6_owner 3 = .ok (.invokestatic 75, 3) := by decide +kernel
theorem dX6_owner_6 : decode cX6_owner 6 = .ok (.aload_n 0, 1) := by decide +kernel
theorem dX6_owner_7 : decode cX6_owner 7 = .ok (.getfield 12, 3) := by decide +kernel
theorem dX6_owner_10 : decode cX6_owner 10 = .ok (.getfield 61, 3) := by decide +kernel
theorem dX6_owner_13 : decode cX6_owner 13 = .ok (.getfield 79, 3) := by decide +kernel
theorem dX6_owner_16 : decode cX6_owner 16 = .ok (.iload_n 1, 1) := by decide +kernel
theorem dX6_owner_17 : decode cX6_owner 17 = .ok (.iaload, 1) := by decide +kernel
theorem dX6_owner_18 : decode cX6_owner 18 = .ok (.ireturn, 1) := by decide +kernel
theorem dX6_waysOf_0 : decode cX6_waysOf 0 = .ok (.iload_n 1, 1) := by decide +kernel
theorem dX6_waysOf_1 : decode cX6_waysOf 1 = .ok (.invokestatic 45, 3) := by decide +kernel
theorem dX6_waysOf_4 : decode cX6_waysOf 4 = .ok (.aload_n 0, 1) := by decide +kernel
theorem dX6_waysOf_5 : decode cX6_waysOf 5 = .ok (.getfield 12, 3) := by decide +kernel
theorem dX6_waysOf_8 : decode cX6_waysOf 8 = .ok (.getfield 61, 3) := by decide +kernel
theorem dX6_waysOf_11 : decode cX6_waysOf 11 = .ok (.iload_n 1, 1) := by decide +kernel
theorem dX6_waysOf_12 : decode cX6_waysOf 12 = .ok (.invokevirtual 144, 3) := by decide +kernel
theorem dX6_waysOf_15 : decode cX6_waysOf 15 = .ok (.ireturn, 1) := by decide +kernel
theorem dX6_line_0 : decode cX6_line 0 = .ok (.iload_n 1, 1) := by decide +kernel
theorem dX6_line_1 : decode cX6_line 1 = .ok (.iconst 4, 1) := by decide +kernel
theorem dX6_line_2 : decode cX6_line 2 = .ok (.invokestatic 75, 3) := by decide +kernel
theorem dX6_line_5 : decode cX6_line 5 = .ok (.iload_n 2, 1) := by decide +kernel
theorem dX6_line_6 : decode cX6_line 6 = .ok (.bipush 8, 2) := by decide +kernel
theorem dX6_line_8 : decode cX6_line 8 = .ok (.invokestatic 75, 3) := by decide +kernel
theorem dX6_line_11 : decode cX6_line 11 = .ok (.aload_n 0, 1) := by decide +kernel
theorem dX6_line_12 : decode cX6_line 12 = .ok (.getfield 12, 3) := by decide +kernel
theorem dX6_line_15 : decode cX6_line 15 = .ok (.getfield 61, 3) := by decide +kernel
theorem dX6_line_18 : decode cX6_line 18 = .ok (.getfield 147, 3) := by decide +kernel
theorem dX6_line_21 : decode cX6_line 21 = .ok (.iload_n 1, 1) := by decide +kernel
theorem dX6_line_22 : decode cX6_line 22 = .ok (.bipush 8, 2) := by decide +kernel
theorem dX6_line_24 : decode cX6_line 24 = .ok (.imul, 1) := by decide +kernel
theorem dX6_line_25 : decode cX6_line 25 = .ok (.iload_n 2, 1) := by decide +kernel
theorem dX6_line_26 : decode cX6_line 26 = .ok (.iadd, 1) := by decide +kernel
theorem dX6_line_27 : decode cX6_line 27 = .ok (.iaload, 1) := by decide +kernel
theorem dX6_line_28 : decode cX6_line 28 = .ok (.ireturn, 1) := by decide +kernel
theorem dX6_lines_0 : decode cX6_lines 0 = .ok (.iload_n 1, 1) := by decide +kernel
theorem dX6_lines_1 : decode cX6_lines 1 = .ok (.invokestatic 45, 3) := by decide +kernel
theorem dX6_lines_4 : decode cX6_lines 4 = .ok (.iload_n 2, 1) := by decide +kernel
theorem dX6_lines_5 : decode cX6_lines 5 = .ok (.ifCond .eq 17, 3) := by decide +kernel
theorem dX6_lines_8 : decode cX6_lines 8 = .ok (.aload_n 0, 1) := by decide +kernel
theorem dX6_lines_9 : decode cX6_lines 9 = .ok (.getfield 12, 3) := by decide +kernel
theorem dX6_lines_12 : decode cX6_lines 12 = .ok (.getfield 61, 3) := by decide +kernel
theorem dX6_lines_15 : decode cX6_lines 15 = .ok (.iload_n 1, 1) := by decide +kernel
theorem dX6_lines_16 : decode cX6_lines 16 = .ok (.invokevirtual 150, 3) := by decide +kernel
theorem dX6_lines_19 : decode cX6_lines 19 = .ok (.goto 4, 3) := by decide +kernel
theorem dX6_lines_22 : decode cX6_lines 22 = .ok (.iconst 0, 1) := by decide +kernel
theorem dX6_lines_23 : decode cX6_lines 23 = .ok (.istore_n 3, 1) := by decide +kernel
theorem dX6_lines_24 : decode cX6_lines 24 = .ok (.aload_n 0, 1) := by decide +kernel
theorem dX6_lines_25 : decode cX6_lines 25 = .ok (.getfield 12, 3) := by decide +kernel
theorem dX6_lines_28 : decode cX6_lines 28 = .ok (.getfield 61, 3) := by decide +kernel
theorem dX6_lines_31 : decode cX6_lines 31 = .ok (.iload_n 1, 1) := by decide +kernel
theorem dX6_lines_32 : decode cX6_lines 32 = .ok (.invokevirtual 153, 3) := by decide +kernel
theorem dX6_lines_35 : decode cX6_lines 35 = .ok (.iload_n 3, 1) := by decide +kernel
theorem dX6_lines_36 : decode cX6_lines 36 = .ok (.isub, 1) := by decide +kernel
theorem dX6_lines_37 : decode cX6_lines 37 = .ok (.ireturn, 1) := by decide +kernel
theorem dX6_ifAccessed_0 : decode cX6_ifAccessed 0 = .ok (.iload_n 1, 1) := by decide +kernel
theorem dX6_ifAccessed_1 : decode cX6_ifAccessed 1 = .ok (.invokestatic 45, 3) := by decide +kernel
theorem dX6_ifAccessed_4 : decode cX6_ifAccessed 4 = .ok (.iload_n 2, 1) := by decide +kernel
theorem dX6_ifAccessed_5 : decode cX6_ifAccessed 5 = .ok (.iconst 0, 1) := by decide +kernel
theorem dX6_ifAccessed_6 : decode cX6_ifAccessed 6 = .ok (.sipush 255, 3) := by decide +kernel
theorem dX6_ifAccessed_9 : decode cX6_ifAccessed 9 = .ok (.invokestatic 49, 3) := by decide +kernel
theorem dX6_ifAccessed_12 : decode cX6_ifAccessed 12 = .ok (.aload_n 0, 1) := by decide +kernel
theorem dX6_ifAccessed_13 : decode cX6_ifAccessed 13 = .ok (.getfield 12, 3) := by decide +kernel
theorem dX6_ifAccessed_16 : decode cX6_ifAccessed 16 = .ok (.getfield 61, 3) := by decide +kernel
theorem dX6_ifAccessed_19 : decode cX6_ifAccessed 19 = .ok (.iload_n 1, 1) := by decide +kernel
theorem dX6_ifAccessed_20 : decode cX6_ifAccessed 20 = .ok (.iload_n 2, 1) := by decide +kernel
theorem dX6_ifAccessed_21 : decode cX6_ifAccessed 21 = .ok (.invokevirtual 156, 3) := by decide +kernel
theorem dX6_ifAccessed_24 : decode cX6_ifAccessed 24 = .ok (.ireturn, 1) := by decide +kernel
theorem dX6_victim_0 : decode cX6_victim 0 = .ok (.iload_n 1, 1) := by decide +kernel
theorem dX6_victim_1 : decode cX6_victim 1 = .ok (.invokestatic 45, 3) := by decide +kernel
theorem dX6_victim_4 : decode cX6_victim 4 = .ok (.iload_n 2, 1) := by decide +kernel
theorem dX6_victim_5 : decode cX6_victim 5 = .ok (.iconst 0, 1) := by decide +kernel
theorem dX6_victim_6 : decode cX6_victim 6 = .ok (.sipush 255, 3) := by decide +kernel
theorem dX6_victim_9 : decode cX6_victim 9 = .ok (.invokestatic 49, 3) := by decide +kernel
theorem dX6_victim_12 : decode cX6_victim 12 = .ok (.aload_n 0, 1) := by decide +kernel
theorem dX6_victim_13 : decode cX6_victim 13 = .ok (.getfield 12, 3) := by decide +kernel
theorem dX6_victim_16 : decode cX6_victim 16 = .ok (.getfield 61, 3) := by decide +kernel
theorem dX6_victim_19 : decode cX6_victim 19 = .ok (.iload_n 1, 1) := by decide +kernel
theorem dX6_victim_20 : decode cX6_victim 20 = .ok (.iload_n 2, 1) := by decide +kernel
theorem dX6_victim_21 : decode cX6_victim 21 = .ok (.invokevirtual 156, 3) := by decide +kernel
theorem dX6_victim_24 : decode cX6_victim 24 = .ok (.ifCond .eq 5, 3) := by decide +kernel
theorem dX6_victim_27 : decode cX6_victim 27 = .ok (.iconst (-1), 1) := by decide +kernel
theorem dX6_victim_28 : decode cX6_victim 28 = .ok (.ireturn, 1) := by decide +kernel
theorem dX6_victim_29 : decode cX6_victim 29 = .ok (.aload_n 0, 1) := by decide +kernel
theorem dX6_victim_30 : decode cX6_victim 30 = .ok (.getfield 12, 3) := by decide +kernel
theorem dX6_victim_33 : decode cX6_victim 33 = .ok (.getfield 61, 3) := by decide +kernel
theorem dX6_victim_36 : decode cX6_victim 36 = .ok (.iload_n 1, 1) := by decide +kernel
theorem dX6_victim_37 : decode cX6_victim 37 = .ok (.iload_n 2, 1) := by decide +kernel
theorem dX6_victim_38 : decode cX6_victim 38 = .ok (.invokevirtual 159, 3) := by decide +kernel
theorem dX6_victim_41 : decode cX6_victim 41 = .ok (.istore_n 3, 1) := by decide +kernel
theorem dX6_victim_42 : decode cX6_victim 42 = .ok (.iload_n 3, 1) := by decide +kernel
theorem dX6_victim_43 : decode cX6_victim 43 = .ok (.iconst (-1), 1) := by decide +kernel
theorem dX6_victim_44 : decode cX6_victim 44 = .ok (.if_icmp .ne 7, 3) := by decide +kernel
theorem dX6_victim_47 : decode cX6_victim 47 = .ok (.iconst (-1), 1) := by decide +kernel
theorem dX6_victim_48 : decode cX6_victim 48 = .ok (.goto 15, 3) := by decide +kernel
theorem dX6_victim_51 : decode cX6_victim 51 = .ok (.aload_n 0, 1) := by decide +kernel
theorem dX6_victim_52 : decode cX6_victim 52 = .ok (.getfield 12, 3) := by decide +kernel
theorem dX6_victim_55 : decode cX6_victim 55 = .ok (.getfield 61, 3) := by decide +kernel
theorem dX6_victim_58 : decode cX6_victim 58 = .ok (.getfield 147, 3) := by decide +kernel
theorem dX6_victim_61 : decode cX6_victim 61 = .ok (.iload_n 3, 1) := by decide +kernel
theorem dX6_victim_62 : decode cX6_victim 62 = .ok (.iaload, 1) := by decide +kernel
theorem dX6_victim_63 : decode cX6_victim 63 = .ok (.ireturn, 1) := by decide +kernel
theorem dX6_gain_0 : decode cX6_gain 0 = .ok (.iload_n 1, 1) := by decide +kernel
theorem dX6_gain_1 : decode cX6_gain 1 = .ok (.invokestatic 45, 3) := by decide +kernel
theorem dX6_gain_4 : decode cX6_gain 4 = .ok (.iload_n 2, 1) := by decide +kernel
theorem dX6_gain_5 : decode cX6_gain 5 = .ok (.bipush 8, 2) := by decide +kernel
theorem dX6_gain_7 : decode cX6_gain 7 = .ok (.invokestatic 75, 3) := by decide +kernel
theorem dX6_gain_10 : decode cX6_gain 10 = .ok (.aload_n 0, 1) := by decide +kernel
theorem dX6_gain_11 : decode cX6_gain 11 = .ok (.getfield 12, 3) := by decide +kernel
theorem dX6_gain_14 : decode cX6_gain 14 = .ok (.getfield 90, 3) := by decide +kernel
theorem dX6_gain_17 : decode cX6_gain 17 = .ok (.getfield 162, 3) := by decide +kernel
theorem dX6_gain_20 : decode cX6_gain 20 = .ok (.iload_n 1, 1) := by decide +kernel
theorem dX6_gain_21 : decode cX6_gain 21 = .ok (.bipush 8, 2) := by decide +kernel
theorem dX6_gain_23 : decode cX6_gain 23 = .ok (.imul, 1) := by decide +kernel
theorem dX6_gain_24 : decode cX6_gain 24 = .ok (.iload_n 2, 1) := by decide +kernel
theorem dX6_gain_25 : decode cX6_gain 25 = .ok (.iadd, 1) := by decide +kernel
theorem dX6_gain_26 : decode cX6_gain 26 = .ok (.iaload, 1) := by decide +kernel
theorem dX6_gain_27 : decode cX6_gain 27 = .ok (.ireturn, 1) := by decide +kernel
theorem dX6_utility_0 : decode cX6_utility 0 = .ok (.iload_n 1, 1) := by decide +kernel
theorem dX6_utility_1 : decode cX6_utility 1 = .ok (.invokestatic 45, 3) := by decide +kernel
theorem dX6_utility_4 : decode cX6_utility 4 = .ok (.iload_n 2, 1) := by decide +kernel
theorem dX6_utility_5 : decode cX6_utility 5 = .ok (.iconst 0, 1) := by decide +kernel
theorem dX6_utility_6 : decode cX6_utility 6 = .ok (.bipush 8, 2) := by decide +kernel
theorem dX6_utility_8 : decode cX6_utility 8 = .ok (.invokestatic 49, 3) := by decide +kernel
theorem dX6_utility_11 : decode cX6_utility 11 = .ok (.aload_n 0, 1) := by decide +kernel
theorem dX6_utility_12 : decode cX6_utility 12 = .ok (.getfield 12, 3) := by decide +kernel
theorem dX6_utility_15 : decode cX6_utility 15 = .ok (.getfield 90, 3) := by decide +kernel
theorem dX6_utility_18 : decode cX6_utility 18 = .ok (.iload_n 1, 1) := by decide +kernel
theorem dX6_utility_19 : decode cX6_utility 19 = .ok (.iload_n 2, 1) := by decide +kernel
theorem dX6_utility_20 : decode cX6_utility 20 = .ok (.invokevirtual 165, 3) := by decide +kernel
theorem dX6_utility_23 : decode cX6_utility 23 = .ok (.ireturn, 1) := by decide +kernel
theorem dX6_monitored_0 : decode cX6_monitored 0 = .ok (.iload_n 1, 1) := by decide +kernel
theorem dX6_monitored_1 : decode cX6_monitored 1 = .ok (.invokestatic 45, 3) := by decide +kernel
theorem dX6_monitored_4 : decode cX6_monitored 4 = .ok (.iload_n 2, 1) := by decide +kernel
theorem dX6_monitored_5 : decode cX6_monitored 5 = .ok (.invokestatic 168, 3) := by decide +kernel
theorem dX6_monitored_8 : decode cX6_monitored 8 = .ok (.ifCond .ne 13, 3) := by decide +kernel
theorem dX6_monitored_11 : decode cX6_monitored 11 = .ok (.new 171, 3) := by decide +kernel
theorem dX6_monitored_14 : decode cX6_monitored 14 = .ok (.dup, 1) := by decide +kernel
theorem dX6_monitored_15 : decode cX6_monitored 15 = .ok (.ldc 173, 2) := by decide +kernel
theorem dX6_monitored_17 : decode cX6_monitored 17 = .ok (.invokespecial 175, 3) := by decide +kernel
theorem dX6_monitored_20 : decode cX6_monitored 20 = .ok (.athrow, 1) := by decide +kernel
theorem dX6_monitored_21 : decode cX6_monitored 21 = .ok (.iload_n 3, 1) := by decide +kernel
theorem dX6_monitored_22 : decode cX6_monitored 22 = .ok (.bipush 8, 2) := by decide +kernel
theorem dX6_monitored_24 : decode cX6_monitored 24 = .ok (.invokestatic 75, 3) := by decide +kernel
theorem dX6_monitored_27 : decode cX6_monitored 27 = .ok (.aload_n 0, 1) := by decide +kernel
theorem dX6_monitored_28 : decode cX6_monitored 28 = .ok (.getfield 12, 3) := by decide +kernel
theorem dX6_monitored_31 : decode cX6_monitored 31 = .ok (.getfield 90, 3) := by decide +kernel
theorem dX6_monitored_34 : decode cX6_monitored 34 = .ok (.getfield 176, 3) := by decide +kernel
theorem dX6_monitored_37 : decode cX6_monitored 37 = .ok (.iload_n 1, 1) := by decide +kernel
theorem dX6_monitored_38 : decode cX6_monitored 38 = .ok (.iload_n 2, 1) := by decide +kernel
theorem dX6_monitored_39 : decode cX6_monitored 39 = .ok (.invokestatic 179, 3) := by decide +kernel
theorem dX6_monitored_42 : decode cX6_monitored 42 = .ok (.iload_n 3, 1) := by decide +kernel
theorem dX6_monitored_43 : decode cX6_monitored 43 = .ok (.iadd, 1) := by decide +kernel
theorem dX6_monitored_44 : decode cX6_monitored 44 = .ok (.iaload, 1) := by decide +kernel
theorem dX6_monitored_45 : decode cX6_monitored 45 = .ok (.ireturn, 1) := by decide +kernel
theorem dX6_target_0 : decode cX6_target 0 = .ok (.iload_n 1, 1) := by decide +kernel
theorem dX6_target_1 : decode cX6_target 1 = .ok (.invokestatic 45, 3) := by decide +kernel
theorem dX6_target_4 : decode cX6_target 4 = .ok (.aload_n 0, 1) := by decide +kernel
theorem dX6_target_5 : decode cX6_target 5 = .ok (.getfield 19, 3) := by decide +kernel
theorem dX6_target_8 : decode cX6_target 8 = .ok (.aload_n 0, 1) := by decide +kernel
theorem dX6_target_9 : decode cX6_target 9 = .ok (.getfield 12, 3) := by decide +kernel
theorem dX6_target_12 : decode cX6_target 12 = .ok (.invokevirtual 182, 3) := by decide +kernel
theorem dX6_target_15 : decode cX6_target 15 = .ok (.aload_n 0, 1) := by decide +kernel
theorem dX6_target_16 : decode cX6_target 16 = .ok (.getfield 19, 3) := by decide +kernel
theorem dX6_target_19 : decode cX6_target 19 = .ok (.getfield 185, 3) := by decide +kernel
theorem dX6_target_22 : decode cX6_target 22 = .ok (.iload_n 1, 1) := by decide +kernel
theorem dX6_target_23 : decode cX6_target 23 = .ok (.iaload, 1) := by decide +kernel
theorem dX6_target_24 : decode cX6_target 24 = .ok (.ireturn, 1) := by decide +kernel
theorem dX6_movesLeft_0 : decode cX6_movesLeft 0 = .ok (.aload_n 0, 1) := by decide +kernel
theorem dX6_movesLeft_1 : decode cX6_movesLeft 1 = .ok (.getfield 19, 3) := by decide +kernel
theorem dX6_movesLeft_4 : decode cX6_movesLeft 4 = .ok (.aload_n 0, 1) := by decide +kernel
theorem dX6_movesLeft_5 : decode cX6_movesLeft 5 = .ok (.getfield 12, 3) := by decide +kernel
theorem dX6_movesLeft_8 : decode cX6_movesLeft 8 = .ok (.invokevirtual 182, 3) := by decide +kernel
theorem dX6_movesLeft_11 : decode cX6_movesLeft 11 = .ok (.iconst 0, 1) := by decide +kernel
theorem dX6_movesLeft_12 : decode cX6_movesLeft 12 = .ok (.istore_n 1, 1) := by decide +kernel
theorem dX6_movesLeft_13 : decode cX6_movesLeft 13 = .ok (.iconst 0, 1) := by decide +kernel
theorem dX6_movesLeft_14 : decode cX6_movesLeft 14 = .ok (.istore_n 2, 1) := by decide +kernel
theorem dX6_movesLeft_15 : decode cX6_movesLeft 15 = .ok (.iload_n 2, 1) := by decide +kernel
theorem dX6_movesLeft_16 : decode cX6_movesLeft 16 = .ok (.iconst 4, 1) := by decide +kernel
theorem dX6_movesLeft_17 : decode cX6_movesLeft 17 = .ok (.if_icmp .ge 21, 3) := by decide +kernel
theorem dX6_movesLeft_20 : decode cX6_movesLeft 20 = .ok (.iload_n 1, 1) := by decide +kernel
theorem dX6_movesLeft_21 : decode cX6_movesLeft 21 = .ok (.aload_n 0, 1) := by decide +kernel
theorem dX6_movesLeft_22 : decode cX6_movesLeft 22 = .ok (.iload_n 2, 1) := by decide +kernel
theorem dX6_movesLeft_23 : decode cX6_movesLeft 23 = .ok (.invokevirtual 188, 3) := by decide +kernel
theorem dX6_movesLeft_26 : decode cX6_movesLeft 26 = .ok (.iconst 0, 1) := by decide +kernel
theorem dX6_movesLeft_27 : decode cX6_movesLeft 27 = .ok (.invokestatic 191, 3) := by decide +kernel
theorem dX6_movesLeft_30 : decode cX6_movesLeft 30 = .ok (.iadd, 1) := by decide +kernel
theorem dX6_movesLeft_31 : decode cX6_movesLeft 31 = .ok (.istore_n 1, 1) := by decide +kernel
theorem dX6_movesLeft_32 : decode cX6_movesLeft 32 = .ok (.iinc 2 1, 3) := by decide +kernel
theorem dX6_movesLeft_35 : decode cX6_movesLeft 35 = .ok (.goto (-20), 3) := by decide +kernel
theorem dX6_movesLeft_38 : decode cX6_movesLeft 38 = .ok (.iload_n 1, 1) := by decide +kernel
theorem dX6_movesLeft_39 : decode cX6_movesLeft 39 = .ok (.ireturn, 1) := by decide +kernel
theorem dX6_count_0 : decode cX6_count 0 = .ok (.iload_n 1, 1) := by decide +kernel
theorem dX6_count_1 : decode cX6_count 1 = .ok (.invokestatic 45, 3) := by decide +kernel
theorem dX6_count_4 : decode cX6_count 4 = .ok (.iload_n 2, 1) := by decide +kernel
theorem dX6_count_5 : decode cX6_count 5 = .ok (.iconst 0, 1) := by decide +kernel
theorem dX6_count_6 : decode cX6_count 6 = .ok (.iconst 3, 1) := by decide +kernel
theorem dX6_count_7 : decode cX6_count 7 = .ok (.invokestatic 49, 3) := by decide +kernel
theorem dX6_count_10 : decode cX6_count 10 = .ok (.aload_n 0, 1) := by decide +kernel
theorem dX6_count_11 : decode cX6_count 11 = .ok (.getfield 12, 3) := by decide +kernel
theorem dX6_count_14 : decode cX6_count 14 = .ok (.getfield 196, 3) := by decide +kernel
theorem dX6_count_17 : decode cX6_count 17 = .ok (.iload_n 1, 1) := by decide +kernel
theorem dX6_count_18 : decode cX6_count 18 = .ok (.iconst 4, 1) := by decide +kernel
theorem dX6_count_19 : decode cX6_count 19 = .ok (.imul, 1) := by decide +kernel
theorem dX6_count_20 : decode cX6_count 20 = .ok (.iload_n 2, 1) := by decide +kernel
theorem dX6_count_21 : decode cX6_count 21 = .ok (.iadd, 1) := by decide +kernel
theorem dX6_count_22 : decode cX6_count 22 = .ok (.iaload, 1) := by decide +kernel
theorem dX6_count_23 : decode cX6_count 23 = .ok (.ireturn, 1) := by decide +kernel
theorem dX6_accesses_0 : decode cX6_accesses 0 = .ok (.aload_n 0, 1) := by decide +kernel
theorem dX6_accesses_1 : decode cX6_accesses 1 = .ok (.getfield 12, 3) := by decide +kernel
theorem dX6_accesses_4 : decode cX6_accesses 4 = .ok (.getfield 199, 3) := by decide +kernel
theorem dX6_accesses_7 : decode cX6_accesses 7 = .ok (.ireturn, 1) := by decide +kernel
theorem dX6_savedStates_0 : decode cX6_savedStates 0 = .ok (.aload_n 0, 1) := by decide +kernel
theorem dX6_savedStates_1 : decode cX6_savedStates 1 = .ok (.getfield 26, 3) := by decide +kernel
theorem dX6_savedStates_4 : decode cX6_savedStates 4 = .ok (.getfield 128, 3) := by decide +kernel
theorem dX6_savedStates_7 : decode cX6_savedStates 7 = .ok (.ireturn, 1) := by decide +kernel
theorem dX6_requireTenant_0 : decode cX6_requireTenant 0 = .ok (.iload_n 0, 1) := by decide +kernel
theorem dX6_requireTenant_1 : decode cX6_requireTenant 1 = .ok (.iconst 4, 1) := by decide +kernel
theorem dX6_requireTenant_2 : decode cX6_requireTenant 2 = .ok (.invokestatic 75, 3) := by decide +kernel
theorem dX6_requireTenant_5 : decode cX6_requireTenant 5 = .ok (.return_, 1) := by decide +kernel
theorem dX6_requireIndex_0 : decode cX6_requireIndex 0 = .ok (.iload_n 0, 1) := by decide +kernel
theorem dX6_requireIndex_1 : decode cX6_requireIndex 1 = .ok (.ifCond .lt 8, 3) := by decide +kernel
theorem dX6_requireIndex_4 : decode cX6_requireIndex 4 = .ok (.iload_n 0, 1) := by decide +kernel
theorem dX6_requireIndex_5 : decode cX6_requireIndex 5 = .ok (.iload_n 1, 1) := by decide +kernel
theorem dX6_requireIndex_6 : decode cX6_requireIndex 6 = .ok (.if_icmp .lt 13, 3) := by decide +kernel
theorem dX6_requireIndex_9 : decode cX6_requireIndex 9 = .ok (.new 171, 3) := by decide +kernel
theorem dX6_requireIndex_12 : decode cX6_requireIndex 12 = .ok (.dup, 1) := by decide +kernel
theorem dX6_requireIndex_13 : decode cX6_requireIndex 13 = .ok (.ldc 202, 2) := by decide +kernel
theorem dX6_requireIndex_15 : decode cX6_requireIndex 15 = .ok (.invokespecial 175, 3) := by decide +kernel
theorem dX6_requireIndex_18 : decode cX6_requireIndex 18 = .ok (.athrow, 1) := by decide +kernel
theorem dX6_requireIndex_19 : decode cX6_requireIndex 19 = .ok (.return_, 1) := by decide +kernel
theorem dX6_requireArgument_0 : decode cX6_requireArgument 0 = .ok (.iload_n 0, 1) := by decide +kernel
theorem dX6_requireArgument_1 : decode cX6_requireArgument 1 = .ok (.iload_n 1, 1) := by decide +kernel
theorem dX6_requireArgument_2 : decode cX6_requireArgument 2 = .ok (.if_icmp .lt 8, 3) := by decide +kernel
theorem dX6_requireArgument_5 : decode cX6_requireArgument 5 = .ok (.iload_n 0, 1) := by decide +kernel
theorem dX6_requireArgument_6 : decode cX6_requireArgument 6 = .ok (.iload_n 2, 1) := by decide +kernel
theorem dX6_requireArgument_7 : decode cX6_requireArgument 7 = .ok (.if_icmp .le 13, 3) := by decide +kernel
theorem dX6_requireArgument_10 : decode cX6_requireArgument 10 = .ok (.new 204, 3) := by decide +kernel
theorem dX6_requireArgument_13 : decode cX6_requireArgument 13 = .ok (.dup, 1) := by decide +kernel
theorem dX6_requireArgument_14 : decode cX6_requireArgument 14 = .ok (.ldc 206, 2) := by decide +kernel
theorem dX6_requireArgument_16 : decode cX6_requireArgument 16 = .ok (.invokespecial 208, 3) := by decide +kernel
theorem dX6_requireArgument_19 : decode cX6_requireArgument 19 = .ok (.athrow, 1) := by decide +kernel
theorem dX6_requireArgument_20 : decode cX6_requireArgument 20 = .ok (.return_, 1) := by decide +kernel
theorem dX6_isSampled_0 : decode cX6_isSampled 0 = .ok (.iload_n 0, 1) := by decide +kernel
theorem dX6_isSampled_1 : decode cX6_isSampled 1 = .ok (.ifCond .eq 8, 3) := by decide +kernel
theorem dX6_isSampled_4 : decode cX6_isSampled 4 = .ok (.iload_n 0, 1) := by decide +kernel
theorem dX6_isSampled_5 : decode cX6_isSampled 5 = .ok (.iconst 2, 1) := by decide +kernel
theorem dX6_isSampled_6 : decode cX6_isSampled 6 = .ok (.if_icmp .ne 7, 3) := by decide +kernel
theorem dX6_isSampled_9 : decode cX6_isSampled 9 = .ok (.iconst 1, 1) := by decide +kernel
theorem dX6_isSampled_10 : decode cX6_isSampled 10 = .ok (.goto 4, 3) := by decide +kernel
theorem dX6_isSampled_13 : decode cX6_isSampled 13 = .ok (.iconst 0, 1) := by decide +kernel
theorem dX6_isSampled_14 : decode cX6_isSampled 14 = .ok (.ireturn, 1) := by decide +kernel
theorem dX6_listStart_0 : decode cX6_listStart 0 = .ok (.iload_n 0, 1) := by decide +kernel
theorem dX6_listStart_1 : decode cX6_listStart 1 = .ok (.iconst 2, 1) := by decide +kernel
theorem dX6_listStart_2 : decode cX6_listStart 2 = .ok (.imul, 1) := by decide +kernel
theorem dX6_listStart_3 : decode cX6_listStart 3 = .ok (.iload_n 1, 1) := by decide +kernel
theorem dX6_listStart_4 : decode cX6_listStart 4 = .ok (.iconst 2, 1) := by decide +kernel
theorem dX6_listStart_5 : decode cX6_listStart 5 = .ok (.idiv, 1) := by decide +kernel
theorem dX6_listStart_6 : decode cX6_listStart 6 = .ok (.iadd, 1) := by decide +kernel
theorem dX6_listStart_7 : decode cX6_listStart 7 = .ok (.bipush 8, 2) := by decide +kernel
theorem dX6_listStart_9 : decode cX6_listStart 9 = .ok (.imul, 1) := by decide +kernel
theorem dX6_listStart_10 : decode cX6_listStart 10 = .ok (.ireturn, 1) := by decide +kernel
theorem dX6_makeAccess_0 : decode cX6_makeAccess 0 = .ok (.aload_n 0, 1) := by decide +kernel
theorem dX6_makeAccess_1 : decode cX6_makeAccess 1 = .ok (.getfield 12, 3) := by decide +kernel
theorem dX6_makeAccess_4 : decode cX6_makeAccess 4 = .ok (.getfield 90, 3) := by decide +kernel
theorem dX6_makeAccess_7 : decode cX6_makeAccess 7 = .ok (.iload_n 1, 1) := by decide +kernel
theorem dX6_makeAccess_8 : decode cX6_makeAccess 8 = .ok (.iload_n 2, 1) := by decide +kernel
theorem dX6_makeAccess_9 : decode cX6_makeAccess 9 = .ok (.invokevirtual 209, 3) := by decide +kernel
theorem dX6_makeAccess_12 : decode cX6_makeAccess 12 = .ok (.aload_n 0, 1) := by decide +kernel
theorem dX6_makeAccess_13 : decode cX6_makeAccess 13 = .ok (.getfield 12, 3) := by decide +kernel
theorem dX6_makeAccess_16 : decode cX6_makeAccess 16 = .ok (.dup, 1) := by decide +kernel
theorem dX6_makeAccess_17 : decode cX6_makeAccess 17 = .ok (.getfield 199, 3) := by decide +kernel
theorem dX6_makeAccess_20 : decode cX6_makeAccess 20 = .ok (.iconst 1, 1) := by decide +kernel
theorem dX6_makeAccess_21 : decode cX6_makeAccess 21 = .ok (.iadd, 1) := by decide +kernel
theorem dX6_makeAccess_22 : decode cX6_makeAccess 22 = .ok (.putfield 199, 3) := by decide +kernel
theorem dX6_makeAccess_25 : decode cX6_makeAccess 25 = .ok (.aload_n 0, 1) := by decide +kernel
theorem dX6_makeAccess_26 : decode cX6_makeAccess 26 = .ok (.getfield 12, 3) := by decide +kernel
theorem dX6_makeAccess_29 : decode cX6_makeAccess 29 = .ok (.getfield 61, 3) := by decide +kernel
theorem dX6_makeAccess_32 : decode cX6_makeAccess 32 = .ok (.iload_n 1, 1) := by decide +kernel
theorem dX6_makeAccess_33 : decode cX6_makeAccess 33 = .ok (.iload_n 2, 1) := by decide +kernel
theorem dX6_makeAccess_34 : decode cX6_makeAccess 34 = .ok (.invokevirtual 156, 3) := by decide +kernel
theorem dX6_makeAccess_37 : decode cX6_makeAccess 37 = .ok (.istore_n 3, 1) := by decide +kernel
theorem dX6_makeAccess_38 : decode cX6_makeAccess 38 = .ok (.aload_n 0, 1) := by decide +kernel
theorem dX6_makeAccess_39 : decode cX6_makeAccess 39 = .ok (.getfield 12, 3) := by decide +kernel
theorem dX6_makeAccess_42 : decode cX6_makeAccess 42 = .ok (.getfield 196, 3) := by decide +kernel
theorem dX6_makeAccess_45 : decode cX6_makeAccess 45 = .ok (.iload_n 1, 1) := by decide +kernel
theorem dX6_makeAccess_46 : decode cX6_makeAccess 46 = .ok (.iconst 4, 1) := by decide +kernel
theorem dX6_makeAccess_47 : decode cX6_makeAccess 47 = .ok (.imul, 1) := by decide +kernel
theorem dX6_makeAccess_48 : decode cX6_makeAccess 48 = .ok (.iload_n 3, 1) := by decide +kernel
theorem dX6_makeAccess_49 : decode cX6_makeAccess 49 = .ok (.iadd, 1) := by decide +kernel
theorem dX6_makeAccess_50 : decode cX6_makeAccess 50 = .ok (.dup2, 1) := by decide +kernel
theorem dX6_makeAccess_51 : decode cX6_makeAccess 51 = .ok (.iaload, 1) := by decide +kernel
theorem dX6_makeAccess_52 : decode cX6_makeAccess 52 = .ok (.iconst 1, 1) := by decide +kernel
theorem dX6_makeAccess_53 : decode cX6_makeAccess 53 = .ok (.iadd, 1) := by decide +kernel
theorem dX6_makeAccess_54 : decode cX6_makeAccess 54 = .ok (.iastore, 1) := by decide +kernel
theorem dX6_makeAccess_55 : decode cX6_makeAccess 55 = .ok (.iload_n 3, 1) := by decide +kernel
theorem dX6_makeAccess_56 : decode cX6_makeAccess 56 = .ok (.iconst 1, 1) := by decide +kernel
theorem dX6_makeAccess_57 : decode cX6_makeAccess 57 = .ok (.if_icmp .ne 25, 3) := by decide +kernel
theorem dX6_makeAccess_60 : decode cX6_makeAccess 60 = .ok (.aload_n 0, 1) := by decide +kernel
theorem dX6_makeAccess_61 : decode cX6_makeAccess 61 = .ok (.getfield 12, 3) := by decide +kernel
theorem dX6_makeAccess_64 : decode cX6_makeAccess 64 = .ok (.getfield 61, 3) := by decide +kernel
theorem dX6_makeAccess_67 : decode cX6_makeAccess 67 = .ok (.iload_n 1, 1) := by decide +kernel
theorem dX6_makeAccess_68 : decode cX6_makeAccess 68 = .ok (.iload_n 2, 1) := by decide +kernel
theorem dX6_makeAccess_69 : decode cX6_makeAccess 69 = .ok (.aload_n 0, 1) := by decide +kernel
theorem dX6_makeAccess_70 : decode cX6_makeAccess 70 = .ok (.getfield 12, 3) := by decide +kernel
theorem dX6_makeAccess_73 : decode cX6_makeAccess 73 = .ok (.getfield 199, 3) := by decide +kernel
theorem dX6_makeAccess_76 : decode cX6_makeAccess 76 = .ok (.invokevirtual 212, 3) := by decide +kernel
theorem dX6_makeAccess_79 : decode cX6_makeAccess 79 = .ok (.goto 13, 3) := by decide +kernel
theorem dX6_makeAccess_82 : decode cX6_makeAccess 82 = .ok (.iload_n 3, 1) := by decide +kernel
theorem dX6_makeAccess_83 : decode cX6_makeAccess 83 = .ok (.ifCond .ne 9, 3) := by decide +kernel
theorem dX6_makeAccess_86 : decode cX6_makeAccess 86 = .ok (.aload_n 0, 1) := by decide +kernel
theorem dX6_makeAccess_87 : decode cX6_makeAccess 87 = .ok (.iload_n 1, 1) := by decide +kernel
theorem dX6_makeAccess_88 : decode cX6_makeAccess 88 = .ok (.iload_n 2, 1) := by decide +kernel
theorem dX6_makeAccess_89 : decode cX6_makeAccess 89 = .ok (.invokevirtual 215, 3) := by decide +kernel
theorem dX6_makeAccess_92 : decode cX6_makeAccess 92 = .ok (.aload_n 0, 1) := by decide +kernel
theorem dX6_makeAccess_93 : decode cX6_makeAccess 93 = .ok (.getfield 12, 3) := by decide +kernel
theorem dX6_makeAccess_96 : decode cX6_makeAccess 96 = .ok (.getfield 86, 3) := by decide +kernel
theorem dX6_makeAccess_99 : decode cX6_makeAccess 99 = .ok (.ifCond .eq 36, 3) := by decide +kernel
theorem dX6_makeAccess_102 : decode cX6_makeAccess 102 = .ok (.aload_n 0, 1) := by decide +kernel
theorem dX6_makeAccess_103 : decode cX6_makeAccess 103 = .ok (.getfield 12, 3) := by decide +kernel
theorem dX6_makeAccess_106 : decode cX6_makeAccess 106 = .ok (.getfield 199, 3) := by decide +kernel
theorem dX6_makeAccess_109 : decode cX6_makeAccess 109 = .ok (.aload_n 0, 1) := by decide +kernel
theorem dX6_makeAccess_110 : decode cX6_makeAccess 110 = .ok (.getfield 12, 3) := by decide +kernel
theorem dX6_makeAccess_113 : decode cX6_makeAccess 113 = .ok (.getfield 86, 3) := by decide +kernel
theorem dX6_makeAccess_116 : decode cX6_makeAccess 116 = .ok (.irem, 1) := by decide +kernel
theorem dX6_makeAccess_117 : decode cX6_makeAccess 117 = .ok (.ifCond .ne 18, 3) := by decide +kernel
theorem dX6_makeAccess_120 : decode cX6_makeAccess 120 = .ok (.aload_n 0, 1) := by decide +kernel
theorem dX6_makeAccess_121 : decode cX6_makeAccess 121 = .ok (.invokevirtual 71, 3) := by decide +kernel
theorem dX6_makeAccess_124 : decode cX6_makeAccess 124 = .ok (.pop, 1) := by decide +kernel
theorem dX6_makeAccess_125 : decode cX6_makeAccess 125 = .ok (.aload_n 0, 1) := by decide +kernel
theorem dX6_makeAccess_126 : decode cX6_makeAccess 126 = .ok (.getfield 12, 3) := by decide +kernel
theorem dX6_makeAccess_129 : decode cX6_makeAccess 129 = .ok (.getfield 90, 3) := by decide +kernel
theorem dX6_makeAccess_132 : decode cX6_makeAccess 132 = .ok (.invokevirtual 94, 3) := by decide +kernel
theorem dX6_makeAccess_135 : decode cX6_makeAccess 135 = .ok (.iload_n 3, 1) := by decide +kernel
theorem dX6_makeAccess_136 : decode cX6_makeAccess 136 = .ok (.ireturn, 1) := by decide +kernel
theorem dX6_bringIn_0 : decode cX6_bringIn 0 = .ok (.aload_n 0, 1) := by decide +kernel
theorem dX6_bringIn_1 : decode cX6_bringIn 1 = .ok (.getfield 12, 3) := by decide +kernel
theorem dX6_bringIn_4 : decode cX6_bringIn 4 = .ok (.getfield 61, 3) := by decide +kernel
theorem dX6_bringIn_7 : decode cX6_bringIn 7 = .ok (.iload_n 1, 1) := by decide +kernel
theorem dX6_bringIn_8 : decode cX6_bringIn 8 = .ok (.iload_n 2, 1) := by decide +kernel
theorem dX6_bringIn_9 : decode cX6_bringIn 9 = .ok (.invokevirtual 159, 3) := by decide +kernel
theorem dX6_bringIn_12 : decode cX6_bringIn 12 = .ok (.istore_n 3, 1) := by decide +kernel
theorem dX6_bringIn_13 : decode cX6_bringIn 13 = .ok (.iload_n 3, 1) := by decide +kernel
theorem dX6_bringIn_14 : decode cX6_bringIn 14 = .ok (.iconst (-1), 1) := by decide +kernel
theorem dX6_bringIn_15 : decode cX6_bringIn 15 = .ok (.if_icmp .ne 4, 3) := by decide +kernel
theorem dX6_bringIn_18 : decode cX6_bringIn 18 = .ok (.return_, 1) := by decide +kernel
theorem dX6_bringIn_19 : decode cX6_bringIn 19 = .ok (.iconst 0, 1) := by decide +kernel
theorem dX6_bringIn_20 : decode cX6_bringIn 20 = .ok (.istore 4, 2) := by decide +kernel
theorem dX6_bringIn_22 : decode cX6_bringIn 22 = .ok (.iload 4, 2) := by decide +kernel
theorem dX6_bringIn_24 : decode cX6_bringIn 24 = .ok (.iconst 4, 1) := by decide +kernel
theorem dX6_bringIn_25 : decode cX6_bringIn 25 = .ok (.if_icmp .ge 43, 3) := by decide +kernel
theorem dX6_bringIn_28 : decode cX6_bringIn 28 = .ok (.aload_n 0, 1) := by decide +kernel
theorem dX6_bringIn_29 : decode cX6_bringIn 29 = .ok (.getfield 12, 3) := by decide +kernel
theorem dX6_bringIn_32 : decode cX6_bringIn 32 = .ok (.getfield 61, 3) := by decide +kernel
theorem dX6_bringIn_35 : decode cX6_bringIn 35 = .ok (.iload 4, 2) := by decide +kernel
theorem dX6_bringIn_37 : decode cX6_bringIn 37 = .ok (.iload_n 3, 1) := by decide +kernel
theorem dX6_bringIn_38 : decode cX6_bringIn 38 = .ok (.invokevirtual 218, 3) := by decide +kernel
theorem dX6_bringIn_41 : decode cX6_bringIn 41 = .ok (.ifCond .eq 21, 3) := by decide +kernel
theorem dX6_bringIn_44 : decode cX6_bringIn 44 = .ok (.aload_n 0, 1) := by decide +kernel
theorem dX6_bringIn_45 : decode cX6_bringIn 45 = .ok (.getfield 12, 3) := by decide +kernel
theorem dX6_bringIn_48 : decode cX6_bringIn 48 = .ok (.getfield 196, 3) := by decide +kernel
theorem dX6_bringIn_51 : decode cX6_bringIn 51 = .ok (.iload 4, 2) := by decide +kernel
theorem dX6_bringIn_53 : decode cX6_bringIn 53 = .ok (.iconst 4, 1) := by decide +kernel
theorem dX6_bringIn_54 : decode cX6_bringIn 54 = .ok (.imul, 1) := by decide +kernel
theorem dX6_bringIn_55 : decode cX6_bringIn 55 = .ok (.iconst 3, 1) := by decide +kernel
theorem dX6_bringIn_56 : decode cX6_bringIn 56 = .ok (.iadd, 1) := by decide +kernel
theorem dX6_bringIn_57 : decode cX6_bringIn 57 = .ok (.dup2, 1) := by decide +kernel
theorem dX6_bringIn_58 : decode cX6_bringIn 58 = .ok (.iaload, 1) := by decide +kernel
theorem dX6_bringIn_59 : decode cX6_bringIn 59 = .ok (.iconst 1, 1) := by decide +kernel
theorem dX6_bringIn_60 : decode cX6_bringIn 60 = .ok (.iadd, 1) := by decide +kernel
theorem dX6_bringIn_61 : decode cX6_bringIn 61 = .ok (.iastore, 1) := by decide +kernel
theorem dX6_bringIn_62 : decode cX6_bringIn 62 = .ok (.iinc 4 1, 3) := by decide +kernel
theorem dX6_bringIn_65 : decode cX6_bringIn 65 = .ok (.goto (-43), 3) := by decide +kernel
theorem dX6_bringIn_68 : decode cX6_bringIn 68 = .ok (.aload_n 0, 1) := by decide +kernel
theorem dX6_bringIn_69 : decode cX6_bringIn 69 = .ok (.getfield 12, 3) := by decide +kernel
theorem dX6_bringIn_72 : decode cX6_bringIn 72 = .ok (.getfield 61, 3) := by decide +kernel
theorem dX6_bringIn_75 : decode cX6_bringIn 75 = .ok (.getfield 147, 3) := by decide +kernel
theorem dX6_bringIn_78 : decode cX6_bringIn 78 = .ok (.iload_n 3, 1) := by decide +kernel
theorem dX6_bringIn_79 : decode cX6_bringIn 79 = .ok (.iload_n 1, 1) := by decide +kernel
theorem dX6_bringIn_80 : decode cX6_bringIn 80 = .ok (.sipush 256, 3) := by decide +kernel
theorem dX6_bringIn_83 : decode cX6_bringIn 83 = .ok (.imul, 1) := by decide +kernel
theorem dX6_bringIn_84 : decode cX6_bringIn 84 = .ok (.iload_n 2, 1) := by decide +kernel
theorem dX6_bringIn_85 : decode cX6_bringIn 85 = .ok (.iadd, 1) := by decide +kernel
theorem dX6_bringIn_86 : decode cX6_bringIn 86 = .ok (.iastore, 1) := by decide +kernel
theorem dX6_bringIn_87 : decode cX6_bringIn 87 = .ok (.aload_n 0, 1) := by decide +kernel
theorem dX6_bringIn_88 : decode cX6_bringIn 88 = .ok (.getfield 12, 3) := by decide +kernel
theorem dX6_bringIn_91 : decode cX6_bringIn 91 = .ok (.getfield 61, 3) := by decide +kernel
theorem dX6_bringIn_94 : decode cX6_bringIn 94 = .ok (.getfield 222, 3) := by decide +kernel
theorem dX6_bringIn_97 : decode cX6_bringIn 97 = .ok (.iload_n 3, 1) := by decide +kernel
theorem dX6_bringIn_98 : decode cX6_bringIn 98 = .ok (.aload_n 0, 1) := by decide +kernel
theorem dX6_bringIn_99 : decode cX6_bringIn 99 = .ok (.getfield 12, 3) := by decide +kernel
theorem dX6_bringIn_102 : decode cX6_bringIn 102 = .ok (.getfield 199, 3) := by decide +kernel
theorem dX6_bringIn_105 : decode cX6_bringIn 105 = .ok (.iastore, 1) := by decide +kernel
theorem dX6_bringIn_106 : decode cX6_bringIn 106 = .ok (.return_, 1) := by decide +kernel
theorem dX6_moveOneWay_0 : decode cX6_moveOneWay 0 = .ok (.aload_n 0, 1) := by decide +kernel
theorem dX6_moveOneWay_1 : decode cX6_moveOneWay 1 = .ok (.getfield 19, 3) := by decide +kernel
theorem dX6_moveOneWay_4 : decode cX6_moveOneWay 4 = .ok (.aload_n 0, 1) := by decide +kernel
theorem dX6_moveOneWay_5 : decode cX6_moveOneWay 5 = .ok (.getfield 12, 3) := by decide +kernel
theorem dX6_moveOneWay_8 : decode cX6_moveOneWay 8 = .ok (.invokevirtual 182, 3) := by decide +kernel
theorem dX6_moveOneWay_11 : decode cX6_moveOneWay 11 = .ok (.iconst 0, 1) := by decide +kernel
theorem dX6_moveOneWay_12 : decode cX6_moveOneWay 12 = .ok (.istore_n 1, 1) := by decide +kernel
theorem dX6_moveOneWay_13 : decode cX6_moveOneWay 13 = .ok (.iconst 0, 1) := by decide +kernel
theorem dX6_moveOneWay_14 : decode cX6_moveOneWay 14 = .ok (.istore_n 2, 1) := by decide +kernel
theorem dX6_moveOneWay_15 : decode cX6_moveOneWay 15 = .ok (.iconst 1, 1) := by decide +kernel
theorem dX6_moveOneWay_16 : decode cX6_moveOneWay 16 = .ok (.istore_n 3, 1) := by decide +kernel
theorem dX6_moveOneWay_17 : decode cX6_moveOneWay 17 = .ok (.iload_n 3, 1) := by decide +kernel
theorem dX6_moveOneWay_18 : decode cX6_moveOneWay 18 = .ok (.iconst 4, 1) := by decide +kernel
theorem dX6_moveOneWay_19 : decode cX6_moveOneWay 19 = .ok (.if_icmp .ge 39, 3) := by decide +kernel
theorem dX6_moveOneWay_22 : decode cX6_moveOneWay 22 = .ok (.aload_n 0, 1) := by decide +kernel
theorem dX6_moveOneWay_23 : decode cX6_moveOneWay 23 = .ok (.iload_n 3, 1) := by decide +kernel
theorem dX6_moveOneWay_24 : decode cX6_moveOneWay 24 = .ok (.invokevirtual 188, 3) := by decide +kernel
theorem dX6_moveOneWay_27 : decode cX6_moveOneWay 27 = .ok (.aload_n 0, 1) := by decide +kernel
theorem dX6_moveOneWay_28 : decode cX6_moveOneWay 28 = .ok (.iload_n 1, 1) := by decide +kernel
theorem dX6_moveOneWay_29 : decode cX6_moveOneWay 29 = .ok (.invokevirtual 188, 3) := by decide +kernel
theorem dX6_moveOneWay_32 : decode cX6_moveOneWay 32 = .ok (.if_icmp .le 5, 3) := by decide +kernel
theorem dX6_moveOneWay_35 : decode cX6_moveOneWay 35 = .ok (.iload_n 3, 1) := by decide +kernel
theorem dX6_moveOneWay_36 : decode cX6_moveOneWay 36 = .ok (.istore_n 1, 1) := by decide +kernel
theorem dX6_moveOneWay_37 : decode cX6_moveOneWay 37 = .ok (.aload_n 0, 1) := by decide +kernel
theorem dX6_moveOneWay_38 : decode cX6_moveOneWay 38 = .ok (.iload_n 3, 1) := by decide +kernel
theorem dX6_moveOneWay_39 : decode cX6_moveOneWay 39 = .ok (.invokevirtual 188, 3) := by decide +kernel
theorem dX6_moveOneWay_42 : decode cX6_moveOneWay 42 = .ok (.aload_n 0, 1) := by decide +kernel
theorem dX6_moveOneWay_43 : decode cX6_moveOneWay 43 = .ok (.iload_n 2, 1) := by decide +kernel
theorem dX6_moveOneWay_44 : decode cX6_moveOneWay 44 = .ok (.invokevirtual 188, 3) := by decide +kernel
theorem dX6_moveOneWay_47 : decode cX6_moveOneWay 47 = .ok (.if_icmp .ge 5, 3) := by decide +kernel
theorem dX6_moveOneWay_50 : decode cX6_moveOneWay 50 = .ok (.iload_n 3, 1) := by decide +kernel
theorem dX6_moveOneWay_51 : decode cX6_moveOneWay 51 = .ok (.istore_n 2, 1) := by decide +kernel
theorem dX6_moveOneWay_52 : decode cX6_moveOneWay 52 = .ok (.iinc 3 1, 3) := by decide +kernel
theorem dX6_moveOneWay_55 : decode cX6_moveOneWay 55 = .ok (.goto (-38), 3) := by decide +kernel
theorem dX6_moveOneWay_58 : decode cX6_moveOneWay 58 = .ok (.aload_n 0, 1) := by decide +kernel
theorem dX6_moveOneWay_59 : decode cX6_moveOneWay 59 = .ok (.iload_n 1, 1) := by decide +kernel
theorem dX6_moveOneWay_60 : decode cX6_moveOneWay 60 = .ok (.invokevirtual 188, 3) := by decide +kernel
theorem dX6_moveOneWay_63 : decode cX6_moveOneWay 63 = .ok (.ifCond .ne 5, 3) := by decide +kernel
theorem dX6_moveOneWay_66 : decode cX6_moveOneWay 66 = .ok (.iconst (-1), 1) := by decide +kernel
theorem dX6_moveOneWay_67 : decode cX6_moveOneWay 67 = .ok (.ireturn, 1) := by decide +kernel
theorem dX6_moveOneWay_68 : decode cX6_moveOneWay 68 = .ok (.aload_n 0, 1) := by decide +kernel
theorem dX6_moveOneWay_69 : decode cX6_moveOneWay 69 = .ok (.getfield 12, 3) := by decide +kernel
theorem dX6_moveOneWay_72 : decode cX6_moveOneWay 72 = .ok (.getfield 61, 3) := by decide +kernel
theorem dX6_moveOneWay_75 : decode cX6_moveOneWay 75 = .ok (.iload_n 2, 1) := by decide +kernel
theorem dX6_moveOneWay_76 : decode cX6_moveOneWay 76 = .ok (.invokevirtual 225, 3) := by decide +kernel
theorem dX6_moveOneWay_79 : decode cX6_moveOneWay 79 = .ok (.istore_n 3, 1) := by decide +kernel
theorem dX6_moveOneWay_80 : decode cX6_moveOneWay 80 = .ok (.iload_n 3, 1) := by decide +kernel
theorem dX6_moveOneWay_81 : decode cX6_moveOneWay 81 = .ok (.iconst (-1), 1) := by decide +kernel
theorem dX6_moveOneWay_82 : decode cX6_moveOneWay 82 = .ok (.if_icmp .eq 16, 3) := by decide +kernel
theorem dX6_moveOneWay_85 : decode cX6_moveOneWay 85 = .ok (.aload_n 0, 1) := by decide +kernel
theorem dX6_moveOneWay_86 : decode cX6_moveOneWay 86 = .ok (.getfield 12, 3) := by decide +kernel
theorem dX6_moveOneWay_89 : decode cX6_moveOneWay 89 = .ok (.getfield 61, 3) := by decide +kernel
theorem dX6_moveOneWay_92 : decode cX6_moveOneWay 92 = .ok (.getfield 79, 3) := by decide +kernel
theorem dX6_moveOneWay_95 : decode cX6_moveOneWay 95 = .ok (.iload_n 3, 1) := by decide +kernel
theorem dX6_moveOneWay_96 : decode cX6_moveOneWay 96 = .ok (.iload_n 1, 1) := by decide +kernel
theorem dX6_moveOneWay_97 : decode cX6_moveOneWay 97 = .ok (.iastore, 1) := by decide +kernel
theorem dX6_moveOneWay_98 : decode cX6_moveOneWay 98 = .ok (.iload_n 3, 1) := by decide +kernel
theorem dX6_moveOneWay_99 : decode cX6_moveOneWay 99 = .ok (.ireturn, 1) := by decide +kernel
theorem dX6_deficitOf_0 : decode cX6_deficitOf 0 = .ok (.aload_n 0, 1) := by decide +kernel
theorem dX6_deficitOf_1 : decode cX6_deficitOf 1 = .ok (.getfield 19, 3) := by decide +kernel
theorem dX6_deficitOf_4 : decode cX6_deficitOf 4 = .ok (.getfield 185, 3) := by decide +kernel
theorem dX6_deficitOf_7 : decode cX6_deficitOf 7 = .ok (.iload_n 1, 1) := by decide +kernel
theorem dX6_deficitOf_8 : decode cX6_deficitOf 8 = .ok (.iaload, 1) := by decide +kernel
theorem dX6_deficitOf_9 : decode cX6_deficitOf 9 = .ok (.aload_n 0, 1) := by decide +kernel
theorem dX6_deficitOf_10 : decode cX6_deficitOf 10 = .ok (.getfield 12, 3) := by decide +kernel
theorem dX6_deficitOf_13 : decode cX6_deficitOf 13 = .ok (.getfield 61, 3) := by decide +kernel
theorem dX6_deficitOf_16 : decode cX6_deficitOf 16 = .ok (.iload_n 1, 1) := by decide +kernel
theorem dX6_deficitOf_17 : decode cX6_deficitOf 17 = .ok (.invokevirtual 144, 3) := by decide +kernel
theorem dX6_deficitOf_20 : decode cX6_deficitOf 20 = .ok (.isub, 1) := by decide +kernel
theorem dX6_deficitOf_21 : decode cX6_deficitOf 21 = .ok (.ireturn, 1) := by decide +kernel
