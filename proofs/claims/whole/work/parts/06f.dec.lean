theorem dX7_giveWay_12 : decode cX7_giveWay 12 = .ok (.ifCond .eq 12, 3) := by decide +kernel
theorem dX7_giveWay_15 : decode cX7_giveWay 15 = .ok (.iload_n 2, 1) := by decide +kernel
theorem dX7_giveWay_16 : decode cX7_giveWay 16 = .ok (.iconst 0, 1) := by decide +kernel
theorem dX7_giveWay_17 : decode cX7_giveWay 17 = .ok (.iconst 3, 1) := by decide +kernel
theorem dX7_giveWay_18 : decode cX7_giveWay 18 = .ok (.invokestatic 86, 3) := by decide +kernel
theorem dX7_giveWay_21 : decode cX7_giveWay 21 = .ok (.ifCond .ne 9, 3) := by decide +kernel
theorem dX7_giveWay_24 : decode cX7_giveWay 24 = .ok (.aload_n 0, 1) := by decide +kernel
theorem dX7_giveWay_25 : decode cX7_giveWay 25 = .ok (.iconst 1, 1) := by decide +kernel
theorem dX7_giveWay_26 : decode cX7_giveWay 26 = .ok (.invokevirtual 90, 3) := by decide +kernel
theorem dX7_giveWay_29 : decode cX7_giveWay 29 = .ok (.ireturn, 1) := by decide +kernel
theorem dX7_giveWay_30 : decode cX7_giveWay 30 = .ok (.aload_n 0, 1) := by decide +kernel
theorem dX7_giveWay_31 : decode cX7_giveWay 31 = .ok (.invokevirtual 93, 3) := by decide +kernel
theorem dX7_giveWay_34 : decode cX7_giveWay 34 = .ok (.aload_n 0, 1) := by decide +kernel
theorem dX7_giveWay_35 : decode cX7_giveWay 35 = .ok (.getfield 7, 3) := by decide +kernel
theorem dX7_giveWay_38 : decode cX7_giveWay 38 = .ok (.iconst 0, 1) := by decide +kernel
theorem dX7_giveWay_39 : decode cX7_giveWay 39 = .ok (.iload_n 1, 1) := by decide +kernel
theorem dX7_giveWay_40 : decode cX7_giveWay 40 = .ok (.iadd, 1) := by decide +kernel
theorem dX7_giveWay_41 : decode cX7_giveWay 41 = .ok (.iaload, 1) := by decide +kernel
theorem dX7_giveWay_42 : decode cX7_giveWay 42 = .ok (.istore_n 3, 1) := by decide +kernel
theorem dX7_giveWay_43 : decode cX7_giveWay 43 = .ok (.aload_n 0, 1) := by decide +kernel
theorem dX7_giveWay_44 : decode cX7_giveWay 44 = .ok (.getfield 7, 3) := by decide +kernel
theorem dX7_giveWay_47 : decode cX7_giveWay 47 = .ok (.iconst 0, 1) := by decide +kernel
theorem dX7_giveWay_48 : decode cX7_giveWay 48 = .ok (.iload_n 1, 1) := by decide +kernel
theorem dX7_giveWay_49 : decode cX7_giveWay 49 = .ok (.iadd, 1) := by decide +kernel
theorem dX7_giveWay_50 : decode cX7_giveWay 50 = .ok (.iload_n 2, 1) := by decide +kernel
theorem dX7_giveWay_51 : decode cX7_giveWay 51 = .ok (.iastore, 1) := by decide +kernel
theorem dX7_giveWay_52 : decode cX7_giveWay 52 = .ok (.iload_n 3, 1) := by decide +kernel
theorem dX7_giveWay_53 : decode cX7_giveWay 53 = .ok (.ireturn, 1) := by decide +kernel
theorem dX7_setLeast_0 : decode cX7_setLeast 0 = .ok (.aload_n 0, 1) := by decide +kernel
theorem dX7_setLeast_1 : decode cX7_setLeast 1 = .ok (.iconst 0, 1) := by decide +kernel
theorem dX7_setLeast_2 : decode cX7_setLeast 2 = .ok (.putfield 29, 3) := by decide +kernel
theorem dX7_setLeast_5 : decode cX7_setLeast 5 = .ok (.iload_n 1, 1) := by decide +kernel
theorem dX7_setLeast_6 : decode cX7_setLeast 6 = .ok (.iconst 0, 1) := by decide +kernel
theorem dX7_setLeast_7 : decode cX7_setLeast 7 = .ok (.iconst 3, 1) := by decide +kernel
theorem dX7_setLeast_8 : decode cX7_setLeast 8 = .ok (.invokestatic 86, 3) := by decide +kernel
theorem dX7_setLeast_11 : decode cX7_setLeast 11 = .ok (.ifCond .ne 9, 3) := by decide +kernel
theorem dX7_setLeast_14 : decode cX7_setLeast 14 = .ok (.aload_n 0, 1) := by decide +kernel
theorem dX7_setLeast_15 : decode cX7_setLeast 15 = .ok (.iconst 1, 1) := by decide +kernel
theorem dX7_setLeast_16 : decode cX7_setLeast 16 = .ok (.invokevirtual 90, 3) := by decide +kernel
theorem dX7_setLeast_19 : decode cX7_setLeast 19 = .ok (.ireturn, 1) := by decide +kernel
theorem dX7_setLeast_20 : decode cX7_setLeast 20 = .ok (.iload_n 2, 1) := by decide +kernel
theorem dX7_setLeast_21 : decode cX7_setLeast 21 = .ok (.iconst 0, 1) := by decide +kernel
theorem dX7_setLeast_22 : decode cX7_setLeast 22 = .ok (.iconst 2, 1) := by decide +kernel
theorem dX7_setLeast_23 : decode cX7_setLeast 23 = .ok (.invokestatic 86, 3) := by decide +kernel
theorem dX7_setLeast_26 : decode cX7_setLeast 26 = .ok (.ifCond .ne 9, 3) := by decide +kernel
theorem dX7_setLeast_29 : decode cX7_setLeast 29 = .ok (.aload_n 0, 1) := by decide +kernel
theorem dX7_setLeast_30 : decode cX7_setLeast 30 = .ok (.iconst 2, 1) := by decide +kernel
theorem dX7_setLeast_31 : decode cX7_setLeast 31 = .ok (.invokevirtual 90, 3) := by decide +kernel
theorem dX7_setLeast_34 : decode cX7_setLeast 34 = .ok (.ireturn, 1) := by decide +kernel
theorem dX7_setLeast_35 : decode cX7_setLeast 35 = .ok (.aload_n 0, 1) := by decide +kernel
theorem dX7_setLeast_36 : decode cX7_setLeast 36 = .ok (.invokevirtual 93, 3) := by decide +kernel
theorem dX7_setLeast_39 : decode cX7_setLeast 39 = .ok (.aload_n 0, 1) := by decide +kernel
theorem dX7_setLeast_40 : decode cX7_setLeast 40 = .ok (.getfield 7, 3) := by decide +kernel
theorem dX7_setLeast_43 : decode cX7_setLeast 43 = .ok (.sipush 184, 3) := by decide +kernel
theorem dX7_setLeast_46 : decode cX7_setLeast 46 = .ok (.iload_n 1, 1) := by decide +kernel
theorem dX7_setLeast_47 : decode cX7_setLeast 47 = .ok (.iadd, 1) := by decide +kernel
theorem dX7_setLeast_48 : decode cX7_setLeast 48 = .ok (.iaload, 1) := by decide +kernel
theorem dX7_setLeast_49 : decode cX7_setLeast 49 = .ok (.istore_n 3, 1) := by decide +kernel
theorem dX7_setLeast_50 : decode cX7_setLeast 50 = .ok (.aload_n 0, 1) := by decide +kernel
theorem dX7_setLeast_51 : decode cX7_setLeast 51 = .ok (.getfield 7, 3) := by decide +kernel
theorem dX7_setLeast_54 : decode cX7_setLeast 54 = .ok (.sipush 184, 3) := by decide +kernel
theorem dX7_setLeast_57 : decode cX7_setLeast 57 = .ok (.iload_n 1, 1) := by decide +kernel
theorem dX7_setLeast_58 : decode cX7_setLeast 58 = .ok (.iadd, 1) := by decide +kernel
theorem dX7_setLeast_59 : decode cX7_setLeast 59 = .ok (.iload_n 2, 1) := by decide +kernel
theorem dX7_setLeast_60 : decode cX7_setLeast 60 = .ok (.iastore, 1) := by decide +kernel
theorem dX7_setLeast_61 : decode cX7_setLeast 61 = .ok (.iload_n 3, 1) := by decide +kernel
theorem dX7_setLeast_62 : decode cX7_setLeast 62 = .ok (.ireturn, 1) := by decide +kernel
theorem dX7_setEpoch_0 : decode cX7_setEpoch 0 = .ok (.aload_n 0, 1) := by decide +kernel
theorem dX7_setEpoch_1 : decode cX7_setEpoch 1 = .ok (.iconst 0, 1) := by decide +kernel
theorem dX7_setEpoch_2 : decode cX7_setEpoch 2 = .ok (.putfield 29, 3) := by decide +kernel
theorem dX7_setEpoch_5 : decode cX7_setEpoch 5 = .ok (.iload_n 1, 1) := by decide +kernel
theorem dX7_setEpoch_6 : decode cX7_setEpoch 6 = .ok (.iconst 0, 1) := by decide +kernel
theorem dX7_setEpoch_7 : decode cX7_setEpoch 7 = .ok (.sipush 200, 3) := by decide +kernel
theorem dX7_setEpoch_10 : decode cX7_setEpoch 10 = .ok (.invokestatic 86, 3) := by decide +kernel
theorem dX7_setEpoch_13 : decode cX7_setEpoch 13 = .ok (.ifCond .ne 9, 3) := by decide +kernel
theorem dX7_setEpoch_16 : decode cX7_setEpoch 16 = .ok (.aload_n 0, 1) := by decide +kernel
theorem dX7_setEpoch_17 : decode cX7_setEpoch 17 = .ok (.iconst 1, 1) := by decide +kernel
theorem dX7_setEpoch_18 : decode cX7_setEpoch 18 = .ok (.invokevirtual 90, 3) := by decide +kernel
theorem dX7_setEpoch_21 : decode cX7_setEpoch 21 = .ok (.ireturn, 1) := by decide +kernel
theorem dX7_setEpoch_22 : decode cX7_setEpoch 22 = .ok (.aload_n 0, 1) := by decide +kernel
theorem dX7_setEpoch_23 : decode cX7_setEpoch 23 = .ok (.invokevirtual 93, 3) := by decide +kernel
theorem dX7_setEpoch_26 : decode cX7_setEpoch 26 = .ok (.aload_n 0, 1) := by decide +kernel
theorem dX7_setEpoch_27 : decode cX7_setEpoch 27 = .ok (.getfield 7, 3) := by decide +kernel
theorem dX7_setEpoch_30 : decode cX7_setEpoch 30 = .ok (.sipush 188, 3) := by decide +kernel
theorem dX7_setEpoch_33 : decode cX7_setEpoch 33 = .ok (.iaload, 1) := by decide +kernel
theorem dX7_setEpoch_34 : decode cX7_setEpoch 34 = .ok (.istore_n 2, 1) := by decide +kernel
theorem dX7_setEpoch_35 : decode cX7_setEpoch 35 = .ok (.aload_n 0, 1) := by decide +kernel
theorem dX7_setEpoch_36 : decode cX7_setEpoch 36 = .ok (.getfield 7, 3) := by decide +kernel
theorem dX7_setEpoch_39 : decode cX7_setEpoch 39 = .ok (.sipush 188, 3) := by decide +kernel
theorem dX7_setEpoch_42 : decode cX7_setEpoch 42 = .ok (.iload_n 1, 1) := by decide +kernel
theorem dX7_setEpoch_43 : decode cX7_setEpoch 43 = .ok (.iastore, 1) := by decide +kernel
theorem dX7_setEpoch_44 : decode cX7_setEpoch 44 = .ok (.iload_n 2, 1) := by decide +kernel
theorem dX7_setEpoch_45 : decode cX7_setEpoch 45 = .ok (.ireturn, 1) := by decide +kernel
theorem dX7_halveGains_0 : decode cX7_halveGains 0 = .ok (.aload_n 0, 1) := by decide +kernel
theorem dX7_halveGains_1 : decode cX7_halveGains 1 = .ok (.iconst 0, 1) := by decide +kernel
theorem dX7_halveGains_2 : decode cX7_halveGains 2 = .ok (.putfield 29, 3) := by decide +kernel
theorem dX7_halveGains_5 : decode cX7_halveGains 5 = .ok (.aload_n 0, 1) := by decide +kernel
theorem dX7_halveGains_6 : decode cX7_halveGains 6 = .ok (.invokevirtual 93, 3) := by decide +kernel
theorem dX7_halveGains_9 : decode cX7_halveGains 9 = .ok (.aload_n 0, 1) := by decide +kernel
theorem dX7_halveGains_10 : decode cX7_halveGains 10 = .ok (.invokevirtual 83, 3) := by decide +kernel
theorem dX7_halveGains_13 : decode cX7_halveGains 13 = .ok (.ireturn, 1) := by decide +kernel
theorem dX7_appendText_0 : decode cX7_appendText 0 = .ok (.aload_n 0, 1) := by decide +kernel
theorem dX7_appendText_1 : decode cX7_appendText 1 = .ok (.iconst 0, 1) := by decide +kernel
theorem dX7_appendText_2 : decode cX7_appendText 2 = .ok (.putfield 29, 3) := by decide +kernel
theorem dX7_appendText_5 : decode cX7_appendText 5 = .ok (.iload_n 1, 1) := by decide +kernel
theorem dX7_appendText_6 : decode cX7_appendText 6 = .ok (.bipush 32, 2) := by decide +kernel
theorem dX7_appendText_8 : decode cX7_appendText 8 = .ok (.bipush 126, 2) := by decide +kernel
theorem dX7_appendText_10 : decode cX7_appendText 10 = .ok (.invokestatic 86, 3) := by decide +kernel
theorem dX7_appendText_13 : decode cX7_appendText 13 = .ok (.ifCond .ne 9, 3) := by decide +kernel
theorem dX7_appendText_16 : decode cX7_appendText 16 = .ok (.aload_n 0, 1) := by decide +kernel
theorem dX7_appendText_17 : decode cX7_appendText 17 = .ok (.iconst 1, 1) := by decide +kernel
theorem dX7_appendText_18 : decode cX7_appendText 18 = .ok (.invokevirtual 90, 3) := by decide +kernel
theorem dX7_appendText_21 : decode cX7_appendText 21 = .ok (.ireturn, 1) := by decide +kernel
theorem dX7_appendText_22 : decode cX7_appendText 22 = .ok (.aload_n 0, 1) := by decide +kernel
theorem dX7_appendText_23 : decode cX7_appendText 23 = .ok (.getfield 102, 3) := by decide +kernel
theorem dX7_appendText_26 : decode cX7_appendText 26 = .ok (.bipush 80, 2) := by decide +kernel
theorem dX7_appendText_28 : decode cX7_appendText 28 = .ok (.if_icmp .ne 9, 3) := by decide +kernel
theorem dX7_appendText_31 : decode cX7_appendText 31 = .ok (.aload_n 0, 1) := by decide +kernel
theorem dX7_appendText_32 : decode cX7_appendText 32 = .ok (.iconst 2, 1) := by decide +kernel
theorem dX7_appendText_33 : decode cX7_appendText 33 = .ok (.invokevirtual 90, 3) := by decide +kernel
theorem dX7_appendText_36 : decode cX7_appendText 36 = .ok (.ireturn, 1) := by decide +kernel
theorem dX7_appendText_37 : decode cX7_appendText 37 = .ok (.aload_n 0, 1) := by decide +kernel
theorem dX7_appendText_38 : decode cX7_appendText 38 = .ok (.getfield 26, 3) := by decide +kernel
theorem dX7_appendText_41 : decode cX7_appendText 41 = .ok (.aload_n 0, 1) := by decide +kernel
theorem dX7_appendText_42 : decode cX7_appendText 42 = .ok (.getfield 102, 3) := by decide +kernel
theorem dX7_appendText_45 : decode cX7_appendText 45 = .ok (.iload_n 1, 1) := by decide +kernel
theorem dX7_appendText_46 : decode cX7_appendText 46 = .ok (.iastore, 1) := by decide +kernel
theorem dX7_appendText_47 : decode cX7_appendText 47 = .ok (.aload_n 0, 1) := by decide +kernel
theorem dX7_appendText_48 : decode cX7_appendText 48 = .ok (.dup, 1) := by decide +kernel
theorem dX7_appendText_49 : decode cX7_appendText 49 = .ok (.getfield 102, 3) := by decide +kernel
theorem dX7_appendText_52 : decode cX7_appendText 52 = .ok (.iconst 1, 1) := by decide +kernel
theorem dX7_appendText_53 : decode cX7_appendText 53 = .ok (.iadd, 1) := by decide +kernel
theorem dX7_appendText_54 : decode cX7_appendText 54 = .ok (.putfield 102, 3) := by decide +kernel
theorem dX7_appendText_57 : decode cX7_appendText 57 = .ok (.aload_n 0, 1) := by decide +kernel
theorem dX7_appendText_58 : decode cX7_appendText 58 = .ok (.getfield 102, 3) := by decide +kernel
theorem dX7_appendText_61 : decode cX7_appendText 61 = .ok (.ireturn, 1) := by decide +kernel
theorem dX7_clearText_0 : decode cX7_clearText 0 = .ok (.aload_n 0, 1) := by decide +kernel
theorem dX7_clearText_1 : decode cX7_clearText 1 = .ok (.iconst 0, 1) := by decide +kernel
theorem dX7_clearText_2 : decode cX7_clearText 2 = .ok (.putfield 29, 3) := by decide +kernel
theorem dX7_clearText_5 : decode cX7_clearText 5 = .ok (.aload_n 0, 1) := by decide +kernel
theorem dX7_clearText_6 : decode cX7_clearText 6 = .ok (.getfield 102, 3) := by decide +kernel
theorem dX7_clearText_9 : decode cX7_clearText 9 = .ok (.istore_n 1, 1) := by decide +kernel
theorem dX7_clearText_10 : decode cX7_clearText 10 = .ok (.aload_n 0, 1) := by decide +kernel
theorem dX7_clearText_11 : decode cX7_clearText 11 = .ok (.iconst 0, 1) := by decide +kernel
theorem dX7_clearText_12 : decode cX7_clearText 12 = .ok (.putfield 102, 3) := by decide +kernel
theorem dX7_clearText_15 : decode cX7_clearText 15 = .ok (.iload_n 1, 1) := by decide +kernel
theorem dX7_clearText_16 : decode cX7_clearText 16 = .ok (.ireturn, 1) := by decide +kernel
theorem dX7_sees_0 : decode cX7_sees 0 = .ok (.aload_n 0, 1) := by decide +kernel
theorem dX7_sees_1 : decode cX7_sees 1 = .ok (.getfield 105, 3) := by decide +kernel
theorem dX7_sees_4 : decode cX7_sees 4 = .ok (.aload_n 0, 1) := by decide +kernel
theorem dX7_sees_5 : decode cX7_sees 5 = .ok (.getfield 102, 3) := by decide +kernel
theorem dX7_sees_8 : decode cX7_sees 8 = .ok (.if_icmp .ge 24, 3) := by decide +kernel
theorem dX7_sees_11 : decode cX7_sees 11 = .ok (.aload_n 0, 1) := by decide +kernel
theorem dX7_sees_12 : decode cX7_sees 12 = .ok (.getfield 26, 3) := by decide +kernel
theorem dX7_sees_15 : decode cX7_sees 15 = .ok (.aload_n 0, 1) := by decide +kernel
theorem dX7_sees_16 : decode cX7_sees 16 = .ok (.getfield 105, 3) := by decide +kernel
theorem dX7_sees_19 : decode cX7_sees 19 = .ok (.iaload, 1) := by decide +kernel
theorem dX7_sees_20 : decode cX7_sees 20 = .ok (.iload_n 1, 1) := by decide +kernel
theorem dX7_sees_21 : decode cX7_sees 21 = .ok (.iload_n 2, 1) := by decide +kernel
theorem dX7_sees_22 : decode cX7_sees 22 = .ok (.invokestatic 86, 3) := by decide +kernel
theorem dX7_sees_25 : decode cX7_sees 25 = .ok (.ifCond .eq 7, 3) := by decide +kernel
theorem dX7_sees_28 : decode cX7_sees 28 = .ok (.iconst 1, 1) := by decide +kernel
theorem dX7_sees_29 : decode cX7_sees 29 = .ok (.goto 4, 3) := by decide +kernel
theorem dX7_sees_32 : decode cX7_sees 32 = .ok (.iconst 0, 1) := by decide +kernel
theorem dX7_sees_33 : decode cX7_sees 33 = .ok (.ireturn, 1) := by decide +kernel
theorem dX7_takes_0 : decode cX7_takes 0 = .ok (.aload_n 0, 1) := by decide +kernel
theorem dX7_takes_1 : decode cX7_takes 1 = .ok (.iload_n 1, 1) := by decide +kernel
theorem dX7_takes_2 : decode cX7_takes 2 = .ok (.iload_n 1, 1) := by decide +kernel
theorem dX7_takes_3 : decode cX7_takes 3 = .ok (.invokevirtual 108, 3) := by decide +kernel
theorem dX7_takes_6 : decode cX7_takes 6 = .ok (.istore_n 2, 1) := by decide +kernel
theorem dX7_takes_7 : decode cX7_takes 7 = .ok (.aload_n 0, 1) := by decide +kernel
theorem dX7_takes_8 : decode cX7_takes 8 = .ok (.dup, 1) := by decide +kernel
theorem dX7_takes_9 : decode cX7_takes 9 = .ok (.getfield 105, 3) := by decide +kernel
theorem dX7_takes_12 : decode cX7_takes 12 = .ok (.iload_n 2, 1) := by decide +kernel
theorem dX7_takes_13 : decode cX7_takes 13 = .ok (.ifCond .eq 7, 3) := by decide +kernel
theorem dX7_takes_16 : decode cX7_takes 16 = .ok (.iconst 1, 1) := by decide +kernel
theorem dX7_takes_17 : decode cX7_takes 17 = .ok (.goto 4, 3) := by decide +kernel
theorem dX7_takes_20 : decode cX7_takes 20 = .ok (.iconst 0, 1) := by decide +kernel
theorem dX7_takes_21 : decode cX7_takes 21 = .ok (.iadd, 1) := by decide +kernel
theorem dX7_takes_22 : decode cX7_takes 22 = .ok (.putfield 105, 3) := by decide +kernel
theorem dX7_takes_25 : decode cX7_takes 25 = .ok (.iload_n 2, 1) := by decide +kernel
theorem dX7_takes_26 : decode cX7_takes 26 = .ok (.ireturn, 1) := by decide +kernel
theorem dX7_reads_0 : decode cX7_reads 0 = .ok (.aload_n 0, 1) := by decide +kernel
theorem dX7_reads_1 : decode cX7_reads 1 = .ok (.bipush 48, 2) := by decide +kernel
theorem dX7_reads_3 : decode cX7_reads 3 = .ok (.bipush 57, 2) := by decide +kernel
theorem dX7_reads_5 : decode cX7_reads 5 = .ok (.invokevirtual 108, 3) := by decide +kernel
theorem dX7_reads_8 : decode cX7_reads 8 = .ok (.ifCond .ne 5, 3) := by decide +kernel
theorem dX7_reads_11 : decode cX7_reads 11 = .ok (.iconst 0, 1) := by decide +kernel
theorem dX7_reads_12 : decode cX7_reads 12 = .ok (.ireturn, 1) := by decide +kernel
theorem dX7_reads_13 : decode cX7_reads 13 = .ok (.aload_n 0, 1) := by decide +kernel
theorem dX7_reads_14 : decode cX7_reads 14 = .ok (.aload_n 0, 1) := by decide +kernel
theorem dX7_reads_15 : decode cX7_reads 15 = .ok (.getfield 26, 3) := by decide +kernel
theorem dX7_reads_18 : decode cX7_reads 18 = .ok (.aload_n 0, 1) := by decide +kernel
theorem dX7_reads_19 : decode cX7_reads 19 = .ok (.getfield 105, 3) := by decide +kernel
theorem dX7_reads_22 : decode cX7_reads 22 = .ok (.iaload, 1) := by decide +kernel
theorem dX7_reads_23 : decode cX7_reads 23 = .ok (.bipush 48, 2) := by decide +kernel
theorem dX7_reads_25 : decode cX7_reads 25 = .ok (.isub, 1) := by decide +kernel
theorem dX7_reads_26 : decode cX7_reads 26 = .ok (.putfield 112, 3) := by decide +kernel
theorem dX7_reads_29 : decode cX7_reads 29 = .ok (.aload_n 0, 1) := by decide +kernel
theorem dX7_reads_30 : decode cX7_reads 30 = .ok (.dup, 1) := by decide +kernel
theorem dX7_reads_31 : decode cX7_reads 31 = .ok (.getfield 105, 3) := by decide +kernel
theorem dX7_reads_34 : decode cX7_reads 34 = .ok (.iconst 1, 1) := by decide +kernel
theorem dX7_reads_35 : decode cX7_reads 35 = .ok (.iadd, 1) := by decide +kernel
theorem dX7_reads_36 : decode cX7_reads 36 = .ok (.putfield 105, 3) := by decide +kernel
theorem dX7_reads_39 : decode cX7_reads 39 = .ok (.aload_n 0, 1) := by decide +kernel
theorem dX7_reads_40 : decode cX7_reads 40 = .ok (.getfield 112, 3) := by decide +kernel
theorem dX7_reads_43 : decode cX7_reads 43 = .ok (.ifCond .le 77, 3) := by decide +kernel
theorem dX7_reads_46 : decode cX7_reads 46 = .ok (.aload_n 0, 1) := by decide +kernel
theorem dX7_reads_47 : decode cX7_reads 47 = .ok (.bipush 48, 2) := by decide +kernel
theorem dX7_reads_49 : decode cX7_reads 49 = .ok (.bipush 57, 2) := by decide +kernel
theorem dX7_reads_51 : decode cX7_reads 51 = .ok (.invokevirtual 108, 3) := by decide +kernel
theorem dX7_reads_54 : decode cX7_reads 54 = .ok (.ifCond .eq 66, 3) := by decide +kernel
theorem dX7_reads_57 : decode cX7_reads 57 = .ok (.bipush 10, 2) := by decide +kernel
theorem dX7_reads_59 : decode cX7_reads 59 = .ok (.aload_n 0, 1) := by decide +kernel
theorem dX7_reads_60 : decode cX7_reads 60 = .ok (.getfield 112, 3) := by decide +kernel
theorem dX7_reads_63 : decode cX7_reads 63 = .ok (.imul, 1) := by decide +kernel
theorem dX7_reads_64 : decode cX7_reads 64 = .ok (.aload_n 0, 1) := by decide +kernel
theorem dX7_reads_65 : decode cX7_reads 65 = .ok (.getfield 26, 3) := by decide +kernel
theorem dX7_reads_68 : decode cX7_reads 68 = .ok (.aload_n 0, 1) := by decide +kernel
theorem dX7_reads_69 : decode cX7_reads 69 = .ok (.getfield 105, 3) := by decide +kernel
theorem dX7_reads_72 : decode cX7_reads 72 = .ok (.iaload, 1) := by decide +kernel
theorem dX7_reads_73 : decode cX7_reads 73 = .ok (.iadd, 1) := by decide +kernel
theorem dX7_reads_74 : decode cX7_reads 74 = .ok (.bipush 48, 2) := by decide +kernel
theorem dX7_reads_76 : decode cX7_reads 76 = .ok (.isub, 1) := by decide +kernel
theorem dX7_reads_77 : decode cX7_reads 77 = .ok (.sipush 255, 3) := by decide +kernel
theorem dX7_reads_80 : decode cX7_reads 80 = .ok (.if_icmp .gt 40, 3) := by decide +kernel
theorem dX7_reads_83 : decode cX7_reads 83 = .ok (.aload_n 0, 1) := by decide +kernel
theorem dX7_reads_84 : decode cX7_reads 84 = .ok (.bipush 10, 2) := by decide +kernel
theorem dX7_reads_86 : decode cX7_reads 86 = .ok (.aload_n 0, 1) := by decide +kernel
theorem dX7_reads_87 : decode cX7_reads 87 = .ok (.getfield 112, 3) := by decide +kernel
theorem dX7_reads_90 : decode cX7_reads 90 = .ok (.imul, 1) := by decide +kernel
theorem dX7_reads_91 : decode cX7_reads 91 = .ok (.aload_n 0, 1) := by decide +kernel
theorem dX7_reads_92 : decode cX7_reads 92 = .ok (.getfield 26, 3) := by decide +kernel
theorem dX7_reads_95 : decode cX7_reads 95 = .ok (.aload_n 0, 1) := by decide +kernel
theorem dX7_reads_96 : decode cX7_reads 96 = .ok (.getfield 105, 3) := by decide +kernel
theorem dX7_reads_99 : decode cX7_reads 99 = .ok (.iaload, 1) := by decide +kernel
theorem dX7_reads_100 : decode cX7_reads 100 = .ok (.iadd, 1) := by decide +kernel
theorem dX7_reads_101 : decode cX7_reads 101 = .ok (.bipush 48, 2) := by decide +kernel
theorem dX7_reads_103 : decode cX7_reads 103 = .ok (.isub, 1) := by decide +kernel
theorem dX7_reads_104 : decode cX7_reads 104 = .ok (.putfield 112, 3) := by decide +kernel
theorem dX7_reads_107 : decode cX7_reads 107 = .ok (.aload_n 0, 1) := by decide +kernel
theorem dX7_reads_108 : decode cX7_reads 108 = .ok (.dup, 1) := by decide +kernel
theorem dX7_reads_109 : decode cX7_reads 109 = .ok (.getfield 105, 3) := by decide +kernel
theorem dX7_reads_112 : decode cX7_reads 112 = .ok (.iconst 1, 1) := by decide +kernel
theorem dX7_reads_113 : decode cX7_reads 113 = .ok (.iadd, 1) := by decide +kernel
theorem dX7_reads_114 : decode cX7_reads 114 = .ok (.putfield 105, 3) := by decide +kernel
theorem dX7_reads_117 : decode cX7_reads 117 = .ok (.goto (-78), 3) := by decide +kernel
theorem dX7_reads_120 : decode cX7_reads 120 = .ok (.iconst 1, 1) := by decide +kernel
theorem dX7_reads_121 : decode cX7_reads 121 = .ok (.ireturn, 1) := by decide +kernel
theorem dX7_command_0 : decode cX7_command 0 = .ok (.aload_n 0, 1) := by decide +kernel
theorem dX7_command_1 : decode cX7_command 1 = .ok (.bipush 109, 2) := by decide +kernel
theorem dX7_command_3 : decode cX7_command 3 = .ok (.invokevirtual 115, 3) := by decide +kernel
theorem dX7_command_6 : decode cX7_command 6 = .ok (.ifCond .eq 5, 3) := by decide +kernel
theorem dX7_command_9 : decode cX7_command 9 = .ok (.iconst 2, 1) := by decide +kernel
theorem dX7_command_10 : decode cX7_command 10 = .ok (.ireturn, 1) := by decide +kernel
theorem dX7_command_11 : decode cX7_command 11 = .ok (.aload_n 0, 1) := by decide +kernel
theorem dX7_command_12 : decode cX7_command 12 = .ok (.bipush 104, 2) := by decide +kernel
theorem dX7_command_14 : decode cX7_command 14 = .ok (.invokevirtual 115, 3) := by decide +kernel
theorem dX7_command_17 : decode cX7_command 17 = .ok (.ifCond .eq 5, 3) := by decide +kernel
theorem dX7_command_20 : decode cX7_command 20 = .ok (.iconst 3, 1) := by decide +kernel
theorem dX7_command_21 : decode cX7_command 21 = .ok (.ireturn, 1) := by decide +kernel
theorem dX7_command_22 : decode cX7_command 22 = .ok (.aload_n 0, 1) := by decide +kernel
theorem dX7_command_23 : decode cX7_command 23 = .ok (.bipush 102, 2) := by decide +kernel
theorem dX7_command_25 : decode cX7_command 25 = .ok (.invokevirtual 115, 3) := by decide +kernel
theorem dX7_command_28 : decode cX7_command 28 = .ok (.istore_n 1, 1) := by decide +kernel
theorem dX7_command_29 : decode cX7_command 29 = .ok (.aload_n 0, 1) := by decide +kernel
theorem dX7_command_30 : decode cX7_command 30 = .ok (.bipush 48, 2) := by decide +kernel
theorem dX7_command_32 : decode cX7_command 32 = .ok (.bipush 51, 2) := by decide +kernel
theorem dX7_command_34 : decode cX7_command 34 = .ok (.invokevirtual 108, 3) := by decide +kernel
theorem dX7_command_37 : decode cX7_command 37 = .ok (.ifCond .ne 5, 3) := by decide +kernel
theorem dX7_command_40 : decode cX7_command 40 = .ok (.iconst (-1), 1) := by decide +kernel
theorem dX7_command_41 : decode cX7_command 41 = .ok (.ireturn, 1) := by decide +kernel
theorem dX7_command_42 : decode cX7_command 42 = .ok (.aload_n 0, 1) := by decide +kernel
theorem dX7_command_43 : decode cX7_command 43 = .ok (.getfield 26, 3) := by decide +kernel
theorem dX7_command_46 : decode cX7_command 46 = .ok (.aload_n 0, 1) := by decide +kernel
theorem dX7_command_47 : decode cX7_command 47 = .ok (.getfield 105, 3) := by decide +kernel
theorem dX7_command_50 : decode cX7_command 50 = .ok (.iaload, 1) := by decide +kernel
theorem dX7_command_51 : decode cX7_command 51 = .ok (.bipush 48, 2) := by decide +kernel
theorem dX7_command_53 : decode cX7_command 53 = .ok (.isub, 1) := by decide +kernel
theorem dX7_command_54 : decode cX7_command 54 = .ok (.istore_n 2, 1) := by decide +kernel
theorem dX7_command_55 : decode cX7_command 55 = .ok (.aload_n 0, 1) := by decide +kernel
theorem dX7_command_56 : decode cX7_command 56 = .ok (.dup, 1) := by decide +kernel
theorem dX7_command_57 : decode cX7_command 57 = .ok (.getfield 105, 3) := by decide +kernel
theorem dX7_command_60 : decode cX7_command 60 = .ok (.iconst 1, 1) := by decide +kernel
theorem dX7_command_61 : decode cX7_command 61 = .ok (.iadd, 1) := by decide +kernel
theorem dX7_command_62 : decode cX7_command 62 = .ok (.putfield 105, 3) := by decide +kernel
theorem dX7_command_65 : decode cX7_command 65 = .ok (.iload_n 1, 1) := by decide +kernel
theorem dX7_command_66 : decode cX7_command 66 = .ok (.ifCond .eq 9, 3) := by decide +kernel
theorem dX7_command_69 : decode cX7_command 69 = .ok (.iconst 4, 1) := by decide +kernel
theorem dX7_command_70 : decode cX7_command 70 = .ok (.iload_n 2, 1) := by decide +kernel
theorem dX7_command_71 : decode cX7_command 71 = .ok (.imul, 1) := by decide +kernel
theorem dX7_command_72 : decode cX7_command 72 = .ok (.iconst 1, 1) := by decide +kernel
theorem dX7_command_73 : decode cX7_command 73 = .ok (.iadd, 1) := by decide +kernel
theorem dX7_command_74 : decode cX7_command 74 = .ok (.ireturn, 1) := by decide +kernel
theorem dX7_command_75 : decode cX7_command 75 = .ok (.aload_n 0, 1) := by decide +kernel
theorem dX7_command_76 : decode cX7_command 76 = .ok (.bipush 58, 2) := by decide +kernel
theorem dX7_command_78 : decode cX7_command 78 = .ok (.invokevirtual 115, 3) := by decide +kernel
theorem dX7_command_81 : decode cX7_command 81 = .ok (.ifCond .eq 16, 3) := by decide +kernel
theorem dX7_command_84 : decode cX7_command 84 = .ok (.aload_n 0, 1) := by decide +kernel
theorem dX7_command_85 : decode cX7_command 85 = .ok (.invokevirtual 119, 3) := by decide +kernel
theorem dX7_command_88 : decode cX7_command 88 = .ok (.ifCond .eq 9, 3) := by decide +kernel
theorem dX7_command_91 : decode cX7_command 91 = .ok (.iconst 4, 1) := by decide +kernel
theorem dX7_command_92 : decode cX7_command 92 = .ok (.iload_n 2, 1) := by decide +kernel
theorem dX7_command_93 : decode cX7_command 93 = .ok (.imul, 1) := by decide +kernel
theorem dX7_command_94 : decode cX7_command 94 = .ok (.goto 4, 3) := by decide +kernel
theorem dX7_command_97 : decode cX7_command 97 = .ok (.iconst (-1), 1) := by decide +kernel
theorem dX7_command_98 : decode cX7_command 98 = .ok (.ireturn, 1) := by decide +kernel
theorem dX7_isValid_0 : decode cX7_isValid 0 = .ok (.aload_n 0, 1) := by decide +kernel
theorem dX7_isValid_1 : decode cX7_isValid 1 = .ok (.iconst 0, 1) := by decide +kernel
theorem dX7_isValid_2 : decode cX7_isValid 2 = .ok (.putfield 105, 3) := by decide +kernel
theorem dX7_isValid_5 : decode cX7_isValid 5 = .ok (.aload_n 0, 1) := by decide +kernel
theorem dX7_isValid_6 : decode cX7_isValid 6 = .ok (.invokevirtual 123, 3) := by decide +kernel
theorem dX7_isValid_9 : decode cX7_isValid 9 = .ok (.iconst (-1), 1) := by decide +kernel
theorem dX7_isValid_10 : decode cX7_isValid 10 = .ok (.if_icmp .eq 7, 3) := by decide +kernel
theorem dX7_isValid_13 : decode cX7_isValid 13 = .ok (.iconst 1, 1) := by decide +kernel
theorem dX7_isValid_14 : decode cX7_isValid 14 = .ok (.goto 4, 3) := by decide +kernel
theorem dX7_isValid_17 : decode cX7_isValid 17 = .ok (.iconst 0, 1) := by decide +kernel
theorem dX7_isValid_18 : decode cX7_isValid 18 = .ok (.istore_n 1, 1) := by decide +kernel
theorem dX7_isValid_19 : decode cX7_isValid 19 = .ok (.iload_n 1, 1) := by decide +kernel
theorem dX7_isValid_20 : decode cX7_isValid 20 = .ok (.ifCond .eq 40, 3) := by decide +kernel
theorem dX7_isValid_23 : decode cX7_isValid 23 = .ok (.aload_n 0, 1) := by decide +kernel
theorem dX7_isValid_24 : decode cX7_isValid 24 = .ok (.getfield 105, 3) := by decide +kernel
theorem dX7_isValid_27 : decode cX7_isValid 27 = .ok (.aload_n 0, 1) := by decide +kernel
theorem dX7_isValid_28 : decode cX7_isValid 28 = .ok (.getfield 102, 3) := by decide +kernel
theorem dX7_isValid_31 : decode cX7_isValid 31 = .ok (.if_icmp .ge 29, 3) := by decide +kernel
theorem dX7_isValid_34 : decode cX7_isValid 34 = .ok (.aload_n 0, 1) := by decide +kernel
theorem dX7_isValid_35 : decode cX7_isValid 35 = .ok (.bipush 59, 2) := by decide +kernel
theorem dX7_isValid_37 : decode cX7_isValid 37 = .ok (.invokevirtual 115, 3) := by decide +kernel
theorem dX7_isValid_40 : decode cX7_isValid 40 = .ok (.ifCond .eq 15, 3) := by decide +kernel
theorem dX7_isValid_43 : decode cX7_isValid 43 = .ok (.aload_n 0, 1) := by decide +kernel
theorem dX7_isValid_44 : decode cX7_isValid 44 = .ok (.invokevirtual 123, 3) := by decide +kernel
theorem dX7_isValid_47 : decode cX7_isValid 47 = .ok (.iconst (-1), 1) := by decide +kernel
theorem dX7_isValid_48 : decode cX7_isValid 48 = .ok (.if_icmp .eq 7, 3) := by decide +kernel
theorem dX7_isValid_51 : decode cX7_isValid 51 = .ok (.iconst 1, 1) := by decide +kernel
theorem dX7_isValid_52 : decode cX7_isValid 52 = .ok (.goto 4, 3) := by decide +kernel
theorem dX7_isValid_55 : decode cX7_isValid 55 = .ok (.iconst 0, 1) := by decide +kernel
theorem dX7_isValid_56 : decode cX7_isValid 56 = .ok (.istore_n 1, 1) := by decide +kernel
theorem dX7_isValid_57 : decode cX7_isValid 57 = .ok (.goto (-38), 3) := by decide +kernel
theorem dX7_isValid_60 : decode cX7_isValid 60 = .ok (.iload_n 1, 1) := by decide +kernel
theorem dX7_isValid_61 : decode cX7_isValid 61 = .ok (.ireturn, 1) := by decide +kernel
theorem dX7_errorPosition_0 : decode cX7_errorPosition 0 = .ok (.aload_n 0, 1) := by decide +kernel
theorem dX7_errorPosition_1 : decode cX7_errorPosition 1 = .ok (.iconst 0, 1) := by decide +kernel
theorem dX7_errorPosition_2 : decode cX7_errorPosition 2 = .ok (.putfield 29, 3) := by decide +kernel
theorem dX7_errorPosition_5 : decode cX7_errorPosition 5 = .ok (.aload_n 0, 1) := by decide +kernel
theorem dX7_errorPosition_6 : decode cX7_errorPosition 6 = .ok (.invokevirtual 126, 3) := by decide +kernel
theorem dX7_errorPosition_9 : decode cX7_errorPosition 9 = .ok (.ifCond .eq 7, 3) := by decide +kernel
theorem dX7_errorPosition_12 : decode cX7_errorPosition 12 = .ok (.iconst (-1), 1) := by decide +kernel
theorem dX7_errorPosition_13 : decode cX7_errorPosition 13 = .ok (.goto 7, 3) := by decide +kernel
theorem dX7_errorPosition_16 : decode cX7_errorPosition 16 = .ok (.aload_n 0, 1) := by decide +kernel
theorem dX7_errorPosition_17 : decode cX7_errorPosition 17 = .ok (.getfield 105, 3) := by decide +kernel
theorem dX7_errorPosition_20 : decode cX7_errorPosition 20 = .ok (.ireturn, 1) := by decide +kernel
theorem dX7_does_0 : decode cX7_does 0 = .ok (.iconst 0, 1) := by decide +kernel
theorem dX7_does_1 : decode cX7_does 1 = .ok (.istore_n 2, 1) := by decide +kernel
theorem dX7_does_2 : decode cX7_does 2 = .ok (.iload_n 1, 1) := by decide +kernel
theorem dX7_does_3 : decode cX7_does 3 = .ok (.iconst 2, 1) := by decide +kernel
theorem dX7_does_4 : decode cX7_does 4 = .ok (.if_icmp .ne 11, 3) := by decide +kernel
theorem dX7_does_7 : decode cX7_does 7 = .ok (.aload_n 0, 1) := by decide +kernel
theorem dX7_does_8 : decode cX7_does 8 = .ok (.invokevirtual 80, 3) := by decide +kernel
theorem dX7_does_11 : decode cX7_does 11 = .ok (.istore_n 2, 1) := by decide +kernel
theorem dX7_does_12 : decode cX7_does 12 = .ok (.goto 55, 3) := by decide +kernel
theorem dX7_does_15 : decode cX7_does 15 = .ok (.iload_n 1, 1) := by decide +kernel
theorem dX7_does_16 : decode cX7_does 16 = .ok (.iconst 3, 1) := by decide +kernel
theorem dX7_does_17 : decode cX7_does 17 = .ok (.if_icmp .ne 11, 3) := by decide +kernel
theorem dX7_does_20 : decode cX7_does 20 = .ok (.aload_n 0, 1) := by decide +kernel
theorem dX7_does_21 : decode cX7_does 21 = .ok (.invokevirtual 83, 3) := by decide +kernel
theorem dX7_does_24 : decode cX7_does 24 = .ok (.istore_n 2, 1) := by decide +kernel
theorem dX7_does_25 : decode cX7_does 25 = .ok (.goto 42, 3) := by decide +kernel
theorem dX7_does_28 : decode cX7_does 28 = .ok (.iload_n 1, 1) := by decide +kernel
theorem dX7_does_29 : decode cX7_does 29 = .ok (.iconst 4, 1) := by decide +kernel
theorem dX7_does_30 : decode cX7_does 30 = .ok (.irem, 1) := by decide +kernel
theorem dX7_does_31 : decode cX7_does 31 = .ok (.iconst 1, 1) := by decide +kernel
theorem dX7_does_32 : decode cX7_does 32 = .ok (.if_icmp .ne 14, 3) := by decide +kernel
theorem dX7_does_35 : decode cX7_does 35 = .ok (.aload_n 0, 1) := by decide +kernel
theorem dX7_does_36 : decode cX7_does 36 = .ok (.iload_n 1, 1) := by decide +kernel
theorem dX7_does_37 : decode cX7_does 37 = .ok (.iconst 4, 1) := by decide +kernel
theorem dX7_does_38 : decode cX7_does 38 = .ok (.idiv, 1) := by decide +kernel
theorem dX7_does_39 : decode cX7_does 39 = .ok (.invokevirtual 99, 3) := by decide +kernel
theorem dX7_does_42 : decode cX7_does 42 = .ok (.istore_n 2, 1) := by decide +kernel
theorem dX7_does_43 : decode cX7_does 43 = .ok (.goto 24, 3) := by decide +kernel
theorem dX7_does_46 : decode cX7_does 46 = .ok (.aload_n 0, 1) := by decide +kernel
theorem dX7_does_47 : decode cX7_does 47 = .ok (.iload_n 1, 1) := by decide +kernel
theorem dX7_does_48 : decode cX7_does 48 = .ok (.iconst 4, 1) := by decide +kernel
theorem dX7_does_49 : decode cX7_does 49 = .ok (.idiv, 1) := by decide +kernel
theorem dX7_does_50 : decode cX7_does 50 = .ok (.aload_n 0, 1) := by decide +kernel
theorem dX7_does_51 : decode cX7_does 51 = .ok (.getfield 112, 3) := by decide +kernel
theorem dX7_does_54 : decode cX7_does 54 = .ok (.invokevirtual 96, 3) := by decide +kernel
theorem dX7_does_57 : decode cX7_does 57 = .ok (.iconst 1, 1) := by decide +kernel
theorem dX7_does_58 : decode cX7_does 58 = .ok (.if_icmp .ne 7, 3) := by decide +kernel
theorem dX7_does_61 : decode cX7_does 61 = .ok (.iconst 1, 1) := by decide +kernel
theorem dX7_does_62 : decode cX7_does 62 = .ok (.goto 4, 3) := by decide +kernel
theorem dX7_does_65 : decode cX7_does 65 = .ok (.iconst 0, 1) := by decide +kernel
theorem dX7_does_66 : decode cX7_does 66 = .ok (.ireturn, 1) := by decide +kernel
theorem dX7_does_67 : decode cX7_does 67 = .ok (.iconst 0, 1) := by decide +kernel
theorem dX7_does_68 : decode cX7_does 68 = .ok (.ireturn, 1) := by decide +kernel
theorem dX7_runText_0 : decode cX7_runText 0 = .ok (.aload_n 0, 1) := by decide +kernel
theorem dX7_runText_1 : decode cX7_runText 1 = .ok (.iconst 0, 1) := by decide +kernel
theorem dX7_runText_2 : decode cX7_runText 2 = .ok (.putfield 29, 3) := by decide +kernel
theorem dX7_runText_5 : decode cX7_runText 5 = .ok (.aload_n 0, 1) := by decide +kernel
theorem dX7_runText_6 : decode cX7_runText 6 = .ok (.invokevirtual 126, 3) := by decide +kernel
theorem dX7_runText_9 : decode cX7_runText 9 = .ok (.ifCond .ne 9, 3) := by decide +kernel
theorem dX7_runText_12 : decode cX7_runText 12 = .ok (.aload_n 0, 1) := by decide +kernel
theorem dX7_runText_13 : decode cX7_runText 13 = .ok (.iconst 1, 1) := by decide +kernel
theorem dX7_runText_14 : decode cX7_runText 14 = .ok (.invokevirtual 90, 3) := by decide +kernel
theorem dX7_runText_17 : decode cX7_runText 17 = .ok (.ireturn, 1) := by decide +kernel
theorem dX7_runText_18 : decode cX7_runText 18 = .ok (.aload_n 0, 1) := by decide +kernel
theorem dX7_runText_19 : decode cX7_runText 19 = .ok (.invokevirtual 93, 3) := by decide +kernel
theorem dX7_runText_22 : decode cX7_runText 22 = .ok (.aload_n 0, 1) := by decide +kernel
theorem dX7_runText_23 : decode cX7_runText 23 = .ok (.iconst 0, 1) := by decide +kernel
theorem dX7_runText_24 : decode cX7_runText 24 = .ok (.putfield 105, 3) := by decide +kernel
theorem dX7_runText_27 : decode cX7_runText 27 = .ok (.iconst 0, 1) := by decide +kernel
theorem dX7_runText_28 : decode cX7_runText 28 = .ok (.istore_n 1, 1) := by decide +kernel
theorem dX7_runText_29 : decode cX7_runText 29 = .ok (.aload_n 0, 1) := by decide +kernel
theorem dX7_runText_30 : decode cX7_runText 30 = .ok (.getfield 105, 3) := by decide +kernel
theorem dX7_runText_33 : decode cX7_runText 33 = .ok (.aload_n 0, 1) := by decide +kernel
theorem dX7_runText_34 : decode cX7_runText 34 = .ok (.getfield 102, 3) := by decide +kernel
theorem dX7_runText_37 : decode cX7_runText 37 = .ok (.if_icmp .ge 27, 3) := by decide +kernel
theorem dX7_runText_40 : decode cX7_runText 40 = .ok (.iload_n 1, 1) := by decide +kernel
theorem dX7_runText_41 : decode cX7_runText 41 = .ok (.aload_n 0, 1) := by decide +kernel
theorem dX7_runText_42 : decode cX7_runText 42 = .ok (.aload_n 0, 1) := by decide +kernel
theorem dX7_runText_43 : decode cX7_runText 43 = .ok (.invokevirtual 123, 3) := by decide +kernel
theorem dX7_runText_46 : decode cX7_runText 46 = .ok (.invokevirtual 129, 3) := by decide +kernel
theorem dX7_runText_49 : decode cX7_runText 49 = .ok (.iadd, 1) := by decide +kernel
theorem dX7_runText_50 : decode cX7_runText 50 = .ok (.istore_n 1, 1) := by decide +kernel
theorem dX7_runText_51 : decode cX7_runText 51 = .ok (.aload_n 0, 1) := by decide +kernel
theorem dX7_runText_52 : decode cX7_runText 52 = .ok (.dup, 1) := by decide +kernel
theorem dX7_runText_53 : decode cX7_runText 53 = .ok (.getfield 105, 3) := by decide +kernel
theorem dX7_runText_56 : decode cX7_runText 56 = .ok (.iconst 1, 1) := by decide +kernel
theorem dX7_runText_57 : decode cX7_runText 57 = .ok (.iadd, 1) := by decide +kernel
theorem dX7_runText_58 : decode cX7_runText 58 = .ok (.putfield 105, 3) := by decide +kernel
theorem dX7_runText_61 : decode cX7_runText 61 = .ok (.goto (-32), 3) := by decide +kernel
theorem dX7_runText_64 : decode cX7_runText 64 = .ok (.iload_n 1, 1) := by decide +kernel
theorem dX7_runText_65 : decode cX7_runText 65 = .ok (.ireturn, 1) := by decide +kernel
theorem dX7_undo_0 : decode cX7_undo 0 = .ok (.aload_n 0, 1) := by decide +kernel
theorem dX7_undo_1 : decode cX7_undo 1 = .ok (.iconst 0, 1) := by decide +kernel
theorem dX7_undo_2 : decode cX7_undo 2 = .ok (.putfield 29, 3) := by decide +kernel
theorem dX7_undo_5 : decode cX7_undo 5 = .ok (.aload_n 0, 1) := by decide +kernel
theorem dX7_undo_6 : decode cX7_undo 6 = .ok (.getfield 33, 3) := by decide +kernel
theorem dX7_undo_9 : decode cX7_undo 9 = .ok (.ifCond .ne 9, 3) := by decide +kernel
theorem dX7_undo_12 : decode cX7_undo 12 = .ok (.aload_n 0, 1) := by decide +kernel
theorem dX7_undo_13 : decode cX7_undo 13 = .ok (.iconst 1, 1) := by decide +kernel
theorem dX7_undo_14 : decode cX7_undo 14 = .ok (.invokevirtual 90, 3) := by decide +kernel
theorem dX7_undo_17 : decode cX7_undo 17 = .ok (.ireturn, 1) := by decide +kernel
theorem dX7_undo_18 : decode cX7_undo 18 = .ok (.aload_n 0, 1) := by decide +kernel
theorem dX7_undo_19 : decode cX7_undo 19 = .ok (.dup, 1) := by decide +kernel
theorem dX7_undo_20 : decode cX7_undo 20 = .ok (.getfield 33, 3) := by decide +kernel
theorem dX7_undo_23 : decode cX7_undo 23 = .ok (.iconst 1, 1) := by decide +kernel
theorem dX7_undo_24 : decode cX7_undo 24 = .ok (.isub, 1) := by decide +kernel
theorem dX7_undo_25 : decode cX7_undo 25 = .ok (.putfield 33, 3) := by decide +kernel
theorem dX7_undo_28 : decode cX7_undo 28 = .ok (.iconst 0, 1) := by decide +kernel
theorem dX7_undo_29 : decode cX7_undo 29 = .ok (.istore_n 1, 1) := by decide +kernel
theorem dX7_undo_30 : decode cX7_undo 30 = .ok (.iload_n 1, 1) := by decide +kernel
theorem dX7_undo_31 : decode cX7_undo 31 = .ok (.sipush 206, 3) := by decide +kernel
theorem dX7_undo_34 : decode cX7_undo 34 = .ok (.if_icmp .ge 30, 3) := by decide +kernel
theorem dX7_undo_37 : decode cX7_undo 37 = .ok (.aload_n 0, 1) := by decide +kernel
theorem dX7_undo_38 : decode cX7_undo 38 = .ok (.getfield 7, 3) := by decide +kernel
theorem dX7_undo_41 : decode cX7_undo 41 = .ok (.iload_n 1, 1) := by decide +kernel
theorem dX7_undo_42 : decode cX7_undo 42 = .ok (.aload_n 0, 1) := by decide +kernel
theorem dX7_undo_43 : decode cX7_undo 43 = .ok (.getfield 13, 3) := by decide +kernel
theorem dX7_undo_46 : decode cX7_undo 46 = .ok (.sipush 206, 3) := by decide +kernel
theorem dX7_undo_49 : decode cX7_undo 49 = .ok (.aload_n 0, 1) := by decide +kernel
theorem dX7_undo_50 : decode cX7_undo 50 = .ok (.getfield 33, 3) := by decide +kernel
theorem dX7_undo_53 : decode cX7_undo 53 = .ok (.imul, 1) := by decide +kernel
theorem dX7_undo_54 : decode cX7_undo 54 = .ok (.iload_n 1, 1) := by decide +kernel
theorem dX7_undo_55 : decode cX7_undo 55 = .ok (.iadd, 1) := by decide +kernel
theorem dX7_undo_56 : decode cX7_undo 56 = .ok (.iaload, 1) := by decide +kernel
theorem dX7_undo_57 : decode cX7_undo 57 = .ok (.iastore, 1) := by decide +kernel
theorem dX7_undo_58 : decode cX7_undo 58 = .ok (.iinc 1 1, 3) := by decide +kernel
theorem dX7_undo_61 : decode cX7_undo 61 = .ok (.goto (-31), 3) := by decide +kernel
theorem dX7_undo_64 : decode cX7_undo 64 = .ok (.aload_n 0, 1) := by decide +kernel
theorem dX7_undo_65 : decode cX7_undo 65 = .ok (.getfield 33, 3) := by decide +kernel
theorem dX7_undo_68 : decode cX7_undo 68 = .ok (.ireturn, 1) := by decide +kernel
theorem dX7_save_0 : decode cX7_save 0 = .ok (.aload_n 0, 1) := by decide +kernel
theorem dX7_save_1 : decode cX7_save 1 = .ok (.iconst 0, 1) := by decide +kernel
theorem dX7_save_2 : decode cX7_save 2 = .ok (.putfield 29, 3) := by decide +kernel
theorem dX7_save_5 : decode cX7_save 5 = .ok (.iload_n 1, 1) := by decide +kernel
theorem dX7_save_6 : decode cX7_save 6 = .ok (.iconst 0, 1) := by decide +kernel
theorem dX7_save_7 : decode cX7_save 7 = .ok (.iconst 1, 1) := by decide +kernel
theorem dX7_save_8 : decode cX7_save 8 = .ok (.invokestatic 86, 3) := by decide +kernel
theorem dX7_save_11 : decode cX7_save 11 = .ok (.ifCond .ne 9, 3) := by decide +kernel
theorem dX7_save_14 : decode cX7_save 14 = .ok (.aload_n 0, 1) := by decide +kernel
theorem dX7_save_15 : decode cX7_save 15 = .ok (.iconst 1, 1) := by decide +kernel
theorem dX7_save_16 : decode cX7_save 16 = .ok (.invokevirtual 90, 3) := by decide +kernel
theorem dX7_save_19 : decode cX7_save 19 = .ok (.ireturn, 1) := by decide +kernel
theorem dX7_save_20 : decode cX7_save 20 = .ok (.iconst 0, 1) := by decide +kernel
theorem dX7_save_21 : decode cX7_save 21 = .ok (.istore_n 2, 1) := by decide +kernel
theorem dX7_save_22 : decode cX7_save 22 = .ok (.iload_n 2, 1) := by decide +kernel
theorem dX7_save_23 : decode cX7_save 23 = .ok (.sipush 206, 3) := by decide +kernel
theorem dX7_save_26 : decode cX7_save 26 = .ok (.if_icmp .ge 27, 3) := by decide +kernel
theorem dX7_save_29 : decode cX7_save 29 = .ok (.aload_n 0, 1) := by decide +kernel
theorem dX7_save_30 : decode cX7_save 30 = .ok (.getfield 16, 3) := by decide +kernel
theorem dX7_save_33 : decode cX7_save 33 = .ok (.sipush 206, 3) := by decide +kernel
theorem dX7_save_36 : decode cX7_save 36 = .ok (.iload_n 1, 1) := by decide +kernel
theorem dX7_save_37 : decode cX7_save 37 = .ok (.imul, 1) := by decide +kernel
theorem dX7_save_38 : decode cX7_save 38 = .ok (.iload_n 2, 1) := by decide +kernel
theorem dX7_save_39 : decode cX7_save 39 = .ok (.iadd, 1) := by decide +kernel
theorem dX7_save_40 : decode cX7_save 40 = .ok (.aload_n 0, 1) := by decide +kernel
theorem dX7_save_41 : decode cX7_save 41 = .ok (.getfield 7, 3) := by decide +kernel
theorem dX7_save_44 : decode cX7_save 44 = .ok (.iload_n 2, 1) := by decide +kernel
theorem dX7_save_45 : decode cX7_save 45 = .ok (.iaload, 1) := by decide +kernel
theorem dX7_save_46 : decode cX7_save 46 = .ok (.iastore, 1) := by decide +kernel
theorem dX7_save_47 : decode cX7_save 47 = .ok (.iinc 2 1, 3) := by decide +kernel
theorem dX7_save_50 : decode cX7_save 50 = .ok (.goto (-28), 3) := by decide +kernel
theorem dX7_save_53 : decode cX7_save 53 = .ok (.aload_n 0, 1) := by decide +kernel
theorem dX7_save_54 : decode cX7_save 54 = .ok (.getfield 19, 3) := by decide +kernel
theorem dX7_save_57 : decode cX7_save 57 = .ok (.iload_n 1, 1) := by decide +kernel
theorem dX7_save_58 : decode cX7_save 58 = .ok (.iconst 1, 1) := by decide +kernel
theorem dX7_save_59 : decode cX7_save 59 = .ok (.bastore, 1) := by decide +kernel
theorem dX7_save_60 : decode cX7_save 60 = .ok (.aload_n 0, 1) := by decide +kernel
theorem dX7_save_61 : decode cX7_save 61 = .ok (.invokevirtual 132, 3) := by decide +kernel
theorem dX7_save_64 : decode cX7_save 64 = .ok (.ireturn, 1) := by decide +kernel
theorem dX7_restore_0 : decode cX7_restore 0 = .ok (.aload_n 0, 1) := by decide +kernel
theorem dX7_restore_1 : decode cX7_restore 1 = .ok (.iconst 0, 1) := by decide +kernel
theorem dX7_restore_2 : decode cX7_restore 2 = .ok (.putfield 29, 3) := by decide +kernel
theorem dX7_restore_5 : decode cX7_restore 5 = .ok (.iload_n 1, 1) := by decide +kernel
theorem dX7_restore_6 : decode cX7_restore 6 = .ok (.iconst 0, 1) := by decide +kernel
theorem dX7_restore_7 : decode cX7_restore 7 = .ok (.iconst 1, 1) := by decide +kernel
theorem dX7_restore_8 : decode cX7_restore 8 = .ok (.invokestatic 86, 3) := by decide +kernel
theorem dX7_restore_11 : decode cX7_restore 11 = .ok (.ifCond .ne 9, 3) := by decide +kernel
theorem dX7_restore_14 : decode cX7_restore 14 = .ok (.aload_n 0, 1) := by decide +kernel
theorem dX7_restore_15 : decode cX7_restore 15 = .ok (.iconst 1, 1) := by decide +kernel
theorem dX7_restore_16 : decode cX7_restore 16 = .ok (.invokevirtual 90, 3) := by decide +kernel
theorem dX7_restore_19 : decode cX7_restore 19 = .ok (.ireturn, 1) := by decide +kernel
theorem dX7_restore_20 : decode cX7_restore 20 = .ok (.aload_n 0, 1) := by decide +kernel
theorem dX7_restore_21 : decode cX7_restore 21 = .ok (.getfield 19, 3) := by decide +kernel
theorem dX7_restore_24 : decode cX7_restore 24 = .ok (.iload_n 1, 1) := by decide +kernel
theorem dX7_restore_25 : decode cX7_restore 25 = .ok (.baload, 1) := by decide +kernel
theorem dX7_restore_26 : decode cX7_restore 26 = .ok (.ifCond .ne 9, 3) := by decide +kernel
theorem dX7_restore_29 : decode cX7_restore 29 = .ok (.aload_n 0, 1) := by decide +kernel
theorem dX7_restore_30 : decode cX7_restore 30 = .ok (.iconst 2, 1) := by decide +kernel
theorem dX7_restore_31 : decode cX7_restore 31 = .ok (.invokevirtual 90, 3) := by decide +kernel
theorem dX7_restore_34 : decode cX7_restore 34 = .ok (.ireturn, 1) := by decide +kernel
theorem dX7_restore_35 : decode cX7_restore 35 = .ok (.aload_n 0, 1) := by decide +kernel
theorem dX7_restore_36 : decode cX7_restore 36 = .ok (.invokevirtual 93, 3) := by decide +kernel
theorem dX7_restore_39 : decode cX7_restore 39 = .ok (.iconst 0, 1) := by decide +kernel
theorem dX7_restore_40 : decode cX7_restore 40 = .ok (.istore_n 2, 1) := by decide +kernel
theorem dX7_restore_41 : decode cX7_restore 41 = .ok (.iload_n 2, 1) := by decide +kernel
theorem dX7_restore_42 : decode cX7_restore 42 = .ok (.sipush 206, 3) := by decide +kernel
theorem dX7_restore_45 : decode cX7_restore 45 = .ok (.if_icmp .ge 27, 3) := by decide +kernel
theorem dX7_restore_48 : decode cX7_restore 48 = .ok (.aload_n 0, 1) := by decide +kernel
theorem dX7_restore_49 : decode cX7_restore 49 = .ok (.getfield 7, 3) := by decide +kernel
theorem dX7_restore_52 : decode cX7_restore 52 = .ok (.iload_n 2, 1) := by decide +kernel
theorem dX7_restore_53 : decode cX7_restore 53 = .ok (.aload_n 0, 1) := by decide +kernel
theorem dX7_restore_54 : decode cX7_restore 54 = .ok (.getfield 16, 3) := by decide +kernel
theorem dX7_restore_57 : decode cX7_restore 57 = .ok (.sipush 206, 3) := by decide +kernel
theorem dX7_restore_60 : decode cX7_restore 60 = .ok (.iload_n 1, 1) := by decide +kernel
theorem dX7_restore_61 : decode cX7_restore 61 = .ok (.imul, 1) := by decide +kernel
theorem dX7_restore_62 : decode cX7_restore 62 = .ok (.iload_n 2, 1) := by decide +kernel
theorem dX7_restore_63 : decode cX7_restore 63 = .ok (.iadd, 1) := by decide +kernel
theorem dX7_restore_64 : decode cX7_restore 64 = .ok (.iaload, 1) := by decide +kernel
theorem dX7_restore_65 : decode cX7_restore 65 = .ok (.iastore, 1) := by decide +kernel
theorem dX7_restore_66 : decode cX7_restore 66 = .ok (.iinc 2 1, 3) := by decide +kernel
theorem dX7_restore_69 : decode cX7_restore 69 = .ok (.goto (-28), 3) := by decide +kernel
theorem dX7_restore_72 : decode cX7_restore 72 = .ok (.aload_n 0, 1) := by decide +kernel
theorem dX7_restore_73 : decode cX7_restore 73 = .ok (.invokevirtual 132, 3) := by decide +kernel
theorem dX7_restore_76 : decode cX7_restore 76 = .ok (.ireturn, 1) := by decide +kernel
theorem dX7_owner_0 : decode cX7_owner 0 = .ok (.aload_n 0, 1) := by decide +kernel
theorem dX7_owner_1 : decode cX7_owner 1 = .ok (.iconst 0, 1) := by decide +kernel
theorem dX7_owner_2 : decode cX7_owner 2 = .ok (.putfield 29, 3) := by decide +kernel
theorem dX7_owner_5 : decode cX7_owner 5 = .ok (.iload_n 1, 1) := by decide +kernel
theorem dX7_owner_6 : decode cX7_owner 6 = .ok (.iconst 0, 1) := by decide +kernel
theorem dX7_owner_7 : decode cX7_owner 7 = .ok (.bipush 7, 2) := by decide +kernel
theorem dX7_owner_9 : decode cX7_owner 9 = .ok (.invokestatic 86, 3) := by decide +kernel
theorem dX7_owner_12 : decode cX7_owner 12 = .ok (.ifCond .eq 14, 3) := by decide +kernel
theorem dX7_owner_15 : decode cX7_owner 15 = .ok (.aload_n 0, 1) := by decide +kernel
theorem dX7_owner_16 : decode cX7_owner 16 = .ok (.getfield 7, 3) := by decide +kernel
theorem dX7_owner_19 : decode cX7_owner 19 = .ok (.iconst 0, 1) := by decide +kernel
theorem dX7_owner_20 : decode cX7_owner 20 = .ok (.iload_n 1, 1) := by decide +kernel
theorem dX7_owner_21 : decode cX7_owner 21 = .ok (.iadd, 1) := by decide +kernel
theorem dX7_owner_22 : decode cX7_owner 22 = .ok (.iaload, 1) := by decide +kernel
theorem dX7_owner_23 : decode cX7_owner 23 = .ok (.goto 8, 3) := by decide +kernel
theorem dX7_owner_26 : decode cX7_owner 26 = .ok (.aload_n 0, 1) := by decide +kernel
theorem dX7_owner_27 : decode cX7_owner 27 = .ok (.iconst 1, 1) := by decide +kernel
theorem dX7_owner_28 : decode cX7_owner 28 = .ok (.invokevirtual 90, 3) := by decide +kernel
theorem dX7_owner_31 : decode cX7_owner 31 = .ok (.ireturn, 1) := by decide +kernel
theorem dX7_waysOf_0 : decode cX7_waysOf 0 = .ok (.aload_n 0, 1) := by decide +kernel
theorem dX7_waysOf_1 : decode cX7_waysOf 1 = .ok (.iconst 0, 1) := by decide +kernel
theorem dX7_waysOf_2 : decode cX7_waysOf 2 = .ok (.putfield 29, 3) := by decide +kernel
theorem dX7_waysOf_5 : decode cX7_waysOf 5 = .ok (.iload_n 1, 1) := by decide +kernel
theorem dX7_waysOf_6 : decode cX7_waysOf 6 = .ok (.iconst 0, 1) := by decide +kernel
theorem dX7_waysOf_7 : decode cX7_waysOf 7 = .ok (.iconst 3, 1) := by decide +kernel
theorem dX7_waysOf_8 : decode cX7_waysOf 8 = .ok (.invokestatic 86, 3) := by decide +kernel
theorem dX7_waysOf_11 : decode cX7_waysOf 11 = .ok (.ifCond .eq 11, 3) := by decide +kernel
theorem dX7_waysOf_14 : decode cX7_waysOf 14 = .ok (.aload_n 0, 1) := by decide +kernel
theorem dX7_waysOf_15 : decode cX7_waysOf 15 = .ok (.iload_n 1, 1) := by decide +kernel
theorem dX7_waysOf_16 : decode cX7_waysOf 16 = .ok (.invokevirtual 44, 3) := by decide +kernel
theorem dX7_waysOf_19 : decode cX7_waysOf 19 = .ok (.goto 8, 3) := by decide +kernel
theorem dX7_waysOf_22 : decode cX7_waysOf 22 = .ok (.aload_n 0, 1) := by decide +kernel
theorem dX7_waysOf_23 : decode cX7_waysOf 23 = .ok (.iconst 1, 1) := by decide +kernel
theorem dX7_waysOf_24 : decode cX7_waysOf 24 = .ok (.invokevirtual 90, 3) := by decide +kernel
theorem dX7_waysOf_27 : decode cX7_waysOf 27 = .ok (.ireturn, 1) := by decide +kernel
theorem dX7_line_0 : decode cX7_line 0 = .ok (.aload_n 0, 1) := by decide +kernel
theorem dX7_line_1 : decode cX7_line 1 = .ok (.iconst 0, 1) := by decide +kernel
theorem dX7_line_2 : decode cX7_line 2 = .ok (.putfield 29, 3) := by decide +kernel
theorem dX7_line_5 : decode cX7_line 5 = .ok (.iload_n 1, 1) := by decide +kernel
theorem dX7_line_6 : decode cX7_line 6 = .ok (.iconst 0, 1) := by decide +kernel
theorem dX7_line_7 : decode cX7_line 7 = .ok (.iconst 3, 1) := by decide +kernel
theorem dX7_line_8 : decode cX7_line 8 = .ok (.invokestatic 86, 3) := by decide +kernel
theorem dX7_line_11 : decode cX7_line 11 = .ok (.ifCond .eq 30, 3) := by decide +kernel
theorem dX7_line_14 : decode cX7_line 14 = .ok (.iload_n 2, 1) := by decide +kernel
theorem dX7_line_15 : decode cX7_line 15 = .ok (.iconst 0, 1) := by decide +kernel
theorem dX7_line_16 : decode cX7_line 16 = .ok (.bipush 7, 2) := by decide +kernel
theorem dX7_line_18 : decode cX7_line 18 = .ok (.invokestatic 86, 3) := by decide +kernel
theorem dX7_line_21 : decode cX7_line 21 = .ok (.ifCond .eq 20, 3) := by decide +kernel
theorem dX7_line_24 : decode cX7_line 24 = .ok (.aload_n 0, 1) := by decide +kernel
theorem dX7_line_25 : decode cX7_line 25 = .ok (.getfield 7, 3) := by decide +kernel
theorem dX7_line_28 : decode cX7_line 28 = .ok (.bipush 8, 2) := by decide +kernel
theorem dX7_line_30 : decode cX7_line 30 = .ok (.bipush 8, 2) := by decide +kernel
theorem dX7_line_32 : decode cX7_line 32 = .ok (.iload_n 1, 1) := by decide +kernel
theorem dX7_line_33 : decode cX7_line 33 = .ok (.imul, 1) := by decide +kernel
theorem dX7_line_34 : decode cX7_line 34 = .ok (.iadd, 1) := by decide +kernel
theorem dX7_line_35 : decode cX7_line 35 = .ok (.iload_n 2, 1) := by decide +kernel
theorem dX7_line_36 : decode cX7_line 36 = .ok (.iadd, 1) := by decide +kernel
theorem dX7_line_37 : decode cX7_line 37 = .ok (.iaload, 1) := by decide +kernel
theorem dX7_line_38 : decode cX7_line 38 = .ok (.goto 8, 3) := by decide +kernel
theorem dX7_line_41 : decode cX7_line 41 = .ok (.aload_n 0, 1) := by decide +kernel
theorem dX7_line_42 : decode cX7_line 42 = .ok (.iconst 1, 1) := by decide +kernel
theorem dX7_line_43 : decode cX7_line 43 = .ok (.invokevirtual 90, 3) := by decide +kernel
theorem dX7_line_46 : decode cX7_line 46 = .ok (.ireturn, 1) := by decide +kernel
theorem dX7_lines_0 : decode cX7_lines 0 = .ok (.aload_n 0, 1) := by decide +kernel
theorem dX7_lines_1 : decode cX7_lines 1 = .ok (.iconst 0, 1) := by decide +kernel
theorem dX7_lines_2 : decode cX7_lines 2 = .ok (.putfield 29, 3) := by decide +kernel
theorem dX7_lines_5 : decode cX7_lines 5 = .ok (.iload_n 1, 1) := by decide +kernel
theorem dX7_lines_6 : decode cX7_lines 6 = .ok (.iconst 0, 1) := by decide +kernel
theorem dX7_lines_7 : decode cX7_lines 7 = .ok (.iconst 3, 1) := by decide +kernel
theorem dX7_lines_8 : decode cX7_lines 8 = .ok (.invokestatic 86, 3) := by decide +kernel
theorem dX7_lines_11 : decode cX7_lines 11 = .ok (.ifCond .eq 12, 3) := by decide +kernel
theorem dX7_lines_14 : decode cX7_lines 14 = .ok (.aload_n 0, 1) := by decide +kernel
theorem dX7_lines_15 : decode cX7_lines 15 = .ok (.iload_n 1, 1) := by decide +kernel
theorem dX7_lines_16 : decode cX7_lines 16 = .ok (.iload_n 2, 1) := by decide +kernel
theorem dX7_lines_17 : decode cX7_lines 17 = .ok (.invokevirtual 36, 3) := by decide +kernel
theorem dX7_lines_20 : decode cX7_lines 20 = .ok (.goto 8, 3) := by decide +kernel
theorem dX7_lines_23 : decode cX7_lines 23 = .ok (.aload_n 0, 1) := by decide +kernel
theorem dX7_lines_24 : decode cX7_lines 24 = .ok (.iconst 1, 1) := by decide +kernel
theorem dX7_lines_25 : decode cX7_lines 25 = .ok (.invokevirtual 90, 3) := by decide +kernel
theorem dX7_lines_28 : decode cX7_lines 28 = .ok (.ireturn, 1) := by decide +kernel
theorem dX7_ifAccessed_0 : decode cX7_ifAccessed 0 = .ok (.aload_n 0, 1) := by decide +kernel
theorem dX7_ifAccessed_1 : decode cX7_ifAccessed 1 = .ok (.iconst 0, 1) := by decide +kernel
theorem dX7_ifAccessed_2 : decode cX7_ifAccessed 2 = .ok (.putfield 29, 3) := by decide +kernel
theorem dX7_ifAccessed_5 : decode cX7_ifAccessed 5 = .ok (.iload_n 1, 1) := by decide +kernel
theorem dX7_ifAccessed_6 : decode cX7_ifAccessed 6 = .ok (.iconst 0, 1) := by decide +kernel
theorem dX7_ifAccessed_7 : decode cX7_ifAccessed 7 = .ok (.iconst 3, 1) := by decide +kernel
theorem dX7_ifAccessed_8 : decode cX7_ifAccessed 8 = .ok (.invokestatic 86, 3) := by decide +kernel
theorem dX7_ifAccessed_11 : decode cX7_ifAccessed 11 = .ok (.ifCond .ne 9, 3) := by decide +kernel
theorem dX7_ifAccessed_14 : decode cX7_ifAccessed 14 = .ok (.aload_n 0, 1) := by decide +kernel
theorem dX7_ifAccessed_15 : decode cX7_ifAccessed 15 = .ok (.iconst 1, 1) := by decide +kernel
theorem dX7_ifAccessed_16 : decode cX7_ifAccessed 16 = .ok (.invokevirtual 90, 3) := by decide +kernel
theorem dX7_ifAccessed_19 : decode cX7_ifAccessed 19 = .ok (.ireturn, 1) := by decide +kernel
theorem dX7_ifAccessed_20 : decode cX7_ifAccessed 20 = .ok (.iload_n 2, 1) := by decide +kernel
theorem dX7_ifAccessed_21 : decode cX7_ifAccessed 21 = .ok (.iconst 0, 1) := by decide +kernel
theorem dX7_ifAccessed_22 : decode cX7_ifAccessed 22 = .ok (.sipush 255, 3) := by decide +kernel
theorem dX7_ifAccessed_25 : decode cX7_ifAccessed 25 = .ok (.invokestatic 86, 3) := by decide +kernel
theorem dX7_ifAccessed_28 : decode cX7_ifAccessed 28 = .ok (.ifCond .eq 12, 3) := by decide +kernel
theorem dX7_ifAccessed_31 : decode cX7_ifAccessed 31 = .ok (.aload_n 0, 1) := by decide +kernel
theorem dX7_ifAccessed_32 : decode cX7_ifAccessed 32 = .ok (.iload_n 1, 1) := by decide +kernel
theorem dX7_ifAccessed_33 : decode cX7_ifAccessed 33 = .ok (.iload_n 2, 1) := by decide +kernel
theorem dX7_ifAccessed_34 : decode cX7_ifAccessed 34 = .ok (.invokevirtual 74, 3) := by decide +kernel
theorem dX7_ifAccessed_37 : decode cX7_ifAccessed 37 = .ok (.goto 8, 3) := by decide +kernel
theorem dX7_ifAccessed_40 : decode cX7_ifAccessed 40 = .ok (.aload_n 0, 1) := by decide +kernel
theorem dX7_ifAccessed_41 : decode cX7_ifAccessed 41 = .ok (.iconst 2, 1) := by decide +kernel
theorem dX7_ifAccessed_42 : decode cX7_ifAccessed 42 = .ok (.invokevirtual 90, 3) := by decide +kernel
theorem dX7_ifAccessed_45 : decode cX7_ifAccessed 45 = .ok (.ireturn, 1) := by decide +kernel
theorem dX7_victim_0 : decode cX7_victim 0 = .ok (.aload_n 0, 1) := by decide +kernel
theorem dX7_victim_1 : decode cX7_victim 1 = .ok (.iconst 0, 1) := by decide +kernel
theorem dX7_victim_2 : decode cX7_victim 2 = .ok (.putfield 29, 3) := by decide +kernel
theorem dX7_victim_5 : decode cX7_victim 5 = .ok (.iload_n 1, 1) := by decide +kernel
theorem dX7_victim_6 : decode cX7_victim 6 = .ok (.iconst 0, 1) := by decide +kernel
theorem dX7_victim_7 : decode cX7_victim 7 = .ok (.iconst 3, 1) := by decide +kernel
theorem dX7_victim_8 : decode cX7_victim 8 = .ok (.invokestatic 86, 3) := by decide +kernel
theorem dX7_victim_11 : decode cX7_victim 11 = .ok (.ifCond .ne 9, 3) := by decide +kernel
theorem dX7_victim_14 : decode cX7_victim 14 = .ok (.aload_n 0, 1) := by decide +kernel
theorem dX7_victim_15 : decode cX7_victim 15 = .ok (.iconst 1, 1) := by decide +kernel
theorem dX7_victim_16 : decode cX7_victim 16 = .ok (.invokevirtual 90, 3) := by decide +kernel
theorem dX7_victim_19 : decode cX7_victim 19 = .ok (.ireturn, 1) := by decide +kernel
theorem dX7_victim_20 : decode cX7_victim 20 = .ok (.iload_n 2, 1) := by decide +kernel
theorem dX7_victim_21 : decode cX7_victim 21 = .ok (.iconst 0, 1) := by decide +kernel
theorem dX7_victim_22 : decode cX7_victim 22 = .ok (.sipush 255, 3) := by decide +kernel
theorem dX7_victim_25 : decode cX7_victim 25 = .ok (.invokestatic 86, 3) := by decide +kernel
theorem dX7_victim_28 : decode cX7_victim 28 = .ok (.ifCond .ne 9, 3) := by decide +kernel
theorem dX7_victim_31 : decode cX7_victim 31 = .ok (.aload_n 0, 1) := by decide +kernel
theorem dX7_victim_32 : decode cX7_victim 32 = .ok (.iconst 2, 1) := by decide +kernel
theorem dX7_victim_33 : decode cX7_victim 33 = .ok (.invokevirtual 90, 3) := by decide +kernel
theorem dX7_victim_36 : decode cX7_victim 36 = .ok (.ireturn, 1) := by decide +kernel
theorem dX7_victim_37 : decode cX7_victim 37 = .ok (.aload_n 0, 1) := by decide +kernel
theorem dX7_victim_38 : decode cX7_victim 38 = .ok (.iload_n 1, 1) := by decide +kernel
theorem dX7_victim_39 : decode cX7_victim 39 = .ok (.iload_n 2, 1) := by decide +kernel
theorem dX7_victim_40 : decode cX7_victim 40 = .ok (.invokevirtual 74, 3) := by decide +kernel
theorem dX7_victim_43 : decode cX7_victim 43 = .ok (.ifCond .ne 20, 3) := by decide +kernel
theorem dX7_victim_46 : decode cX7_victim 46 = .ok (.aload_n 0, 1) := by decide +kernel
theorem dX7_victim_47 : decode cX7_victim 47 = .ok (.getfield 7, 3) := by decide +kernel
theorem dX7_victim_50 : decode cX7_victim 50 = .ok (.bipush 8, 2) := by decide +kernel
theorem dX7_victim_52 : decode cX7_victim 52 = .ok (.aload_n 0, 1) := by decide +kernel
theorem dX7_victim_53 : decode cX7_victim 53 = .ok (.iload_n 1, 1) := by decide +kernel
theorem dX7_victim_54 : decode cX7_victim 54 = .ok (.iload_n 2, 1) := by decide +kernel
theorem dX7_victim_55 : decode cX7_victim 55 = .ok (.invokevirtual 67, 3) := by decide +kernel
theorem dX7_victim_58 : decode cX7_victim 58 = .ok (.iadd, 1) := by decide +kernel
theorem dX7_victim_59 : decode cX7_victim 59 = .ok (.iaload, 1) := by decide +kernel
theorem dX7_victim_60 : decode cX7_victim 60 = .ok (.goto 4, 3) := by decide +kernel
theorem dX7_victim_63 : decode cX7_victim 63 = .ok (.iconst (-1), 1) := by decide +kernel
theorem dX7_victim_64 : decode cX7_victim 64 = .ok (.ireturn, 1) := by decide +kernel
theorem dX7_gain_0 : decode cX7_gain 0 = .ok (.aload_n 0, 1) := by decide +kernel
theorem dX7_gain_1 : decode cX7_gain 1 = .ok (.iconst 0, 1) := by decide +kernel
theorem dX7_gain_2 : decode cX7_gain 2 = .ok (.putfield 29, 3) := by decide +kernel
theorem dX7_gain_5 : decode cX7_gain 5 = .ok (.iload_n 1, 1) := by decide +kernel
theorem dX7_gain_6 : decode cX7_gain 6 = .ok (.iconst 0, 1) := by decide +kernel
theorem dX7_gain_7 : decode cX7_gain 7 = .ok (.iconst 3, 1) := by decide +kernel
theorem dX7_gain_8 : decode cX7_gain 8 = .ok (.invokestatic 86, 3) := by decide +kernel
theorem dX7_gain_11 : decode cX7_gain 11 = .ok (.ifCond .eq 31, 3) := by decide +kernel
theorem dX7_gain_14 : decode cX7_gain 14 = .ok (.iload_n 2, 1) := by decide +kernel
theorem dX7_gain_15 : decode cX7_gain 15 = .ok (.iconst 0, 1) := by decide +kernel
theorem dX7_gain_16 : decode cX7_gain 16 = .ok (.bipush 7, 2) := by decide +kernel
theorem dX7_gain_18 : decode cX7_gain 18 = .ok (.invokestatic 86, 3) := by decide +kernel
theorem dX7_gain_21 : decode cX7_gain 21 = .ok (.ifCond .eq 21, 3) := by decide +kernel
theorem dX7_gain_24 : decode cX7_gain 24 = .ok (.aload_n 0, 1) := by decide +kernel
theorem dX7_gain_25 : decode cX7_gain 25 = .ok (.getfield 7, 3) := by decide +kernel
theorem dX7_gain_28 : decode cX7_gain 28 = .ok (.sipush 152, 3) := by decide +kernel
theorem dX7_gain_31 : decode cX7_gain 31 = .ok (.bipush 8, 2) := by decide +kernel
theorem dX7_gain_33 : decode cX7_gain 33 = .ok (.iload_n 1, 1) := by decide +kernel
theorem dX7_gain_34 : decode cX7_gain 34 = .ok (.imul, 1) := by decide +kernel
theorem dX7_gain_35 : decode cX7_gain 35 = .ok (.iadd, 1) := by decide +kernel
theorem dX7_gain_36 : decode cX7_gain 36 = .ok (.iload_n 2, 1) := by decide +kernel
theorem dX7_gain_37 : decode cX7_gain 37 = .ok (.iadd, 1) := by decide +kernel
theorem dX7_gain_38 : decode cX7_gain 38 = .ok (.iaload, 1) := by decide +kernel
theorem dX7_gain_39 : decode cX7_gain 39 = .ok (.goto 8, 3) := by decide +kernel
theorem dX7_gain_42 : decode cX7_gain 42 = .ok (.aload_n 0, 1) := by decide +kernel
theorem dX7_gain_43 : decode cX7_gain 43 = .ok (.iconst 1, 1) := by decide +kernel
theorem dX7_gain_44 : decode cX7_gain 44 = .ok (.invokevirtual 90, 3) := by decide +kernel
theorem dX7_gain_47 : decode cX7_gain 47 = .ok (.ireturn, 1) := by decide +kernel
theorem dX7_utility_0 : decode cX7_utility 0 = .ok (.aload_n 0, 1) := by decide +kernel
theorem dX7_utility_1 : decode cX7_utility 1 = .ok (.iconst 0, 1) := by decide +kernel
theorem dX7_utility_2 : decode cX7_utility 2 = .ok (.putfield 29, 3) := by decide +kernel
theorem dX7_utility_5 : decode cX7_utility 5 = .ok (.iload_n 1, 1) := by decide +kernel
theorem dX7_utility_6 : decode cX7_utility 6 = .ok (.iconst 0, 1) := by decide +kernel
theorem dX7_utility_7 : decode cX7_utility 7 = .ok (.iconst 3, 1) := by decide +kernel
theorem dX7_utility_8 : decode cX7_utility 8 = .ok (.invokestatic 86, 3) := by decide +kernel
theorem dX7_utility_11 : decode cX7_utility 11 = .ok (.ifCond .ne 9, 3) := by decide +kernel
theorem dX7_utility_14 : decode cX7_utility 14 = .ok (.aload_n 0, 1) := by decide +kernel
theorem dX7_utility_15 : decode cX7_utility 15 = .ok (.iconst 1, 1) := by decide +kernel
theorem dX7_utility_16 : decode cX7_utility 16 = .ok (.invokevirtual 90, 3) := by decide +kernel
theorem dX7_utility_19 : decode cX7_utility 19 = .ok (.ireturn, 1) := by decide +kernel
theorem dX7_utility_20 : decode cX7_utility 20 = .ok (.iload_n 2, 1) := by decide +kernel
theorem dX7_utility_21 : decode cX7_utility 21 = .ok (.iconst 0, 1) := by decide +kernel
theorem dX7_utility_22 : decode cX7_utility 22 = .ok (.bipush 8, 2) := by decide +kernel
theorem dX7_utility_24 : decode cX7_utility 24 = .ok (.invokestatic 86, 3) := by decide +kernel
theorem dX7_utility_27 : decode cX7_utility 27 = .ok (.ifCond .eq 12, 3) := by decide +kernel
theorem dX7_utility_30 : decode cX7_utility 30 = .ok (.aload_n 0, 1) := by decide +kernel
theorem dX7_utility_31 : decode cX7_utility 31 = .ok (.iload_n 1, 1) := by decide +kernel
theorem dX7_utility_32 : decode cX7_utility 32 = .ok (.iload_n 2, 1) := by decide +kernel
theorem dX7_utility_33 : decode cX7_utility 33 = .ok (.invokevirtual 48, 3) := by decide +kernel
theorem dX7_utility_36 : decode cX7_utility 36 = .ok (.goto 8, 3) := by decide +kernel
theorem dX7_utility_39 : decode cX7_utility 39 = .ok (.aload_n 0, 1) := by decide +kernel
theorem dX7_utility_40 : decode cX7_utility 40 = .ok (.iconst 2, 1) := by decide +kernel
theorem dX7_utility_41 : decode cX7_utility 41 = .ok (.invokevirtual 90, 3) := by decide +kernel
theorem dX7_utility_44 : decode cX7_utility 44 = .ok (.ireturn, 1) := by decide +kernel
theorem dX7_monitored_0 : decode cX7_monitored 0 = .ok (.aload_n 0, 1) := by decide +kernel
theorem dX7_monitored_1 : decode cX7_monitored 1 = .ok (.iconst 0, 1) := by decide +kernel
theorem dX7_monitored_2 : decode cX7_monitored 2 = .ok (.putfield 29, 3) := by decide +kernel
theorem dX7_monitored_5 : decode cX7_monitored 5 = .ok (.iload_n 1, 1) := by decide +kernel
theorem dX7_monitored_6 : decode cX7_monitored 6 = .ok (.iconst 0, 1) := by decide +kernel
theorem dX7_monitored_7 : decode cX7_monitored 7 = .ok (.iconst 3, 1) := by decide +kernel
theorem dX7_monitored_8 : decode cX7_monitored 8 = .ok (.invokestatic 86, 3) := by decide +kernel
theorem dX7_monitored_11 : decode cX7_monitored 11 = .ok (.ifCond .eq 22, 3) := by decide +kernel
theorem dX7_monitored_14 : decode cX7_monitored 14 = .ok (.iload_n 2, 1) := by decide +kernel
theorem dX7_monitored_15 : decode cX7_monitored 15 = .ok (.ifCond .eq 8, 3) := by decide +kernel
theorem dX7_monitored_18 : decode cX7_monitored 18 = .ok (.iload_n 2, 1) := by decide +kernel
theorem dX7_monitored_19 : decode cX7_monitored 19 = .ok (.iconst 2, 1) := by decide +kernel
theorem dX7_monitored_20 : decode cX7_monitored 20 = .ok (.if_icmp .ne 13, 3) := by decide +kernel
theorem dX7_monitored_23 : decode cX7_monitored 23 = .ok (.iload_n 3, 1) := by decide +kernel
theorem dX7_monitored_24 : decode cX7_monitored 24 = .ok (.iconst 0, 1) := by decide +kernel
theorem dX7_monitored_25 : decode cX7_monitored 25 = .ok (.bipush 7, 2) := by decide +kernel
theorem dX7_monitored_27 : decode cX7_monitored 27 = .ok (.invokestatic 86, 3) := by decide +kernel
theorem dX7_monitored_30 : decode cX7_monitored 30 = .ok (.ifCond .ne 9, 3) := by decide +kernel
theorem dX7_monitored_33 : decode cX7_monitored 33 = .ok (.aload_n 0, 1) := by decide +kernel
theorem dX7_monitored_34 : decode cX7_monitored 34 = .ok (.iconst 1, 1) := by decide +kernel
theorem dX7_monitored_35 : decode cX7_monitored 35 = .ok (.invokevirtual 90, 3) := by decide +kernel
theorem dX7_monitored_38 : decode cX7_monitored 38 = .ok (.ireturn, 1) := by decide +kernel
theorem dX7_monitored_39 : decode cX7_monitored 39 = .ok (.iconst 2, 1) := by decide +kernel
theorem dX7_monitored_40 : decode cX7_monitored 40 = .ok (.iload_n 1, 1) := by decide +kernel
theorem dX7_monitored_41 : decode cX7_monitored 41 = .ok (.imul, 1) := by decide +kernel
theorem dX7_monitored_42 : decode cX7_monitored 42 = .ok (.iload_n 2, 1) := by decide +kernel
theorem dX7_monitored_43 : decode cX7_monitored 43 = .ok (.iconst 2, 1) := by decide +kernel
theorem dX7_monitored_44 : decode cX7_monitored 44 = .ok (.idiv, 1) := by decide +kernel
theorem dX7_monitored_45 : decode cX7_monitored 45 = .ok (.iadd, 1) := by decide +kernel
theorem dX7_monitored_46 : decode cX7_monitored 46 = .ok (.istore 4, 2) := by decide +kernel
theorem dX7_monitored_48 : decode cX7_monitored 48 = .ok (.iload_n 3, 1) := by decide +kernel
theorem dX7_monitored_49 : decode cX7_monitored 49 = .ok (.aload_n 0, 1) := by decide +kernel
theorem dX7_monitored_50 : decode cX7_monitored 50 = .ok (.getfield 7, 3) := by decide +kernel
theorem dX7_monitored_53 : decode cX7_monitored 53 = .ok (.bipush 72, 2) := by decide +kernel
theorem dX7_monitored_55 : decode cX7_monitored 55 = .ok (.iload 4, 2) := by decide +kernel
theorem dX7_monitored_57 : decode cX7_monitored 57 = .ok (.iadd, 1) := by decide +kernel
theorem dX7_monitored_58 : decode cX7_monitored 58 = .ok (.iaload, 1) := by decide +kernel
theorem dX7_monitored_59 : decode cX7_monitored 59 = .ok (.if_icmp .ge 21, 3) := by decide +kernel
theorem dX7_monitored_62 : decode cX7_monitored 62 = .ok (.aload_n 0, 1) := by decide +kernel
theorem dX7_monitored_63 : decode cX7_monitored 63 = .ok (.getfield 7, 3) := by decide +kernel
theorem dX7_monitored_66 : decode cX7_monitored 66 = .ok (.bipush 80, 2) := by decide +kernel
theorem dX7_monitored_68 : decode cX7_monitored 68 = .ok (.bipush 9, 2) := by decide +kernel
theorem dX7_monitored_70 : decode cX7_monitored 70 = .ok (.iload 4, 2) := by decide +kernel
theorem dX7_monitored_72 : decode cX7_monitored 72 = .ok (.imul, 1) := by decide +kernel
theorem dX7_monitored_73 : decode cX7_monitored 73 = .ok (.iadd, 1) := by decide +kernel
theorem dX7_monitored_74 : decode cX7_monitored 74 = .ok (.iload_n 3, 1) := by decide +kernel
theorem dX7_monitored_75 : decode cX7_monitored 75 = .ok (.iadd, 1) := by decide +kernel
theorem dX7_monitored_76 : decode cX7_monitored 76 = .ok (.iaload, 1) := by decide +kernel
theorem dX7_monitored_77 : decode cX7_monitored 77 = .ok (.goto 4, 3) := by decide +kernel
theorem dX7_monitored_80 : decode cX7_monitored 80 = .ok (.iconst (-1), 1) := by decide +kernel
theorem dX7_monitored_81 : decode cX7_monitored 81 = .ok (.ireturn, 1) := by decide +kernel
theorem dX7_target_0 : decode cX7_target 0 = .ok (.aload_n 0, 1) := by decide +kernel
theorem dX7_target_1 : decode cX7_target 1 = .ok (.iconst 0, 1) := by decide +kernel
theorem dX7_target_2 : decode cX7_target 2 = .ok (.putfield 29, 3) := by decide +kernel
theorem dX7_target_5 : decode cX7_target 5 = .ok (.aload_n 0, 1) := by decide +kernel
theorem dX7_target_6 : decode cX7_target 6 = .ok (.invokevirtual 58, 3) := by decide +kernel
theorem dX7_target_9 : decode cX7_target 9 = .ok (.iload_n 1, 1) := by decide +kernel
theorem dX7_target_10 : decode cX7_target 10 = .ok (.iconst 0, 1) := by decide +kernel
theorem dX7_target_11 : decode cX7_target 11 = .ok (.iconst 3, 1) := by decide +kernel
theorem dX7_target_12 : decode cX7_target 12 = .ok (.invokestatic 86, 3) := by decide +kernel
theorem dX7_target_15 : decode cX7_target 15 = .ok (.ifCond .eq 12, 3) := by decide +kernel
theorem dX7_target_18 : decode cX7_target 18 = .ok (.aload_n 0, 1) := by decide +kernel
theorem dX7_target_19 : decode cX7_target 19 = .ok (.getfield 23, 3) := by decide +kernel
theorem dX7_target_22 : decode cX7_target 22 = .ok (.iload_n 1, 1) := by decide +kernel
theorem dX7_target_23 : decode cX7_target 23 = .ok (.iaload, 1) := by decide +kernel
theorem dX7_target_24 : decode cX7_target 24 = .ok (.goto 8, 3) := by decide +kernel
theorem dX7_target_27 : decode cX7_target 27 = .ok (.aload_n 0, 1) := by decide +kernel
theorem dX7_target_28 : decode cX7_target 28 = .ok (.iconst 1, 1) := by decide +kernel
theorem dX7_target_29 : decode cX7_target 29 = .ok (.invokevirtual 90, 3) := by decide +kernel
theorem dX7_target_32 : decode cX7_target 32 = .ok (.ireturn, 1) := by decide +kernel
theorem dX7_movesLeft_0 : decode cX7_movesLeft 0 = .ok (.aload_n 0, 1) := by decide +kernel
theorem dX7_movesLeft_1 : decode cX7_movesLeft 1 = .ok (.iconst 0, 1) := by decide +kernel
theorem dX7_movesLeft_2 : decode cX7_movesLeft 2 = .ok (.putfield 29, 3) := by decide +kernel
theorem dX7_movesLeft_5 : decode cX7_movesLeft 5 = .ok (.aload_n 0, 1) := by decide +kernel
theorem dX7_movesLeft_6 : decode cX7_movesLeft 6 = .ok (.invokevirtual 58, 3) := by decide +kernel
theorem dX7_movesLeft_9 : decode cX7_movesLeft 9 = .ok (.iconst 0, 1) := by decide +kernel
theorem dX7_movesLeft_10 : decode cX7_movesLeft 10 = .ok (.istore_n 1, 1) := by decide +kernel
theorem dX7_movesLeft_11 : decode cX7_movesLeft 11 = .ok (.iconst 0, 1) := by decide +kernel
theorem dX7_movesLeft_12 : decode cX7_movesLeft 12 = .ok (.istore_n 2, 1) := by decide +kernel
theorem dX7_movesLeft_13 : decode cX7_movesLeft 13 = .ok (.iload_n 2, 1) := by decide +kernel
theorem dX7_movesLeft_14 : decode cX7_movesLeft 14 = .ok (.iconst 4, 1) := by decide +kernel
theorem dX7_movesLeft_15 : decode cX7_movesLeft 15 = .ok (.if_icmp .ge 29, 3) := by decide +kernel
theorem dX7_movesLeft_18 : decode cX7_movesLeft 18 = .ok (.iload_n 1, 1) := by decide +kernel
theorem dX7_movesLeft_19 : decode cX7_movesLeft 19 = .ok (.aload_n 0, 1) := by decide +kernel
theorem dX7_movesLeft_20 : decode cX7_movesLeft 20 = .ok (.iload_n 2, 1) := by decide +kernel
theorem dX7_movesLeft_21 : decode cX7_movesLeft 21 = .ok (.invokevirtual 61, 3) := by decide +kernel
theorem dX7_movesLeft_24 : decode cX7_movesLeft 24 = .ok (.ifCond .le 11, 3) := by decide +kernel
theorem dX7_movesLeft_27 : decode cX7_movesLeft 27 = .ok (.aload_n 0, 1) := by decide +kernel
theorem dX7_movesLeft_28 : decode cX7_movesLeft 28 = .ok (.iload_n 2, 1) := by decide +kernel
theorem dX7_movesLeft_29 : decode cX7_movesLeft 29 = .ok (.invokevirtual 61, 3) := by decide +kernel
theorem dX7_movesLeft_32 : decode cX7_movesLeft 32 = .ok (.goto 4, 3) := by decide +kernel
theorem dX7_movesLeft_35 : decode cX7_movesLeft 35 = .ok (.iconst 0, 1) := by decide +kernel
theorem dX7_movesLeft_36 : decode cX7_movesLeft 36 = .ok (.iadd, 1) := by decide +kernel
theorem dX7_movesLeft_37 : decode cX7_movesLeft 37 = .ok (.istore_n 1, 1) := by decide +kernel
theorem dX7_movesLeft_38 : decode cX7_movesLeft 38 = .ok (.iinc 2 1, 3) := by decide +kernel
theorem dX7_movesLeft_41 : decode cX7_movesLeft 41 = .ok (.goto (-28), 3) := by decide +kernel
theorem dX7_movesLeft_44 : decode cX7_movesLeft 44 = .ok (.iload_n 1, 1) := by decide +kernel
theorem dX7_movesLeft_45 : decode cX7_movesLeft 45 = .ok (.ireturn, 1) := by decide +kernel
theorem dX7_totalUtility_0 : decode cX7_totalUtility 0 = .ok (.aload_n 0, 1) := by decide +kernel
theorem dX7_totalUtility_1 : decode cX7_totalUtility 1 = .ok (.iconst 0, 1) := by decide +kernel
theorem dX7_totalUtility_2 : decode cX7_totalUtility 2 = .ok (.putfield 29, 3) := by decide +kernel
theorem dX7_totalUtility_5 : decode cX7_totalUtility 5 = .ok (.iconst 0, 1) := by decide +kernel
theorem dX7_totalUtility_6 : decode cX7_totalUtility 6 = .ok (.istore_n 1, 1) := by decide +kernel
theorem dX7_totalUtility_7 : decode cX7_totalUtility 7 = .ok (.iconst 0, 1) := by decide +kernel
theorem dX7_totalUtility_8 : decode cX7_totalUtility 8 = .ok (.istore_n 2, 1) := by decide +kernel
theorem dX7_totalUtility_9 : decode cX7_totalUtility 9 = .ok (.iload_n 2, 1) := by decide +kernel
theorem dX7_totalUtility_10 : decode cX7_totalUtility 10 = .ok (.iconst 4, 1) := by decide +kernel
theorem dX7_totalUtility_11 : decode cX7_totalUtility 11 = .ok (.if_icmp .ge 22, 3) := by decide +kernel
theorem dX7_totalUtility_14 : decode cX7_totalUtility 14 = .ok (.iload_n 1, 1) := by decide +kernel
theorem dX7_totalUtility_15 : decode cX7_totalUtility 15 = .ok (.aload_n 0, 1) := by decide +kernel
theorem dX7_totalUtility_16 : decode cX7_totalUtility 16 = .ok (.iload_n 2, 1) := by decide +kernel
theorem dX7_totalUtility_17 : decode cX7_totalUtility 17 = .ok (.aload_n 0, 1) := by decide +kernel
theorem dX7_totalUtility_18 : decode cX7_totalUtility 18 = .ok (.iload_n 2, 1) := by decide +kernel
theorem dX7_totalUtility_19 : decode cX7_totalUtility 19 = .ok (.invokevirtual 44, 3) := by decide +kernel
theorem dX7_totalUtility_22 : decode cX7_totalUtility 22 = .ok (.invokevirtual 48, 3) := by decide +kernel
theorem dX7_totalUtility_25 : decode cX7_totalUtility 25 = .ok (.iadd, 1) := by decide +kernel
theorem dX7_totalUtility_26 : decode cX7_totalUtility 26 = .ok (.istore_n 1, 1) := by decide +kernel
theorem dX7_totalUtility_27 : decode cX7_totalUtility 27 = .ok (.iinc 2 1, 3) := by decide +kernel
theorem dX7_totalUtility_30 : decode cX7_totalUtility 30 = .ok (.goto (-21), 3) := by decide +kernel
theorem dX7_totalUtility_33 : decode cX7_totalUtility 33 = .ok (.iload_n 1, 1) := by decide +kernel
theorem dX7_totalUtility_34 : decode cX7_totalUtility 34 = .ok (.ireturn, 1) := by decide +kernel
theorem dX7_count_0 : decode cX7_count 0 = .ok (.aload_n 0, 1) := by decide +kernel
theorem dX7_count_1 : decode cX7_count 1 = .ok (.iconst 0, 1) := by decide +kernel
theorem dX7_count_2 : decode cX7_count 2 = .ok (.putfield 29, 3) := by decide +kernel
theorem dX7_count_5 : decode cX7_count 5 = .ok (.iload_n 1, 1) := by decide +kernel
theorem dX7_count_6 : decode cX7_count 6 = .ok (.iconst 0, 1) := by decide +kernel
theorem dX7_count_7 : decode cX7_count 7 = .ok (.iconst 3, 1) := by decide +kernel
theorem dX7_count_8 : decode cX7_count 8 = .ok (.invokestatic 86, 3) := by decide +kernel
theorem dX7_count_11 : decode cX7_count 11 = .ok (.ifCond .ne 9, 3) := by decide +kernel
theorem dX7_count_14 : decode cX7_count 14 = .ok (.aload_n 0, 1) := by decide +kernel
theorem dX7_count_15 : decode cX7_count 15 = .ok (.iconst 1, 1) := by decide +kernel
theorem dX7_count_16 : decode cX7_count 16 = .ok (.invokevirtual 90, 3) := by decide +kernel
theorem dX7_count_19 : decode cX7_count 19 = .ok (.ireturn, 1) := by decide +kernel
theorem dX7_count_20 : decode cX7_count 20 = .ok (.iload_n 2, 1) := by decide +kernel
theorem dX7_count_21 : decode cX7_count 21 = .ok (.iconst 0, 1) := by decide +kernel
theorem dX7_count_22 : decode cX7_count 22 = .ok (.iconst 3, 1) := by decide +kernel
theorem dX7_count_23 : decode cX7_count 23 = .ok (.invokestatic 86, 3) := by decide +kernel
theorem dX7_count_26 : decode cX7_count 26 = .ok (.ifCond .eq 20, 3) := by decide +kernel
theorem dX7_count_29 : decode cX7_count 29 = .ok (.aload_n 0, 1) := by decide +kernel
theorem dX7_count_30 : decode cX7_count 30 = .ok (.getfield 7, 3) := by decide +kernel
theorem dX7_count_33 : decode cX7_count 33 = .ok (.sipush 190, 3) := by decide +kernel
theorem dX7_count_36 : decode cX7_count 36 = .ok (.iconst 4, 1) := by decide +kernel
theorem dX7_count_37 : decode cX7_count 37 = .ok (.iload_n 1, 1) := by decide +kernel
theorem dX7_count_38 : decode cX7_count 38 = .ok (.imul, 1) := by decide +kernel
theorem dX7_count_39 : decode cX7_count 39 = .ok (.iadd, 1) := by decide +kernel
theorem dX7_count_40 : decode cX7_count 40 = .ok (.iload_n 2, 1) := by decide +kernel
theorem dX7_count_41 : decode cX7_count 41 = .ok (.iadd, 1) := by decide +kernel
theorem dX7_count_42 : decode cX7_count 42 = .ok (.iaload, 1) := by decide +kernel
theorem dX7_count_43 : decode cX7_count 43 = .ok (.goto 8, 3) := by decide +kernel
theorem dX7_count_46 : decode cX7_count 46 = .ok (.aload_n 0, 1) := by decide +kernel
theorem dX7_count_47 : decode cX7_count 47 = .ok (.iconst 2, 1) := by decide +kernel
theorem dX7_count_48 : decode cX7_count 48 = .ok (.invokevirtual 90, 3) := by decide +kernel
theorem dX7_count_51 : decode cX7_count 51 = .ok (.ireturn, 1) := by decide +kernel
theorem dX7_accesses_0 : decode cX7_accesses 0 = .ok (.aload_n 0, 1) := by decide +kernel
theorem dX7_accesses_1 : decode cX7_accesses 1 = .ok (.iconst 0, 1) := by decide +kernel
theorem dX7_accesses_2 : decode cX7_accesses 2 = .ok (.putfield 29, 3) := by decide +kernel
theorem dX7_accesses_5 : decode cX7_accesses 5 = .ok (.aload_n 0, 1) := by decide +kernel
theorem dX7_accesses_6 : decode cX7_accesses 6 = .ok (.getfield 7, 3) := by decide +kernel
theorem dX7_accesses_9 : decode cX7_accesses 9 = .ok (.sipush 189, 3) := by decide +kernel
theorem dX7_accesses_12 : decode cX7_accesses 12 = .ok (.iaload, 1) := by decide +kernel
theorem dX7_accesses_13 : decode cX7_accesses 13 = .ok (.ireturn, 1) := by decide +kernel
theorem dX7_hitRate_0 : decode cX7_hitRate 0 = .ok (.aload_n 0, 1) := by decide +kernel
theorem dX7_hitRate_1 : decode cX7_hitRate 1 = .ok (.iconst 0, 1) := by decide +kernel
theorem dX7_hitRate_2 : decode cX7_hitRate 2 = .ok (.putfield 29, 3) := by decide +kernel
theorem dX7_hitRate_5 : decode cX7_hitRate 5 = .ok (.iload_n 1, 1) := by decide +kernel
theorem dX7_hitRate_6 : decode cX7_hitRate 6 = .ok (.iconst 0, 1) := by decide +kernel
theorem dX7_hitRate_7 : decode cX7_hitRate 7 = .ok (.iconst 3, 1) := by decide +kernel
theorem dX7_hitRate_8 : decode cX7_hitRate 8 = .ok (.invokestatic 86, 3) := by decide +kernel
theorem dX7_hitRate_11 : decode cX7_hitRate 11 = .ok (.ifCond .ne 10, 3) := by decide +kernel
theorem dX7_hitRate_14 : decode cX7_hitRate 14 = .ok (.aload_n 0, 1) := by decide +kernel
theorem dX7_hitRate_15 : decode cX7_hitRate 15 = .ok (.iconst 1, 1) := by decide +kernel
theorem dX7_hitRate_16 : decode cX7_hitRate 16 = .ok (.invokevirtual 90, 3) := by decide +kernel
theorem dX7_hitRate_19 : decode cX7_hitRate 19 = .ok (.i2d, 1) := by decide +kernel
theorem dX7_hitRate_20 : decode cX7_hitRate 20 = .ok (.dreturn, 1) := by decide +kernel
theorem dX7_hitRate_21 : decode cX7_hitRate 21 = .ok (.aload_n 0, 1) := by decide +kernel
theorem dX7_hitRate_22 : decode cX7_hitRate 22 = .ok (.getfield 7, 3) := by decide +kernel
theorem dX7_hitRate_25 : decode cX7_hitRate 25 = .ok (.sipush 190, 3) := by decide +kernel
theorem dX7_hitRate_28 : decode cX7_hitRate 28 = .ok (.iconst 4, 1) := by decide +kernel
theorem dX7_hitRate_29 : decode cX7_hitRate 29 = .ok (.iload_n 1, 1) := by decide +kernel
theorem dX7_hitRate_30 : decode cX7_hitRate 30 = .ok (.imul, 1) := by decide +kernel
theorem dX7_hitRate_31 : decode cX7_hitRate 31 = .ok (.iadd, 1) := by decide +kernel
theorem dX7_hitRate_32 : decode cX7_hitRate 32 = .ok (.iaload, 1) := by decide +kernel
theorem dX7_hitRate_33 : decode cX7_hitRate 33 = .ok (.aload_n 0, 1) := by decide +kernel
theorem dX7_hitRate_34 : decode cX7_hitRate 34 = .ok (.getfield 7, 3) := by decide +kernel
theorem dX7_hitRate_37 : decode cX7_hitRate 37 = .ok (.sipush 190, 3) := by decide +kernel
theorem dX7_hitRate_40 : decode cX7_hitRate 40 = .ok (.iconst 4, 1) := by decide +kernel
theorem dX7_hitRate_41 : decode cX7_hitRate 41 = .ok (.iload_n 1, 1) := by decide +kernel
theorem dX7_hitRate_42 : decode cX7_hitRate 42 = .ok (.imul, 1) := by decide +kernel
theorem dX7_hitRate_43 : decode cX7_hitRate 43 = .ok (.iadd, 1) := by decide +kernel
theorem dX7_hitRate_44 : decode cX7_hitRate 44 = .ok (.iconst 1, 1) := by decide +kernel
theorem dX7_hitRate_45 : decode cX7_hitRate 45 = .ok (.iadd, 1) := by decide +kernel
theorem dX7_hitRate_46 : decode cX7_hitRate 46 = .ok (.iaload, 1) := by decide +kernel
theorem dX7_hitRate_47 : decode cX7_hitRate 47 = .ok (.iadd, 1) := by decide +kernel
theorem dX7_hitRate_48 : decode cX7_hitRate 48 = .ok (.aload_n 0, 1) := by decide +kernel
theorem dX7_hitRate_49 : decode cX7_hitRate 49 = .ok (.getfield 7, 3) := by decide +kernel
theorem dX7_hitRate_52 : decode cX7_hitRate 52 = .ok (.sipush 190, 3) := by decide +kernel
theorem dX7_hitRate_55 : decode cX7_hitRate 55 = .ok (.iconst 4, 1) := by decide +kernel
theorem dX7_hitRate_56 : decode cX7_hitRate 56 = .ok (.iload_n 1, 1) := by decide +kernel
theorem dX7_hitRate_57 : decode cX7_hitRate 57 = .ok (.imul, 1) := by decide +kernel
theorem dX7_hitRate_58 : decode cX7_hitRate 58 = .ok (.iadd, 1) := by decide +kernel
theorem dX7_hitRate_59 : decode cX7_hitRate 59 = .ok (.iconst 2, 1) := by decide +kernel
theorem dX7_hitRate_60 : decode cX7_hitRate 60 = .ok (.iadd, 1) := by decide +kernel
theorem dX7_hitRate_61 : decode cX7_hitRate 61 = .ok (.iaload, 1) := by decide +kernel
theorem dX7_hitRate_62 : decode cX7_hitRate 62 = .ok (.iadd, 1) := by decide +kernel
theorem dX7_hitRate_63 : decode cX7_hitRate 63 = .ok (.istore_n 2, 1) := by decide +kernel
theorem dX7_hitRate_64 : decode cX7_hitRate 64 = .ok (.iload_n 2, 1) := by decide +kernel
theorem dX7_hitRate_65 : decode cX7_hitRate 65 = .ok (.ifCond .ne 7, 3) := by decide +kernel
theorem dX7_hitRate_68 : decode cX7_hitRate 68 = .ok (.dconst 0, 1) := by decide +kernel
theorem dX7_hitRate_69 : decode cX7_hitRate 69 = .ok (.goto 21, 3) := by decide +kernel
theorem dX7_hitRate_72 : decode cX7_hitRate 72 = .ok (.aload_n 0, 1) := by decide +kernel
theorem dX7_hitRate_73 : decode cX7_hitRate 73 = .ok (.getfield 7, 3) := by decide +kernel
theorem dX7_hitRate_76 : decode cX7_hitRate 76 = .ok (.sipush 190, 3) := by decide +kernel
theorem dX7_hitRate_79 : decode cX7_hitRate 79 = .ok (.iconst 4, 1) := by decide +kernel
theorem dX7_hitRate_80 : decode cX7_hitRate 80 = .ok (.iload_n 1, 1) := by decide +kernel
theorem dX7_hitRate_81 : decode cX7_hitRate 81 = .ok (.imul, 1) := by decide +kernel
theorem dX7_hitRate_82 : decode cX7_hitRate 82 = .ok (.iadd, 1) := by decide +kernel
theorem dX7_hitRate_83 : decode cX7_hitRate 83 = .ok (.iconst 1, 1) := by decide +kernel
theorem dX7_hitRate_84 : decode cX7_hitRate 84 = .ok (.iadd, 1) := by decide +kernel
theorem dX7_hitRate_85 : decode cX7_hitRate 85 = .ok (.iaload, 1) := by decide +kernel
theorem dX7_hitRate_86 : decode cX7_hitRate 86 = .ok (.i2d, 1) := by decide +kernel
theorem dX7_hitRate_87 : decode cX7_hitRate 87 = .ok (.iload_n 2, 1) := by decide +kernel
theorem dX7_hitRate_88 : decode cX7_hitRate 88 = .ok (.i2d, 1) := by decide +kernel
theorem dX7_hitRate_89 : decode cX7_hitRate 89 = .ok (.ddiv, 1) := by decide +kernel
theorem dX7_hitRate_90 : decode cX7_hitRate 90 = .ok (.dreturn, 1) := by decide +kernel
theorem dX7_savedStates_0 : decode cX7_savedStates 0 = .ok (.aload_n 0, 1) := by decide +kernel
theorem dX7_savedStates_1 : decode cX7_savedStates 1 = .ok (.iconst 0, 1) := by decide +kernel
theorem dX7_savedStates_2 : decode cX7_savedStates 2 = .ok (.putfield 29, 3) := by decide +kernel
theorem dX7_savedStates_5 : decode cX7_savedStates 5 = .ok (.aload_n 0, 1) := by decide +kernel
theorem dX7_savedStates_6 : decode cX7_savedStates 6 = .ok (.getfield 33, 3) := by decide +kernel
theorem dX7_savedStates_9 : decode cX7_savedStates 9 = .ok (.ireturn, 1) := by decide +kernel
theorem dX7_textLength_0 : decode cX7_textLength 0 = .ok (.aload_n 0, 1) := by decide +kernel
theorem dX7_textLength_1 : decode cX7_textLength 1 = .ok (.iconst 0, 1) := by decide +kernel
theorem dX7_textLength_2 : decode cX7_textLength 2 = .ok (.putfield 29, 3) := by decide +kernel
theorem dX7_textLength_5 : decode cX7_textLength 5 = .ok (.aload_n 0, 1) := by decide +kernel
theorem dX7_textLength_6 : decode cX7_textLength 6 = .ok (.getfield 102, 3) := by decide +kernel
theorem dX7_textLength_9 : decode cX7_textLength 9 = .ok (.ireturn, 1) := by decide +kernel
