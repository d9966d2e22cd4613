theorem dX7_init_0 : decode cX7_init 0 = .ok (.aload_n 0, 1) := by decide +kernel
theorem dX7_init_1 : decode cX7_init 1 = .ok (.invokespecial 1, 3) := by decide +kernel
theorem dX7_init_4 : decode cX7_init 4 = .ok (.aload_n 0, 1) := by decide +kernel
theorem dX7_init_5 : decode cX7_init 5 = .ok (.sipush 206, 3) := by decide +kernel
theorem dX7_init_8 : decode cX7_init 8 = .ok (.newarray .int, 2) := by decide +kernel
theorem dX7_init_10 : decode cX7_init 10 = .ok (.putfield 7, 3) := by decide +kernel
theorem dX7_init_13 : decode cX7_init 13 = .ok (.aload_n 0, 1) := by decide +kernel
theorem dX7_init_14 : decode cX7_init 14 = .ok (.sipush 1236, 3) := by decide +kernel
theorem dX7_init_17 : decode cX7_init 17 = .ok (.newarray .int, 2) := by decide +kernel
theorem dX7_init_19 : decode cX7_init 19 = .ok (.putfield 13, 3) := by decide +kernel
theorem dX7_init_22 : decode cX7_init 22 = .ok (.aload_n 0, 1) := by decide +kernel
theorem dX7_init_23 : decode cX7_init 23 = .ok (.sipush 412, 3) := by decide +kernel
theorem dX7_init_26 : decode cX7_init 26 = .ok (.newarray .int, 2) := by decide +kernel
theorem dX7_init_28 : decode cX7_init 28 = .ok (.putfield 16, 3) := by decide +kernel
theorem dX7_init_31 : decode cX7_init 31 = .ok (.aload_n 0, 1) := by decide +kernel
theorem dX7_init_32 : decode cX7_init 32 = .ok (.iconst 2, 1) := by decide +kernel
theorem dX7_init_33 : decode cX7_init 33 = .ok (.newarray .boolean, 2) := by decide +kernel
theorem dX7_init_35 : decode cX7_init 35 = .ok (.putfield 19, 3) := by decide +kernel
theorem dX7_init_38 : decode cX7_init 38 = .ok (.aload_n 0, 1) := by decide +kernel
theorem dX7_init_39 : decode cX7_init 39 = .ok (.iconst 4, 1) := by decide +kernel
theorem dX7_init_40 : decode cX7_init 40 = .ok (.newarray .int, 2) := by decide +kernel
theorem dX7_init_42 : decode cX7_init 42 = .ok (.putfield 23, 3) := by decide +kernel
theorem dX7_init_45 : decode cX7_init 45 = .ok (.aload_n 0, 1) := by decide +kernel
theorem dX7_init_46 : decode cX7_init 46 = .ok (.bipush 80, 2) := by decide +kernel
theorem dX7_init_48 : decode cX7_init 48 = .ok (.newarray .int, 2) := by decide +kernel
theorem dX7_init_50 : decode cX7_init 50 = .ok (.putfield 26, 3) := by decide +kernel
theorem dX7_init_53 : decode cX7_init 53 = .ok (.iconst 0, 1) := by decide +kernel
theorem dX7_init_54 : decode cX7_init 54 = .ok (.istore_n 1, 1) := by decide +kernel
theorem dX7_init_55 : decode cX7_init 55 = .ok (.iload_n 1, 1) := by decide +kernel
theorem dX7_init_56 : decode cX7_init 56 = .ok (.bipush 8, 2) := by decide +kernel
theorem dX7_init_58 : decode cX7_init 58 = .ok (.if_icmp .ge 20, 3) := by decide +kernel
theorem dX7_init_61 : decode cX7_init 61 = .ok (.aload_n 0, 1) := by decide +kernel
theorem dX7_init_62 : decode cX7_init 62 = .ok (.getfield 7, 3) := by decide +kernel
theorem dX7_init_65 : decode cX7_init 65 = .ok (.iconst 0, 1) := by decide +kernel
theorem dX7_init_66 : decode cX7_init 66 = .ok (.iload_n 1, 1) := by decide +kernel
theorem dX7_init_67 : decode cX7_init 67 = .ok (.iadd, 1) := by decide +kernel
theorem dX7_init_68 : decode cX7_init 68 = .ok (.iload_n 1, 1) := by decide +kernel
theorem dX7_init_69 : decode cX7_init 69 = .ok (.iconst 4, 1) := by decide +kernel
theorem dX7_init_70 : decode cX7_init 70 = .ok (.irem, 1) := by decide +kernel
theorem dX7_init_71 : decode cX7_init 71 = .ok (.iastore, 1) := by decide +kernel
theorem dX7_init_72 : decode cX7_init 72 = .ok (.iinc 1 1, 3) := by decide +kernel
theorem dX7_init_75 : decode cX7_init 75 = .ok (.goto (-20), 3) := by decide +kernel
theorem dX7_init_78 : decode cX7_init 78 = .ok (.iconst 0, 1) := by decide +kernel
theorem dX7_init_79 : decode cX7_init 79 = .ok (.istore_n 1, 1) := by decide +kernel
theorem dX7_init_80 : decode cX7_init 80 = .ok (.iload_n 1, 1) := by decide +kernel
theorem dX7_init_81 : decode cX7_init 81 = .ok (.bipush 32, 2) := by decide +kernel
theorem dX7_init_83 : decode cX7_init 83 = .ok (.if_icmp .ge 19, 3) := by decide +kernel
theorem dX7_init_86 : decode cX7_init 86 = .ok (.aload_n 0, 1) := by decide +kernel
theorem dX7_init_87 : decode cX7_init 87 = .ok (.getfield 7, 3) := by decide +kernel
theorem dX7_init_90 : decode cX7_init 90 = .ok (.bipush 8, 2) := by decide +kernel
theorem dX7_init_92 : decode cX7_init 92 = .ok (.iload_n 1, 1) := by decide +kernel
theorem dX7_init_93 : decode cX7_init 93 = .ok (.iadd, 1) := by decide +kernel
theorem dX7_init_94 : decode cX7_init 94 = .ok (.iconst (-1), 1) := by decide +kernel
theorem dX7_init_95 : decode cX7_init 95 = .ok (.iastore, 1) := by decide +kernel
theorem dX7_init_96 : decode cX7_init 96 = .ok (.iinc 1 1, 3) := by decide +kernel
theorem dX7_init_99 : decode cX7_init 99 = .ok (.goto (-19), 3) := by decide +kernel
theorem dX7_init_102 : decode cX7_init 102 = .ok (.iconst 0, 1) := by decide +kernel
theorem dX7_init_103 : decode cX7_init 103 = .ok (.istore_n 1, 1) := by decide +kernel
theorem dX7_init_104 : decode cX7_init 104 = .ok (.iload_n 1, 1) := by decide +kernel
theorem dX7_init_105 : decode cX7_init 105 = .ok (.iconst 4, 1) := by decide +kernel
theorem dX7_init_106 : decode cX7_init 106 = .ok (.if_icmp .ge 20, 3) := by decide +kernel
theorem dX7_init_109 : decode cX7_init 109 = .ok (.aload_n 0, 1) := by decide +kernel
theorem dX7_init_110 : decode cX7_init 110 = .ok (.getfield 7, 3) := by decide +kernel
theorem dX7_init_113 : decode cX7_init 113 = .ok (.sipush 184, 3) := by decide +kernel
theorem dX7_init_116 : decode cX7_init 116 = .ok (.iload_n 1, 1) := by decide +kernel
theorem dX7_init_117 : decode cX7_init 117 = .ok (.iadd, 1) := by decide +kernel
theorem dX7_init_118 : decode cX7_init 118 = .ok (.iconst 1, 1) := by decide +kernel
theorem dX7_init_119 : decode cX7_init 119 = .ok (.iastore, 1) := by decide +kernel
theorem dX7_init_120 : decode cX7_init 120 = .ok (.iinc 1 1, 3) := by decide +kernel
theorem dX7_init_123 : decode cX7_init 123 = .ok (.goto (-19), 3) := by decide +kernel
theorem dX7_init_126 : decode cX7_init 126 = .ok (.return_, 1) := by decide +kernel
theorem dX7_thrown_0 : decode cX7_thrown 0 = .ok (.aload_n 0, 1) := by decide +kernel
theorem dX7_thrown_1 : decode cX7_thrown 1 = .ok (.getfield 29, 3) := by decide +kernel
theorem dX7_thrown_4 : decode cX7_thrown 4 = .ok (.ireturn, 1) := by decide +kernel
theorem dX7_fails_0 : decode cX7_fails 0 = .ok (.aload_n 0, 1) := by decide +kernel
theorem dX7_fails_1 : decode cX7_fails 1 = .ok (.iload_n 1, 1) := by decide +kernel
theorem dX7_fails_2 : decode cX7_fails 2 = .ok (.putfield 29, 3) := by decide +kernel
theorem dX7_fails_5 : decode cX7_fails 5 = .ok (.iconst 0, 1) := by decide +kernel
theorem dX7_fails_6 : decode cX7_fails 6 = .ok (.ireturn, 1) := by decide +kernel
theorem dX7_in_0 : decode cX7_in 0 = .ok (.iload_n 0, 1) := by decide +kernel
theorem dX7_in_1 : decode cX7_in 1 = .ok (.iload_n 1, 1) := by decide +kernel
theorem dX7_in_2 : decode cX7_in 2 = .ok (.if_icmp .lt 12, 3) := by decide +kernel
theorem dX7_in_5 : decode cX7_in 5 = .ok (.iload_n 0, 1) := by decide +kernel
theorem dX7_in_6 : decode cX7_in 6 = .ok (.iload_n 2, 1) := by decide +kernel
theorem dX7_in_7 : decode cX7_in 7 = .ok (.if_icmp .gt 7, 3) := by decide +kernel
theorem dX7_in_10 : decode cX7_in 10 = .ok (.iconst 1, 1) := by decide +kernel
theorem dX7_in_11 : decode cX7_in 11 = .ok (.goto 4, 3) := by decide +kernel
theorem dX7_in_14 : decode cX7_in 14 = .ok (.iconst 0, 1) := by decide +kernel
theorem dX7_in_15 : decode cX7_in 15 = .ok (.ireturn, 1) := by decide +kernel
theorem dX7_record_0 : decode cX7_record 0 = .ok (.aload_n 0, 1) := by decide +kernel
theorem dX7_record_1 : decode cX7_record 1 = .ok (.getfield 33, 3) := by decide +kernel
theorem dX7_record_4 : decode cX7_record 4 = .ok (.bipush 6, 2) := by decide +kernel
theorem dX7_record_6 : decode cX7_record 6 = .ok (.if_icmp .ne 44, 3) := by decide +kernel
theorem dX7_record_9 : decode cX7_record 9 = .ok (.iconst 0, 1) := by decide +kernel
theorem dX7_record_10 : decode cX7_record 10 = .ok (.istore_n 1, 1) := by decide +kernel
theorem dX7_record_11 : decode cX7_record 11 = .ok (.iload_n 1, 1) := by decide +kernel
theorem dX7_record_12 : decode cX7_record 12 = .ok (.sipush 1030, 3) := by decide +kernel
theorem dX7_record_15 : decode cX7_record 15 = .ok (.if_icmp .ge 25, 3) := by decide +kernel
theorem dX7_record_18 : decode cX7_record 18 = .ok (.aload_n 0, 1) := by decide +kernel
theorem dX7_record_19 : decode cX7_record 19 = .ok (.getfield 13, 3) := by decide +kernel
theorem dX7_record_22 : decode cX7_record 22 = .ok (.iload_n 1, 1) := by decide +kernel
theorem dX7_record_23 : decode cX7_record 23 = .ok (.aload_n 0, 1) := by decide +kernel
theorem dX7_record_24 : decode cX7_record 24 = .ok (.getfield 13, 3) := by decide +kernel
theorem dX7_record_27 : decode cX7_record 27 = .ok (.sipush 206, 3) := by decide +kernel
theorem dX7_record_30 : decode cX7_record 30 = .ok (.iload_n 1, 1) := by decide +kernel
theorem dX7_record_31 : decode cX7_record 31 = .ok (.iadd, 1) := by decide +kernel
theorem dX7_record_32 : decode cX7_record 32 = .ok (.iaload, 1) := by decide +kernel
theorem dX7_record_33 : decode cX7_record 33 = .ok (.iastore, 1) := by decide +kernel
theorem dX7_record_34 : decode cX7_record 34 = .ok (.iinc 1 1, 3) := by decide +kernel
theorem dX7_record_37 : decode cX7_record 37 = .ok (.goto (-26), 3) := by decide +kernel
theorem dX7_record_40 : decode cX7_record 40 = .ok (.aload_n 0, 1) := by decide +kernel
theorem dX7_record_41 : decode cX7_record 41 = .ok (.dup, 1) := by decide +kernel
theorem dX7_record_42 : decode cX7_record 42 = .ok (.getfield 33, 3) := by decide +kernel
theorem dX7_record_45 : decode cX7_record 45 = .ok (.iconst 1, 1) := by decide +kernel
theorem dX7_record_46 : decode cX7_record 46 = .ok (.isub, 1) := by decide +kernel
theorem dX7_record_47 : decode cX7_record 47 = .ok (.putfield 33, 3) := by decide +kernel
theorem dX7_record_50 : decode cX7_record 50 = .ok (.iconst 0, 1) := by decide +kernel
theorem dX7_record_51 : decode cX7_record 51 = .ok (.istore_n 1, 1) := by decide +kernel
theorem dX7_record_52 : decode cX7_record 52 = .ok (.iload_n 1, 1) := by decide +kernel
theorem dX7_record_53 : decode cX7_record 53 = .ok (.sipush 206, 3) := by decide +kernel
theorem dX7_record_56 : decode cX7_record 56 = .ok (.if_icmp .ge 30, 3) := by decide +kernel
theorem dX7_record_59 : decode cX7_record 59 = .ok (.aload_n 0, 1) := by decide +kernel
theorem dX7_record_60 : decode cX7_record 60 = .ok (.getfield 13, 3) := by decide +kernel
theorem dX7_record_63 : decode cX7_record 63 = .ok (.sipush 206, 3) := by decide +kernel
theorem dX7_record_66 : decode cX7_record 66 = .ok (.aload_n 0, 1) := by decide +kernel
theorem dX7_record_67 : decode cX7_record 67 = .ok (.getfield 33, 3) := by decide +kernel
theorem dX7_record_70 : decode cX7_record 70 = .ok (.imul, 1) := by decide +kernel
theorem dX7_record_71 : decode cX7_record 71 = .ok (.iload_n 1, 1) := by decide +kernel
theorem dX7_record_72 : decode cX7_record 72 = .ok (.iadd, 1) := by decide +kernel
theorem dX7_record_73 : decode cX7_record 73 = .ok (.aload_n 0, 1) := by decide +kernel
theorem dX7_record_74 : decode cX7_record 74 = .ok (.getfield 7, 3) := by decide +kernel
theorem dX7_record_77 : decode cX7_record 77 = .ok (.iload_n 1, 1) := by decide +kernel
theorem dX7_record_78 : decode cX7_record 78 = .ok (.iaload, 1) := by decide +kernel
theorem dX7_record_79 : decode cX7_record 79 = .ok (.iastore, 1) := by decide +kernel
theorem dX7_record_80 : decode cX7_record 80 = .ok (.iinc 1 1, 3) := by decide +kernel
theorem dX7_record_83 : decode cX7_record 83 = .ok (.goto (-31), 3) := by decide +kernel
theorem dX7_record_86 : decode cX7_record 86 = .ok (.aload_n 0, 1) := by decide +kernel
theorem dX7_record_87 : decode cX7_record 87 = .ok (.dup, 1) := by decide +kernel
theorem dX7_record_88 : decode cX7_record 88 = .ok (.getfield 33, 3) := by decide +kernel
theorem dX7_record_91 : decode cX7_record 91 = .ok (.iconst 1, 1) := by decide +kernel
theorem dX7_record_92 : decode cX7_record 92 = .ok (.iadd, 1) := by decide +kernel
theorem dX7_record_93 : decode cX7_record 93 = .ok (.putfield 33, 3) := by decide +kernel
theorem dX7_record_96 : decode cX7_record 96 = .ok (.return_, 1) := by decide +kernel
theorem dX7_owned_0 : decode cX7_owned 0 = .ok (.iconst 0, 1) := by decide +kernel
theorem dX7_owned_1 : decode cX7_owned 1 = .ok (.istore_n 2, 1) := by decide +kernel
theorem dX7_owned_2 : decode cX7_owned 2 = .ok (.iconst 0, 1) := by decide +kernel
theorem dX7_owned_3 : decode cX7_owned 3 = .ok (.istore_n 3, 1) := by decide +kernel
theorem dX7_owned_4 : decode cX7_owned 4 = .ok (.iload_n 3, 1) := by decide +kernel
theorem dX7_owned_5 : decode cX7_owned 5 = .ok (.bipush 8, 2) := by decide +kernel
theorem dX7_owned_7 : decode cX7_owned 7 = .ok (.if_icmp .ge 29, 3) := by decide +kernel
theorem dX7_owned_10 : decode cX7_owned 10 = .ok (.iload_n 2, 1) := by decide +kernel
theorem dX7_owned_11 : decode cX7_owned 11 = .ok (.aload_n 0, 1) := by decide +kernel
theorem dX7_owned_12 : decode cX7_owned 12 = .ok (.getfield 7, 3) := by decide +kernel
theorem dX7_owned_15 : decode cX7_owned 15 = .ok (.iconst 0, 1) := by decide +kernel
theorem dX7_owned_16 : decode cX7_owned 16 = .ok (.iload_n 3, 1) := by decide +kernel
theorem dX7_owned_17 : decode cX7_owned 17 = .ok (.iadd, 1) := by decide +kernel
theorem dX7_owned_18 : decode cX7_owned 18 = .ok (.iaload, 1) := by decide +kernel
theorem dX7_owned_19 : decode cX7_owned 19 = .ok (.iload_n 1, 1) := by decide +kernel
theorem dX7_owned_20 : decode cX7_owned 20 = .ok (.if_icmp .ne 7, 3) := by decide +kernel
theorem dX7_owned_23 : decode cX7_owned 23 = .ok (.iconst 1, 1) := by decide +kernel
theorem dX7_owned_24 : decode cX7_owned 24 = .ok (.goto 4, 3) := by decide +kernel
theorem dX7_owned_27 : decode cX7_owned 27 = .ok (.iconst 0, 1) := by decide +kernel
theorem dX7_owned_28 : decode cX7_owned 28 = .ok (.iadd, 1) := by decide +kernel
theorem dX7_owned_29 : decode cX7_owned 29 = .ok (.istore_n 2, 1) := by decide +kernel
theorem dX7_owned_30 : decode cX7_owned 30 = .ok (.iinc 3 1, 3) := by decide +kernel
theorem dX7_owned_33 : decode cX7_owned 33 = .ok (.goto (-29), 3) := by decide +kernel
theorem dX7_owned_36 : decode cX7_owned 36 = .ok (.iload_n 2, 1) := by decide +kernel
theorem dX7_owned_37 : decode cX7_owned 37 = .ok (.ireturn, 1) := by decide +kernel
theorem dX7_linesOf_0 : decode cX7_linesOf 0 = .ok (.iconst 0, 1) := by decide +kernel
theorem dX7_linesOf_1 : decode cX7_linesOf 1 = .ok (.istore_n 3, 1) := by decide +kernel
theorem dX7_linesOf_2 : decode cX7_linesOf 2 = .ok (.iconst 0, 1) := by decide +kernel
theorem dX7_linesOf_3 : decode cX7_linesOf 3 = .ok (.istore 4, 2) := by decide +kernel
theorem dX7_linesOf_5 : decode cX7_linesOf 5 = .ok (.iload 4, 2) := by decide +kernel
theorem dX7_linesOf_7 : decode cX7_linesOf 7 = .ok (.bipush 32, 2) := by decide +kernel
theorem dX7_linesOf_9 : decode cX7_linesOf 9 = .ok (.if_icmp .ge 80, 3) := by decide +kernel
theorem dX7_linesOf_12 : decode cX7_linesOf 12 = .ok (.aload_n 0, 1) := by decide +kernel
theorem dX7_linesOf_13 : decode cX7_linesOf 13 = .ok (.getfield 7, 3) := by decide +kernel
theorem dX7_linesOf_16 : decode cX7_linesOf 16 = .ok (.bipush 8, 2) := by decide +kernel
theorem dX7_linesOf_18 : decode cX7_linesOf 18 = .ok (.iload 4, 2) := by decide +kernel
theorem dX7_linesOf_20 : decode cX7_linesOf 20 = .ok (.iadd, 1) := by decide +kernel
theorem dX7_linesOf_21 : decode cX7_linesOf 21 = .ok (.iaload, 1) := by decide +kernel
theorem dX7_linesOf_22 : decode cX7_linesOf 22 = .ok (.ifCond .lt 25, 3) := by decide +kernel
theorem dX7_linesOf_25 : decode cX7_linesOf 25 = .ok (.aload_n 0, 1) := by decide +kernel
theorem dX7_linesOf_26 : decode cX7_linesOf 26 = .ok (.getfield 7, 3) := by decide +kernel
theorem dX7_linesOf_29 : decode cX7_linesOf 29 = .ok (.bipush 8, 2) := by decide +kernel
theorem dX7_linesOf_31 : decode cX7_linesOf 31 = .ok (.iload 4, 2) := by decide +kernel
theorem dX7_linesOf_33 : decode cX7_linesOf 33 = .ok (.iadd, 1) := by decide +kernel
theorem dX7_linesOf_34 : decode cX7_linesOf 34 = .ok (.iaload, 1) := by decide +kernel
theorem dX7_linesOf_35 : decode cX7_linesOf 35 = .ok (.sipush 256, 3) := by decide +kernel
theorem dX7_linesOf_38 : decode cX7_linesOf 38 = .ok (.idiv, 1) := by decide +kernel
theorem dX7_linesOf_39 : decode cX7_linesOf 39 = .ok (.iload_n 1, 1) := by decide +kernel
theorem dX7_linesOf_40 : decode cX7_linesOf 40 = .ok (.if_icmp .ne 7, 3) := by decide +kernel
theorem dX7_linesOf_43 : decode cX7_linesOf 43 = .ok (.iconst 1, 1) := by decide +kernel
theorem dX7_linesOf_44 : decode cX7_linesOf 44 = .ok (.goto 4, 3) := by decide +kernel
theorem dX7_linesOf_47 : decode cX7_linesOf 47 = .ok (.iconst 0, 1) := by decide +kernel
theorem dX7_linesOf_48 : decode cX7_linesOf 48 = .ok (.istore 5, 2) := by decide +kernel
theorem dX7_linesOf_50 : decode cX7_linesOf 50 = .ok (.iload_n 3, 1) := by decide +kernel
theorem dX7_linesOf_51 : decode cX7_linesOf 51 = .ok (.iload 5, 2) := by decide +kernel
theorem dX7_linesOf_53 : decode cX7_linesOf 53 = .ok (.ifCond .eq 27, 3) := by decide +kernel
theorem dX7_linesOf_56 : decode cX7_linesOf 56 = .ok (.iload_n 2, 1) := by decide +kernel
theorem dX7_linesOf_57 : decode cX7_linesOf 57 = .ok (.ifCond .eq 19, 3) := by decide +kernel
theorem dX7_linesOf_60 : decode cX7_linesOf 60 = .ok (.aload_n 0, 1) := by decide +kernel
theorem dX7_linesOf_61 : decode cX7_linesOf 61 = .ok (.getfield 7, 3) := by decide +kernel
theorem dX7_linesOf_64 : decode cX7_linesOf 64 = .ok (.iconst 0, 1) := by decide +kernel
theorem dX7_linesOf_65 : decode cX7_linesOf 65 = .ok (.iload 4, 2) := by decide +kernel
theorem dX7_linesOf_67 : decode cX7_linesOf 67 = .ok (.bipush 8, 2) := by decide +kernel
theorem dX7_linesOf_69 : decode cX7_linesOf 69 = .ok (.irem, 1) := by decide +kernel
theorem dX7_linesOf_70 : decode cX7_linesOf 70 = .ok (.iadd, 1) := by decide +kernel
theorem dX7_linesOf_71 : decode cX7_linesOf 71 = .ok (.iaload, 1) := by decide +kernel
theorem dX7_linesOf_72 : decode cX7_linesOf 72 = .ok (.iload_n 1, 1) := by decide +kernel
theorem dX7_linesOf_73 : decode cX7_linesOf 73 = .ok (.if_icmp .eq 7, 3) := by decide +kernel
theorem dX7_linesOf_76 : decode cX7_linesOf 76 = .ok (.iconst 1, 1) := by decide +kernel
theorem dX7_linesOf_77 : decode cX7_linesOf 77 = .ok (.goto 4, 3) := by decide +kernel
theorem dX7_linesOf_80 : decode cX7_linesOf 80 = .ok (.iconst 0, 1) := by decide +kernel
theorem dX7_linesOf_81 : decode cX7_linesOf 81 = .ok (.iadd, 1) := by decide +kernel
theorem dX7_linesOf_82 : decode cX7_linesOf 82 = .ok (.istore_n 3, 1) := by decide +kernel
theorem dX7_linesOf_83 : decode cX7_linesOf 83 = .ok (.iinc 4 1, 3) := by decide +kernel
theorem dX7_linesOf_86 : decode cX7_linesOf 86 = .ok (.goto (-81), 3) := by decide +kernel
theorem dX7_linesOf_89 : decode cX7_linesOf 89 = .ok (.iload_n 3, 1) := by decide +kernel
theorem dX7_linesOf_90 : decode cX7_linesOf 90 = .ok (.ireturn, 1) := by decide +kernel
theorem dX7_allLines_0 : decode cX7_allLines 0 = .ok (.aload_n 0, 1) := by decide +kernel
theorem dX7_allLines_1 : decode cX7_allLines 1 = .ok (.iconst 0, 1) := by decide +kernel
theorem dX7_allLines_2 : decode cX7_allLines 2 = .ok (.iconst 0, 1) := by decide +kernel
theorem dX7_allLines_3 : decode cX7_allLines 3 = .ok (.invokevirtual 36, 3) := by decide +kernel
theorem dX7_allLines_6 : decode cX7_allLines 6 = .ok (.aload_n 0, 1) := by decide +kernel
theorem dX7_allLines_7 : decode cX7_allLines 7 = .ok (.iconst 1, 1) := by decide +kernel
theorem dX7_allLines_8 : decode cX7_allLines 8 = .ok (.iconst 0, 1) := by decide +kernel
theorem dX7_allLines_9 : decode cX7_allLines 9 = .ok (.invokevirtual 36, 3) := by decide +kernel
theorem dX7_allLines_12 : decode cX7_allLines 12 = .ok (.iadd, 1) := by decide +kernel
theorem dX7_allLines_13 : decode cX7_allLines 13 = .ok (.aload_n 0, 1) := by decide +kernel
theorem dX7_allLines_14 : decode cX7_allLines 14 = .ok (.iconst 2, 1) := by decide +kernel
theorem dX7_allLines_15 : decode cX7_allLines 15 = .ok (.iconst 0, 1) := by decide +kernel
theorem dX7_allLines_16 : decode cX7_allLines 16 = .ok (.invokevirtual 36, 3) := by decide +kernel
theorem dX7_allLines_19 : decode cX7_allLines 19 = .ok (.iadd, 1) := by decide +kernel
theorem dX7_allLines_20 : decode cX7_allLines 20 = .ok (.aload_n 0, 1) := by decide +kernel
theorem dX7_allLines_21 : decode cX7_allLines 21 = .ok (.iconst 3, 1) := by decide +kernel
theorem dX7_allLines_22 : decode cX7_allLines 22 = .ok (.iconst 0, 1) := by decide +kernel
theorem dX7_allLines_23 : decode cX7_allLines 23 = .ok (.invokevirtual 36, 3) := by decide +kernel
theorem dX7_allLines_26 : decode cX7_allLines 26 = .ok (.iadd, 1) := by decide +kernel
theorem dX7_allLines_27 : decode cX7_allLines 27 = .ok (.ireturn, 1) := by decide +kernel
theorem dX7_find_0 : decode cX7_find 0 = .ok (.bipush 8, 2) := by decide +kernel
theorem dX7_find_2 : decode cX7_find 2 = .ok (.iload_n 2, 1) := by decide +kernel
theorem dX7_find_3 : decode cX7_find 3 = .ok (.iconst 4, 1) := by decide +kernel
theorem dX7_find_4 : decode cX7_find 4 = .ok (.irem, 1) := by decide +kernel
theorem dX7_find_5 : decode cX7_find 5 = .ok (.imul, 1) := by decide +kernel
theorem dX7_find_6 : decode cX7_find 6 = .ok (.istore_n 3, 1) := by decide +kernel
theorem dX7_find_7 : decode cX7_find 7 = .ok (.iload_n 3, 1) := by decide +kernel
theorem dX7_find_8 : decode cX7_find 8 = .ok (.istore 4, 2) := by decide +kernel
theorem dX7_find_10 : decode cX7_find 10 = .ok (.iload 4, 2) := by decide +kernel
theorem dX7_find_12 : decode cX7_find 12 = .ok (.iload_n 3, 1) := by decide +kernel
theorem dX7_find_13 : decode cX7_find 13 = .ok (.bipush 8, 2) := by decide +kernel
theorem dX7_find_15 : decode cX7_find 15 = .ok (.iadd, 1) := by decide +kernel
theorem dX7_find_16 : decode cX7_find 16 = .ok (.if_icmp .ge 32, 3) := by decide +kernel
theorem dX7_find_19 : decode cX7_find 19 = .ok (.aload_n 0, 1) := by decide +kernel
theorem dX7_find_20 : decode cX7_find 20 = .ok (.getfield 7, 3) := by decide +kernel
theorem dX7_find_23 : decode cX7_find 23 = .ok (.bipush 8, 2) := by decide +kernel
theorem dX7_find_25 : decode cX7_find 25 = .ok (.iload 4, 2) := by decide +kernel
theorem dX7_find_27 : decode cX7_find 27 = .ok (.iadd, 1) := by decide +kernel
theorem dX7_find_28 : decode cX7_find 28 = .ok (.iaload, 1) := by decide +kernel
theorem dX7_find_29 : decode cX7_find 29 = .ok (.sipush 256, 3) := by decide +kernel
theorem dX7_find_32 : decode cX7_find 32 = .ok (.iload_n 1, 1) := by decide +kernel
theorem dX7_find_33 : decode cX7_find 33 = .ok (.imul, 1) := by decide +kernel
theorem dX7_find_34 : decode cX7_find 34 = .ok (.iload_n 2, 1) := by decide +kernel
theorem dX7_find_35 : decode cX7_find 35 = .ok (.iadd, 1) := by decide +kernel
theorem dX7_find_36 : decode cX7_find 36 = .ok (.if_icmp .ne 6, 3) := by decide +kernel
theorem dX7_find_39 : decode cX7_find 39 = .ok (.iload 4, 2) := by decide +kernel
theorem dX7_find_41 : decode cX7_find 41 = .ok (.ireturn, 1) := by decide +kernel
theorem dX7_find_42 : decode cX7_find 42 = .ok (.iinc 4 1, 3) := by decide +kernel
theorem dX7_find_45 : decode cX7_find 45 = .ok (.goto (-35), 3) := by decide +kernel
theorem dX7_find_48 : decode cX7_find 48 = .ok (.iconst (-1), 1) := by decide +kernel
theorem dX7_find_49 : decode cX7_find 49 = .ok (.ireturn, 1) := by decide +kernel
theorem dX7_placeFor_0 : decode cX7_placeFor 0 = .ok (.bipush 8, 2) := by decide +kernel
theorem dX7_placeFor_2 : decode cX7_placeFor 2 = .ok (.iload_n 2, 1) := by decide +kernel
theorem dX7_placeFor_3 : decode cX7_placeFor 3 = .ok (.iconst 4, 1) := by decide +kernel
theorem dX7_placeFor_4 : decode cX7_placeFor 4 = .ok (.irem, 1) := by decide +kernel
theorem dX7_placeFor_5 : decode cX7_placeFor 5 = .ok (.imul, 1) := by decide +kernel
theorem dX7_placeFor_6 : decode cX7_placeFor 6 = .ok (.istore_n 3, 1) := by decide +kernel
theorem dX7_placeFor_7 : decode cX7_placeFor 7 = .ok (.iconst (-1), 1) := by decide +kernel
theorem dX7_placeFor_8 : decode cX7_placeFor 8 = .ok (.istore 4, 2) := by decide +kernel
theorem dX7_placeFor_10 : decode cX7_placeFor 10 = .ok (.iconst 0, 1) := by decide +kernel
theorem dX7_placeFor_11 : decode cX7_placeFor 11 = .ok (.istore 5, 2) := by decide +kernel
theorem dX7_placeFor_13 : decode cX7_placeFor 13 = .ok (.iload 5, 2) := by decide +kernel
theorem dX7_placeFor_15 : decode cX7_placeFor 15 = .ok (.bipush 8, 2) := by decide +kernel
theorem dX7_placeFor_17 : decode cX7_placeFor 17 = .ok (.if_icmp .ge 83, 3) := by decide +kernel
theorem dX7_placeFor_20 : decode cX7_placeFor 20 = .ok (.iload_n 3, 1) := by decide +kernel
theorem dX7_placeFor_21 : decode cX7_placeFor 21 = .ok (.iload 5, 2) := by decide +kernel
theorem dX7_placeFor_23 : decode cX7_placeFor 23 = .ok (.iadd, 1) := by decide +kernel
theorem dX7_placeFor_24 : decode cX7_placeFor 24 = .ok (.istore 6, 2) := by decide +kernel
theorem dX7_placeFor_26 : decode cX7_placeFor 26 = .ok (.aload_n 0, 1) := by decide +kernel
theorem dX7_placeFor_27 : decode cX7_placeFor 27 = .ok (.getfield 7, 3) := by decide +kernel
theorem dX7_placeFor_30 : decode cX7_placeFor 30 = .ok (.iconst 0, 1) := by decide +kernel
theorem dX7_placeFor_31 : decode cX7_placeFor 31 = .ok (.iload 5, 2) := by decide +kernel
theorem dX7_placeFor_33 : decode cX7_placeFor 33 = .ok (.iadd, 1) := by decide +kernel
theorem dX7_placeFor_34 : decode cX7_placeFor 34 = .ok (.iaload, 1) := by decide +kernel
theorem dX7_placeFor_35 : decode cX7_placeFor 35 = .ok (.iload_n 1, 1) := by decide +kernel
theorem dX7_placeFor_36 : decode cX7_placeFor 36 = .ok (.if_icmp .ne 58, 3) := by decide +kernel
theorem dX7_placeFor_39 : decode cX7_placeFor 39 = .ok (.aload_n 0, 1) := by decide +kernel
theorem dX7_placeFor_40 : decode cX7_placeFor 40 = .ok (.getfield 7, 3) := by decide +kernel
theorem dX7_placeFor_43 : decode cX7_placeFor 43 = .ok (.bipush 8, 2) := by decide +kernel
theorem dX7_placeFor_45 : decode cX7_placeFor 45 = .ok (.iload 6, 2) := by decide +kernel
theorem dX7_placeFor_47 : decode cX7_placeFor 47 = .ok (.iadd, 1) := by decide +kernel
theorem dX7_placeFor_48 : decode cX7_placeFor 48 = .ok (.iaload, 1) := by decide +kernel
theorem dX7_placeFor_49 : decode cX7_placeFor 49 = .ok (.iconst (-1), 1) := by decide +kernel
theorem dX7_placeFor_50 : decode cX7_placeFor 50 = .ok (.if_icmp .ne 6, 3) := by decide +kernel
theorem dX7_placeFor_53 : decode cX7_placeFor 53 = .ok (.iload 6, 2) := by decide +kernel
theorem dX7_placeFor_55 : decode cX7_placeFor 55 = .ok (.ireturn, 1) := by decide +kernel
theorem dX7_placeFor_56 : decode cX7_placeFor 56 = .ok (.iload 4, 2) := by decide +kernel
theorem dX7_placeFor_58 : decode cX7_placeFor 58 = .ok (.iconst (-1), 1) := by decide +kernel
theorem dX7_placeFor_59 : decode cX7_placeFor 59 = .ok (.if_icmp .eq 26, 3) := by decide +kernel
theorem dX7_placeFor_62 : decode cX7_placeFor 62 = .ok (.aload_n 0, 1) := by decide +kernel
theorem dX7_placeFor_63 : decode cX7_placeFor 63 = .ok (.getfield 7, 3) := by decide +kernel
theorem dX7_placeFor_66 : decode cX7_placeFor 66 = .ok (.bipush 40, 2) := by decide +kernel
theorem dX7_placeFor_68 : decode cX7_placeFor 68 = .ok (.iload 6, 2) := by decide +kernel
theorem dX7_placeFor_70 : decode cX7_placeFor 70 = .ok (.iadd, 1) := by decide +kernel
theorem dX7_placeFor_71 : decode cX7_placeFor 71 = .ok (.iaload, 1) := by decide +kernel
theorem dX7_placeFor_72 : decode cX7_placeFor 72 = .ok (.aload_n 0, 1) := by decide +kernel
theorem dX7_placeFor_73 : decode cX7_placeFor 73 = .ok (.getfield 7, 3) := by decide +kernel
theorem dX7_placeFor_76 : decode cX7_placeFor 76 = .ok (.bipush 40, 2) := by decide +kernel
theorem dX7_placeFor_78 : decode cX7_placeFor 78 = .ok (.iload 4, 2) := by decide +kernel
theorem dX7_placeFor_80 : decode cX7_placeFor 80 = .ok (.iadd, 1) := by decide +kernel
theorem dX7_placeFor_81 : decode cX7_placeFor 81 = .ok (.iaload, 1) := by decide +kernel
theorem dX7_placeFor_82 : decode cX7_placeFor 82 = .ok (.if_icmp .ge 8, 3) := by decide +kernel
theorem dX7_placeFor_85 : decode cX7_placeFor 85 = .ok (.iload 6, 2) := by decide +kernel
theorem dX7_placeFor_87 : decode cX7_placeFor 87 = .ok (.goto 5, 3) := by decide +kernel
theorem dX7_placeFor_90 : decode cX7_placeFor 90 = .ok (.iload 4, 2) := by decide +kernel
theorem dX7_placeFor_92 : decode cX7_placeFor 92 = .ok (.istore 4, 2) := by decide +kernel
theorem dX7_placeFor_94 : decode cX7_placeFor 94 = .ok (.iinc 5 1, 3) := by decide +kernel
theorem dX7_placeFor_97 : decode cX7_placeFor 97 = .ok (.goto (-84), 3) := by decide +kernel
theorem dX7_placeFor_100 : decode cX7_placeFor 100 = .ok (.iload 4, 2) := by decide +kernel
theorem dX7_placeFor_102 : decode cX7_placeFor 102 = .ok (.ireturn, 1) := by decide +kernel
theorem dX7_wouldBe_0 : decode cX7_wouldBe 0 = .ok (.aload_n 0, 1) := by decide +kernel
theorem dX7_wouldBe_1 : decode cX7_wouldBe 1 = .ok (.iload_n 1, 1) := by decide +kernel
theorem dX7_wouldBe_2 : decode cX7_wouldBe 2 = .ok (.iload_n 2, 1) := by decide +kernel
theorem dX7_wouldBe_3 : decode cX7_wouldBe 3 = .ok (.invokevirtual 40, 3) := by decide +kernel
theorem dX7_wouldBe_6 : decode cX7_wouldBe 6 = .ok (.iconst (-1), 1) := by decide +kernel
theorem dX7_wouldBe_7 : decode cX7_wouldBe 7 = .ok (.if_icmp .eq 7, 3) := by decide +kernel
theorem dX7_wouldBe_10 : decode cX7_wouldBe 10 = .ok (.iconst 1, 1) := by decide +kernel
theorem dX7_wouldBe_11 : decode cX7_wouldBe 11 = .ok (.goto 16, 3) := by decide +kernel
theorem dX7_wouldBe_14 : decode cX7_wouldBe 14 = .ok (.aload_n 0, 1) := by decide +kernel
theorem dX7_wouldBe_15 : decode cX7_wouldBe 15 = .ok (.iload_n 1, 1) := by decide +kernel
theorem dX7_wouldBe_16 : decode cX7_wouldBe 16 = .ok (.invokevirtual 44, 3) := by decide +kernel
theorem dX7_wouldBe_19 : decode cX7_wouldBe 19 = .ok (.ifCond .ne 7, 3) := by decide +kernel
theorem dX7_wouldBe_22 : decode cX7_wouldBe 22 = .ok (.iconst 2, 1) := by decide +kernel
theorem dX7_wouldBe_23 : decode cX7_wouldBe 23 = .ok (.goto 4, 3) := by decide +kernel
theorem dX7_wouldBe_26 : decode cX7_wouldBe 26 = .ok (.iconst 0, 1) := by decide +kernel
theorem dX7_wouldBe_27 : decode cX7_wouldBe 27 = .ok (.ireturn, 1) := by decide +kernel
theorem dX7_watch_0 : decode cX7_watch 0 = .ok (.iload_n 2, 1) := by decide +kernel
theorem dX7_watch_1 : decode cX7_watch 1 = .ok (.iconst 2, 1) := by decide +kernel
theorem dX7_watch_2 : decode cX7_watch 2 = .ok (.irem, 1) := by decide +kernel
theorem dX7_watch_3 : decode cX7_watch 3 = .ok (.iconst 1, 1) := by decide +kernel
theorem dX7_watch_4 : decode cX7_watch 4 = .ok (.if_icmp .ne 4, 3) := by decide +kernel
theorem dX7_watch_7 : decode cX7_watch 7 = .ok (.return_, 1) := by decide +kernel
theorem dX7_watch_8 : decode cX7_watch 8 = .ok (.iconst 2, 1) := by decide +kernel
theorem dX7_watch_9 : decode cX7_watch 9 = .ok (.iload_n 1, 1) := by decide +kernel
theorem dX7_watch_10 : decode cX7_watch 10 = .ok (.imul, 1) := by decide +kernel
theorem dX7_watch_11 : decode cX7_watch 11 = .ok (.iload_n 2, 1) := by decide +kernel
theorem dX7_watch_12 : decode cX7_watch 12 = .ok (.iconst 4, 1) := by decide +kernel
theorem dX7_watch_13 : decode cX7_watch 13 = .ok (.irem, 1) := by decide +kernel
theorem dX7_watch_14 : decode cX7_watch 14 = .ok (.iconst 2, 1) := by decide +kernel
theorem dX7_watch_15 : decode cX7_watch 15 = .ok (.idiv, 1) := by decide +kernel
theorem dX7_watch_16 : decode cX7_watch 16 = .ok (.iadd, 1) := by decide +kernel
theorem dX7_watch_17 : decode cX7_watch 17 = .ok (.istore_n 3, 1) := by decide +kernel
theorem dX7_watch_18 : decode cX7_watch 18 = .ok (.bipush 80, 2) := by decide +kernel
theorem dX7_watch_20 : decode cX7_watch 20 = .ok (.bipush 9, 2) := by decide +kernel
theorem dX7_watch_22 : decode cX7_watch 22 = .ok (.iload_n 3, 1) := by decide +kernel
theorem dX7_watch_23 : decode cX7_watch 23 = .ok (.imul, 1) := by decide +kernel
theorem dX7_watch_24 : decode cX7_watch 24 = .ok (.iadd, 1) := by decide +kernel
theorem dX7_watch_25 : decode cX7_watch 25 = .ok (.istore 4, 2) := by decide +kernel
theorem dX7_watch_27 : decode cX7_watch 27 = .ok (.aload_n 0, 1) := by decide +kernel
theorem dX7_watch_28 : decode cX7_watch 28 = .ok (.getfield 7, 3) := by decide +kernel
theorem dX7_watch_31 : decode cX7_watch 31 = .ok (.bipush 72, 2) := by decide +kernel
theorem dX7_watch_33 : decode cX7_watch 33 = .ok (.iload_n 3, 1) := by decide +kernel
theorem dX7_watch_34 : decode cX7_watch 34 = .ok (.iadd, 1) := by decide +kernel
theorem dX7_watch_35 : decode cX7_watch 35 = .ok (.iaload, 1) := by decide +kernel
theorem dX7_watch_36 : decode cX7_watch 36 = .ok (.istore 5, 2) := by decide +kernel
theorem dX7_watch_38 : decode cX7_watch 38 = .ok (.iconst 0, 1) := by decide +kernel
theorem dX7_watch_39 : decode cX7_watch 39 = .ok (.istore 6, 2) := by decide +kernel
theorem dX7_watch_41 : decode cX7_watch 41 = .ok (.iload 6, 2) := by decide +kernel
theorem dX7_watch_43 : decode cX7_watch 43 = .ok (.iload 5, 2) := by decide +kernel
theorem dX7_watch_45 : decode cX7_watch 45 = .ok (.if_icmp .ge 23, 3) := by decide +kernel
theorem dX7_watch_48 : decode cX7_watch 48 = .ok (.aload_n 0, 1) := by decide +kernel
theorem dX7_watch_49 : decode cX7_watch 49 = .ok (.getfield 7, 3) := by decide +kernel
theorem dX7_watch_52 : decode cX7_watch 52 = .ok (.iload 4, 2) := by decide +kernel
theorem dX7_watch_54 : decode cX7_watch 54 = .ok (.iload 6, 2) := by decide +kernel
theorem dX7_watch_56 : decode cX7_watch 56 = .ok (.iadd, 1) := by decide +kernel
theorem dX7_watch_57 : decode cX7_watch 57 = .ok (.iaload, 1) := by decide +kernel
theorem dX7_watch_58 : decode cX7_watch 58 = .ok (.iload_n 2, 1) := by decide +kernel
theorem dX7_watch_59 : decode cX7_watch 59 = .ok (.if_icmp .eq 9, 3) := by decide +kernel
theorem dX7_watch_62 : decode cX7_watch 62 = .ok (.iinc 6 1, 3) := by decide +kernel
theorem dX7_watch_65 : decode cX7_watch 65 = .ok (.goto (-24), 3) := by decide +kernel
theorem dX7_watch_68 : decode cX7_watch 68 = .ok (.iload 6, 2) := by decide +kernel
theorem dX7_watch_70 : decode cX7_watch 70 = .ok (.iload 5, 2) := by decide +kernel
theorem dX7_watch_72 : decode cX7_watch 72 = .ok (.if_icmp .ge 26, 3) := by decide +kernel
theorem dX7_watch_75 : decode cX7_watch 75 = .ok (.aload_n 0, 1) := by decide +kernel
theorem dX7_watch_76 : decode cX7_watch 76 = .ok (.getfield 7, 3) := by decide +kernel
theorem dX7_watch_79 : decode cX7_watch 79 = .ok (.sipush 152, 3) := by decide +kernel
theorem dX7_watch_82 : decode cX7_watch 82 = .ok (.bipush 8, 2) := by decide +kernel
theorem dX7_watch_84 : decode cX7_watch 84 = .ok (.iload_n 1, 1) := by decide +kernel
theorem dX7_watch_85 : decode cX7_watch 85 = .ok (.imul, 1) := by decide +kernel
theorem dX7_watch_86 : decode cX7_watch 86 = .ok (.iadd, 1) := by decide +kernel
theorem dX7_watch_87 : decode cX7_watch 87 = .ok (.iload 6, 2) := by decide +kernel
theorem dX7_watch_89 : decode cX7_watch 89 = .ok (.iadd, 1) := by decide +kernel
theorem dX7_watch_90 : decode cX7_watch 90 = .ok (.dup2, 1) := by decide +kernel
theorem dX7_watch_91 : decode cX7_watch 91 = .ok (.iaload, 1) := by decide +kernel
theorem dX7_watch_92 : decode cX7_watch 92 = .ok (.iconst 1, 1) := by decide +kernel
theorem dX7_watch_93 : decode cX7_watch 93 = .ok (.iadd, 1) := by decide +kernel
theorem dX7_watch_94 : decode cX7_watch 94 = .ok (.iastore, 1) := by decide +kernel
theorem dX7_watch_95 : decode cX7_watch 95 = .ok (.goto 28, 3) := by decide +kernel
theorem dX7_watch_98 : decode cX7_watch 98 = .ok (.aload_n 0, 1) := by decide +kernel
theorem dX7_watch_99 : decode cX7_watch 99 = .ok (.getfield 7, 3) := by decide +kernel
theorem dX7_watch_102 : decode cX7_watch 102 = .ok (.bipush 72, 2) := by decide +kernel
theorem dX7_watch_104 : decode cX7_watch 104 = .ok (.iload_n 3, 1) := by decide +kernel
theorem dX7_watch_105 : decode cX7_watch 105 = .ok (.iadd, 1) := by decide +kernel
theorem dX7_watch_106 : decode cX7_watch 106 = .ok (.iload 5, 2) := by decide +kernel
theorem dX7_watch_108 : decode cX7_watch 108 = .ok (.bipush 8, 2) := by decide +kernel
theorem dX7_watch_110 : decode cX7_watch 110 = .ok (.if_icmp .ne 8, 3) := by decide +kernel
theorem dX7_watch_113 : decode cX7_watch 113 = .ok (.bipush 8, 2) := by decide +kernel
theorem dX7_watch_115 : decode cX7_watch 115 = .ok (.goto 7, 3) := by decide +kernel
theorem dX7_watch_118 : decode cX7_watch 118 = .ok (.iload 5, 2) := by decide +kernel
theorem dX7_watch_120 : decode cX7_watch 120 = .ok (.iconst 1, 1) := by decide +kernel
theorem dX7_watch_121 : decode cX7_watch 121 = .ok (.iadd, 1) := by decide +kernel
theorem dX7_watch_122 : decode cX7_watch 122 = .ok (.iastore, 1) := by decide +kernel
theorem dX7_watch_123 : decode cX7_watch 123 = .ok (.iload 6, 2) := by decide +kernel
theorem dX7_watch_125 : decode cX7_watch 125 = .ok (.istore 7, 2) := by decide +kernel
theorem dX7_watch_127 : decode cX7_watch 127 = .ok (.iload 7, 2) := by decide +kernel
theorem dX7_watch_129 : decode cX7_watch 129 = .ok (.ifCond .le 31, 3) := by decide +kernel
theorem dX7_watch_132 : decode cX7_watch 132 = .ok (.aload_n 0, 1) := by decide +kernel
theorem dX7_watch_133 : decode cX7_watch 133 = .ok (.getfield 7, 3) := by decide +kernel
theorem dX7_watch_136 : decode cX7_watch 136 = .ok (.iload 4, 2) := by decide +kernel
theorem dX7_watch_138 : decode cX7_watch 138 = .ok (.iload 7, 2) := by decide +kernel
theorem dX7_watch_140 : decode cX7_watch 140 = .ok (.iadd, 1) := by decide +kernel
theorem dX7_watch_141 : decode cX7_watch 141 = .ok (.aload_n 0, 1) := by decide +kernel
theorem dX7_watch_142 : decode cX7_watch 142 = .ok (.getfield 7, 3) := by decide +kernel
theorem dX7_watch_145 : decode cX7_watch 145 = .ok (.iload 4, 2) := by decide +kernel
theorem dX7_watch_147 : decode cX7_watch 147 = .ok (.iload 7, 2) := by decide +kernel
theorem dX7_watch_149 : decode cX7_watch 149 = .ok (.iadd, 1) := by decide +kernel
theorem dX7_watch_150 : decode cX7_watch 150 = .ok (.iconst 1, 1) := by decide +kernel
theorem dX7_watch_151 : decode cX7_watch 151 = .ok (.isub, 1) := by decide +kernel
theorem dX7_watch_152 : decode cX7_watch 152 = .ok (.iaload, 1) := by decide +kernel
theorem dX7_watch_153 : decode cX7_watch 153 = .ok (.iastore, 1) := by decide +kernel
theorem dX7_watch_154 : decode cX7_watch 154 = .ok (.iinc 7 (-1), 3) := by decide +kernel
theorem dX7_watch_157 : decode cX7_watch 157 = .ok (.goto (-30), 3) := by decide +kernel
theorem dX7_watch_160 : decode cX7_watch 160 = .ok (.aload_n 0, 1) := by decide +kernel
theorem dX7_watch_161 : decode cX7_watch 161 = .ok (.getfield 7, 3) := by decide +kernel
theorem dX7_watch_164 : decode cX7_watch 164 = .ok (.iload 4, 2) := by decide +kernel
theorem dX7_watch_166 : decode cX7_watch 166 = .ok (.iload_n 2, 1) := by decide +kernel
theorem dX7_watch_167 : decode cX7_watch 167 = .ok (.iastore, 1) := by decide +kernel
theorem dX7_watch_168 : decode cX7_watch 168 = .ok (.aload_n 0, 1) := by decide +kernel
theorem dX7_watch_169 : decode cX7_watch 169 = .ok (.getfield 7, 3) := by decide +kernel
theorem dX7_watch_172 : decode cX7_watch 172 = .ok (.iload 4, 2) := by decide +kernel
theorem dX7_watch_174 : decode cX7_watch 174 = .ok (.bipush 8, 2) := by decide +kernel
theorem dX7_watch_176 : decode cX7_watch 176 = .ok (.iadd, 1) := by decide +kernel
theorem dX7_watch_177 : decode cX7_watch 177 = .ok (.iconst 0, 1) := by decide +kernel
theorem dX7_watch_178 : decode cX7_watch 178 = .ok (.iastore, 1) := by decide +kernel
theorem dX7_watch_179 : decode cX7_watch 179 = .ok (.return_, 1) := by decide +kernel
theorem dX7_halve_0 : decode cX7_halve 0 = .ok (.iconst 0, 1) := by decide +kernel
theorem dX7_halve_1 : decode cX7_halve 1 = .ok (.istore_n 1, 1) := by decide +kernel
theorem dX7_halve_2 : decode cX7_halve 2 = .ok (.iconst 0, 1) := by decide +kernel
theorem dX7_halve_3 : decode cX7_halve 3 = .ok (.istore_n 2, 1) := by decide +kernel
theorem dX7_halve_4 : decode cX7_halve 4 = .ok (.iload_n 2, 1) := by decide +kernel
theorem dX7_halve_5 : decode cX7_halve 5 = .ok (.bipush 32, 2) := by decide +kernel
theorem dX7_halve_7 : decode cX7_halve 7 = .ok (.if_icmp .ge 36, 3) := by decide +kernel
theorem dX7_halve_10 : decode cX7_halve 10 = .ok (.aload_n 0, 1) := by decide +kernel
theorem dX7_halve_11 : decode cX7_halve 11 = .ok (.getfield 7, 3) := by decide +kernel
theorem dX7_halve_14 : decode cX7_halve 14 = .ok (.sipush 152, 3) := by decide +kernel
theorem dX7_halve_17 : decode cX7_halve 17 = .ok (.iload_n 2, 1) := by decide +kernel
theorem dX7_halve_18 : decode cX7_halve 18 = .ok (.iadd, 1) := by decide +kernel
theorem dX7_halve_19 : decode cX7_halve 19 = .ok (.dup2, 1) := by decide +kernel
theorem dX7_halve_20 : decode cX7_halve 20 = .ok (.iaload, 1) := by decide +kernel
theorem dX7_halve_21 : decode cX7_halve 21 = .ok (.iconst 2, 1) := by decide +kernel
theorem dX7_halve_22 : decode cX7_halve 22 = .ok (.idiv, 1) := by decide +kernel
theorem dX7_halve_23 : decode cX7_halve 23 = .ok (.iastore, 1) := by decide +kernel
theorem dX7_halve_24 : decode cX7_halve 24 = .ok (.iload_n 1, 1) := by decide +kernel
theorem dX7_halve_25 : decode cX7_halve 25 = .ok (.aload_n 0, 1) := by decide +kernel
theorem dX7_halve_26 : decode cX7_halve 26 = .ok (.getfield 7, 3) := by decide +kernel
theorem dX7_halve_29 : decode cX7_halve 29 = .ok (.sipush 152, 3) := by decide +kernel
theorem dX7_halve_32 : decode cX7_halve 32 = .ok (.iload_n 2, 1) := by decide +kernel
theorem dX7_halve_33 : decode cX7_halve 33 = .ok (.iadd, 1) := by decide +kernel
theorem dX7_halve_34 : decode cX7_halve 34 = .ok (.iaload, 1) := by decide +kernel
theorem dX7_halve_35 : decode cX7_halve 35 = .ok (.iadd, 1) := by decide +kernel
theorem dX7_halve_36 : decode cX7_halve 36 = .ok (.istore_n 1, 1) := by decide +kernel
theorem dX7_halve_37 : decode cX7_halve 37 = .ok (.iinc 2 1, 3) := by decide +kernel
theorem dX7_halve_40 : decode cX7_halve 40 = .ok (.goto (-36), 3) := by decide +kernel
theorem dX7_halve_43 : decode cX7_halve 43 = .ok (.iload_n 1, 1) := by decide +kernel
theorem dX7_halve_44 : decode cX7_halve 44 = .ok (.ireturn, 1) := by decide +kernel
theorem dX7_gained_0 : decode cX7_gained 0 = .ok (.iconst 0, 1) := by decide +kernel
theorem dX7_gained_1 : decode cX7_gained 1 = .ok (.istore_n 3, 1) := by decide +kernel
theorem dX7_gained_2 : decode cX7_gained 2 = .ok (.iconst 0, 1) := by decide +kernel
theorem dX7_gained_3 : decode cX7_gained 3 = .ok (.istore 4, 2) := by decide +kernel
theorem dX7_gained_5 : decode cX7_gained 5 = .ok (.iload 4, 2) := by decide +kernel
theorem dX7_gained_7 : decode cX7_gained 7 = .ok (.iload_n 2, 1) := by decide +kernel
theorem dX7_gained_8 : decode cX7_gained 8 = .ok (.if_icmp .ge 28, 3) := by decide +kernel
theorem dX7_gained_11 : decode cX7_gained 11 = .ok (.iload_n 3, 1) := by decide +kernel
theorem dX7_gained_12 : decode cX7_gained 12 = .ok (.aload_n 0, 1) := by decide +kernel
theorem dX7_gained_13 : decode cX7_gained 13 = .ok (.getfield 7, 3) := by decide +kernel
theorem dX7_gained_16 : decode cX7_gained 16 = .ok (.sipush 152, 3) := by decide +kernel
theorem dX7_gained_19 : decode cX7_gained 19 = .ok (.bipush 8, 2) := by decide +kernel
theorem dX7_gained_21 : decode cX7_gained 21 = .ok (.iload_n 1, 1) := by decide +kernel
theorem dX7_gained_22 : decode cX7_gained 22 = .ok (.imul, 1) := by decide +kernel
theorem dX7_gained_23 : decode cX7_gained 23 = .ok (.iadd, 1) := by decide +kernel
theorem dX7_gained_24 : decode cX7_gained 24 = .ok (.iload 4, 2) := by decide +kernel
theorem dX7_gained_26 : decode cX7_gained 26 = .ok (.iadd, 1) := by decide +kernel
theorem dX7_gained_27 : decode cX7_gained 27 = .ok (.iaload, 1) := by decide +kernel
theorem dX7_gained_28 : decode cX7_gained 28 = .ok (.iadd, 1) := by decide +kernel
theorem dX7_gained_29 : decode cX7_gained 29 = .ok (.istore_n 3, 1) := by decide +kernel
theorem dX7_gained_30 : decode cX7_gained 30 = .ok (.iinc 4 1, 3) := by decide +kernel
theorem dX7_gained_33 : decode cX7_gained 33 = .ok (.goto (-28), 3) := by decide +kernel
theorem dX7_gained_36 : decode cX7_gained 36 = .ok (.iload_n 3, 1) := by decide +kernel
theorem dX7_gained_37 : decode cX7_gained 37 = .ok (.ireturn, 1) := by decide +kernel
theorem dX7_lowestTarget_0 : decode cX7_lowestTarget 0 = .ok (.iconst 0, 1) := by decide +kernel
theorem dX7_lowestTarget_1 : decode cX7_lowestTarget 1 = .ok (.istore_n 1, 1) := by decide +kernel
theorem dX7_lowestTarget_2 : decode cX7_lowestTarget 2 = .ok (.iconst 1, 1) := by decide +kernel
theorem dX7_lowestTarget_3 : decode cX7_lowestTarget 3 = .ok (.istore_n 2, 1) := by decide +kernel
theorem dX7_lowestTarget_4 : decode cX7_lowestTarget 4 = .ok (.iload_n 2, 1) := by decide +kernel
theorem dX7_lowestTarget_5 : decode cX7_lowestTarget 5 = .ok (.iconst 4, 1) := by decide +kernel
theorem dX7_lowestTarget_6 : decode cX7_lowestTarget 6 = .ok (.if_icmp .ge 30, 3) := by decide +kernel
theorem dX7_lowestTarget_9 : decode cX7_lowestTarget 9 = .ok (.aload_n 0, 1) := by decide +kernel
theorem dX7_lowestTarget_10 : decode cX7_lowestTarget 10 = .ok (.getfield 23, 3) := by decide +kernel
theorem dX7_lowestTarget_13 : decode cX7_lowestTarget 13 = .ok (.iload_n 2, 1) := by decide +kernel
theorem dX7_lowestTarget_14 : decode cX7_lowestTarget 14 = .ok (.iaload, 1) := by decide +kernel
theorem dX7_lowestTarget_15 : decode cX7_lowestTarget 15 = .ok (.aload_n 0, 1) := by decide +kernel
theorem dX7_lowestTarget_16 : decode cX7_lowestTarget 16 = .ok (.getfield 23, 3) := by decide +kernel
theorem dX7_lowestTarget_19 : decode cX7_lowestTarget 19 = .ok (.iload_n 1, 1) := by decide +kernel
theorem dX7_lowestTarget_20 : decode cX7_lowestTarget 20 = .ok (.iaload, 1) := by decide +kernel
theorem dX7_lowestTarget_21 : decode cX7_lowestTarget 21 = .ok (.if_icmp .ge 7, 3) := by decide +kernel
theorem dX7_lowestTarget_24 : decode cX7_lowestTarget 24 = .ok (.iload_n 2, 1) := by decide +kernel
theorem dX7_lowestTarget_25 : decode cX7_lowestTarget 25 = .ok (.goto 4, 3) := by decide +kernel
theorem dX7_lowestTarget_28 : decode cX7_lowestTarget 28 = .ok (.iload_n 1, 1) := by decide +kernel
theorem dX7_lowestTarget_29 : decode cX7_lowestTarget 29 = .ok (.istore_n 1, 1) := by decide +kernel
theorem dX7_lowestTarget_30 : decode cX7_lowestTarget 30 = .ok (.iinc 2 1, 3) := by decide +kernel
theorem dX7_lowestTarget_33 : decode cX7_lowestTarget 33 = .ok (.goto (-29), 3) := by decide +kernel
theorem dX7_lowestTarget_36 : decode cX7_lowestTarget 36 = .ok (.iload_n 1, 1) := by decide +kernel
theorem dX7_lowestTarget_37 : decode cX7_lowestTarget 37 = .ok (.ireturn, 1) := by decide +kernel
theorem dX7_giveSome_0 : decode cX7_giveSome 0 = .ok (.iconst (-1), 1) := by decide +kernel
theorem dX7_giveSome_1 : decode cX7_giveSome 1 = .ok (.istore_n 2, 1) := by decide +kernel
theorem dX7_giveSome_2 : decode cX7_giveSome 2 = .ok (.iconst 0, 1) := by decide +kernel
theorem dX7_giveSome_3 : decode cX7_giveSome 3 = .ok (.istore_n 3, 1) := by decide +kernel
theorem dX7_giveSome_4 : decode cX7_giveSome 4 = .ok (.iconst 1, 1) := by decide +kernel
theorem dX7_giveSome_5 : decode cX7_giveSome 5 = .ok (.istore 4, 2) := by decide +kernel
theorem dX7_giveSome_7 : decode cX7_giveSome 7 = .ok (.iconst 0, 1) := by decide +kernel
theorem dX7_giveSome_8 : decode cX7_giveSome 8 = .ok (.istore 5, 2) := by decide +kernel
theorem dX7_giveSome_10 : decode cX7_giveSome 10 = .ok (.iload 5, 2) := by decide +kernel
theorem dX7_giveSome_12 : decode cX7_giveSome 12 = .ok (.iconst 4, 1) := by decide +kernel
theorem dX7_giveSome_13 : decode cX7_giveSome 13 = .ok (.if_icmp .ge 128, 3) := by decide +kernel
theorem dX7_giveSome_16 : decode cX7_giveSome 16 = .ok (.iconst 1, 1) := by decide +kernel
theorem dX7_giveSome_17 : decode cX7_giveSome 17 = .ok (.istore 6, 2) := by decide +kernel
theorem dX7_giveSome_19 : decode cX7_giveSome 19 = .ok (.iload 6, 2) := by decide +kernel
theorem dX7_giveSome_21 : decode cX7_giveSome 21 = .ok (.iload_n 1, 1) := by decide +kernel
theorem dX7_giveSome_22 : decode cX7_giveSome 22 = .ok (.if_icmp .gt 113, 3) := by decide +kernel
theorem dX7_giveSome_25 : decode cX7_giveSome 25 = .ok (.aload_n 0, 1) := by decide +kernel
theorem dX7_giveSome_26 : decode cX7_giveSome 26 = .ok (.getfield 23, 3) := by decide +kernel
theorem dX7_giveSome_29 : decode cX7_giveSome 29 = .ok (.iload 5, 2) := by decide +kernel
theorem dX7_giveSome_31 : decode cX7_giveSome 31 = .ok (.iaload, 1) := by decide +kernel
theorem dX7_giveSome_32 : decode cX7_giveSome 32 = .ok (.iload 6, 2) := by decide +kernel
theorem dX7_giveSome_34 : decode cX7_giveSome 34 = .ok (.iadd, 1) := by decide +kernel
theorem dX7_giveSome_35 : decode cX7_giveSome 35 = .ok (.bipush 8, 2) := by decide +kernel
theorem dX7_giveSome_37 : decode cX7_giveSome 37 = .ok (.if_icmp .gt 98, 3) := by decide +kernel
theorem dX7_giveSome_40 : decode cX7_giveSome 40 = .ok (.aload_n 0, 1) := by decide +kernel
theorem dX7_giveSome_41 : decode cX7_giveSome 41 = .ok (.iload 5, 2) := by decide +kernel
theorem dX7_giveSome_43 : decode cX7_giveSome 43 = .ok (.aload_n 0, 1) := by decide +kernel
theorem dX7_giveSome_44 : decode cX7_giveSome 44 = .ok (.getfield 23, 3) := by decide +kernel
theorem dX7_giveSome_47 : decode cX7_giveSome 47 = .ok (.iload 5, 2) := by decide +kernel
theorem dX7_giveSome_49 : decode cX7_giveSome 49 = .ok (.iaload, 1) := by decide +kernel
theorem dX7_giveSome_50 : decode cX7_giveSome 50 = .ok (.iload 6, 2) := by decide +kernel
theorem dX7_giveSome_52 : decode cX7_giveSome 52 = .ok (.iadd, 1) := by decide +kernel
theorem dX7_giveSome_53 : decode cX7_giveSome 53 = .ok (.invokevirtual 48, 3) := by decide +kernel
theorem dX7_giveSome_56 : decode cX7_giveSome 56 = .ok (.aload_n 0, 1) := by decide +kernel
theorem dX7_giveSome_57 : decode cX7_giveSome 57 = .ok (.iload 5, 2) := by decide +kernel
theorem dX7_giveSome_59 : decode cX7_giveSome 59 = .ok (.aload_n 0, 1) := by decide +kernel
theorem dX7_giveSome_60 : decode cX7_giveSome 60 = .ok (.getfield 23, 3) := by decide +kernel
theorem dX7_giveSome_63 : decode cX7_giveSome 63 = .ok (.iload 5, 2) := by decide +kernel
theorem dX7_giveSome_65 : decode cX7_giveSome 65 = .ok (.iaload, 1) := by decide +kernel
theorem dX7_giveSome_66 : decode cX7_giveSome 66 = .ok (.invokevirtual 48, 3) := by decide +kernel
theorem dX7_giveSome_69 : decode cX7_giveSome 69 = .ok (.isub, 1) := by decide +kernel
theorem dX7_giveSome_70 : decode cX7_giveSome 70 = .ok (.istore 7, 2) := by decide +kernel
theorem dX7_giveSome_72 : decode cX7_giveSome 72 = .ok (.iload 7, 2) := by decide +kernel
theorem dX7_giveSome_74 : decode cX7_giveSome 74 = .ok (.iload 4, 2) := by decide +kernel
theorem dX7_giveSome_76 : decode cX7_giveSome 76 = .ok (.imul, 1) := by decide +kernel
theorem dX7_giveSome_77 : decode cX7_giveSome 77 = .ok (.iload_n 3, 1) := by decide +kernel
theorem dX7_giveSome_78 : decode cX7_giveSome 78 = .ok (.iload 6, 2) := by decide +kernel
theorem dX7_giveSome_80 : decode cX7_giveSome 80 = .ok (.imul, 1) := by decide +kernel
theorem dX7_giveSome_81 : decode cX7_giveSome 81 = .ok (.if_icmp .le 7, 3) := by decide +kernel
theorem dX7_giveSome_84 : decode cX7_giveSome 84 = .ok (.iconst 1, 1) := by decide +kernel
theorem dX7_giveSome_85 : decode cX7_giveSome 85 = .ok (.goto 4, 3) := by decide +kernel
theorem dX7_giveSome_88 : decode cX7_giveSome 88 = .ok (.iconst 0, 1) := by decide +kernel
theorem dX7_giveSome_89 : decode cX7_giveSome 89 = .ok (.istore 8, 2) := by decide +kernel
theorem dX7_giveSome_91 : decode cX7_giveSome 91 = .ok (.iload 8, 2) := by decide +kernel
theorem dX7_giveSome_93 : decode cX7_giveSome 93 = .ok (.ifCond .eq 8, 3) := by decide +kernel
theorem dX7_giveSome_96 : decode cX7_giveSome 96 = .ok (.iload 7, 2) := by decide +kernel
theorem dX7_giveSome_98 : decode cX7_giveSome 98 = .ok (.goto 4, 3) := by decide +kernel
theorem dX7_giveSome_101 : decode cX7_giveSome 101 = .ok (.iload_n 3, 1) := by decide +kernel
theorem dX7_giveSome_102 : decode cX7_giveSome 102 = .ok (.istore_n 3, 1) := by decide +kernel
theorem dX7_giveSome_103 : decode cX7_giveSome 103 = .ok (.iload 8, 2) := by decide +kernel
theorem dX7_giveSome_105 : decode cX7_giveSome 105 = .ok (.ifCond .eq 8, 3) := by decide +kernel
theorem dX7_giveSome_108 : decode cX7_giveSome 108 = .ok (.iload 6, 2) := by decide +kernel
theorem dX7_giveSome_110 : decode cX7_giveSome 110 = .ok (.goto 5, 3) := by decide +kernel
theorem dX7_giveSome_113 : decode cX7_giveSome 113 = .ok (.iload 4, 2) := by decide +kernel
theorem dX7_giveSome_115 : decode cX7_giveSome 115 = .ok (.istore 4, 2) := by decide +kernel
theorem dX7_giveSome_117 : decode cX7_giveSome 117 = .ok (.iload 8, 2) := by decide +kernel
theorem dX7_giveSome_119 : decode cX7_giveSome 119 = .ok (.ifCond .eq 8, 3) := by decide +kernel
theorem dX7_giveSome_122 : decode cX7_giveSome 122 = .ok (.iload 5, 2) := by decide +kernel
theorem dX7_giveSome_124 : decode cX7_giveSome 124 = .ok (.goto 4, 3) := by decide +kernel
theorem dX7_giveSome_127 : decode cX7_giveSome 127 = .ok (.iload_n 2, 1) := by decide +kernel
theorem dX7_giveSome_128 : decode cX7_giveSome 128 = .ok (.istore_n 2, 1) := by decide +kernel
theorem dX7_giveSome_129 : decode cX7_giveSome 129 = .ok (.iinc 6 1, 3) := by decide +kernel
theorem dX7_giveSome_132 : decode cX7_giveSome 132 = .ok (.goto (-113), 3) := by decide +kernel
theorem dX7_giveSome_135 : decode cX7_giveSome 135 = .ok (.iinc 5 1, 3) := by decide +kernel
theorem dX7_giveSome_138 : decode cX7_giveSome 138 = .ok (.goto (-128), 3) := by decide +kernel
theorem dX7_giveSome_141 : decode cX7_giveSome 141 = .ok (.iload_n 2, 1) := by decide +kernel
theorem dX7_giveSome_142 : decode cX7_giveSome 142 = .ok (.iconst (-1), 1) := by decide +kernel
theorem dX7_giveSome_143 : decode cX7_giveSome 143 = .ok (.if_icmp .ne 18, 3) := by decide +kernel
theorem dX7_giveSome_146 : decode cX7_giveSome 146 = .ok (.aload_n 0, 1) := by decide +kernel
theorem dX7_giveSome_147 : decode cX7_giveSome 147 = .ok (.getfield 23, 3) := by decide +kernel
theorem dX7_giveSome_150 : decode cX7_giveSome 150 = .ok (.aload_n 0, 1) := by decide +kernel
theorem dX7_giveSome_151 : decode cX7_giveSome 151 = .ok (.invokevirtual 51, 3) := by decide +kernel
theorem dX7_giveSome_154 : decode cX7_giveSome 154 = .ok (.dup2, 1) := by decide +kernel
theorem dX7_giveSome_155 : decode cX7_giveSome 155 = .ok (.iaload, 1) := by decide +kernel
theorem dX7_giveSome_156 : decode cX7_giveSome 156 = .ok (.iconst 1, 1) := by decide +kernel
theorem dX7_giveSome_157 : decode cX7_giveSome 157 = .ok (.iadd, 1) := by decide +kernel
theorem dX7_giveSome_158 : decode cX7_giveSome 158 = .ok (.iastore, 1) := by decide +kernel
theorem dX7_giveSome_159 : decode cX7_giveSome 159 = .ok (.iconst 1, 1) := by decide +kernel
theorem dX7_giveSome_160 : decode cX7_giveSome 160 = .ok (.ireturn, 1) := by decide +kernel
theorem dX7_giveSome_161 : decode cX7_giveSome 161 = .ok (.aload_n 0, 1) := by decide +kernel
theorem dX7_giveSome_162 : decode cX7_giveSome 162 = .ok (.getfield 23, 3) := by decide +kernel
theorem dX7_giveSome_165 : decode cX7_giveSome 165 = .ok (.iload_n 2, 1) := by decide +kernel
theorem dX7_giveSome_166 : decode cX7_giveSome 166 = .ok (.dup2, 1) := by decide +kernel
theorem dX7_giveSome_167 : decode cX7_giveSome 167 = .ok (.iaload, 1) := by decide +kernel
theorem dX7_giveSome_168 : decode cX7_giveSome 168 = .ok (.iload 4, 2) := by decide +kernel
theorem dX7_giveSome_170 : decode cX7_giveSome 170 = .ok (.iadd, 1) := by decide +kernel
theorem dX7_giveSome_171 : decode cX7_giveSome 171 = .ok (.iastore, 1) := by decide +kernel
theorem dX7_giveSome_172 : decode cX7_giveSome 172 = .ok (.iload 4, 2) := by decide +kernel
theorem dX7_giveSome_174 : decode cX7_giveSome 174 = .ok (.ireturn, 1) := by decide +kernel
theorem dX7_findTargets_0 : decode cX7_findTargets 0 = .ok (.bipush 8, 2) := by decide +kernel
theorem dX7_findTargets_2 : decode cX7_findTargets 2 = .ok (.istore_n 1, 1) := by decide +kernel
theorem dX7_findTargets_3 : decode cX7_findTargets 3 = .ok (.iconst 0, 1) := by decide +kernel
theorem dX7_findTargets_4 : decode cX7_findTargets 4 = .ok (.istore_n 2, 1) := by decide +kernel
theorem dX7_findTargets_5 : decode cX7_findTargets 5 = .ok (.iload_n 2, 1) := by decide +kernel
theorem dX7_findTargets_6 : decode cX7_findTargets 6 = .ok (.iconst 4, 1) := by decide +kernel
theorem dX7_findTargets_7 : decode cX7_findTargets 7 = .ok (.if_icmp .ge 34, 3) := by decide +kernel
theorem dX7_findTargets_10 : decode cX7_findTargets 10 = .ok (.aload_n 0, 1) := by decide +kernel
theorem dX7_findTargets_11 : decode cX7_findTargets 11 = .ok (.getfield 23, 3) := by decide +kernel
theorem dX7_findTargets_14 : decode cX7_findTargets 14 = .ok (.iload_n 2, 1) := by decide +kernel
theorem dX7_findTargets_15 : decode cX7_findTargets 15 = .ok (.aload_n 0, 1) := by decide +kernel
theorem dX7_findTargets_16 : decode cX7_findTargets 16 = .ok (.getfield 7, 3) := by decide +kernel
theorem dX7_findTargets_19 : decode cX7_findTargets 19 = .ok (.sipush 184, 3) := by decide +kernel
theorem dX7_findTargets_22 : decode cX7_findTargets 22 = .ok (.iload_n 2, 1) := by decide +kernel
theorem dX7_findTargets_23 : decode cX7_findTargets 23 = .ok (.iadd, 1) := by decide +kernel
theorem dX7_findTargets_24 : decode cX7_findTargets 24 = .ok (.iaload, 1) := by decide +kernel
theorem dX7_findTargets_25 : decode cX7_findTargets 25 = .ok (.iastore, 1) := by decide +kernel
theorem dX7_findTargets_26 : decode cX7_findTargets 26 = .ok (.iload_n 1, 1) := by decide +kernel
theorem dX7_findTargets_27 : decode cX7_findTargets 27 = .ok (.aload_n 0, 1) := by decide +kernel
theorem dX7_findTargets_28 : decode cX7_findTargets 28 = .ok (.getfield 23, 3) := by decide +kernel
theorem dX7_findTargets_31 : decode cX7_findTargets 31 = .ok (.iload_n 2, 1) := by decide +kernel
theorem dX7_findTargets_32 : decode cX7_findTargets 32 = .ok (.iaload, 1) := by decide +kernel
theorem dX7_findTargets_33 : decode cX7_findTargets 33 = .ok (.isub, 1) := by decide +kernel
theorem dX7_findTargets_34 : decode cX7_findTargets 34 = .ok (.istore_n 1, 1) := by decide +kernel
theorem dX7_findTargets_35 : decode cX7_findTargets 35 = .ok (.iinc 2 1, 3) := by decide +kernel
theorem dX7_findTargets_38 : decode cX7_findTargets 38 = .ok (.goto (-33), 3) := by decide +kernel
theorem dX7_findTargets_41 : decode cX7_findTargets 41 = .ok (.iload_n 1, 1) := by decide +kernel
theorem dX7_findTargets_42 : decode cX7_findTargets 42 = .ok (.ifCond .le 14, 3) := by decide +kernel
theorem dX7_findTargets_45 : decode cX7_findTargets 45 = .ok (.iload_n 1, 1) := by decide +kernel
theorem dX7_findTargets_46 : decode cX7_findTargets 46 = .ok (.aload_n 0, 1) := by decide +kernel
theorem dX7_findTargets_47 : decode cX7_findTargets 47 = .ok (.iload_n 1, 1) := by decide +kernel
theorem dX7_findTargets_48 : decode cX7_findTargets 48 = .ok (.invokevirtual 55, 3) := by decide +kernel
theorem dX7_findTargets_51 : decode cX7_findTargets 51 = .ok (.isub, 1) := by decide +kernel
theorem dX7_findTargets_52 : decode cX7_findTargets 52 = .ok (.istore_n 1, 1) := by decide +kernel
theorem dX7_findTargets_53 : decode cX7_findTargets 53 = .ok (.goto (-12), 3) := by decide +kernel
theorem dX7_findTargets_56 : decode cX7_findTargets 56 = .ok (.return_, 1) := by decide +kernel
theorem dX7_deficit_0 : decode cX7_deficit 0 = .ok (.aload_n 0, 1) := by decide +kernel
theorem dX7_deficit_1 : decode cX7_deficit 1 = .ok (.getfield 23, 3) := by decide +kernel
theorem dX7_deficit_4 : decode cX7_deficit 4 = .ok (.iload_n 1, 1) := by decide +kernel
theorem dX7_deficit_5 : decode cX7_deficit 5 = .ok (.iaload, 1) := by decide +kernel
theorem dX7_deficit_6 : decode cX7_deficit 6 = .ok (.aload_n 0, 1) := by decide +kernel
theorem dX7_deficit_7 : decode cX7_deficit 7 = .ok (.iload_n 1, 1) := by decide +kernel
theorem dX7_deficit_8 : decode cX7_deficit 8 = .ok (.invokevirtual 44, 3) := by decide +kernel
theorem dX7_deficit_11 : decode cX7_deficit 11 = .ok (.isub, 1) := by decide +kernel
theorem dX7_deficit_12 : decode cX7_deficit 12 = .ok (.ireturn, 1) := by decide +kernel
theorem dX7_linesIn_0 : decode cX7_linesIn 0 = .ok (.iconst 0, 1) := by decide +kernel
theorem dX7_linesIn_1 : decode cX7_linesIn 1 = .ok (.istore_n 3, 1) := by decide +kernel
theorem dX7_linesIn_2 : decode cX7_linesIn 2 = .ok (.iconst 0, 1) := by decide +kernel
theorem dX7_linesIn_3 : decode cX7_linesIn 3 = .ok (.istore 4, 2) := by decide +kernel
theorem dX7_linesIn_5 : decode cX7_linesIn 5 = .ok (.iload 4, 2) := by decide +kernel
theorem dX7_linesIn_7 : decode cX7_linesIn 7 = .ok (.iconst 4, 1) := by decide +kernel
theorem dX7_linesIn_8 : decode cX7_linesIn 8 = .ok (.if_icmp .ge 49, 3) := by decide +kernel
theorem dX7_linesIn_11 : decode cX7_linesIn 11 = .ok (.aload_n 0, 1) := by decide +kernel
theorem dX7_linesIn_12 : decode cX7_linesIn 12 = .ok (.getfield 7, 3) := by decide +kernel
theorem dX7_linesIn_15 : decode cX7_linesIn 15 = .ok (.bipush 8, 2) := by decide +kernel
theorem dX7_linesIn_17 : decode cX7_linesIn 17 = .ok (.bipush 8, 2) := by decide +kernel
theorem dX7_linesIn_19 : decode cX7_linesIn 19 = .ok (.iload 4, 2) := by decide +kernel
theorem dX7_linesIn_21 : decode cX7_linesIn 21 = .ok (.imul, 1) := by decide +kernel
theorem dX7_linesIn_22 : decode cX7_linesIn 22 = .ok (.iadd, 1) := by decide +kernel
theorem dX7_linesIn_23 : decode cX7_linesIn 23 = .ok (.iload_n 2, 1) := by decide +kernel
theorem dX7_linesIn_24 : decode cX7_linesIn 24 = .ok (.iadd, 1) := by decide +kernel
theorem dX7_linesIn_25 : decode cX7_linesIn 25 = .ok (.iaload, 1) := by decide +kernel
theorem dX7_linesIn_26 : decode cX7_linesIn 26 = .ok (.istore 5, 2) := by decide +kernel
theorem dX7_linesIn_28 : decode cX7_linesIn 28 = .ok (.iload_n 3, 1) := by decide +kernel
theorem dX7_linesIn_29 : decode cX7_linesIn 29 = .ok (.iload 5, 2) := by decide +kernel
theorem dX7_linesIn_31 : decode cX7_linesIn 31 = .ok (.ifCond .lt 17, 3) := by decide +kernel
theorem dX7_linesIn_34 : decode cX7_linesIn 34 = .ok (.iload 5, 2) := by decide +kernel
theorem dX7_linesIn_36 : decode cX7_linesIn 36 = .ok (.sipush 256, 3) := by decide +kernel
theorem dX7_linesIn_39 : decode cX7_linesIn 39 = .ok (.idiv, 1) := by decide +kernel
theorem dX7_linesIn_40 : decode cX7_linesIn 40 = .ok (.iload_n 1, 1) := by decide +kernel
theorem dX7_linesIn_41 : decode cX7_linesIn 41 = .ok (.if_icmp .ne 7, 3) := by decide +kernel
theorem dX7_linesIn_44 : decode cX7_linesIn 44 = .ok (.iconst 1, 1) := by decide +kernel
theorem dX7_linesIn_45 : decode cX7_linesIn 45 = .ok (.goto 4, 3) := by decide +kernel
theorem dX7_linesIn_48 : decode cX7_linesIn 48 = .ok (.iconst 0, 1) := by decide +kernel
theorem dX7_linesIn_49 : decode cX7_linesIn 49 = .ok (.iadd, 1) := by decide +kernel
theorem dX7_linesIn_50 : decode cX7_linesIn 50 = .ok (.istore_n 3, 1) := by decide +kernel
theorem dX7_linesIn_51 : decode cX7_linesIn 51 = .ok (.iinc 4 1, 3) := by decide +kernel
theorem dX7_linesIn_54 : decode cX7_linesIn 54 = .ok (.goto (-49), 3) := by decide +kernel
theorem dX7_linesIn_57 : decode cX7_linesIn 57 = .ok (.iload_n 3, 1) := by decide +kernel
theorem dX7_linesIn_58 : decode cX7_linesIn 58 = .ok (.ireturn, 1) := by decide +kernel
theorem dX7_move_0 : decode cX7_move 0 = .ok (.aload_n 0, 1) := by decide +kernel
theorem dX7_move_1 : decode cX7_move 1 = .ok (.invokevirtual 58, 3) := by decide +kernel
theorem dX7_move_4 : decode cX7_move 4 = .ok (.iconst 0, 1) := by decide +kernel
theorem dX7_move_5 : decode cX7_move 5 = .ok (.istore_n 1, 1) := by decide +kernel
theorem dX7_move_6 : decode cX7_move 6 = .ok (.iconst 0, 1) := by decide +kernel
theorem dX7_move_7 : decode cX7_move 7 = .ok (.istore_n 2, 1) := by decide +kernel
theorem dX7_move_8 : decode cX7_move 8 = .ok (.iconst 1, 1) := by decide +kernel
theorem dX7_move_9 : decode cX7_move 9 = .ok (.istore_n 3, 1) := by decide +kernel
theorem dX7_move_10 : decode cX7_move 10 = .ok (.iload_n 3, 1) := by decide +kernel
theorem dX7_move_11 : decode cX7_move 11 = .ok (.iconst 4, 1) := by decide +kernel
theorem dX7_move_12 : decode cX7_move 12 = .ok (.if_icmp .ge 47, 3) := by decide +kernel
theorem dX7_move_15 : decode cX7_move 15 = .ok (.aload_n 0, 1) := by decide +kernel
theorem dX7_move_16 : decode cX7_move 16 = .ok (.iload_n 3, 1) := by decide +kernel
theorem dX7_move_17 : decode cX7_move 17 = .ok (.invokevirtual 61, 3) := by decide +kernel
theorem dX7_move_20 : decode cX7_move 20 = .ok (.aload_n 0, 1) := by decide +kernel
theorem dX7_move_21 : decode cX7_move 21 = .ok (.iload_n 1, 1) := by decide +kernel
theorem dX7_move_22 : decode cX7_move 22 = .ok (.invokevirtual 61, 3) := by decide +kernel
theorem dX7_move_25 : decode cX7_move 25 = .ok (.if_icmp .le 7, 3) := by decide +kernel
theorem dX7_move_28 : decode cX7_move 28 = .ok (.iload_n 3, 1) := by decide +kernel
theorem dX7_move_29 : decode cX7_move 29 = .ok (.goto 4, 3) := by decide +kernel
theorem dX7_move_32 : decode cX7_move 32 = .ok (.iload_n 1, 1) := by decide +kernel
theorem dX7_move_33 : decode cX7_move 33 = .ok (.istore_n 1, 1) := by decide +kernel
theorem dX7_move_34 : decode cX7_move 34 = .ok (.aload_n 0, 1) := by decide +kernel
theorem dX7_move_35 : decode cX7_move 35 = .ok (.iload_n 3, 1) := by decide +kernel
theorem dX7_move_36 : decode cX7_move 36 = .ok (.invokevirtual 61, 3) := by decide +kernel
theorem dX7_move_39 : decode cX7_move 39 = .ok (.aload_n 0, 1) := by decide +kernel
theorem dX7_move_40 : decode cX7_move 40 = .ok (.iload_n 2, 1) := by decide +kernel
theorem dX7_move_41 : decode cX7_move 41 = .ok (.invokevirtual 61, 3) := by decide +kernel
theorem dX7_move_44 : decode cX7_move 44 = .ok (.if_icmp .ge 7, 3) := by decide +kernel
theorem dX7_move_47 : decode cX7_move 47 = .ok (.iload_n 3, 1) := by decide +kernel
theorem dX7_move_48 : decode cX7_move 48 = .ok (.goto 4, 3) := by decide +kernel
theorem dX7_move_51 : decode cX7_move 51 = .ok (.iload_n 2, 1) := by decide +kernel
theorem dX7_move_52 : decode cX7_move 52 = .ok (.istore_n 2, 1) := by decide +kernel
theorem dX7_move_53 : decode cX7_move 53 = .ok (.iinc 3 1, 3) := by decide +kernel
theorem dX7_move_56 : decode cX7_move 56 = .ok (.goto (-46), 3) := by decide +kernel
theorem dX7_move_59 : decode cX7_move 59 = .ok (.aload_n 0, 1) := by decide +kernel
theorem dX7_move_60 : decode cX7_move 60 = .ok (.iload_n 1, 1) := by decide +kernel
theorem dX7_move_61 : decode cX7_move 61 = .ok (.invokevirtual 61, 3) := by decide +kernel
theorem dX7_move_64 : decode cX7_move 64 = .ok (.ifCond .ne 5, 3) := by decide +kernel
theorem dX7_move_67 : decode cX7_move 67 = .ok (.iconst (-1), 1) := by decide +kernel
theorem dX7_move_68 : decode cX7_move 68 = .ok (.ireturn, 1) := by decide +kernel
theorem dX7_move_69 : decode cX7_move 69 = .ok (.iconst (-1), 1) := by decide +kernel
theorem dX7_move_70 : decode cX7_move 70 = .ok (.istore_n 3, 1) := by decide +kernel
theorem dX7_move_71 : decode cX7_move 71 = .ok (.iconst 0, 1) := by decide +kernel
theorem dX7_move_72 : decode cX7_move 72 = .ok (.istore 4, 2) := by decide +kernel
theorem dX7_move_74 : decode cX7_move 74 = .ok (.iload 4, 2) := by decide +kernel
theorem dX7_move_76 : decode cX7_move 76 = .ok (.bipush 8, 2) := by decide +kernel
theorem dX7_move_78 : decode cX7_move 78 = .ok (.if_icmp .ge 62, 3) := by decide +kernel
theorem dX7_move_81 : decode cX7_move 81 = .ok (.aload_n 0, 1) := by decide +kernel
theorem dX7_move_82 : decode cX7_move 82 = .ok (.getfield 7, 3) := by decide +kernel
theorem dX7_move_85 : decode cX7_move 85 = .ok (.iconst 0, 1) := by decide +kernel
theorem dX7_move_86 : decode cX7_move 86 = .ok (.iload 4, 2) := by decide +kernel
theorem dX7_move_88 : decode cX7_move 88 = .ok (.iadd, 1) := by decide +kernel
theorem dX7_move_89 : decode cX7_move 89 = .ok (.iaload, 1) := by decide +kernel
theorem dX7_move_90 : decode cX7_move 90 = .ok (.iload_n 2, 1) := by decide +kernel
theorem dX7_move_91 : decode cX7_move 91 = .ok (.if_icmp .ne 28, 3) := by decide +kernel
theorem dX7_move_94 : decode cX7_move 94 = .ok (.iload_n 3, 1) := by decide +kernel
theorem dX7_move_95 : decode cX7_move 95 = .ok (.iconst (-1), 1) := by decide +kernel
theorem dX7_move_96 : decode cX7_move 96 = .ok (.if_icmp .eq 19, 3) := by decide +kernel
theorem dX7_move_99 : decode cX7_move 99 = .ok (.aload_n 0, 1) := by decide +kernel
theorem dX7_move_100 : decode cX7_move 100 = .ok (.iload_n 2, 1) := by decide +kernel
theorem dX7_move_101 : decode cX7_move 101 = .ok (.iload 4, 2) := by decide +kernel
theorem dX7_move_103 : decode cX7_move 103 = .ok (.invokevirtual 64, 3) := by decide +kernel
theorem dX7_move_106 : decode cX7_move 106 = .ok (.aload_n 0, 1) := by decide +kernel
theorem dX7_move_107 : decode cX7_move 107 = .ok (.iload_n 2, 1) := by decide +kernel
theorem dX7_move_108 : decode cX7_move 108 = .ok (.iload_n 3, 1) := by decide +kernel
theorem dX7_move_109 : decode cX7_move 109 = .ok (.invokevirtual 64, 3) := by decide +kernel
theorem dX7_move_112 : decode cX7_move 112 = .ok (.if_icmp .ge 7, 3) := by decide +kernel
theorem dX7_move_115 : decode cX7_move 115 = .ok (.iconst 1, 1) := by decide +kernel
theorem dX7_move_116 : decode cX7_move 116 = .ok (.goto 4, 3) := by decide +kernel
theorem dX7_move_119 : decode cX7_move 119 = .ok (.iconst 0, 1) := by decide +kernel
theorem dX7_move_120 : decode cX7_move 120 = .ok (.istore 5, 2) := by decide +kernel
theorem dX7_move_122 : decode cX7_move 122 = .ok (.iload 5, 2) := by decide +kernel
theorem dX7_move_124 : decode cX7_move 124 = .ok (.ifCond .eq 8, 3) := by decide +kernel
theorem dX7_move_127 : decode cX7_move 127 = .ok (.iload 4, 2) := by decide +kernel
theorem dX7_move_129 : decode cX7_move 129 = .ok (.goto 4, 3) := by decide +kernel
theorem dX7_move_132 : decode cX7_move 132 = .ok (.iload_n 3, 1) := by decide +kernel
theorem dX7_move_133 : decode cX7_move 133 = .ok (.istore_n 3, 1) := by decide +kernel
theorem dX7_move_134 : decode cX7_move 134 = .ok (.iinc 4 1, 3) := by decide +kernel
theorem dX7_move_137 : decode cX7_move 137 = .ok (.goto (-63), 3) := by decide +kernel
theorem dX7_move_140 : decode cX7_move 140 = .ok (.aload_n 0, 1) := by decide +kernel
theorem dX7_move_141 : decode cX7_move 141 = .ok (.getfield 7, 3) := by decide +kernel
theorem dX7_move_144 : decode cX7_move 144 = .ok (.iconst 0, 1) := by decide +kernel
theorem dX7_move_145 : decode cX7_move 145 = .ok (.iload_n 3, 1) := by decide +kernel
theorem dX7_move_146 : decode cX7_move 146 = .ok (.iadd, 1) := by decide +kernel
theorem dX7_move_147 : decode cX7_move 147 = .ok (.iload_n 1, 1) := by decide +kernel
theorem dX7_move_148 : decode cX7_move 148 = .ok (.iastore, 1) := by decide +kernel
theorem dX7_move_149 : decode cX7_move 149 = .ok (.iload_n 3, 1) := by decide +kernel
theorem dX7_move_150 : decode cX7_move 150 = .ok (.ireturn, 1) := by decide +kernel
theorem dX7_put_0 : decode cX7_put 0 = .ok (.aload_n 0, 1) := by decide +kernel
theorem dX7_put_1 : decode cX7_put 1 = .ok (.iload_n 1, 1) := by decide +kernel
theorem dX7_put_2 : decode cX7_put 2 = .ok (.iload_n 2, 1) := by decide +kernel
theorem dX7_put_3 : decode cX7_put 3 = .ok (.invokevirtual 67, 3) := by decide +kernel
theorem dX7_put_6 : decode cX7_put 6 = .ok (.istore_n 3, 1) := by decide +kernel
theorem dX7_put_7 : decode cX7_put 7 = .ok (.aload_n 0, 1) := by decide +kernel
theorem dX7_put_8 : decode cX7_put 8 = .ok (.getfield 7, 3) := by decide +kernel
theorem dX7_put_11 : decode cX7_put 11 = .ok (.bipush 8, 2) := by decide +kernel
theorem dX7_put_13 : decode cX7_put 13 = .ok (.iload_n 3, 1) := by decide +kernel
theorem dX7_put_14 : decode cX7_put 14 = .ok (.iadd, 1) := by decide +kernel
theorem dX7_put_15 : decode cX7_put 15 = .ok (.iaload, 1) := by decide +kernel
theorem dX7_put_16 : decode cX7_put 16 = .ok (.iconst (-1), 1) := by decide +kernel
theorem dX7_put_17 : decode cX7_put 17 = .ok (.if_icmp .eq 33, 3) := by decide +kernel
theorem dX7_put_20 : decode cX7_put 20 = .ok (.aload_n 0, 1) := by decide +kernel
theorem dX7_put_21 : decode cX7_put 21 = .ok (.getfield 7, 3) := by decide +kernel
theorem dX7_put_24 : decode cX7_put 24 = .ok (.sipush 190, 3) := by decide +kernel
theorem dX7_put_27 : decode cX7_put 27 = .ok (.iconst 4, 1) := by decide +kernel
theorem dX7_put_28 : decode cX7_put 28 = .ok (.aload_n 0, 1) := by decide +kernel
theorem dX7_put_29 : decode cX7_put 29 = .ok (.getfield 7, 3) := by decide +kernel
theorem dX7_put_32 : decode cX7_put 32 = .ok (.bipush 8, 2) := by decide +kernel
theorem dX7_put_34 : decode cX7_put 34 = .ok (.iload_n 3, 1) := by decide +kernel
theorem dX7_put_35 : decode cX7_put 35 = .ok (.iadd, 1) := by decide +kernel
theorem dX7_put_36 : decode cX7_put 36 = .ok (.iaload, 1) := by decide +kernel
theorem dX7_put_37 : decode cX7_put 37 = .ok (.sipush 256, 3) := by decide +kernel
theorem dX7_put_40 : decode cX7_put 40 = .ok (.idiv, 1) := by decide +kernel
theorem dX7_put_41 : decode cX7_put 41 = .ok (.imul, 1) := by decide +kernel
theorem dX7_put_42 : decode cX7_put 42 = .ok (.iadd, 1) := by decide +kernel
theorem dX7_put_43 : decode cX7_put 43 = .ok (.iconst 3, 1) := by decide +kernel
theorem dX7_put_44 : decode cX7_put 44 = .ok (.iadd, 1) := by decide +kernel
theorem dX7_put_45 : decode cX7_put 45 = .ok (.dup2, 1) := by decide +kernel
theorem dX7_put_46 : decode cX7_put 46 = .ok (.iaload, 1) := by decide +kernel
theorem dX7_put_47 : decode cX7_put 47 = .ok (.iconst 1, 1) := by decide +kernel
theorem dX7_put_48 : decode cX7_put 48 = .ok (.iadd, 1) := by decide +kernel
theorem dX7_put_49 : decode cX7_put 49 = .ok (.iastore, 1) := by decide +kernel
theorem dX7_put_50 : decode cX7_put 50 = .ok (.aload_n 0, 1) := by decide +kernel
theorem dX7_put_51 : decode cX7_put 51 = .ok (.getfield 7, 3) := by decide +kernel
theorem dX7_put_54 : decode cX7_put 54 = .ok (.bipush 8, 2) := by decide +kernel
theorem dX7_put_56 : decode cX7_put 56 = .ok (.iload_n 3, 1) := by decide +kernel
theorem dX7_put_57 : decode cX7_put 57 = .ok (.iadd, 1) := by decide +kernel
theorem dX7_put_58 : decode cX7_put 58 = .ok (.sipush 256, 3) := by decide +kernel
theorem dX7_put_61 : decode cX7_put 61 = .ok (.iload_n 1, 1) := by decide +kernel
theorem dX7_put_62 : decode cX7_put 62 = .ok (.imul, 1) := by decide +kernel
theorem dX7_put_63 : decode cX7_put 63 = .ok (.iload_n 2, 1) := by decide +kernel
theorem dX7_put_64 : decode cX7_put 64 = .ok (.iadd, 1) := by decide +kernel
theorem dX7_put_65 : decode cX7_put 65 = .ok (.iastore, 1) := by decide +kernel
theorem dX7_put_66 : decode cX7_put 66 = .ok (.aload_n 0, 1) := by decide +kernel
theorem dX7_put_67 : decode cX7_put 67 = .ok (.getfield 7, 3) := by decide +kernel
theorem dX7_put_70 : decode cX7_put 70 = .ok (.bipush 40, 2) := by decide +kernel
theorem dX7_put_72 : decode cX7_put 72 = .ok (.iload_n 3, 1) := by decide +kernel
theorem dX7_put_73 : decode cX7_put 73 = .ok (.iadd, 1) := by decide +kernel
theorem dX7_put_74 : decode cX7_put 74 = .ok (.aload_n 0, 1) := by decide +kernel
theorem dX7_put_75 : decode cX7_put 75 = .ok (.getfield 7, 3) := by decide +kernel
theorem dX7_put_78 : decode cX7_put 78 = .ok (.sipush 189, 3) := by decide +kernel
theorem dX7_put_81 : decode cX7_put 81 = .ok (.iaload, 1) := by decide +kernel
theorem dX7_put_82 : decode cX7_put 82 = .ok (.iastore, 1) := by decide +kernel
theorem dX7_put_83 : decode cX7_put 83 = .ok (.return_, 1) := by decide +kernel
theorem dX7_visits_0 : decode cX7_visits 0 = .ok (.aload_n 0, 1) := by decide +kernel
theorem dX7_visits_1 : decode cX7_visits 1 = .ok (.iload_n 1, 1) := by decide +kernel
theorem dX7_visits_2 : decode cX7_visits 2 = .ok (.iload_n 2, 1) := by decide +kernel
theorem dX7_visits_3 : decode cX7_visits 3 = .ok (.invokevirtual 70, 3) := by decide +kernel
theorem dX7_visits_6 : decode cX7_visits 6 = .ok (.aload_n 0, 1) := by decide +kernel
theorem dX7_visits_7 : decode cX7_visits 7 = .ok (.getfield 7, 3) := by decide +kernel
theorem dX7_visits_10 : decode cX7_visits 10 = .ok (.sipush 189, 3) := by decide +kernel
theorem dX7_visits_13 : decode cX7_visits 13 = .ok (.dup2, 1) := by decide +kernel
theorem dX7_visits_14 : decode cX7_visits 14 = .ok (.iaload, 1) := by decide +kernel
theorem dX7_visits_15 : decode cX7_visits 15 = .ok (.iconst 1, 1) := by decide +kernel
theorem dX7_visits_16 : decode cX7_visits 16 = .ok (.iadd, 1) := by decide +kernel
theorem dX7_visits_17 : decode cX7_visits 17 = .ok (.iastore, 1) := by decide +kernel
theorem dX7_visits_18 : decode cX7_visits 18 = .ok (.aload_n 0, 1) := by decide +kernel
theorem dX7_visits_19 : decode cX7_visits 19 = .ok (.iload_n 1, 1) := by decide +kernel
theorem dX7_visits_20 : decode cX7_visits 20 = .ok (.iload_n 2, 1) := by decide +kernel
theorem dX7_visits_21 : decode cX7_visits 21 = .ok (.invokevirtual 74, 3) := by decide +kernel
theorem dX7_visits_24 : decode cX7_visits 24 = .ok (.istore_n 3, 1) := by decide +kernel
theorem dX7_visits_25 : decode cX7_visits 25 = .ok (.iload_n 3, 1) := by decide +kernel
theorem dX7_visits_26 : decode cX7_visits 26 = .ok (.iconst 1, 1) := by decide +kernel
theorem dX7_visits_27 : decode cX7_visits 27 = .ok (.if_icmp .ne 28, 3) := by decide +kernel
theorem dX7_visits_30 : decode cX7_visits 30 = .ok (.aload_n 0, 1) := by decide +kernel
theorem dX7_visits_31 : decode cX7_visits 31 = .ok (.getfield 7, 3) := by decide +kernel
theorem dX7_visits_34 : decode cX7_visits 34 = .ok (.bipush 40, 2) := by decide +kernel
theorem dX7_visits_36 : decode cX7_visits 36 = .ok (.aload_n 0, 1) := by decide +kernel
theorem dX7_visits_37 : decode cX7_visits 37 = .ok (.iload_n 1, 1) := by decide +kernel
theorem dX7_visits_38 : decode cX7_visits 38 = .ok (.iload_n 2, 1) := by decide +kernel
theorem dX7_visits_39 : decode cX7_visits 39 = .ok (.invokevirtual 40, 3) := by decide +kernel
theorem dX7_visits_42 : decode cX7_visits 42 = .ok (.iadd, 1) := by decide +kernel
theorem dX7_visits_43 : decode cX7_visits 43 = .ok (.aload_n 0, 1) := by decide +kernel
theorem dX7_visits_44 : decode cX7_visits 44 = .ok (.getfield 7, 3) := by decide +kernel
theorem dX7_visits_47 : decode cX7_visits 47 = .ok (.sipush 189, 3) := by decide +kernel
theorem dX7_visits_50 : decode cX7_visits 50 = .ok (.iaload, 1) := by decide +kernel
theorem dX7_visits_51 : decode cX7_visits 51 = .ok (.iastore, 1) := by decide +kernel
theorem dX7_visits_52 : decode cX7_visits 52 = .ok (.goto 13, 3) := by decide +kernel
theorem dX7_visits_55 : decode cX7_visits 55 = .ok (.iload_n 3, 1) := by decide +kernel
theorem dX7_visits_56 : decode cX7_visits 56 = .ok (.ifCond .ne 9, 3) := by decide +kernel
theorem dX7_visits_59 : decode cX7_visits 59 = .ok (.aload_n 0, 1) := by decide +kernel
theorem dX7_visits_60 : decode cX7_visits 60 = .ok (.iload_n 1, 1) := by decide +kernel
theorem dX7_visits_61 : decode cX7_visits 61 = .ok (.iload_n 2, 1) := by decide +kernel
theorem dX7_visits_62 : decode cX7_visits 62 = .ok (.invokevirtual 77, 3) := by decide +kernel
theorem dX7_visits_65 : decode cX7_visits 65 = .ok (.aload_n 0, 1) := by decide +kernel
theorem dX7_visits_66 : decode cX7_visits 66 = .ok (.getfield 7, 3) := by decide +kernel
theorem dX7_visits_69 : decode cX7_visits 69 = .ok (.sipush 190, 3) := by decide +kernel
theorem dX7_visits_72 : decode cX7_visits 72 = .ok (.iconst 4, 1) := by decide +kernel
theorem dX7_visits_73 : decode cX7_visits 73 = .ok (.iload_n 1, 1) := by decide +kernel
theorem dX7_visits_74 : decode cX7_visits 74 = .ok (.imul, 1) := by decide +kernel
theorem dX7_visits_75 : decode cX7_visits 75 = .ok (.iadd, 1) := by decide +kernel
theorem dX7_visits_76 : decode cX7_visits 76 = .ok (.iload_n 3, 1) := by decide +kernel
theorem dX7_visits_77 : decode cX7_visits 77 = .ok (.iadd, 1) := by decide +kernel
theorem dX7_visits_78 : decode cX7_visits 78 = .ok (.dup2, 1) := by decide +kernel
theorem dX7_visits_79 : decode cX7_visits 79 = .ok (.iaload, 1) := by decide +kernel
theorem dX7_visits_80 : decode cX7_visits 80 = .ok (.iconst 1, 1) := by decide +kernel
theorem dX7_visits_81 : decode cX7_visits 81 = .ok (.iadd, 1) := by decide +kernel
theorem dX7_visits_82 : decode cX7_visits 82 = .ok (.iastore, 1) := by decide +kernel
theorem dX7_visits_83 : decode cX7_visits 83 = .ok (.aload_n 0, 1) := by decide +kernel
theorem dX7_visits_84 : decode cX7_visits 84 = .ok (.getfield 7, 3) := by decide +kernel
theorem dX7_visits_87 : decode cX7_visits 87 = .ok (.sipush 188, 3) := by decide +kernel
theorem dX7_visits_90 : decode cX7_visits 90 = .ok (.iaload, 1) := by decide +kernel
theorem dX7_visits_91 : decode cX7_visits 91 = .ok (.ifCond .le 34, 3) := by decide +kernel
theorem dX7_visits_94 : decode cX7_visits 94 = .ok (.aload_n 0, 1) := by decide +kernel
theorem dX7_visits_95 : decode cX7_visits 95 = .ok (.getfield 7, 3) := by decide +kernel
theorem dX7_visits_98 : decode cX7_visits 98 = .ok (.sipush 189, 3) := by decide +kernel
theorem dX7_visits_101 : decode cX7_visits 101 = .ok (.iaload, 1) := by decide +kernel
theorem dX7_visits_102 : decode cX7_visits 102 = .ok (.aload_n 0, 1) := by decide +kernel
theorem dX7_visits_103 : decode cX7_visits 103 = .ok (.getfield 7, 3) := by decide +kernel
theorem dX7_visits_106 : decode cX7_visits 106 = .ok (.sipush 188, 3) := by decide +kernel
theorem dX7_visits_109 : decode cX7_visits 109 = .ok (.iaload, 1) := by decide +kernel
theorem dX7_visits_110 : decode cX7_visits 110 = .ok (.irem, 1) := by decide +kernel
theorem dX7_visits_111 : decode cX7_visits 111 = .ok (.ifCond .ne 14, 3) := by decide +kernel
theorem dX7_visits_114 : decode cX7_visits 114 = .ok (.aload_n 0, 1) := by decide +kernel
theorem dX7_visits_115 : decode cX7_visits 115 = .ok (.invokevirtual 80, 3) := by decide +kernel
theorem dX7_visits_118 : decode cX7_visits 118 = .ok (.aload_n 0, 1) := by decide +kernel
theorem dX7_visits_119 : decode cX7_visits 119 = .ok (.invokevirtual 83, 3) := by decide +kernel
theorem dX7_visits_122 : decode cX7_visits 122 = .ok (.iadd, 1) := by decide +kernel
theorem dX7_visits_123 : decode cX7_visits 123 = .ok (.istore 4, 2) := by decide +kernel
theorem dX7_visits_125 : decode cX7_visits 125 = .ok (.iload_n 3, 1) := by decide +kernel
theorem dX7_visits_126 : decode cX7_visits 126 = .ok (.ireturn, 1) := by decide +kernel
theorem dX7_flushes_0 : decode cX7_flushes 0 = .ok (.iconst 0, 1) := by decide +kernel
theorem dX7_flushes_1 : decode cX7_flushes 1 = .ok (.istore_n 2, 1) := by decide +kernel
theorem dX7_flushes_2 : decode cX7_flushes 2 = .ok (.iconst 0, 1) := by decide +kernel
theorem dX7_flushes_3 : decode cX7_flushes 3 = .ok (.istore_n 3, 1) := by decide +kernel
theorem dX7_flushes_4 : decode cX7_flushes 4 = .ok (.iload_n 3, 1) := by decide +kernel
theorem dX7_flushes_5 : decode cX7_flushes 5 = .ok (.bipush 32, 2) := by decide +kernel
theorem dX7_flushes_7 : decode cX7_flushes 7 = .ok (.if_icmp .ge 61, 3) := by decide +kernel
theorem dX7_flushes_10 : decode cX7_flushes 10 = .ok (.aload_n 0, 1) := by decide +kernel
theorem dX7_flushes_11 : decode cX7_flushes 11 = .ok (.getfield 7, 3) := by decide +kernel
theorem dX7_flushes_14 : decode cX7_flushes 14 = .ok (.bipush 8, 2) := by decide +kernel
theorem dX7_flushes_16 : decode cX7_flushes 16 = .ok (.iload_n 3, 1) := by decide +kernel
theorem dX7_flushes_17 : decode cX7_flushes 17 = .ok (.iadd, 1) := by decide +kernel
theorem dX7_flushes_18 : decode cX7_flushes 18 = .ok (.iaload, 1) := by decide +kernel
theorem dX7_flushes_19 : decode cX7_flushes 19 = .ok (.ifCond .lt 43, 3) := by decide +kernel
theorem dX7_flushes_22 : decode cX7_flushes 22 = .ok (.aload_n 0, 1) := by decide +kernel
theorem dX7_flushes_23 : decode cX7_flushes 23 = .ok (.getfield 7, 3) := by decide +kernel
theorem dX7_flushes_26 : decode cX7_flushes 26 = .ok (.bipush 8, 2) := by decide +kernel
theorem dX7_flushes_28 : decode cX7_flushes 28 = .ok (.iload_n 3, 1) := by decide +kernel
theorem dX7_flushes_29 : decode cX7_flushes 29 = .ok (.iadd, 1) := by decide +kernel
theorem dX7_flushes_30 : decode cX7_flushes 30 = .ok (.iaload, 1) := by decide +kernel
theorem dX7_flushes_31 : decode cX7_flushes 31 = .ok (.sipush 256, 3) := by decide +kernel
theorem dX7_flushes_34 : decode cX7_flushes 34 = .ok (.idiv, 1) := by decide +kernel
theorem dX7_flushes_35 : decode cX7_flushes 35 = .ok (.iload_n 1, 1) := by decide +kernel
theorem dX7_flushes_36 : decode cX7_flushes 36 = .ok (.if_icmp .ne 26, 3) := by decide +kernel
theorem dX7_flushes_39 : decode cX7_flushes 39 = .ok (.aload_n 0, 1) := by decide +kernel
theorem dX7_flushes_40 : decode cX7_flushes 40 = .ok (.getfield 7, 3) := by decide +kernel
theorem dX7_flushes_43 : decode cX7_flushes 43 = .ok (.bipush 8, 2) := by decide +kernel
theorem dX7_flushes_45 : decode cX7_flushes 45 = .ok (.iload_n 3, 1) := by decide +kernel
theorem dX7_flushes_46 : decode cX7_flushes 46 = .ok (.iadd, 1) := by decide +kernel
theorem dX7_flushes_47 : decode cX7_flushes 47 = .ok (.iconst (-1), 1) := by decide +kernel
theorem dX7_flushes_48 : decode cX7_flushes 48 = .ok (.iastore, 1) := by decide +kernel
theorem dX7_flushes_49 : decode cX7_flushes 49 = .ok (.aload_n 0, 1) := by decide +kernel
theorem dX7_flushes_50 : decode cX7_flushes 50 = .ok (.getfield 7, 3) := by decide +kernel
theorem dX7_flushes_53 : decode cX7_flushes 53 = .ok (.bipush 40, 2) := by decide +kernel
theorem dX7_flushes_55 : decode cX7_flushes 55 = .ok (.iload_n 3, 1) := by decide +kernel
theorem dX7_flushes_56 : decode cX7_flushes 56 = .ok (.iadd, 1) := by decide +kernel
theorem dX7_flushes_57 : decode cX7_flushes 57 = .ok (.iconst 0, 1) := by decide +kernel
theorem dX7_flushes_58 : decode cX7_flushes 58 = .ok (.iastore, 1) := by decide +kernel
theorem dX7_flushes_59 : decode cX7_flushes 59 = .ok (.iinc 2 1, 3) := by decide +kernel
theorem dX7_flushes_62 : decode cX7_flushes 62 = .ok (.iinc 3 1, 3) := by decide +kernel
theorem dX7_flushes_65 : decode cX7_flushes 65 = .ok (.goto (-61), 3) := by decide +kernel
theorem dX7_flushes_68 : decode cX7_flushes 68 = .ok (.iload_n 2, 1) := by decide +kernel
theorem dX7_flushes_69 : decode cX7_flushes 69 = .ok (.ireturn, 1) := by decide +kernel
theorem dX7_access_0 : decode cX7_access 0 = .ok (.aload_n 0, 1) := by decide +kernel
theorem dX7_access_1 : decode cX7_access 1 = .ok (.iconst 0, 1) := by decide +kernel
theorem dX7_access_2 : decode cX7_access 2 = .ok (.putfield 29, 3) := by decide +kernel
theorem dX7_access_5 : decode cX7_access 5 = .ok (.iload_n 1, 1) := by decide +kernel
theorem dX7_access_6 : decode cX7_access 6 = .ok (.iconst 0, 1) := by decide +kernel
theorem dX7_access_7 : decode cX7_access 7 = .ok (.iconst 3, 1) := by decide +kernel
theorem dX7_access_8 : decode cX7_access 8 = .ok (.invokestatic 86, 3) := by decide +kernel
theorem dX7_access_11 : decode cX7_access 11 = .ok (.ifCond .ne 9, 3) := by decide +kernel
theorem dX7_access_14 : decode cX7_access 14 = .ok (.aload_n 0, 1) := by decide +kernel
theorem dX7_access_15 : decode cX7_access 15 = .ok (.iconst 1, 1) := by decide +kernel
theorem dX7_access_16 : decode cX7_access 16 = .ok (.invokevirtual 90, 3) := by decide +kernel
theorem dX7_access_19 : decode cX7_access 19 = .ok (.ireturn, 1) := by decide +kernel
theorem dX7_access_20 : decode cX7_access 20 = .ok (.iload_n 2, 1) := by decide +kernel
theorem dX7_access_21 : decode cX7_access 21 = .ok (.iconst 0, 1) := by decide +kernel
theorem dX7_access_22 : decode cX7_access 22 = .ok (.sipush 255, 3) := by decide +kernel
theorem dX7_access_25 : decode cX7_access 25 = .ok (.invokestatic 86, 3) := by decide +kernel
theorem dX7_access_28 : decode cX7_access 28 = .ok (.ifCond .ne 9, 3) := by decide +kernel
theorem dX7_access_31 : decode cX7_access 31 = .ok (.aload_n 0, 1) := by decide +kernel
theorem dX7_access_32 : decode cX7_access 32 = .ok (.iconst 2, 1) := by decide +kernel
theorem dX7_access_33 : decode cX7_access 33 = .ok (.invokevirtual 90, 3) := by decide +kernel
theorem dX7_access_36 : decode cX7_access 36 = .ok (.ireturn, 1) := by decide +kernel
theorem dX7_access_37 : decode cX7_access 37 = .ok (.aload_n 0, 1) := by decide +kernel
theorem dX7_access_38 : decode cX7_access 38 = .ok (.invokevirtual 93, 3) := by decide +kernel
theorem dX7_access_41 : decode cX7_access 41 = .ok (.aload_n 0, 1) := by decide +kernel
theorem dX7_access_42 : decode cX7_access 42 = .ok (.iload_n 1, 1) := by decide +kernel
theorem dX7_access_43 : decode cX7_access 43 = .ok (.iload_n 2, 1) := by decide +kernel
theorem dX7_access_44 : decode cX7_access 44 = .ok (.invokevirtual 96, 3) := by decide +kernel
theorem dX7_access_47 : decode cX7_access 47 = .ok (.ireturn, 1) := by decide +kernel
theorem dX7_stream_0 : decode cX7_stream 0 = .ok (.aload_n 0, 1) := by decide +kernel
theorem dX7_stream_1 : decode cX7_stream 1 = .ok (.iconst 0, 1) := by decide +kernel
theorem dX7_stream_2 : decode cX7_stream 2 = .ok (.putfield 29, 3) := by decide +kernel
theorem dX7_stream_5 : decode cX7_stream 5 = .ok (.iload_n 1, 1) := by decide +kernel
theorem dX7_stream_6 : decode cX7_stream 6 = .ok (.iconst 0, 1) := by decide +kernel
theorem dX7_stream_7 : decode cX7_stream 7 = .ok (.iconst 3, 1) := by decide +kernel
theorem dX7_stream_8 : decode cX7_stream 8 = .ok (.invokestatic 86, 3) := by decide +kernel
theorem dX7_stream_11 : decode cX7_stream 11 = .ok (.ifCond .ne 9, 3) := by decide +kernel
theorem dX7_stream_14 : decode cX7_stream 14 = .ok (.aload_n 0, 1) := by decide +kernel
theorem dX7_stream_15 : decode cX7_stream 15 = .ok (.iconst 1, 1) := by decide +kernel
theorem dX7_stream_16 : decode cX7_stream 16 = .ok (.invokevirtual 90, 3) := by decide +kernel
theorem dX7_stream_19 : decode cX7_stream 19 = .ok (.ireturn, 1) := by decide +kernel
theorem dX7_stream_20 : decode cX7_stream 20 = .ok (.iload_n 2, 1) := by decide +kernel
theorem dX7_stream_21 : decode cX7_stream 21 = .ok (.iconst 0, 1) := by decide +kernel
theorem dX7_stream_22 : decode cX7_stream 22 = .ok (.sipush 255, 3) := by decide +kernel
theorem dX7_stream_25 : decode cX7_stream 25 = .ok (.invokestatic 86, 3) := by decide +kernel
theorem dX7_stream_28 : decode cX7_stream 28 = .ok (.ifCond .eq 24, 3) := by decide +kernel
theorem dX7_stream_31 : decode cX7_stream 31 = .ok (.iload_n 3, 1) := by decide +kernel
theorem dX7_stream_32 : decode cX7_stream 32 = .ok (.iconst 1, 1) := by decide +kernel
theorem dX7_stream_33 : decode cX7_stream 33 = .ok (.bipush 64, 2) := by decide +kernel
theorem dX7_stream_35 : decode cX7_stream 35 = .ok (.invokestatic 86, 3) := by decide +kernel
theorem dX7_stream_38 : decode cX7_stream 38 = .ok (.ifCond .eq 14, 3) := by decide +kernel
theorem dX7_stream_41 : decode cX7_stream 41 = .ok (.iload 4, 2) := by decide +kernel
theorem dX7_stream_43 : decode cX7_stream 43 = .ok (.iconst 1, 1) := by decide +kernel
theorem dX7_stream_44 : decode cX7_stream 44 = .ok (.bipush 40, 2) := by decide +kernel
theorem dX7_stream_46 : decode cX7_stream 46 = .ok (.invokestatic 86, 3) := by decide +kernel
theorem dX7_stream_49 : decode cX7_stream 49 = .ok (.ifCond .ne 9, 3) := by decide +kernel
theorem dX7_stream_52 : decode cX7_stream 52 = .ok (.aload_n 0, 1) := by decide +kernel
theorem dX7_stream_53 : decode cX7_stream 53 = .ok (.iconst 2, 1) := by decide +kernel
theorem dX7_stream_54 : decode cX7_stream 54 = .ok (.invokevirtual 90, 3) := by decide +kernel
theorem dX7_stream_57 : decode cX7_stream 57 = .ok (.ireturn, 1) := by decide +kernel
theorem dX7_stream_58 : decode cX7_stream 58 = .ok (.aload_n 0, 1) := by decide +kernel
theorem dX7_stream_59 : decode cX7_stream 59 = .ok (.invokevirtual 93, 3) := by decide +kernel
theorem dX7_stream_62 : decode cX7_stream 62 = .ok (.iconst 0, 1) := by decide +kernel
theorem dX7_stream_63 : decode cX7_stream 63 = .ok (.istore 5, 2) := by decide +kernel
theorem dX7_stream_65 : decode cX7_stream 65 = .ok (.iconst 0, 1) := by decide +kernel
theorem dX7_stream_66 : decode cX7_stream 66 = .ok (.istore 6, 2) := by decide +kernel
theorem dX7_stream_68 : decode cX7_stream 68 = .ok (.iload 6, 2) := by decide +kernel
theorem dX7_stream_70 : decode cX7_stream 70 = .ok (.iload 4, 2) := by decide +kernel
theorem dX7_stream_72 : decode cX7_stream 72 = .ok (.if_icmp .ge 38, 3) := by decide +kernel
theorem dX7_stream_75 : decode cX7_stream 75 = .ok (.iload 5, 2) := by decide +kernel
theorem dX7_stream_77 : decode cX7_stream 77 = .ok (.aload_n 0, 1) := by decide +kernel
theorem dX7_stream_78 : decode cX7_stream 78 = .ok (.iload_n 1, 1) := by decide +kernel
theorem dX7_stream_79 : decode cX7_stream 79 = .ok (.iload_n 2, 1) := by decide +kernel
theorem dX7_stream_80 : decode cX7_stream 80 = .ok (.iload 6, 2) := by decide +kernel
theorem dX7_stream_82 : decode cX7_stream 82 = .ok (.iload_n 3, 1) := by decide +kernel
theorem dX7_stream_83 : decode cX7_stream 83 = .ok (.imul, 1) := by decide +kernel
theorem dX7_stream_84 : decode cX7_stream 84 = .ok (.iadd, 1) := by decide +kernel
theorem dX7_stream_85 : decode cX7_stream 85 = .ok (.sipush 256, 3) := by decide +kernel
theorem dX7_stream_88 : decode cX7_stream 88 = .ok (.irem, 1) := by decide +kernel
theorem dX7_stream_89 : decode cX7_stream 89 = .ok (.invokevirtual 96, 3) := by decide +kernel
theorem dX7_stream_92 : decode cX7_stream 92 = .ok (.iconst 1, 1) := by decide +kernel
theorem dX7_stream_93 : decode cX7_stream 93 = .ok (.if_icmp .ne 7, 3) := by decide +kernel
theorem dX7_stream_96 : decode cX7_stream 96 = .ok (.iconst 1, 1) := by decide +kernel
theorem dX7_stream_97 : decode cX7_stream 97 = .ok (.goto 4, 3) := by decide +kernel
theorem dX7_stream_100 : decode cX7_stream 100 = .ok (.iconst 0, 1) := by decide +kernel
theorem dX7_stream_101 : decode cX7_stream 101 = .ok (.iadd, 1) := by decide +kernel
theorem dX7_stream_102 : decode cX7_stream 102 = .ok (.istore 5, 2) := by decide +kernel
theorem dX7_stream_104 : decode cX7_stream 104 = .ok (.iinc 6 1, 3) := by decide +kernel
theorem dX7_stream_107 : decode cX7_stream 107 = .ok (.goto (-39), 3) := by decide +kernel
theorem dX7_stream_110 : decode cX7_stream 110 = .ok (.iload 5, 2) := by decide +kernel
theorem dX7_stream_112 : decode cX7_stream 112 = .ok (.ireturn, 1) := by decide +kernel
theorem dX7_flush_0 : decode cX7_flush 0 = .ok (.aload_n 0, 1) := by decide +kernel
theorem dX7_flush_1 : decode cX7_flush 1 = .ok (.iconst 0, 1) := by decide +kernel
theorem dX7_flush_2 : decode cX7_flush 2 = .ok (.putfield 29, 3) := by decide +kernel
theorem dX7_flush_5 : decode cX7_flush 5 = .ok (.iload_n 1, 1) := by decide +kernel
theorem dX7_flush_6 : decode cX7_flush 6 = .ok (.iconst 0, 1) := by decide +kernel
theorem dX7_flush_7 : decode cX7_flush 7 = .ok (.iconst 3, 1) := by decide +kernel
theorem dX7_flush_8 : decode cX7_flush 8 = .ok (.invokestatic 86, 3) := by decide +kernel
theorem dX7_flush_11 : decode cX7_flush 11 = .ok (.ifCond .ne 9, 3) := by decide +kernel
theorem dX7_flush_14 : decode cX7_flush 14 = .ok (.aload_n 0, 1) := by decide +kernel
theorem dX7_flush_15 : decode cX7_flush 15 = .ok (.iconst 1, 1) := by decide +kernel
theorem dX7_flush_16 : decode cX7_flush 16 = .ok (.invokevirtual 90, 3) := by decide +kernel
theorem dX7_flush_19 : decode cX7_flush 19 = .ok (.ireturn, 1) := by decide +kernel
theorem dX7_flush_20 : decode cX7_flush 20 = .ok (.aload_n 0, 1) := by decide +kernel
theorem dX7_flush_21 : decode cX7_flush 21 = .ok (.invokevirtual 93, 3) := by decide +kernel
theorem dX7_flush_24 : decode cX7_flush 24 = .ok (.aload_n 0, 1) := by decide +kernel
theorem dX7_flush_25 : decode cX7_flush 25 = .ok (.iload_n 1, 1) := by decide +kernel
theorem dX7_flush_26 : decode cX7_flush 26 = .ok (.invokevirtual 99, 3) := by decide +kernel
theorem dX7_flush_29 : decode cX7_flush 29 = .ok (.ireturn, 1) := by decide +kernel
theorem dX7_moveWay_0 : decode cX7_moveWay 0 = .ok (.aload_n 0, 1) := by decide +kernel
theorem dX7_moveWay_1 : decode cX7_moveWay 1 = .ok (.iconst 0, 1) := by decide +kernel
theorem dX7_moveWay_2 : decode cX7_moveWay 2 = .ok (.putfield 29, 3) := by decide +kernel
theorem dX7_moveWay_5 : decode cX7_moveWay 5 = .ok (.aload_n 0, 1) := by decide +kernel
theorem dX7_moveWay_6 : decode cX7_moveWay 6 = .ok (.invokevirtual 93, 3) := by decide +kernel
theorem dX7_moveWay_9 : decode cX7_moveWay 9 = .ok (.aload_n 0, 1) := by decide +kernel
theorem dX7_moveWay_10 : decode cX7_moveWay 10 = .ok (.invokevirtual 80, 3) := by decide +kernel
theorem dX7_moveWay_13 : decode cX7_moveWay 13 = .ok (.ireturn, 1) := by decide +kernel
theorem dX7_giveWay_0 : decode cX7_giveWay 0 = .ok (.aload_n 0, 1) := by decide +kernel
theorem dX7_giveWay_1 : decode cX7_giveWay 1 = .ok (.iconst 0, 1) := by decide +kernel
theorem dX7_giveWay_2 : decode cX7_giveWay 2 = .ok (.putfield 29, 3) := by decide +kernel
theorem dX7_giveWay_5 : decode cX7_giveWay 5 = .ok (.iload_n 1, 1) := by decide +kernel
theorem dX7_giveWay_6 : decode cX7_giveWay 6 = .ok (.iconst 0, 1) := by decide +kernel
theorem dX7_giveWay_7 : decode cX7_giveWay 7 = .ok (.bipush 7, 2) := by decide +kernel
theorem dX7_giveWay_9 : decode cX7_giveWay 9 = .ok (.invokestatic 86, 3) := by decide +kernel
