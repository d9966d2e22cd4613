theorem dX0_init_0 : decode cX0_init 0 = .ok (.aload_n 0, 1) := by decide +kernel
theorem dX0_init_1 : decode cX0_init 1 = .ok (.invokespecial 3, 3) := by decide +kernel
theorem dX0_init_4 : decode cX0_init 4 = .ok (.aload_n 0, 1) := by decide +kernel
theorem dX0_init_5 : decode cX0_init 5 = .ok (.bipush 80, 2) := by decide +kernel
theorem dX0_init_7 : decode cX0_init 7 = .ok (.newarray .char, 2) := by decide +kernel
theorem dX0_init_9 : decode cX0_init 9 = .ok (.putfield 9, 3) := by decide +kernel
theorem dX0_init_12 : decode cX0_init 12 = .ok (.aload_n 0, 1) := by decide +kernel
theorem dX0_init_13 : decode cX0_init 13 = .ok (.iconst 0, 1) := by decide +kernel
theorem dX0_init_14 : decode cX0_init 14 = .ok (.putfield 15, 3) := by decide +kernel
theorem dX0_init_17 : decode cX0_init 17 = .ok (.return_, 1) := by decide +kernel
theorem dX1_init_0 : decode cX1_init 0 = .ok (.aload_n 0, 1) := by decide +kernel
theorem dX1_init_1 : decode cX1_init 1 = .ok (.invokespecial 3, 3) := by decide +kernel
theorem dX1_init_4 : decode cX1_init 4 = .ok (.aload_n 0, 1) := by decide +kernel
theorem dX1_init_5 : decode cX1_init 5 = .ok (.bipush 6, 2) := by decide +kernel
theorem dX1_init_7 : decode cX1_init 7 = .ok (.anewarray 9, 3) := by decide +kernel
theorem dX1_init_10 : decode cX1_init 10 = .ok (.putfield 11, 3) := by decide +kernel
theorem dX1_init_13 : decode cX1_init 13 = .ok (.aload_n 0, 1) := by decide +kernel
theorem dX1_init_14 : decode cX1_init 14 = .ok (.iconst 0, 1) := by decide +kernel
theorem dX1_init_15 : decode cX1_init 15 = .ok (.putfield 17, 3) := by decide +kernel
theorem dX1_init_18 : decode cX1_init 18 = .ok (.aload_n 0, 1) := by decide +kernel
theorem dX1_init_19 : decode cX1_init 19 = .ok (.iconst 0, 1) := by decide +kernel
theorem dX1_init_20 : decode cX1_init 20 = .ok (.putfield 21, 3) := by decide +kernel
theorem dX1_init_23 : decode cX1_init 23 = .ok (.iconst 0, 1) := by decide +kernel
theorem dX1_init_24 : decode cX1_init 24 = .ok (.istore_n 1, 1) := by decide +kernel
theorem dX1_init_25 : decode cX1_init 25 = .ok (.iload_n 1, 1) := by decide +kernel
theorem dX1_init_26 : decode cX1_init 26 = .ok (.bipush 6, 2) := by decide +kernel
theorem dX1_init_28 : decode cX1_init 28 = .ok (.if_icmp .ge 22, 3) := by decide +kernel
theorem dX1_init_31 : decode cX1_init 31 = .ok (.aload_n 0, 1) := by decide +kernel
theorem dX1_init_32 : decode cX1_init 32 = .ok (.getfield 11, 3) := by decide +kernel
theorem dX1_init_35 : decode cX1_init 35 = .ok (.iload_n 1, 1) := by decide +kernel
theorem dX1_init_36 : decode cX1_init 36 = .ok (.new 9, 3) := by decide +kernel
theorem dX1_init_39 : decode cX1_init 39 = .ok (.dup, 1) := by decide +kernel
theorem dX1_init_40 : decode cX1_init 40 = .ok (.invokespecial 24, 3) := by decide +kernel
theorem dX1_init_43 : decode cX1_init 43 = .ok (.aastore, 1) := by decide +kernel
theorem dX1_init_44 : decode cX1_init 44 = .ok (.iinc 1 1, 3) := by decide +kernel
theorem dX1_init_47 : decode cX1_init 47 = .ok (.goto (-22), 3) := by decide +kernel
theorem dX1_init_50 : decode cX1_init 50 = .ok (.return_, 1) := by decide +kernel
theorem dX1_push_0 : decode cX1_push 0 = .ok (.aload_n 0, 1) := by decide +kernel
theorem dX1_push_1 : decode cX1_push 1 = .ok (.getfield 11, 3) := by decide +kernel
theorem dX1_push_4 : decode cX1_push 4 = .ok (.aload_n 0, 1) := by decide +kernel
theorem dX1_push_5 : decode cX1_push 5 = .ok (.getfield 17, 3) := by decide +kernel
theorem dX1_push_8 : decode cX1_push 8 = .ok (.aload_n 0, 1) := by decide +kernel
theorem dX1_push_9 : decode cX1_push 9 = .ok (.getfield 21, 3) := by decide +kernel
theorem dX1_push_12 : decode cX1_push 12 = .ok (.iadd, 1) := by decide +kernel
theorem dX1_push_13 : decode cX1_push 13 = .ok (.bipush 6, 2) := by decide +kernel
theorem dX1_push_15 : decode cX1_push 15 = .ok (.irem, 1) := by decide +kernel
theorem dX1_push_16 : decode cX1_push 16 = .ok (.aaload, 1) := by decide +kernel
theorem dX1_push_17 : decode cX1_push 17 = .ok (.aload_n 1, 1) := by decide +kernel
theorem dX1_push_18 : decode cX1_push 18 = .ok (.invokevirtual 25, 3) := by decide +kernel
theorem dX1_push_21 : decode cX1_push 21 = .ok (.aload_n 0, 1) := by decide +kernel
theorem dX1_push_22 : decode cX1_push 22 = .ok (.getfield 21, 3) := by decide +kernel
theorem dX1_push_25 : decode cX1_push 25 = .ok (.bipush 6, 2) := by decide +kernel
theorem dX1_push_27 : decode cX1_push 27 = .ok (.if_icmp .ge 16, 3) := by decide +kernel
theorem dX1_push_30 : decode cX1_push 30 = .ok (.aload_n 0, 1) := by decide +kernel
theorem dX1_push_31 : decode cX1_push 31 = .ok (.dup, 1) := by decide +kernel
theorem dX1_push_32 : decode cX1_push 32 = .ok (.getfield 21, 3) := by decide +kernel
theorem dX1_push_35 : decode cX1_push 35 = .ok (.iconst 1, 1) := by decide +kernel
theorem dX1_push_36 : decode cX1_push 36 = .ok (.iadd, 1) := by decide +kernel
theorem dX1_push_37 : decode cX1_push 37 = .ok (.putfield 21, 3) := by decide +kernel
theorem dX1_push_40 : decode cX1_push 40 = .ok (.goto 16, 3) := by decide +kernel
theorem dX1_push_43 : decode cX1_push 43 = .ok (.aload_n 0, 1) := by decide +kernel
theorem dX1_push_44 : decode cX1_push 44 = .ok (.aload_n 0, 1) := by decide +kernel
theorem dX1_push_45 : decode cX1_push 45 = .ok (.getfield 17, 3) := by decide +kernel
theorem dX1_push_48 : decode cX1_push 48 = .ok (.iconst 1, 1) := by decide +kernel
theorem dX1_push_49 : decode cX1_push 49 = .ok (.iadd, 1) := by decide +kernel
theorem dX1_push_50 : decode cX1_push 50 = .ok (.bipush 6, 2) := by decide +kernel
theorem dX1_push_52 : decode cX1_push 52 = .ok (.irem, 1) := by decide +kernel
theorem dX1_push_53 : decode cX1_push 53 = .ok (.putfield 17, 3) := by decide +kernel
theorem dX1_push_56 : decode cX1_push 56 = .ok (.return_, 1) := by decide +kernel
theorem dX2_init_0 : decode cX2_init 0 = .ok (.aload_n 0, 1) := by decide +kernel
theorem dX2_init_1 : decode cX2_init 1 = .ok (.invokespecial 3, 3) := by decide +kernel
theorem dX2_init_4 : decode cX2_init 4 = .ok (.aload_n 0, 1) := by decide +kernel
theorem dX2_init_5 : decode cX2_init 5 = .ok (.bipush 64, 2) := by decide +kernel
theorem dX2_init_7 : decode cX2_init 7 = .ok (.newarray .int, 2) := by decide +kernel
theorem dX2_init_9 : decode cX2_init 9 = .ok (.putfield 9, 3) := by decide +kernel
theorem dX2_init_12 : decode cX2_init 12 = .ok (.aload_n 0, 1) := by decide +kernel
theorem dX2_init_13 : decode cX2_init 13 = .ok (.bipush 32, 2) := by decide +kernel
theorem dX2_init_15 : decode cX2_init 15 = .ok (.newarray .int, 2) := by decide +kernel
theorem dX2_init_17 : decode cX2_init 17 = .ok (.putfield 15, 3) := by decide +kernel
theorem dX2_init_20 : decode cX2_init 20 = .ok (.iconst 0, 1) := by decide +kernel
theorem dX2_init_21 : decode cX2_init 21 = .ok (.istore_n 1, 1) := by decide +kernel
theorem dX2_init_22 : decode cX2_init 22 = .ok (.iload_n 1, 1) := by decide +kernel
theorem dX2_init_23 : decode cX2_init 23 = .ok (.aload_n 0, 1) := by decide +kernel
theorem dX2_init_24 : decode cX2_init 24 = .ok (.getfield 9, 3) := by decide +kernel
theorem dX2_init_27 : decode cX2_init 27 = .ok (.arraylength, 1) := by decide +kernel
theorem dX2_init_28 : decode cX2_init 28 = .ok (.if_icmp .ge 16, 3) := by decide +kernel
theorem dX2_init_31 : decode cX2_init 31 = .ok (.aload_n 0, 1) := by decide +kernel
theorem dX2_init_32 : decode cX2_init 32 = .ok (.getfield 9, 3) := by decide +kernel
theorem dX2_init_35 : decode cX2_init 35 = .ok (.iload_n 1, 1) := by decide +kernel
theorem dX2_init_36 : decode cX2_init 36 = .ok (.iconst (-1), 1) := by decide +kernel
theorem dX2_init_37 : decode cX2_init 37 = .ok (.iastore, 1) := by decide +kernel
theorem dX2_init_38 : decode cX2_init 38 = .ok (.iinc 1 1, 3) := by decide +kernel
theorem dX2_init_41 : decode cX2_init 41 = .ok (.goto (-19), 3) := by decide +kernel
theorem dX2_init_44 : decode cX2_init 44 = .ok (.return_, 1) := by decide +kernel
theorem dX2_copyFrom_0 : decode cX2_copyFrom 0 = .ok (.aload_n 1, 1) := by decide +kernel
theorem dX2_copyFrom_1 : decode cX2_copyFrom 1 = .ok (.getfield 9, 3) := by decide +kernel
theorem dX2_copyFrom_4 : decode cX2_copyFrom 4 = .ok (.iconst 0, 1) := by decide +kernel
theorem dX2_copyFrom_5 : decode cX2_copyFrom 5 = .ok (.aload_n 0, 1) := by decide +kernel
theorem dX2_copyFrom_6 : decode cX2_copyFrom 6 = .ok (.getfield 9, 3) := by decide +kernel
theorem dX2_copyFrom_9 : decode cX2_copyFrom 9 = .ok (.iconst 0, 1) := by decide +kernel
theorem dX2_copyFrom_10 : decode cX2_copyFrom 10 = .ok (.aload_n 0, 1) := by decide +kernel
theorem dX2_copyFrom_11 : decode cX2_copyFrom 11 = .ok (.getfield 9, 3) := by decide +kernel
theorem dX2_copyFrom_14 : decode cX2_copyFrom 14 = .ok (.arraylength, 1) := by decide +kernel
theorem dX2_copyFrom_15 : decode cX2_copyFrom 15 = .ok (.invokestatic 18, 3) := by decide +kernel
theorem dX2_copyFrom_18 : decode cX2_copyFrom 18 = .ok (.aload_n 1, 1) := by decide +kernel
theorem dX2_copyFrom_19 : decode cX2_copyFrom 19 = .ok (.getfield 15, 3) := by decide +kernel
theorem dX2_copyFrom_22 : decode cX2_copyFrom 22 = .ok (.iconst 0, 1) := by decide +kernel
theorem dX2_copyFrom_23 : decode cX2_copyFrom 23 = .ok (.aload_n 0, 1) := by decide +kernel
theorem dX2_copyFrom_24 : decode cX2_copyFrom 24 = .ok (.getfield 15, 3) := by decide +kernel
theorem dX2_copyFrom_27 : decode cX2_copyFrom 27 = .ok (.iconst 0, 1) := by decide +kernel
theorem dX2_copyFrom_28 : decode cX2_copyFrom 28 = .ok (.aload_n 0, 1) := by decide +kernel
theorem dX2_copyFrom_29 : decode cX2_copyFrom 29 = .ok (.getfield 15, 3) := by decide +kernel
theorem dX2_copyFrom_32 : decode cX2_copyFrom 32 = .ok (.arraylength, 1) := by decide +kernel
theorem dX2_copyFrom_33 : decode cX2_copyFrom 33 = .ok (.invokestatic 18, 3) := by decide +kernel
theorem dX2_copyFrom_36 : decode cX2_copyFrom 36 = .ok (.return_, 1) := by decide +kernel
theorem dX2_note_0 : decode cX2_note 0 = .ok (.iload_n 2, 1) := by decide +kernel
theorem dX2_note_1 : decode cX2_note 1 = .ok (.iconst 4, 1) := by decide +kernel
theorem dX2_note_2 : decode cX2_note 2 = .ok (.irem, 1) := by decide +kernel
theorem dX2_note_3 : decode cX2_note 3 = .ok (.istore_n 3, 1) := by decide +kernel
theorem dX2_note_4 : decode cX2_note 4 = .ok (.iload_n 3, 1) := by decide +kernel
theorem dX2_note_5 : decode cX2_note 5 = .ok (.invokestatic 24, 3) := by decide +kernel
theorem dX2_note_8 : decode cX2_note 8 = .ok (.ifCond .ne 4, 3) := by decide +kernel
theorem dX2_note_11 : decode cX2_note 11 = .ok (.return_, 1) := by decide +kernel
theorem dX2_note_12 : decode cX2_note 12 = .ok (.iload_n 1, 1) := by decide +kernel
theorem dX2_note_13 : decode cX2_note 13 = .ok (.iload_n 3, 1) := by decide +kernel
theorem dX2_note_14 : decode cX2_note 14 = .ok (.invokestatic 28, 3) := by decide +kernel
theorem dX2_note_17 : decode cX2_note 17 = .ok (.istore 4, 2) := by decide +kernel
theorem dX2_note_19 : decode cX2_note 19 = .ok (.bipush 7, 2) := by decide +kernel
theorem dX2_note_21 : decode cX2_note 21 = .ok (.istore 5, 2) := by decide +kernel
theorem dX2_note_23 : decode cX2_note 23 = .ok (.iconst 0, 1) := by decide +kernel
theorem dX2_note_24 : decode cX2_note 24 = .ok (.istore 6, 2) := by decide +kernel
theorem dX2_note_26 : decode cX2_note 26 = .ok (.iload 6, 2) := by decide +kernel
theorem dX2_note_28 : decode cX2_note 28 = .ok (.bipush 8, 2) := by decide +kernel
theorem dX2_note_30 : decode cX2_note 30 = .ok (.if_icmp .ge 43, 3) := by decide +kernel
theorem dX2_note_33 : decode cX2_note 33 = .ok (.aload_n 0, 1) := by decide +kernel
theorem dX2_note_34 : decode cX2_note 34 = .ok (.getfield 9, 3) := by decide +kernel
theorem dX2_note_37 : decode cX2_note 37 = .ok (.iload 4, 2) := by decide +kernel
theorem dX2_note_39 : decode cX2_note 39 = .ok (.iload 6, 2) := by decide +kernel
theorem dX2_note_41 : decode cX2_note 41 = .ok (.iadd, 1) := by decide +kernel
theorem dX2_note_42 : decode cX2_note 42 = .ok (.iaload, 1) := by decide +kernel
theorem dX2_note_43 : decode cX2_note 43 = .ok (.iload_n 2, 1) := by decide +kernel
theorem dX2_note_44 : decode cX2_note 44 = .ok (.if_icmp .ne 23, 3) := by decide +kernel
theorem dX2_note_47 : decode cX2_note 47 = .ok (.aload_n 0, 1) := by decide +kernel
theorem dX2_note_48 : decode cX2_note 48 = .ok (.getfield 15, 3) := by decide +kernel
theorem dX2_note_51 : decode cX2_note 51 = .ok (.iload_n 1, 1) := by decide +kernel
theorem dX2_note_52 : decode cX2_note 52 = .ok (.bipush 8, 2) := by decide +kernel
theorem dX2_note_54 : decode cX2_note 54 = .ok (.imul, 1) := by decide +kernel
theorem dX2_note_55 : decode cX2_note 55 = .ok (.iload 6, 2) := by decide +kernel
theorem dX2_note_57 : decode cX2_note 57 = .ok (.iadd, 1) := by decide +kernel
theorem dX2_note_58 : decode cX2_note 58 = .ok (.dup2, 1) := by decide +kernel
theorem dX2_note_59 : decode cX2_note 59 = .ok (.iaload, 1) := by decide +kernel
theorem dX2_note_60 : decode cX2_note 60 = .ok (.iconst 1, 1) := by decide +kernel
theorem dX2_note_61 : decode cX2_note 61 = .ok (.iadd, 1) := by decide +kernel
theorem dX2_note_62 : decode cX2_note 62 = .ok (.iastore, 1) := by decide +kernel
theorem dX2_note_63 : decode cX2_note 63 = .ok (.iload 6, 2) := by decide +kernel
theorem dX2_note_65 : decode cX2_note 65 = .ok (.istore 5, 2) := by decide +kernel
theorem dX2_note_67 : decode cX2_note 67 = .ok (.iinc 6 1, 3) := by decide +kernel
theorem dX2_note_70 : decode cX2_note 70 = .ok (.goto (-44), 3) := by decide +kernel
theorem dX2_note_73 : decode cX2_note 73 = .ok (.iload 5, 2) := by decide +kernel
theorem dX2_note_75 : decode cX2_note 75 = .ok (.istore 6, 2) := by decide +kernel
theorem dX2_note_77 : decode cX2_note 77 = .ok (.iload 6, 2) := by decide +kernel
theorem dX2_note_79 : decode cX2_note 79 = .ok (.ifCond .le 31, 3) := by decide +kernel
theorem dX2_note_82 : decode cX2_note 82 = .ok (.aload_n 0, 1) := by decide +kernel
theorem dX2_note_83 : decode cX2_note 83 = .ok (.getfield 9, 3) := by decide +kernel
theorem dX2_note_86 : decode cX2_note 86 = .ok (.iload 4, 2) := by decide +kernel
theorem dX2_note_88 : decode cX2_note 88 = .ok (.iload 6, 2) := by decide +kernel
theorem dX2_note_90 : decode cX2_note 90 = .ok (.iadd, 1) := by decide +kernel
theorem dX2_note_91 : decode cX2_note 91 = .ok (.aload_n 0, 1) := by decide +kernel
theorem dX2_note_92 : decode cX2_note 92 = .ok (.getfield 9, 3) := by decide +kernel
theorem dX2_note_95 : decode cX2_note 95 = .ok (.iload 4, 2) := by decide +kernel
theorem dX2_note_97 : decode cX2_note 97 = .ok (.iload 6, 2) := by decide +kernel
theorem dX2_note_99 : decode cX2_note 99 = .ok (.iadd, 1) := by decide +kernel
theorem dX2_note_100 : decode cX2_note 100 = .ok (.iconst 1, 1) := by decide +kernel
theorem dX2_note_101 : decode cX2_note 101 = .ok (.isub, 1) := by decide +kernel
theorem dX2_note_102 : decode cX2_note 102 = .ok (.iaload, 1) := by decide +kernel
theorem dX2_note_103 : decode cX2_note 103 = .ok (.iastore, 1) := by decide +kernel
theorem dX2_note_104 : decode cX2_note 104 = .ok (.iinc 6 (-1), 3) := by decide +kernel
theorem dX2_note_107 : decode cX2_note 107 = .ok (.goto (-30), 3) := by decide +kernel
theorem dX2_note_110 : decode cX2_note 110 = .ok (.aload_n 0, 1) := by decide +kernel
theorem dX2_note_111 : decode cX2_note 111 = .ok (.getfield 9, 3) := by decide +kernel
theorem dX2_note_114 : decode cX2_note 114 = .ok (.iload 4, 2) := by decide +kernel
theorem dX2_note_116 : decode cX2_note 116 = .ok (.iload_n 2, 1) := by decide +kernel
theorem dX2_note_117 : decode cX2_note 117 = .ok (.iastore, 1) := by decide +kernel
theorem dX2_note_118 : decode cX2_note 118 = .ok (.return_, 1) := by decide +kernel
theorem dX2_utilityOf_0 : decode cX2_utilityOf 0 = .ok (.iconst 0, 1) := by decide +kernel
theorem dX2_utilityOf_1 : decode cX2_utilityOf 1 = .ok (.istore_n 3, 1) := by decide +kernel
theorem dX2_utilityOf_2 : decode cX2_utilityOf 2 = .ok (.iconst 0, 1) := by decide +kernel
theorem dX2_utilityOf_3 : decode cX2_utilityOf 3 = .ok (.istore 4, 2) := by decide +kernel
theorem dX2_utilityOf_5 : decode cX2_utilityOf 5 = .ok (.iload 4, 2) := by decide +kernel
theorem dX2_utilityOf_7 : decode cX2_utilityOf 7 = .ok (.bipush 8, 2) := by decide +kernel
theorem dX2_utilityOf_9 : decode cX2_utilityOf 9 = .ok (.if_icmp .ge 30, 3) := by decide +kernel
theorem dX2_utilityOf_12 : decode cX2_utilityOf 12 = .ok (.iload 4, 2) := by decide +kernel
theorem dX2_utilityOf_14 : decode cX2_utilityOf 14 = .ok (.iload_n 2, 1) := by decide +kernel
theorem dX2_utilityOf_15 : decode cX2_utilityOf 15 = .ok (.if_icmp .ge 24, 3) := by decide +kernel
theorem dX2_utilityOf_18 : decode cX2_utilityOf 18 = .ok (.iload_n 3, 1) := by decide +kernel
theorem dX2_utilityOf_19 : decode cX2_utilityOf 19 = .ok (.aload_n 0, 1) := by decide +kernel
theorem dX2_utilityOf_20 : decode cX2_utilityOf 20 = .ok (.getfield 15, 3) := by decide +kernel
theorem dX2_utilityOf_23 : decode cX2_utilityOf 23 = .ok (.iload_n 1, 1) := by decide +kernel
theorem dX2_utilityOf_24 : decode cX2_utilityOf 24 = .ok (.bipush 8, 2) := by decide +kernel
theorem dX2_utilityOf_26 : decode cX2_utilityOf 26 = .ok (.imul, 1) := by decide +kernel
theorem dX2_utilityOf_27 : decode cX2_utilityOf 27 = .ok (.iload 4, 2) := by decide +kernel
theorem dX2_utilityOf_29 : decode cX2_utilityOf 29 = .ok (.iadd, 1) := by decide +kernel
theorem dX2_utilityOf_30 : decode cX2_utilityOf 30 = .ok (.iaload, 1) := by decide +kernel
theorem dX2_utilityOf_31 : decode cX2_utilityOf 31 = .ok (.iadd, 1) := by decide +kernel
theorem dX2_utilityOf_32 : decode cX2_utilityOf 32 = .ok (.istore_n 3, 1) := by decide +kernel
theorem dX2_utilityOf_33 : decode cX2_utilityOf 33 = .ok (.iinc 4 1, 3) := by decide +kernel
theorem dX2_utilityOf_36 : decode cX2_utilityOf 36 = .ok (.goto (-31), 3) := by decide +kernel
theorem dX2_utilityOf_39 : decode cX2_utilityOf 39 = .ok (.iload_n 3, 1) := by decide +kernel
theorem dX2_utilityOf_40 : decode cX2_utilityOf 40 = .ok (.ireturn, 1) := by decide +kernel
theorem dX2_sumOfGains_0 : decode cX2_sumOfGains 0 = .ok (.iconst 0, 1) := by decide +kernel
theorem dX2_sumOfGains_1 : decode cX2_sumOfGains 1 = .ok (.istore_n 1, 1) := by decide +kernel
theorem dX2_sumOfGains_2 : decode cX2_sumOfGains 2 = .ok (.iconst 0, 1) := by decide +kernel
theorem dX2_sumOfGains_3 : decode cX2_sumOfGains 3 = .ok (.istore_n 2, 1) := by decide +kernel
theorem dX2_sumOfGains_4 : decode cX2_sumOfGains 4 = .ok (.iload_n 2, 1) := by decide +kernel
theorem dX2_sumOfGains_5 : decode cX2_sumOfGains 5 = .ok (.aload_n 0, 1) := by decide +kernel
theorem dX2_sumOfGains_6 : decode cX2_sumOfGains 6 = .ok (.getfield 15, 3) := by decide +kernel
theorem dX2_sumOfGains_9 : decode cX2_sumOfGains 9 = .ok (.arraylength, 1) := by decide +kernel
theorem dX2_sumOfGains_10 : decode cX2_sumOfGains 10 = .ok (.if_icmp .ge 18, 3) := by decide +kernel
theorem dX2_sumOfGains_13 : decode cX2_sumOfGains 13 = .ok (.iload_n 1, 1) := by decide +kernel
theorem dX2_sumOfGains_14 : decode cX2_sumOfGains 14 = .ok (.aload_n 0, 1) := by decide +kernel
theorem dX2_sumOfGains_15 : decode cX2_sumOfGains 15 = .ok (.getfield 15, 3) := by decide +kernel
theorem dX2_sumOfGains_18 : decode cX2_sumOfGains 18 = .ok (.iload_n 2, 1) := by decide +kernel
theorem dX2_sumOfGains_19 : decode cX2_sumOfGains 19 = .ok (.iaload, 1) := by decide +kernel
theorem dX2_sumOfGains_20 : decode cX2_sumOfGains 20 = .ok (.iadd, 1) := by decide +kernel
theorem dX2_sumOfGains_21 : decode cX2_sumOfGains 21 = .ok (.istore_n 1, 1) := by decide +kernel
theorem dX2_sumOfGains_22 : decode cX2_sumOfGains 22 = .ok (.iinc 2 1, 3) := by decide +kernel
theorem dX2_sumOfGains_25 : decode cX2_sumOfGains 25 = .ok (.goto (-21), 3) := by decide +kernel
theorem dX2_sumOfGains_28 : decode cX2_sumOfGains 28 = .ok (.iload_n 1, 1) := by decide +kernel
theorem dX2_sumOfGains_29 : decode cX2_sumOfGains 29 = .ok (.ireturn, 1) := by decide +kernel
theorem dX2_halve_0 : decode cX2_halve 0 = .ok (.iconst 0, 1) := by decide +kernel
theorem dX2_halve_1 : decode cX2_halve 1 = .ok (.istore_n 1, 1) := by decide +kernel
theorem dX2_halve_2 : decode cX2_halve 2 = .ok (.iload_n 1, 1) := by decide +kernel
theorem dX2_halve_3 : decode cX2_halve 3 = .ok (.aload_n 0, 1) := by decide +kernel
theorem dX2_halve_4 : decode cX2_halve 4 = .ok (.getfield 15, 3) := by decide +kernel
theorem dX2_halve_7 : decode cX2_halve 7 = .ok (.arraylength, 1) := by decide +kernel
theorem dX2_halve_8 : decode cX2_halve 8 = .ok (.if_icmp .ge 19, 3) := by decide +kernel
theorem dX2_halve_11 : decode cX2_halve 11 = .ok (.aload_n 0, 1) := by decide +kernel
theorem dX2_halve_12 : decode cX2_halve 12 = .ok (.getfield 15, 3) := by decide +kernel
theorem dX2_halve_15 : decode cX2_halve 15 = .ok (.iload_n 1, 1) := by decide +kernel
theorem dX2_halve_16 : decode cX2_halve 16 = .ok (.dup2, 1) := by decide +kernel
theorem dX2_halve_17 : decode cX2_halve 17 = .ok (.iaload, 1) := by decide +kernel
theorem dX2_halve_18 : decode cX2_halve 18 = .ok (.iconst 2, 1) := by decide +kernel
theorem dX2_halve_19 : decode cX2_halve 19 = .ok (.idiv, 1) := by decide +kernel
theorem dX2_halve_20 : decode cX2_halve 20 = .ok (.iastore, 1) := by decide +kernel
theorem dX2_halve_21 : decode cX2_halve 21 = .ok (.iinc 1 1, 3) := by decide +kernel
theorem dX2_halve_24 : decode cX2_halve 24 = .ok (.goto (-22), 3) := by decide +kernel
theorem dX2_halve_27 : decode cX2_halve 27 = .ok (.return_, 1) := by decide +kernel
theorem dX3_init_0 : decode cX3_init 0 = .ok (.aload_n 0, 1) := by decide +kernel
theorem dX3_init_1 : decode cX3_init 1 = .ok (.invokespecial 3, 3) := by decide +kernel
theorem dX3_init_4 : decode cX3_init 4 = .ok (.aload_n 0, 1) := by decide +kernel
theorem dX3_init_5 : decode cX3_init 5 = .ok (.bipush 8, 2) := by decide +kernel
theorem dX3_init_7 : decode cX3_init 7 = .ok (.newarray .int, 2) := by decide +kernel
theorem dX3_init_9 : decode cX3_init 9 = .ok (.putfield 9, 3) := by decide +kernel
theorem dX3_init_12 : decode cX3_init 12 = .ok (.aload_n 0, 1) := by decide +kernel
theorem dX3_init_13 : decode cX3_init 13 = .ok (.bipush 32, 2) := by decide +kernel
theorem dX3_init_15 : decode cX3_init 15 = .ok (.newarray .int, 2) := by decide +kernel
theorem dX3_init_17 : decode cX3_init 17 = .ok (.putfield 15, 3) := by decide +kernel
theorem dX3_init_20 : decode cX3_init 20 = .ok (.aload_n 0, 1) := by decide +kernel
theorem dX3_init_21 : decode cX3_init 21 = .ok (.bipush 32, 2) := by decide +kernel
theorem dX3_init_23 : decode cX3_init 23 = .ok (.newarray .int, 2) := by decide +kernel
theorem dX3_init_25 : decode cX3_init 25 = .ok (.putfield 18, 3) := by decide +kernel
theorem dX3_init_28 : decode cX3_init 28 = .ok (.iconst 0, 1) := by decide +kernel
theorem dX3_init_29 : decode cX3_init 29 = .ok (.istore_n 1, 1) := by decide +kernel
theorem dX3_init_30 : decode cX3_init 30 = .ok (.iload_n 1, 1) := by decide +kernel
theorem dX3_init_31 : decode cX3_init 31 = .ok (.bipush 8, 2) := by decide +kernel
theorem dX3_init_33 : decode cX3_init 33 = .ok (.if_icmp .ge 18, 3) := by decide +kernel
theorem dX3_init_36 : decode cX3_init 36 = .ok (.aload_n 0, 1) := by decide +kernel
theorem dX3_init_37 : decode cX3_init 37 = .ok (.getfield 9, 3) := by decide +kernel
theorem dX3_init_40 : decode cX3_init 40 = .ok (.iload_n 1, 1) := by decide +kernel
theorem dX3_init_41 : decode cX3_init 41 = .ok (.iload_n 1, 1) := by decide +kernel
theorem dX3_init_42 : decode cX3_init 42 = .ok (.iconst 4, 1) := by decide +kernel
theorem dX3_init_43 : decode cX3_init 43 = .ok (.irem, 1) := by decide +kernel
theorem dX3_init_44 : decode cX3_init 44 = .ok (.iastore, 1) := by decide +kernel
theorem dX3_init_45 : decode cX3_init 45 = .ok (.iinc 1 1, 3) := by decide +kernel
theorem dX3_init_48 : decode cX3_init 48 = .ok (.goto (-18), 3) := by decide +kernel
theorem dX3_init_51 : decode cX3_init 51 = .ok (.iconst 0, 1) := by decide +kernel
theorem dX3_init_52 : decode cX3_init 52 = .ok (.istore_n 1, 1) := by decide +kernel
theorem dX3_init_53 : decode cX3_init 53 = .ok (.iload_n 1, 1) := by decide +kernel
theorem dX3_init_54 : decode cX3_init 54 = .ok (.bipush 32, 2) := by decide +kernel
theorem dX3_init_56 : decode cX3_init 56 = .ok (.if_icmp .ge 16, 3) := by decide +kernel
theorem dX3_init_59 : decode cX3_init 59 = .ok (.aload_n 0, 1) := by decide +kernel
theorem dX3_init_60 : decode cX3_init 60 = .ok (.getfield 15, 3) := by decide +kernel
theorem dX3_init_63 : decode cX3_init 63 = .ok (.iload_n 1, 1) := by decide +kernel
theorem dX3_init_64 : decode cX3_init 64 = .ok (.iconst (-1), 1) := by decide +kernel
theorem dX3_init_65 : decode cX3_init 65 = .ok (.iastore, 1) := by decide +kernel
theorem dX3_init_66 : decode cX3_init 66 = .ok (.iinc 1 1, 3) := by decide +kernel
theorem dX3_init_69 : decode cX3_init 69 = .ok (.goto (-16), 3) := by decide +kernel
theorem dX3_init_72 : decode cX3_init 72 = .ok (.return_, 1) := by decide +kernel
theorem dX3_copyFrom_0 : decode cX3_copyFrom 0 = .ok (.aload_n 1, 1) := by decide +kernel
theorem dX3_copyFrom_1 : decode cX3_copyFrom 1 = .ok (.getfield 9, 3) := by decide +kernel
theorem dX3_copyFrom_4 : decode cX3_copyFrom 4 = .ok (.iconst 0, 1) := by decide +kernel
theorem dX3_copyFrom_5 : decode cX3_copyFrom 5 = .ok (.aload_n 0, 1) := by decide +kernel
theorem dX3_copyFrom_6 : decode cX3_copyFrom 6 = .ok (.getfield 9, 3) := by decide +kernel
theorem dX3_copyFrom_9 : decode cX3_copyFrom 9 = .ok (.iconst 0, 1) := by decide +kernel
theorem dX3_copyFrom_10 : decode cX3_copyFrom 10 = .ok (.bipush 8, 2) := by decide +kernel
theorem dX3_copyFrom_12 : decode cX3_copyFrom 12 = .ok (.invokestatic 21, 3) := by decide +kernel
theorem dX3_copyFrom_15 : decode cX3_copyFrom 15 = .ok (.aload_n 1, 1) := by decide +kernel
theorem dX3_copyFrom_16 : decode cX3_copyFrom 16 = .ok (.getfield 15, 3) := by decide +kernel
theorem dX3_copyFrom_19 : decode cX3_copyFrom 19 = .ok (.iconst 0, 1) := by decide +kernel
theorem dX3_copyFrom_20 : decode cX3_copyFrom 20 = .ok (.aload_n 0, 1) := by decide +kernel
theorem dX3_copyFrom_21 : decode cX3_copyFrom 21 = .ok (.getfield 15, 3) := by decide +kernel
theorem dX3_copyFrom_24 : decode cX3_copyFrom 24 = .ok (.iconst 0, 1) := by decide +kernel
theorem dX3_copyFrom_25 : decode cX3_copyFrom 25 = .ok (.bipush 32, 2) := by decide +kernel
theorem dX3_copyFrom_27 : decode cX3_copyFrom 27 = .ok (.invokestatic 21, 3) := by decide +kernel
theorem dX3_copyFrom_30 : decode cX3_copyFrom 30 = .ok (.aload_n 1, 1) := by decide +kernel
theorem dX3_copyFrom_31 : decode cX3_copyFrom 31 = .ok (.getfield 18, 3) := by decide +kernel
theorem dX3_copyFrom_34 : decode cX3_copyFrom 34 = .ok (.iconst 0, 1) := by decide +kernel
theorem dX3_copyFrom_35 : decode cX3_copyFrom 35 = .ok (.aload_n 0, 1) := by decide +kernel
theorem dX3_copyFrom_36 : decode cX3_copyFrom 36 = .ok (.getfield 18, 3) := by decide +kernel
theorem dX3_copyFrom_39 : decode cX3_copyFrom 39 = .ok (.iconst 0, 1) := by decide +kernel
theorem dX3_copyFrom_40 : decode cX3_copyFrom 40 = .ok (.bipush 32, 2) := by decide +kernel
theorem dX3_copyFrom_42 : decode cX3_copyFrom 42 = .ok (.invokestatic 21, 3) := by decide +kernel
theorem dX3_copyFrom_45 : decode cX3_copyFrom 45 = .ok (.return_, 1) := by decide +kernel
theorem dX3_ownedWays_0 : decode cX3_ownedWays 0 = .ok (.iconst 0, 1) := by decide +kernel
theorem dX3_ownedWays_1 : decode cX3_ownedWays 1 = .ok (.istore_n 2, 1) := by decide +kernel
theorem dX3_ownedWays_2 : decode cX3_ownedWays 2 = .ok (.iconst 0, 1) := by decide +kernel
theorem dX3_ownedWays_3 : decode cX3_ownedWays 3 = .ok (.istore_n 3, 1) := by decide +kernel
theorem dX3_ownedWays_4 : decode cX3_ownedWays 4 = .ok (.iload_n 3, 1) := by decide +kernel
theorem dX3_ownedWays_5 : decode cX3_ownedWays 5 = .ok (.bipush 8, 2) := by decide +kernel
theorem dX3_ownedWays_7 : decode cX3_ownedWays 7 = .ok (.if_icmp .ge 22, 3) := by decide +kernel
theorem dX3_ownedWays_10 : decode cX3_ownedWays 10 = .ok (.aload_n 0, 1) := by decide +kernel
theorem dX3_ownedWays_11 : decode cX3_ownedWays 11 = .ok (.getfield 9, 3) := by decide +kernel
theorem dX3_ownedWays_14 : decode cX3_ownedWays 14 = .ok (.iload_n 3, 1) := by decide +kernel
theorem dX3_ownedWays_15 : decode cX3_ownedWays 15 = .ok (.iaload, 1) := by decide +kernel
theorem dX3_ownedWays_16 : decode cX3_ownedWays 16 = .ok (.iload_n 1, 1) := by decide +kernel
theorem dX3_ownedWays_17 : decode cX3_ownedWays 17 = .ok (.if_icmp .ne 6, 3) := by decide +kernel
theorem dX3_ownedWays_20 : decode cX3_ownedWays 20 = .ok (.iinc 2 1, 3) := by decide +kernel
theorem dX3_ownedWays_23 : decode cX3_ownedWays 23 = .ok (.iinc 3 1, 3) := by decide +kernel
theorem dX3_ownedWays_26 : decode cX3_ownedWays 26 = .ok (.goto (-22), 3) := by decide +kernel
theorem dX3_ownedWays_29 : decode cX3_ownedWays 29 = .ok (.iload_n 2, 1) := by decide +kernel
theorem dX3_ownedWays_30 : decode cX3_ownedWays 30 = .ok (.ireturn, 1) := by decide +kernel
theorem dX3_resultOf_0 : decode cX3_resultOf 0 = .ok (.aload_n 0, 1) := by decide +kernel
theorem dX3_resultOf_1 : decode cX3_resultOf 1 = .ok (.iload_n 1, 1) := by decide +kernel
theorem dX3_resultOf_2 : decode cX3_resultOf 2 = .ok (.iload_n 2, 1) := by decide +kernel
theorem dX3_resultOf_3 : decode cX3_resultOf 3 = .ok (.invokevirtual 27, 3) := by decide +kernel
theorem dX3_resultOf_6 : decode cX3_resultOf 6 = .ok (.iconst (-1), 1) := by decide +kernel
theorem dX3_resultOf_7 : decode cX3_resultOf 7 = .ok (.if_icmp .eq 5, 3) := by decide +kernel
theorem dX3_resultOf_10 : decode cX3_resultOf 10 = .ok (.iconst 1, 1) := by decide +kernel
theorem dX3_resultOf_11 : decode cX3_resultOf 11 = .ok (.ireturn, 1) := by decide +kernel
theorem dX3_resultOf_12 : decode cX3_resultOf 12 = .ok (.aload_n 0, 1) := by decide +kernel
theorem dX3_resultOf_13 : decode cX3_resultOf 13 = .ok (.iload_n 1, 1) := by decide +kernel
theorem dX3_resultOf_14 : decode cX3_resultOf 14 = .ok (.invokevirtual 31, 3) := by decide +kernel
theorem dX3_resultOf_17 : decode cX3_resultOf 17 = .ok (.ifCond .ne 7, 3) := by decide +kernel
theorem dX3_resultOf_20 : decode cX3_resultOf 20 = .ok (.iconst 2, 1) := by decide +kernel
theorem dX3_resultOf_21 : decode cX3_resultOf 21 = .ok (.goto 4, 3) := by decide +kernel
theorem dX3_resultOf_24 : decode cX3_resultOf 24 = .ok (.iconst 0, 1) := by decide +kernel
theorem dX3_resultOf_25 : decode cX3_resultOf 25 = .ok (.ireturn, 1) := by decide +kernel
theorem dX3_placeOf_0 : decode cX3_placeOf 0 = .ok (.iload_n 2, 1) := by decide +kernel
theorem dX3_placeOf_1 : decode cX3_placeOf 1 = .ok (.iconst 4, 1) := by decide +kernel
theorem dX3_placeOf_2 : decode cX3_placeOf 2 = .ok (.irem, 1) := by decide +kernel
theorem dX3_placeOf_3 : decode cX3_placeOf 3 = .ok (.bipush 8, 2) := by decide +kernel
theorem dX3_placeOf_5 : decode cX3_placeOf 5 = .ok (.imul, 1) := by decide +kernel
theorem dX3_placeOf_6 : decode cX3_placeOf 6 = .ok (.istore_n 3, 1) := by decide +kernel
theorem dX3_placeOf_7 : decode cX3_placeOf 7 = .ok (.iconst 0, 1) := by decide +kernel
theorem dX3_placeOf_8 : decode cX3_placeOf 8 = .ok (.istore 4, 2) := by decide +kernel
theorem dX3_placeOf_10 : decode cX3_placeOf 10 = .ok (.iload 4, 2) := by decide +kernel
theorem dX3_placeOf_12 : decode cX3_placeOf 12 = .ok (.bipush 8, 2) := by decide +kernel
theorem dX3_placeOf_14 : decode cX3_placeOf 14 = .ok (.if_icmp .ge 33, 3) := by decide +kernel
theorem dX3_placeOf_17 : decode cX3_placeOf 17 = .ok (.aload_n 0, 1) := by decide +kernel
theorem dX3_placeOf_18 : decode cX3_placeOf 18 = .ok (.getfield 15, 3) := by decide +kernel
theorem dX3_placeOf_21 : decode cX3_placeOf 21 = .ok (.iload_n 3, 1) := by decide +kernel
theorem dX3_placeOf_22 : decode cX3_placeOf 22 = .ok (.iload 4, 2) := by decide +kernel
theorem dX3_placeOf_24 : decode cX3_placeOf 24 = .ok (.iadd, 1) := by decide +kernel
theorem dX3_placeOf_25 : decode cX3_placeOf 25 = .ok (.iaload, 1) := by decide +kernel
theorem dX3_placeOf_26 : decode cX3_placeOf 26 = .ok (.iload_n 1, 1) := by decide +kernel
theorem dX3_placeOf_27 : decode cX3_placeOf 27 = .ok (.sipush 256, 3) := by decide +kernel
theorem dX3_placeOf_30 : decode cX3_placeOf 30 = .ok (.imul, 1) := by decide +kernel
theorem dX3_placeOf_31 : decode cX3_placeOf 31 = .ok (.iload_n 2, 1) := by decide +kernel
theorem dX3_placeOf_32 : decode cX3_placeOf 32 = .ok (.iadd, 1) := by decide +kernel
theorem dX3_placeOf_33 : decode cX3_placeOf 33 = .ok (.if_icmp .ne 8, 3) := by decide +kernel
theorem dX3_placeOf_36 : decode cX3_placeOf 36 = .ok (.iload_n 3, 1) := by decide +kernel
theorem dX3_placeOf_37 : decode cX3_placeOf 37 = .ok (.iload 4, 2) := by decide +kernel
theorem dX3_placeOf_39 : decode cX3_placeOf 39 = .ok (.iadd, 1) := by decide +kernel
theorem dX3_placeOf_40 : decode cX3_placeOf 40 = .ok (.ireturn, 1) := by decide +kernel
theorem dX3_placeOf_41 : decode cX3_placeOf 41 = .ok (.iinc 4 1, 3) := by decide +kernel
theorem dX3_placeOf_44 : decode cX3_placeOf 44 = .ok (.goto (-34), 3) := by decide +kernel
theorem dX3_placeOf_47 : decode cX3_placeOf 47 = .ok (.iconst (-1), 1) := by decide +kernel
theorem dX3_placeOf_48 : decode cX3_placeOf 48 = .ok (.ireturn, 1) := by decide +kernel
theorem dX3_renew_0 : decode cX3_renew 0 = .ok (.aload_n 0, 1) := by decide +kernel
theorem dX3_renew_1 : decode cX3_renew 1 = .ok (.iload_n 1, 1) := by decide +kernel
theorem dX3_renew_2 : decode cX3_renew 2 = .ok (.iload_n 2, 1) := by decide +kernel
theorem dX3_renew_3 : decode cX3_renew 3 = .ok (.invokevirtual 27, 3) := by decide +kernel
theorem dX3_renew_6 : decode cX3_renew 6 = .ok (.istore 4, 2) := by decide +kernel
theorem dX3_renew_8 : decode cX3_renew 8 = .ok (.iload 4, 2) := by decide +kernel
theorem dX3_renew_10 : decode cX3_renew 10 = .ok (.iconst (-1), 1) := by decide +kernel
theorem dX3_renew_11 : decode cX3_renew 11 = .ok (.if_icmp .eq 11, 3) := by decide +kernel
theorem dX3_renew_14 : decode cX3_renew 14 = .ok (.aload_n 0, 1) := by decide +kernel
theorem dX3_renew_15 : decode cX3_renew 15 = .ok (.getfield 18, 3) := by decide +kernel
theorem dX3_renew_18 : decode cX3_renew 18 = .ok (.iload 4, 2) := by decide +kernel
theorem dX3_renew_20 : decode cX3_renew 20 = .ok (.iload_n 3, 1) := by decide +kernel
theorem dX3_renew_21 : decode cX3_renew 21 = .ok (.iastore, 1) := by decide +kernel
theorem dX3_renew_22 : decode cX3_renew 22 = .ok (.return_, 1) := by decide +kernel
theorem dX3_placeToFill_0 : decode cX3_placeToFill 0 = .ok (.iload_n 2, 1) := by decide +kernel
theorem dX3_placeToFill_1 : decode cX3_placeToFill 1 = .ok (.iconst 4, 1) := by decide +kernel
theorem dX3_placeToFill_2 : decode cX3_placeToFill 2 = .ok (.irem, 1) := by decide +kernel
theorem dX3_placeToFill_3 : decode cX3_placeToFill 3 = .ok (.bipush 8, 2) := by decide +kernel
theorem dX3_placeToFill_5 : decode cX3_placeToFill 5 = .ok (.imul, 1) := by decide +kernel
theorem dX3_placeToFill_6 : decode cX3_placeToFill 6 = .ok (.istore_n 3, 1) := by decide +kernel
theorem dX3_placeToFill_7 : decode cX3_placeToFill 7 = .ok (.iconst (-1), 1) := by decide +kernel
theorem dX3_placeToFill_8 : decode cX3_placeToFill 8 = .ok (.istore 4, 2) := by decide +kernel
theorem dX3_placeToFill_10 : decode cX3_placeToFill 10 = .ok (.iconst 0, 1) := by decide +kernel
theorem dX3_placeToFill_11 : decode cX3_placeToFill 11 = .ok (.istore 5, 2) := by decide +kernel
theorem dX3_placeToFill_13 : decode cX3_placeToFill 13 = .ok (.iload 5, 2) := by decide +kernel
theorem dX3_placeToFill_15 : decode cX3_placeToFill 15 = .ok (.bipush 8, 2) := by decide +kernel
theorem dX3_placeToFill_17 : decode cX3_placeToFill 17 = .ok (.if_icmp .ge 70, 3) := by decide +kernel
theorem dX3_placeToFill_20 : decode cX3_placeToFill 20 = .ok (.iload_n 3, 1) := by decide +kernel
theorem dX3_placeToFill_21 : decode cX3_placeToFill 21 = .ok (.iload 5, 2) := by decide +kernel
theorem dX3_placeToFill_23 : decode cX3_placeToFill 23 = .ok (.iadd, 1) := by decide +kernel
theorem dX3_placeToFill_24 : decode cX3_placeToFill 24 = .ok (.istore 6, 2) := by decide +kernel
theorem dX3_placeToFill_26 : decode cX3_placeToFill 26 = .ok (.aload_n 0, 1) := by decide +kernel
theorem dX3_placeToFill_27 : decode cX3_placeToFill 27 = .ok (.getfield 9, 3) := by decide +kernel
theorem dX3_placeToFill_30 : decode cX3_placeToFill 30 = .ok (.iload 5, 2) := by decide +kernel
theorem dX3_placeToFill_32 : decode cX3_placeToFill 32 = .ok (.iaload, 1) := by decide +kernel
theorem dX3_placeToFill_33 : decode cX3_placeToFill 33 = .ok (.iload_n 1, 1) := by decide +kernel
theorem dX3_placeToFill_34 : decode cX3_placeToFill 34 = .ok (.if_icmp .eq 6, 3) := by decide +kernel
theorem dX3_placeToFill_37 : decode cX3_placeToFill 37 = .ok (.goto 44, 3) := by decide +kernel
theorem dX3_placeToFill_40 : decode cX3_placeToFill 40 = .ok (.aload_n 0, 1) := by decide +kernel
theorem dX3_placeToFill_41 : decode cX3_placeToFill 41 = .ok (.getfield 15, 3) := by decide +kernel
theorem dX3_placeToFill_44 : decode cX3_placeToFill 44 = .ok (.iload 6, 2) := by decide +kernel
theorem dX3_placeToFill_46 : decode cX3_placeToFill 46 = .ok (.iaload, 1) := by decide +kernel
theorem dX3_placeToFill_47 : decode cX3_placeToFill 47 = .ok (.iconst (-1), 1) := by decide +kernel
theorem dX3_placeToFill_48 : decode cX3_placeToFill 48 = .ok (.if_icmp .ne 6, 3) := by decide +kernel
theorem dX3_placeToFill_51 : decode cX3_placeToFill 51 = .ok (.iload 6, 2) := by decide +kernel
theorem dX3_placeToFill_53 : decode cX3_placeToFill 53 = .ok (.ireturn, 1) := by decide +kernel
theorem dX3_placeToFill_54 : decode cX3_placeToFill 54 = .ok (.iload 4, 2) := by decide +kernel
theorem dX3_placeToFill_56 : decode cX3_placeToFill 56 = .ok (.iconst (-1), 1) := by decide +kernel
theorem dX3_placeToFill_57 : decode cX3_placeToFill 57 = .ok (.if_icmp .eq 20, 3) := by decide +kernel
theorem dX3_placeToFill_60 : decode cX3_placeToFill 60 = .ok (.aload_n 0, 1) := by decide +kernel
theorem dX3_placeToFill_61 : decode cX3_placeToFill 61 = .ok (.getfield 18, 3) := by decide +kernel
theorem dX3_placeToFill_64 : decode cX3_placeToFill 64 = .ok (.iload 6, 2) := by decide +kernel
theorem dX3_placeToFill_66 : decode cX3_placeToFill 66 = .ok (.iaload, 1) := by decide +kernel
theorem dX3_placeToFill_67 : decode cX3_placeToFill 67 = .ok (.aload_n 0, 1) := by decide +kernel
theorem dX3_placeToFill_68 : decode cX3_placeToFill 68 = .ok (.getfield 18, 3) := by decide +kernel
theorem dX3_placeToFill_71 : decode cX3_placeToFill 71 = .ok (.iload 4, 2) := by decide +kernel
theorem dX3_placeToFill_73 : decode cX3_placeToFill 73 = .ok (.iaload, 1) := by decide +kernel
theorem dX3_placeToFill_74 : decode cX3_placeToFill 74 = .ok (.if_icmp .ge 7, 3) := by decide +kernel
theorem dX3_placeToFill_77 : decode cX3_placeToFill 77 = .ok (.iload 6, 2) := by decide +kernel
theorem dX3_placeToFill_79 : decode cX3_placeToFill 79 = .ok (.istore 4, 2) := by decide +kernel
theorem dX3_placeToFill_81 : decode cX3_placeToFill 81 = .ok (.iinc 5 1, 3) := by decide +kernel
theorem dX3_placeToFill_84 : decode cX3_placeToFill 84 = .ok (.goto (-71), 3) := by decide +kernel
theorem dX3_placeToFill_87 : decode cX3_placeToFill 87 = .ok (.iload 4, 2) := by decide +kernel
theorem dX3_placeToFill_89 : decode cX3_placeToFill 89 = .ok (.ireturn, 1) := by decide +kernel
theorem dX3_holdsLineOf_0 : decode cX3_holdsLineOf 0 = .ok (.aload_n 0, 1) := by decide +kernel
theorem dX3_holdsLineOf_1 : decode cX3_holdsLineOf 1 = .ok (.getfield 15, 3) := by decide +kernel
theorem dX3_holdsLineOf_4 : decode cX3_holdsLineOf 4 = .ok (.iload_n 2, 1) := by decide +kernel
theorem dX3_holdsLineOf_5 : decode cX3_holdsLineOf 5 = .ok (.iaload, 1) := by decide +kernel
theorem dX3_holdsLineOf_6 : decode cX3_holdsLineOf 6 = .ok (.iconst (-1), 1) := by decide +kernel
theorem dX3_holdsLineOf_7 : decode cX3_holdsLineOf 7 = .ok (.if_icmp .eq 21, 3) := by decide +kernel
theorem dX3_holdsLineOf_10 : decode cX3_holdsLineOf 10 = .ok (.aload_n 0, 1) := by decide +kernel
theorem dX3_holdsLineOf_11 : decode cX3_holdsLineOf 11 = .ok (.getfield 15, 3) := by decide +kernel
theorem dX3_holdsLineOf_14 : decode cX3_holdsLineOf 14 = .ok (.iload_n 2, 1) := by decide +kernel
theorem dX3_holdsLineOf_15 : decode cX3_holdsLineOf 15 = .ok (.iaload, 1) := by decide +kernel
theorem dX3_holdsLineOf_16 : decode cX3_holdsLineOf 16 = .ok (.sipush 256, 3) := by decide +kernel
theorem dX3_holdsLineOf_19 : decode cX3_holdsLineOf 19 = .ok (.idiv, 1) := by decide +kernel
theorem dX3_holdsLineOf_20 : decode cX3_holdsLineOf 20 = .ok (.iload_n 1, 1) := by decide +kernel
theorem dX3_holdsLineOf_21 : decode cX3_holdsLineOf 21 = .ok (.if_icmp .ne 7, 3) := by decide +kernel
theorem dX3_holdsLineOf_24 : decode cX3_holdsLineOf 24 = .ok (.iconst 1, 1) := by decide +kernel
theorem dX3_holdsLineOf_25 : decode cX3_holdsLineOf 25 = .ok (.goto 4, 3) := by decide +kernel
theorem dX3_holdsLineOf_28 : decode cX3_holdsLineOf 28 = .ok (.iconst 0, 1) := by decide +kernel
theorem dX3_holdsLineOf_29 : decode cX3_holdsLineOf 29 = .ok (.ireturn, 1) := by decide +kernel
theorem dX3_linesInWay_0 : decode cX3_linesInWay 0 = .ok (.iconst 0, 1) := by decide +kernel
theorem dX3_linesInWay_1 : decode cX3_linesInWay 1 = .ok (.istore_n 3, 1) := by decide +kernel
theorem dX3_linesInWay_2 : decode cX3_linesInWay 2 = .ok (.iconst 0, 1) := by decide +kernel
theorem dX3_linesInWay_3 : decode cX3_linesInWay 3 = .ok (.istore 4, 2) := by decide +kernel
theorem dX3_linesInWay_5 : decode cX3_linesInWay 5 = .ok (.iload 4, 2) := by decide +kernel
theorem dX3_linesInWay_7 : decode cX3_linesInWay 7 = .ok (.iconst 4, 1) := by decide +kernel
theorem dX3_linesInWay_8 : decode cX3_linesInWay 8 = .ok (.if_icmp .ge 27, 3) := by decide +kernel
theorem dX3_linesInWay_11 : decode cX3_linesInWay 11 = .ok (.aload_n 0, 1) := by decide +kernel
theorem dX3_linesInWay_12 : decode cX3_linesInWay 12 = .ok (.iload_n 1, 1) := by decide +kernel
theorem dX3_linesInWay_13 : decode cX3_linesInWay 13 = .ok (.iload 4, 2) := by decide +kernel
theorem dX3_linesInWay_15 : decode cX3_linesInWay 15 = .ok (.bipush 8, 2) := by decide +kernel
theorem dX3_linesInWay_17 : decode cX3_linesInWay 17 = .ok (.imul, 1) := by decide +kernel
theorem dX3_linesInWay_18 : decode cX3_linesInWay 18 = .ok (.iload_n 2, 1) := by decide +kernel
theorem dX3_linesInWay_19 : decode cX3_linesInWay 19 = .ok (.iadd, 1) := by decide +kernel
theorem dX3_linesInWay_20 : decode cX3_linesInWay 20 = .ok (.invokevirtual 35, 3) := by decide +kernel
theorem dX3_linesInWay_23 : decode cX3_linesInWay 23 = .ok (.ifCond .eq 6, 3) := by decide +kernel
theorem dX3_linesInWay_26 : decode cX3_linesInWay 26 = .ok (.iinc 3 1, 3) := by decide +kernel
theorem dX3_linesInWay_29 : decode cX3_linesInWay 29 = .ok (.iinc 4 1, 3) := by decide +kernel
theorem dX3_linesInWay_32 : decode cX3_linesInWay 32 = .ok (.goto (-27), 3) := by decide +kernel
theorem dX3_linesInWay_35 : decode cX3_linesInWay 35 = .ok (.iload_n 3, 1) := by decide +kernel
theorem dX3_linesInWay_36 : decode cX3_linesInWay 36 = .ok (.ireturn, 1) := by decide +kernel
theorem dX3_linesOf_0 : decode cX3_linesOf 0 = .ok (.iconst 0, 1) := by decide +kernel
theorem dX3_linesOf_1 : decode cX3_linesOf 1 = .ok (.istore_n 2, 1) := by decide +kernel
theorem dX3_linesOf_2 : decode cX3_linesOf 2 = .ok (.iconst 0, 1) := by decide +kernel
theorem dX3_linesOf_3 : decode cX3_linesOf 3 = .ok (.istore_n 3, 1) := by decide +kernel
theorem dX3_linesOf_4 : decode cX3_linesOf 4 = .ok (.iload_n 3, 1) := by decide +kernel
theorem dX3_linesOf_5 : decode cX3_linesOf 5 = .ok (.bipush 8, 2) := by decide +kernel
theorem dX3_linesOf_7 : decode cX3_linesOf 7 = .ok (.if_icmp .ge 18, 3) := by decide +kernel
theorem dX3_linesOf_10 : decode cX3_linesOf 10 = .ok (.iload_n 2, 1) := by decide +kernel
theorem dX3_linesOf_11 : decode cX3_linesOf 11 = .ok (.aload_n 0, 1) := by decide +kernel
theorem dX3_linesOf_12 : decode cX3_linesOf 12 = .ok (.iload_n 1, 1) := by decide +kernel
theorem dX3_linesOf_13 : decode cX3_linesOf 13 = .ok (.iload_n 3, 1) := by decide +kernel
theorem dX3_linesOf_14 : decode cX3_linesOf 14 = .ok (.invokevirtual 39, 3) := by decide +kernel
theorem dX3_linesOf_17 : decode cX3_linesOf 17 = .ok (.iadd, 1) := by decide +kernel
theorem dX3_linesOf_18 : decode cX3_linesOf 18 = .ok (.istore_n 2, 1) := by decide +kernel
theorem dX3_linesOf_19 : decode cX3_linesOf 19 = .ok (.iinc 3 1, 3) := by decide +kernel
theorem dX3_linesOf_22 : decode cX3_linesOf 22 = .ok (.goto (-18), 3) := by decide +kernel
theorem dX3_linesOf_25 : decode cX3_linesOf 25 = .ok (.iload_n 2, 1) := by decide +kernel
theorem dX3_linesOf_26 : decode cX3_linesOf 26 = .ok (.ireturn, 1) := by decide +kernel
theorem dX3_linesInOwnWays_0 : decode cX3_linesInOwnWays 0 = .ok (.iconst 0, 1) := by decide +kernel
theorem dX3_linesInOwnWays_1 : decode cX3_linesInOwnWays 1 = .ok (.istore_n 2, 1) := by decide +kernel
theorem dX3_linesInOwnWays_2 : decode cX3_linesInOwnWays 2 = .ok (.iconst 0, 1) := by decide +kernel
theorem dX3_linesInOwnWays_3 : decode cX3_linesInOwnWays 3 = .ok (.istore_n 3, 1) := by decide +kernel
theorem dX3_linesInOwnWays_4 : decode cX3_linesInOwnWays 4 = .ok (.iload_n 3, 1) := by decide +kernel
theorem dX3_linesInOwnWays_5 : decode cX3_linesInOwnWays 5 = .ok (.bipush 8, 2) := by decide +kernel
theorem dX3_linesInOwnWays_7 : decode cX3_linesInOwnWays 7 = .ok (.if_icmp .ge 28, 3) := by decide +kernel
theorem dX3_linesInOwnWays_10 : decode cX3_linesInOwnWays 10 = .ok (.aload_n 0, 1) := by decide +kernel
theorem dX3_linesInOwnWays_11 : decode cX3_linesInOwnWays 11 = .ok (.getfield 9, 3) := by decide +kernel
theorem dX3_linesInOwnWays_14 : decode cX3_linesInOwnWays 14 = .ok (.iload_n 3, 1) := by decide +kernel
theorem dX3_linesInOwnWays_15 : decode cX3_linesInOwnWays 15 = .ok (.iaload, 1) := by decide +kernel
theorem dX3_linesInOwnWays_16 : decode cX3_linesInOwnWays 16 = .ok (.iload_n 1, 1) := by decide +kernel
theorem dX3_linesInOwnWays_17 : decode cX3_linesInOwnWays 17 = .ok (.if_icmp .ne 12, 3) := by decide +kernel
theorem dX3_linesInOwnWays_20 : decode cX3_linesInOwnWays 20 = .ok (.iload_n 2, 1) := by decide +kernel
theorem dX3_linesInOwnWays_21 : decode cX3_linesInOwnWays 21 = .ok (.aload_n 0, 1) := by decide +kernel
theorem dX3_linesInOwnWays_22 : decode cX3_linesInOwnWays 22 = .ok (.iload_n 1, 1) := by decide +kernel
theorem dX3_linesInOwnWays_23 : decode cX3_linesInOwnWays 23 = .ok (.iload_n 3, 1) := by decide +kernel
theorem dX3_linesInOwnWays_24 : decode cX3_linesInOwnWays 24 = .ok (.invokevirtual 39, 3) := by decide +kernel
theorem dX3_linesInOwnWays_27 : decode cX3_linesInOwnWays 27 = .ok (.iadd, 1) := by decide +kernel
theorem dX3_linesInOwnWays_28 : decode cX3_linesInOwnWays 28 = .ok (.istore_n 2, 1) := by decide +kernel
theorem dX3_linesInOwnWays_29 : decode cX3_linesInOwnWays 29 = .ok (.iinc 3 1, 3) := by decide +kernel
theorem dX3_linesInOwnWays_32 : decode cX3_linesInOwnWays 32 = .ok (.goto (-28), 3) := by decide +kernel
theorem dX3_linesInOwnWays_35 : decode cX3_linesInOwnWays 35 = .ok (.iload_n 2, 1) := by decide +kernel
theorem dX3_linesInOwnWays_36 : decode cX3_linesInOwnWays 36 = .ok (.ireturn, 1) := by decide +kernel
theorem dX3_removeLinesOf_0 : decode cX3_removeLinesOf 0 = .ok (.iconst 0, 1) := by decide +kernel
theorem dX3_removeLinesOf_1 : decode cX3_removeLinesOf 1 = .ok (.istore_n 2, 1) := by decide +kernel
theorem dX3_removeLinesOf_2 : decode cX3_removeLinesOf 2 = .ok (.iconst 0, 1) := by decide +kernel
theorem dX3_removeLinesOf_3 : decode cX3_removeLinesOf 3 = .ok (.istore_n 3, 1) := by decide +kernel
theorem dX3_removeLinesOf_4 : decode cX3_removeLinesOf 4 = .ok (.iload_n 3, 1) := by decide +kernel
theorem dX3_removeLinesOf_5 : decode cX3_removeLinesOf 5 = .ok (.bipush 32, 2) := by decide +kernel
theorem dX3_removeLinesOf_7 : decode cX3_removeLinesOf 7 = .ok (.if_icmp .ge 28, 3) := by decide +kernel
theorem dX3_removeLinesOf_10 : decode cX3_removeLinesOf 10 = .ok (.aload_n 0, 1) := by decide +kernel
theorem dX3_removeLinesOf_11 : decode cX3_removeLinesOf 11 = .ok (.iload_n 1, 1) := by decide +kernel
theorem dX3_removeLinesOf_12 : decode cX3_removeLinesOf 12 = .ok (.iload_n 3, 1) := by decide +kernel
theorem dX3_removeLinesOf_13 : decode cX3_removeLinesOf 13 = .ok (.invokevirtual 35, 3) := by decide +kernel
theorem dX3_removeLinesOf_16 : decode cX3_removeLinesOf 16 = .ok (.ifCond .eq 13, 3) := by decide +kernel
theorem dX3_removeLinesOf_19 : decode cX3_removeLinesOf 19 = .ok (.aload_n 0, 1) := by decide +kernel
theorem dX3_removeLinesOf_20 : decode cX3_removeLinesOf 20 = .ok (.getfield 15, 3) := by decide +kernel
theorem dX3_removeLinesOf_23 : decode cX3_removeLinesOf 23 = .ok (.iload_n 3, 1) := by decide +kernel
theorem dX3_removeLinesOf_24 : decode cX3_removeLinesOf 24 = .ok (.iconst (-1), 1) := by decide +kernel
theorem dX3_removeLinesOf_25 : decode cX3_removeLinesOf 25 = .ok (.iastore, 1) := by decide +kernel
theorem dX3_removeLinesOf_26 : decode cX3_removeLinesOf 26 = .ok (.iinc 2 1, 3) := by decide +kernel
theorem dX3_removeLinesOf_29 : decode cX3_removeLinesOf 29 = .ok (.iinc 3 1, 3) := by decide +kernel
theorem dX3_removeLinesOf_32 : decode cX3_removeLinesOf 32 = .ok (.goto (-28), 3) := by decide +kernel
theorem dX3_removeLinesOf_35 : decode cX3_removeLinesOf 35 = .ok (.iload_n 2, 1) := by decide +kernel
theorem dX3_removeLinesOf_36 : decode cX3_removeLinesOf 36 = .ok (.ireturn, 1) := by decide +kernel
theorem dX3_wayWithFewestLines_0 : decode cX3_wayWithFewestLines 0 = .ok (.iconst (-1), 1) := by decide +kernel
theorem dX3_wayWithFewestLines_1 : decode cX3_wayWithFewestLines 1 = .ok (.istore_n 2, 1) := by decide +kernel
theorem dX3_wayWithFewestLines_2 : decode cX3_wayWithFewestLines 2 = .ok (.iconst 5, 1) := by decide +kernel
theorem dX3_wayWithFewestLines_3 : decode cX3_wayWithFewestLines 3 = .ok (.istore_n 3, 1) := by decide +kernel
theorem dX3_wayWithFewestLines_4 : decode cX3_wayWithFewestLines 4 = .ok (.iconst 0, 1) := by decide +kernel
theorem dX3_wayWithFewestLines_5 : decode cX3_wayWithFewestLines 5 = .ok (.istore 4, 2) := by decide +kernel
theorem dX3_wayWithFewestLines_7 : decode cX3_wayWithFewestLines 7 = .ok (.iload 4, 2) := by decide +kernel
theorem dX3_wayWithFewestLines_9 : decode cX3_wayWithFewestLines 9 = .ok (.bipush 8, 2) := by decide +kernel
theorem dX3_wayWithFewestLines_11 : decode cX3_wayWithFewestLines 11 = .ok (.if_icmp .ge 42, 3) := by decide +kernel
theorem dX3_wayWithFewestLines_14 : decode cX3_wayWithFewestLines 14 = .ok (.aload_n 0, 1) := by decide +kernel
theorem dX3_wayWithFewestLines_15 : decode cX3_wayWithFewestLines 15 = .ok (.getfield 9, 3) := by decide +kernel
theorem dX3_wayWithFewestLines_18 : decode cX3_wayWithFewestLines 18 = .ok (.iload 4, 2) := by decide +kernel
theorem dX3_wayWithFewestLines_20 : decode cX3_wayWithFewestLines 20 = .ok (.iaload, 1) := by decide +kernel
theorem dX3_wayWithFewestLines_21 : decode cX3_wayWithFewestLines 21 = .ok (.iload_n 1, 1) := by decide +kernel
theorem dX3_wayWithFewestLines_22 : decode cX3_wayWithFewestLines 22 = .ok (.if_icmp .ne 25, 3) := by decide +kernel
theorem dX3_wayWithFewestLines_25 : decode cX3_wayWithFewestLines 25 = .ok (.aload_n 0, 1) := by decide +kernel
theorem dX3_wayWithFewestLines_26 : decode cX3_wayWithFewestLines 26 = .ok (.iload_n 1, 1) := by decide +kernel
theorem dX3_wayWithFewestLines_27 : decode cX3_wayWithFewestLines 27 = .ok (.iload 4, 2) := by decide +kernel
theorem dX3_wayWithFewestLines_29 : decode cX3_wayWithFewestLines 29 = .ok (.invokevirtual 39, 3) := by decide +kernel
theorem dX3_wayWithFewestLines_32 : decode cX3_wayWithFewestLines 32 = .ok (.iload_n 3, 1) := by decide +kernel
theorem dX3_wayWithFewestLines_33 : decode cX3_wayWithFewestLines 33 = .ok (.if_icmp .ge 14, 3) := by decide +kernel
theorem dX3_wayWithFewestLines_36 : decode cX3_wayWithFewestLines 36 = .ok (.iload 4, 2) := by decide +kernel
theorem dX3_wayWithFewestLines_38 : decode cX3_wayWithFewestLines 38 = .ok (.istore_n 2, 1) := by decide +kernel
theorem dX3_wayWithFewestLines_39 : decode cX3_wayWithFewestLines 39 = .ok (.aload_n 0, 1) := by decide +kernel
theorem dX3_wayWithFewestLines_40 : decode cX3_wayWithFewestLines 40 = .ok (.iload_n 1, 1) := by decide +kernel
theorem dX3_wayWithFewestLines_41 : decode cX3_wayWithFewestLines 41 = .ok (.iload 4, 2) := by decide +kernel
theorem dX3_wayWithFewestLines_43 : decode cX3_wayWithFewestLines 43 = .ok (.invokevirtual 39, 3) := by decide +kernel
theorem dX3_wayWithFewestLines_46 : decode cX3_wayWithFewestLines 46 = .ok (.istore_n 3, 1) := by decide +kernel
theorem dX3_wayWithFewestLines_47 : decode cX3_wayWithFewestLines 47 = .ok (.iinc 4 1, 3) := by decide +kernel
theorem dX3_wayWithFewestLines_50 : decode cX3_wayWithFewestLines 50 = .ok (.goto (-43), 3) := by decide +kernel
theorem dX3_wayWithFewestLines_53 : decode cX3_wayWithFewestLines 53 = .ok (.iload_n 2, 1) := by decide +kernel
theorem dX3_wayWithFewestLines_54 : decode cX3_wayWithFewestLines 54 = .ok (.ireturn, 1) := by decide +kernel
theorem dX4_init_0 : decode cX4_init 0 = .ok (.aload_n 0, 1) := by decide +kernel
theorem dX4_init_1 : decode cX4_init 1 = .ok (.invokespecial 3, 3) := by decide +kernel
theorem dX4_init_4 : decode cX4_init 4 = .ok (.aload_n 0, 1) := by decide +kernel
theorem dX4_init_5 : decode cX4_init 5 = .ok (.new 9, 3) := by decide +kernel
theorem dX4_init_8 : decode cX4_init 8 = .ok (.dup, 1) := by decide +kernel
theorem dX4_init_9 : decode cX4_init 9 = .ok (.invokespecial 11, 3) := by decide +kernel
theorem dX4_init_12 : decode cX4_init 12 = .ok (.putfield 12, 3) := by decide +kernel
theorem dX4_init_15 : decode cX4_init 15 = .ok (.aload_n 0, 1) := by decide +kernel
theorem dX4_init_16 : decode cX4_init 16 = .ok (.new 18, 3) := by decide +kernel
theorem dX4_init_19 : decode cX4_init 19 = .ok (.dup, 1) := by decide +kernel
theorem dX4_init_20 : decode cX4_init 20 = .ok (.invokespecial 20, 3) := by decide +kernel
theorem dX4_init_23 : decode cX4_init 23 = .ok (.putfield 21, 3) := by decide +kernel
theorem dX4_init_26 : decode cX4_init 26 = .ok (.aload_n 0, 1) := by decide +kernel
theorem dX4_init_27 : decode cX4_init 27 = .ok (.iconst 4, 1) := by decide +kernel
theorem dX4_init_28 : decode cX4_init 28 = .ok (.newarray .int, 2) := by decide +kernel
theorem dX4_init_30 : decode cX4_init 30 = .ok (.putfield 25, 3) := by decide +kernel
theorem dX4_init_33 : decode cX4_init 33 = .ok (.aload_n 0, 1) := by decide +kernel
theorem dX4_init_34 : decode cX4_init 34 = .ok (.bipush 16, 2) := by decide +kernel
theorem dX4_init_36 : decode cX4_init 36 = .ok (.newarray .int, 2) := by decide +kernel
theorem dX4_init_38 : decode cX4_init 38 = .ok (.putfield 29, 3) := by decide +kernel
theorem dX4_init_41 : decode cX4_init 41 = .ok (.aload_n 0, 1) := by decide +kernel
theorem dX4_init_42 : decode cX4_init 42 = .ok (.iconst 0, 1) := by decide +kernel
theorem dX4_init_43 : decode cX4_init 43 = .ok (.putfield 32, 3) := by decide +kernel
theorem dX4_init_46 : decode cX4_init 46 = .ok (.aload_n 0, 1) := by decide +kernel
theorem dX4_init_47 : decode cX4_init 47 = .ok (.iconst 0, 1) := by decide +kernel
theorem dX4_init_48 : decode cX4_init 48 = .ok (.putfield 36, 3) := by decide +kernel
theorem dX4_init_51 : decode cX4_init 51 = .ok (.iconst 0, 1) := by decide +kernel
theorem dX4_init_52 : decode cX4_init 52 = .ok (.istore_n 1, 1) := by decide +kernel
theorem dX4_init_53 : decode cX4_init 53 = .ok (.iload_n 1, 1) := by decide +kernel
theorem dX4_init_54 : decode cX4_init 54 = .ok (.iconst 4, 1) := by decide +kernel
theorem dX4_init_55 : decode cX4_init 55 = .ok (.if_icmp .ge 16, 3) := by decide +kernel
theorem dX4_init_58 : decode cX4_init 58 = .ok (.aload_n 0, 1) := by decide +kernel
theorem dX4_init_59 : decode cX4_init 59 = .ok (.getfield 25, 3) := by decide +kernel
theorem dX4_init_62 : decode cX4_init 62 = .ok (.iload_n 1, 1) := by decide +kernel
theorem dX4_init_63 : decode cX4_init 63 = .ok (.iconst 1, 1) := by decide +kernel
theorem dX4_init_64 : decode cX4_init 64 = .ok (.iastore, 1) := by decide +kernel
theorem dX4_init_65 : decode cX4_init 65 = .ok (.iinc 1 1, 3) := by decide +kernel
theorem dX4_init_68 : decode cX4_init 68 = .ok (.goto (-15), 3) := by decide +kernel
theorem dX4_init_71 : decode cX4_init 71 = .ok (.return_, 1) := by decide +kernel
theorem dX4_copyFrom_0 : decode cX4_copyFrom 0 = .ok (.aload_n 0, 1) := by decide +kernel
theorem dX4_copyFrom_1 : decode cX4_copyFrom 1 = .ok (.getfield 12, 3) := by decide +kernel
theorem dX4_copyFrom_4 : decode cX4_copyFrom 4 = .ok (.aload_n 1, 1) := by decide +kernel
theorem dX4_copyFrom_5 : decode cX4_copyFrom 5 = .ok (.getfield 12, 3) := by decide +kernel
theorem dX4_copyFrom_8 : decode cX4_copyFrom 8 = .ok (.invokevirtual 39, 3) := by decide +kernel
theorem dX4_copyFrom_11 : decode cX4_copyFrom 11 = .ok (.aload_n 0, 1) := by decide +kernel
theorem dX4_copyFrom_12 : decode cX4_copyFrom 12 = .ok (.getfield 21, 3) := by decide +kernel
theorem dX4_copyFrom_15 : decode cX4_copyFrom 15 = .ok (.aload_n 1, 1) := by decide +kernel
theorem dX4_copyFrom_16 : decode cX4_copyFrom 16 = .ok (.getfield 21, 3) := by decide +kernel
theorem dX4_copyFrom_19 : decode cX4_copyFrom 19 = .ok (.invokevirtual 43, 3) := by decide +kernel
theorem dX4_copyFrom_22 : decode cX4_copyFrom 22 = .ok (.aload_n 1, 1) := by decide +kernel
theorem dX4_copyFrom_23 : decode cX4_copyFrom 23 = .ok (.getfield 25, 3) := by decide +kernel
theorem dX4_copyFrom_26 : decode cX4_copyFrom 26 = .ok (.iconst 0, 1) := by decide +kernel
theorem dX4_copyFrom_27 : decode cX4_copyFrom 27 = .ok (.aload_n 0, 1) := by decide +kernel
theorem dX4_copyFrom_28 : decode cX4_copyFrom 28 = .ok (.getfield 25, 3) := by decide +kernel
theorem dX4_copyFrom_31 : decode cX4_copyFrom 31 = .ok (.iconst 0, 1) := by decide +kernel
theorem dX4_copyFrom_32 : decode cX4_copyFrom 32 = .ok (.aload_n 0, 1) := by decide +kernel
theorem dX4_copyFrom_33 : decode cX4_copyFrom 33 = .ok (.getfield 25, 3) := by decide +kernel
theorem dX4_copyFrom_36 : decode cX4_copyFrom 36 = .ok (.arraylength, 1) := by decide +kernel
theorem dX4_copyFrom_37 : decode cX4_copyFrom 37 = .ok (.invokestatic 46, 3) := by decide +kernel
theorem dX4_copyFrom_40 : decode cX4_copyFrom 40 = .ok (.aload_n 1, 1) := by decide +kernel
theorem dX4_copyFrom_41 : decode cX4_copyFrom 41 = .ok (.getfield 29, 3) := by decide +kernel
theorem dX4_copyFrom_44 : decode cX4_copyFrom 44 = .ok (.iconst 0, 1) := by decide +kernel
theorem dX4_copyFrom_45 : decode cX4_copyFrom 45 = .ok (.aload_n 0, 1) := by decide +kernel
theorem dX4_copyFrom_46 : decode cX4_copyFrom 46 = .ok (.getfield 29, 3) := by decide +kernel
theorem dX4_copyFrom_49 : decode cX4_copyFrom 49 = .ok (.iconst 0, 1) := by decide +kernel
theorem dX4_copyFrom_50 : decode cX4_copyFrom 50 = .ok (.aload_n 0, 1) := by decide +kernel
theorem dX4_copyFrom_51 : decode cX4_copyFrom 51 = .ok (.getfield 29, 3) := by decide +kernel
theorem dX4_copyFrom_54 : decode cX4_copyFrom 54 = .ok (.arraylength, 1) := by decide +kernel
theorem dX4_copyFrom_55 : decode cX4_copyFrom 55 = .ok (.invokestatic 46, 3) := by decide +kernel
theorem dX4_copyFrom_58 : decode cX4_copyFrom 58 = .ok (.aload_n 0, 1) := by decide +kernel
theorem dX4_copyFrom_59 : decode cX4_copyFrom 59 = .ok (.aload_n 1, 1) := by decide +kernel
theorem dX4_copyFrom_60 : decode cX4_copyFrom 60 = .ok (.getfield 32, 3) := by decide +kernel
theorem dX4_copyFrom_63 : decode cX4_copyFrom 63 = .ok (.putfield 32, 3) := by decide +kernel
theorem dX4_copyFrom_66 : decode cX4_copyFrom 66 = .ok (.aload_n 0, 1) := by decide +kernel
theorem dX4_copyFrom_67 : decode cX4_copyFrom 67 = .ok (.aload_n 1, 1) := by decide +kernel
theorem dX4_copyFrom_68 : decode cX4_copyFrom 68 = .ok (.getfield 36, 3) := by decide +kernel
theorem dX4_copyFrom_71 : decode cX4_copyFrom 71 = .ok (.putfield 36, 3) := by decide +kernel
theorem dX4_copyFrom_74 : decode cX4_copyFrom 74 = .ok (.return_, 1) := by decide +kernel
theorem dX5_init_0 : decode cX5_init 0 = .ok (.aload_n 0, 1) := by decide +kernel
theorem dX5_init_1 : decode cX5_init 1 = .ok (.invokespecial 3, 3) := by decide +kernel
theorem dX5_init_4 : decode cX5_init 4 = .ok (.aload_n 0, 1) := by decide +kernel
theorem dX5_init_5 : decode cX5_init 5 = .ok (.iconst 4, 1) := by decide +kernel
theorem dX5_init_6 : decode cX5_init 6 = .ok (.newarray .int, 2) := by decide +kernel
theorem dX5_init_8 : decode cX5_init 8 = .ok (.putfield 9, 3) := by decide +kernel
theorem dX5_init_11 : decode cX5_init 11 = .ok (.return_, 1) := by decide +kernel
theorem dX5_compute_0 : decode cX5_compute 0 = .ok (.bipush 8, 2) := by decide +kernel
theorem dX5_compute_2 : decode cX5_compute 2 = .ok (.istore_n 2, 1) := by decide +kernel
theorem dX5_compute_3 : decode cX5_compute 3 = .ok (.iconst 0, 1) := by decide +kernel
theorem dX5_compute_4 : decode cX5_compute 4 = .ok (.istore_n 3, 1) := by decide +kernel
theorem dX5_compute_5 : decode cX5_compute 5 = .ok (.iload_n 3, 1) := by decide +kernel
theorem dX5_compute_6 : decode cX5_compute 6 = .ok (.iconst 4, 1) := by decide +kernel
theorem dX5_compute_7 : decode cX5_compute 7 = .ok (.if_icmp .ge 30, 3) := by decide +kernel
theorem dX5_compute_10 : decode cX5_compute 10 = .ok (.aload_n 0, 1) := by decide +kernel
theorem dX5_compute_11 : decode cX5_compute 11 = .ok (.getfield 9, 3) := by decide +kernel
theorem dX5_compute_14 : decode cX5_compute 14 = .ok (.iload_n 3, 1) := by decide +kernel
theorem dX5_compute_15 : decode cX5_compute 15 = .ok (.aload_n 1, 1) := by decide +kernel
theorem dX5_compute_16 : decode cX5_compute 16 = .ok (.getfield 15, 3) := by decide +kernel
theorem dX5_compute_19 : decode cX5_compute 19 = .ok (.iload_n 3, 1) := by decide +kernel
theorem dX5_compute_20 : decode cX5_compute 20 = .ok (.iaload, 1) := by decide +kernel
theorem dX5_compute_21 : decode cX5_compute 21 = .ok (.iastore, 1) := by decide +kernel
theorem dX5_compute_22 : decode cX5_compute 22 = .ok (.iload_n 2, 1) := by decide +kernel
theorem dX5_compute_23 : decode cX5_compute 23 = .ok (.aload_n 0, 1) := by decide +kernel
theorem dX5_compute_24 : decode cX5_compute 24 = .ok (.getfield 9, 3) := by decide +kernel
theorem dX5_compute_27 : decode cX5_compute 27 = .ok (.iload_n 3, 1) := by decide +kernel
theorem dX5_compute_28 : decode cX5_compute 28 = .ok (.iaload, 1) := by decide +kernel
theorem dX5_compute_29 : decode cX5_compute 29 = .ok (.isub, 1) := by decide +kernel
theorem dX5_compute_30 : decode cX5_compute 30 = .ok (.istore_n 2, 1) := by decide +kernel
theorem dX5_compute_31 : decode cX5_compute 31 = .ok (.iinc 3 1, 3) := by decide +kernel
theorem dX5_compute_34 : decode cX5_compute 34 = .ok (.goto (-29), 3) := by decide +kernel
theorem dX5_compute_37 : decode cX5_compute 37 = .ok (.iconst 0, 1) := by decide +kernel
theorem dX5_compute_38 : decode cX5_compute 38 = .ok (.istore_n 3, 1) := by decide +kernel
theorem dX5_compute_39 : decode cX5_compute 39 = .ok (.iload_n 3, 1) := by decide +kernel
theorem dX5_compute_40 : decode cX5_compute 40 = .ok (.bipush 8, 2) := by decide +kernel
theorem dX5_compute_42 : decode cX5_compute 42 = .ok (.if_icmp .ge 25, 3) := by decide +kernel
theorem dX5_compute_45 : decode cX5_compute 45 = .ok (.iload_n 2, 1) := by decide +kernel
theorem dX5_compute_46 : decode cX5_compute 46 = .ok (.ifCond .le 21, 3) := by decide +kernel
theorem dX5_compute_49 : decode cX5_compute 49 = .ok (.iload_n 2, 1) := by decide +kernel
theorem dX5_compute_50 : decode cX5_compute 50 = .ok (.aload_n 0, 1) := by decide +kernel
theorem dX5_compute_51 : decode cX5_compute 51 = .ok (.aload_n 1, 1) := by decide +kernel
theorem dX5_compute_52 : decode cX5_compute 52 = .ok (.getfield 20, 3) := by decide +kernel
theorem dX5_compute_55 : decode cX5_compute 55 = .ok (.iload_n 2, 1) := by decide +kernel
theorem dX5_compute_56 : decode cX5_compute 56 = .ok (.invokevirtual 24, 3) := by decide +kernel
theorem dX5_compute_59 : decode cX5_compute 59 = .ok (.isub, 1) := by decide +kernel
theorem dX5_compute_60 : decode cX5_compute 60 = .ok (.istore_n 2, 1) := by decide +kernel
theorem dX5_compute_61 : decode cX5_compute 61 = .ok (.iinc 3 1, 3) := by decide +kernel
theorem dX5_compute_64 : decode cX5_compute 64 = .ok (.goto (-25), 3) := by decide +kernel
theorem dX5_compute_67 : decode cX5_compute 67 = .ok (.return_, 1) := by decide +kernel
theorem dX5_growOne_0 : decode cX5_growOne 0 = .ok (.iconst (-1), 1) := by decide +kernel
theorem dX5_growOne_1 : decode cX5_growOne 1 = .ok (.istore_n 3, 1) := by decide +kernel
theorem dX5_growOne_2 : decode cX5_growOne 2 = .ok (.iconst 1, 1) := by decide +kernel
theorem dX5_growOne_3 : decode cX5_growOne 3 = .ok (.istore 4, 2) := by decide +kernel
theorem dX5_growOne_5 : decode cX5_growOne 5 = .ok (.iconst 0, 1) := by decide +kernel
theorem dX5_growOne_6 : decode cX5_growOne 6 = .ok (.istore 5, 2) := by decide +kernel
theorem dX5_growOne_8 : decode cX5_growOne 8 = .ok (.iconst 0, 1) := by decide +kernel
theorem dX5_growOne_9 : decode cX5_growOne 9 = .ok (.istore 6, 2) := by decide +kernel
theorem dX5_growOne_11 : decode cX5_growOne 11 = .ok (.iload 6, 2) := by decide +kernel
theorem dX5_growOne_13 : decode cX5_growOne 13 = .ok (.iconst 4, 1) := by decide +kernel
theorem dX5_growOne_14 : decode cX5_growOne 14 = .ok (.if_icmp .ge 94, 3) := by decide +kernel
theorem dX5_growOne_17 : decode cX5_growOne 17 = .ok (.iconst 0, 1) := by decide +kernel
theorem dX5_growOne_18 : decode cX5_growOne 18 = .ok (.istore 7, 2) := by decide +kernel
theorem dX5_growOne_20 : decode cX5_growOne 20 = .ok (.iconst 1, 1) := by decide +kernel
theorem dX5_growOne_21 : decode cX5_growOne 21 = .ok (.istore 8, 2) := by decide +kernel
theorem dX5_growOne_23 : decode cX5_growOne 23 = .ok (.iload 8, 2) := by decide +kernel
theorem dX5_growOne_25 : decode cX5_growOne 25 = .ok (.iload_n 2, 1) := by decide +kernel
theorem dX5_growOne_26 : decode cX5_growOne 26 = .ok (.if_icmp .gt 76, 3) := by decide +kernel
theorem dX5_growOne_29 : decode cX5_growOne 29 = .ok (.aload_n 0, 1) := by decide +kernel
theorem dX5_growOne_30 : decode cX5_growOne 30 = .ok (.getfield 9, 3) := by decide +kernel
theorem dX5_growOne_33 : decode cX5_growOne 33 = .ok (.iload 6, 2) := by decide +kernel
theorem dX5_growOne_35 : decode cX5_growOne 35 = .ok (.iaload, 1) := by decide +kernel
theorem dX5_growOne_36 : decode cX5_growOne 36 = .ok (.iload 8, 2) := by decide +kernel
theorem dX5_growOne_38 : decode cX5_growOne 38 = .ok (.iadd, 1) := by decide +kernel
theorem dX5_growOne_39 : decode cX5_growOne 39 = .ok (.bipush 8, 2) := by decide +kernel
theorem dX5_growOne_41 : decode cX5_growOne 41 = .ok (.if_icmp .gt 61, 3) := by decide +kernel
theorem dX5_growOne_44 : decode cX5_growOne 44 = .ok (.iload 7, 2) := by decide +kernel
theorem dX5_growOne_46 : decode cX5_growOne 46 = .ok (.aload_n 1, 1) := by decide +kernel
theorem dX5_growOne_47 : decode cX5_growOne 47 = .ok (.getfield 28, 3) := by decide +kernel
theorem dX5_growOne_50 : decode cX5_growOne 50 = .ok (.iload 6, 2) := by decide +kernel
theorem dX5_growOne_52 : decode cX5_growOne 52 = .ok (.bipush 8, 2) := by decide +kernel
theorem dX5_growOne_54 : decode cX5_growOne 54 = .ok (.imul, 1) := by decide +kernel
theorem dX5_growOne_55 : decode cX5_growOne 55 = .ok (.aload_n 0, 1) := by decide +kernel
theorem dX5_growOne_56 : decode cX5_growOne 56 = .ok (.getfield 9, 3) := by decide +kernel
theorem dX5_growOne_59 : decode cX5_growOne 59 = .ok (.iload 6, 2) := by decide +kernel
theorem dX5_growOne_61 : decode cX5_growOne 61 = .ok (.iaload, 1) := by decide +kernel
theorem dX5_growOne_62 : decode cX5_growOne 62 = .ok (.iadd, 1) := by decide +kernel
theorem dX5_growOne_63 : decode cX5_growOne 63 = .ok (.iload 8, 2) := by decide +kernel
theorem dX5_growOne_65 : decode cX5_growOne 65 = .ok (.iadd, 1) := by decide +kernel
theorem dX5_growOne_66 : decode cX5_growOne 66 = .ok (.iconst 1, 1) := by decide +kernel
theorem dX5_growOne_67 : decode cX5_growOne 67 = .ok (.isub, 1) := by decide +kernel
theorem dX5_growOne_68 : decode cX5_growOne 68 = .ok (.iaload, 1) := by decide +kernel
theorem dX5_growOne_69 : decode cX5_growOne 69 = .ok (.iadd, 1) := by decide +kernel
theorem dX5_growOne_70 : decode cX5_growOne 70 = .ok (.istore 7, 2) := by decide +kernel
theorem dX5_growOne_72 : decode cX5_growOne 72 = .ok (.iload 7, 2) := by decide +kernel
theorem dX5_growOne_74 : decode cX5_growOne 74 = .ok (.iload 4, 2) := by decide +kernel
theorem dX5_growOne_76 : decode cX5_growOne 76 = .ok (.imul, 1) := by decide +kernel
theorem dX5_growOne_77 : decode cX5_growOne 77 = .ok (.iload 5, 2) := by decide +kernel
theorem dX5_growOne_79 : decode cX5_growOne 79 = .ok (.iload 8, 2) := by decide +kernel
theorem dX5_growOne_81 : decode cX5_growOne 81 = .ok (.imul, 1) := by decide +kernel
theorem dX5_growOne_82 : decode cX5_growOne 82 = .ok (.if_icmp .le 14, 3) := by decide +kernel
theorem dX5_growOne_85 : decode cX5_growOne 85 = .ok (.iload 6, 2) := by decide +kernel
theorem dX5_growOne_87 : decode cX5_growOne 87 = .ok (.istore_n 3, 1) := by decide +kernel
theorem dX5_growOne_88 : decode cX5_growOne 88 = .ok (.iload 8, 2) := by decide +kernel
theorem dX5_growOne_90 : decode cX5_growOne 90 = .ok (.istore 4, 2) := by decide +kernel
theorem dX5_growOne_92 : decode cX5_growOne 92 = .ok (.iload 7, 2) := by decide +kernel
theorem dX5_growOne_94 : decode cX5_growOne 94 = .ok (.istore 5, 2) := by decide +kernel
theorem dX5_growOne_96 : decode cX5_growOne 96 = .ok (.iinc 8 1, 3) := by decide +kernel
theorem dX5_growOne_99 : decode cX5_growOne 99 = .ok (.goto (-76), 3) := by decide +kernel
theorem dX5_growOne_102 : decode cX5_growOne 102 = .ok (.iinc 6 1, 3) := by decide +kernel
theorem dX5_growOne_105 : decode cX5_growOne 105 = .ok (.goto (-94), 3) := by decide +kernel
theorem dX5_growOne_108 : decode cX5_growOne 108 = .ok (.aload_n 0, 1) := by decide +kernel
theorem dX5_growOne_109 : decode cX5_growOne 109 = .ok (.getfield 9, 3) := by decide +kernel
theorem dX5_growOne_112 : decode cX5_growOne 112 = .ok (.iload_n 3, 1) := by decide +kernel
theorem dX5_growOne_113 : decode cX5_growOne 113 = .ok (.iconst (-1), 1) := by decide +kernel
theorem dX5_growOne_114 : decode cX5_growOne 114 = .ok (.if_icmp .ne 10, 3) := by decide +kernel
theorem dX5_growOne_117 : decode cX5_growOne 117 = .ok (.aload_n 0, 1) := by decide +kernel
theorem dX5_growOne_118 : decode cX5_growOne 118 = .ok (.invokevirtual 33, 3) := by decide +kernel
theorem dX5_growOne_121 : decode cX5_growOne 121 = .ok (.goto 4, 3) := by decide +kernel
theorem dX5_growOne_124 : decode cX5_growOne 124 = .ok (.iload_n 3, 1) := by decide +kernel
theorem dX5_growOne_125 : decode cX5_growOne 125 = .ok (.dup2, 1) := by decide +kernel
theorem dX5_growOne_126 : decode cX5_growOne 126 = .ok (.iaload, 1) := by decide +kernel
theorem dX5_growOne_127 : decode cX5_growOne 127 = .ok (.iload 4, 2) := by decide +kernel
theorem dX5_growOne_129 : decode cX5_growOne 129 = .ok (.iadd, 1) := by decide +kernel
theorem dX5_growOne_130 : decode cX5_growOne 130 = .ok (.iastore, 1) := by decide +kernel
theorem dX5_growOne_131 : decode cX5_growOne 131 = .ok (.iload 4, 2) := by decide +kernel
theorem dX5_growOne_133 : decode cX5_growOne 133 = .ok (.ireturn, 1) := by decide +kernel
theorem dX5_lowest_0 : decode cX5_lowest 0 = .ok (.iconst 0, 1) := by decide +kernel
theorem dX5_lowest_1 : decode cX5_lowest 1 = .ok (.istore_n 1, 1) := by decide +kernel
theorem dX5_lowest_2 : decode cX5_lowest 2 = .ok (.iconst 1, 1) := by decide +kernel
theorem dX5_lowest_3 : decode cX5_lowest 3 = .ok (.istore_n 2, 1) := by decide +kernel
theorem dX5_lowest_4 : decode cX5_lowest 4 = .ok (.iload_n 2, 1) := by decide +kernel
theorem dX5_lowest_5 : decode cX5_lowest 5 = .ok (.iconst 4, 1) := by decide +kernel
theorem dX5_lowest_6 : decode cX5_lowest 6 = .ok (.if_icmp .ge 26, 3) := by decide +kernel
theorem dX5_lowest_9 : decode cX5_lowest 9 = .ok (.aload_n 0, 1) := by decide +kernel
theorem dX5_lowest_10 : decode cX5_lowest 10 = .ok (.getfield 9, 3) := by decide +kernel
theorem dX5_lowest_13 : decode cX5_lowest 13 = .ok (.iload_n 2, 1) := by decide +kernel
theorem dX5_lowest_14 : decode cX5_lowest 14 = .ok (.iaload, 1) := by decide +kernel
theorem dX5_lowest_15 : decode cX5_lowest 15 = .ok (.aload_n 0, 1) := by decide +kernel
theorem dX5_lowest_16 : decode cX5_lowest 16 = .ok (.getfield 9, 3) := by decide +kernel
theorem dX5_lowest_19 : decode cX5_lowest 19 = .ok (.iload_n 1, 1) := by decide +kernel
theorem dX5_lowest_20 : decode cX5_lowest 20 = .ok (.iaload, 1) := by decide +kernel
theorem dX5_lowest_21 : decode cX5_lowest 21 = .ok (.if_icmp .ge 5, 3) := by decide +kernel
theorem dX5_lowest_24 : decode cX5_lowest 24 = .ok (.iload_n 2, 1) := by decide +kernel
theorem dX5_lowest_25 : decode cX5_lowest 25 = .ok (.istore_n 1, 1) := by decide +kernel
theorem dX5_lowest_26 : decode cX5_lowest 26 = .ok (.iinc 2 1, 3) := by decide +kernel
theorem dX5_lowest_29 : decode cX5_lowest 29 = .ok (.goto (-25), 3) := by decide +kernel
theorem dX5_lowest_32 : decode cX5_lowest 32 = .ok (.iload_n 1, 1) := by decide +kernel
theorem dX5_lowest_33 : decode cX5_lowest 33 = .ok (.ireturn, 1) := by decide +kernel
