theorem dL_access_0 : decode cL_access 0 = .ok (.aload_n 3, 1) := by decide +kernel
theorem dL_access_1 : decode cL_access 1 = .ok (.iconst 0, 1) := by decide +kernel
theorem dL_access_2 : decode cL_access 2 = .ok (.aload_n 0, 1) := by decide +kernel
theorem dL_access_3 : decode cL_access 3 = .ok (.iload_n 1, 1) := by decide +kernel
theorem dL_access_4 : decode cL_access 4 = .ok (.iload_n 2, 1) := by decide +kernel
theorem dL_access_5 : decode cL_access 5 = .ok (.invokevirtual 7, 3) := by decide +kernel
theorem dL_access_8 : decode cL_access 8 = .ok (.i2l, 1) := by decide +kernel
theorem dL_access_9 : decode cL_access 9 = .ok (.lastore, 1) := by decide +kernel
theorem dL_access_10 : decode cL_access 10 = .ok (.goto 11, 3) := by decide +kernel
theorem dL_access_13 : decode cL_access 13 = .ok (.astore 4, 2) := by decide +kernel
theorem dL_access_15 : decode cL_access 15 = .ok (.iconst 1, 1) := by decide +kernel
theorem dL_access_16 : decode cL_access 16 = .ok (.ireturn, 1) := by decide +kernel
theorem dL_access_17 : decode cL_access 17 = .ok (.astore 4, 2) := by decide +kernel
theorem dL_access_19 : decode cL_access 19 = .ok (.iconst 2, 1) := by decide +kernel
theorem dL_access_20 : decode cL_access 20 = .ok (.ireturn, 1) := by decide +kernel
theorem dL_access_21 : decode cL_access 21 = .ok (.iconst 0, 1) := by decide +kernel
theorem dL_access_22 : decode cL_access 22 = .ok (.ireturn, 1) := by decide +kernel
theorem dL_stream_0 : decode cL_stream 0 = .ok (.aload 5, 2) := by decide +kernel
theorem dL_stream_2 : decode cL_stream 2 = .ok (.iconst 0, 1) := by decide +kernel
theorem dL_stream_3 : decode cL_stream 3 = .ok (.aload_n 0, 1) := by decide +kernel
theorem dL_stream_4 : decode cL_stream 4 = .ok (.iload_n 1, 1) := by decide +kernel
theorem dL_stream_5 : decode cL_stream 5 = .ok (.iload_n 2, 1) := by decide +kernel
theorem dL_stream_6 : decode cL_stream 6 = .ok (.iload_n 3, 1) := by decide +kernel
theorem dL_stream_7 : decode cL_stream 7 = .ok (.iload 4, 2) := by decide +kernel
theorem dL_stream_9 : decode cL_stream 9 = .ok (.invokevirtual 17, 3) := by decide +kernel
theorem dL_stream_12 : decode cL_stream 12 = .ok (.i2l, 1) := by decide +kernel
theorem dL_stream_13 : decode cL_stream 13 = .ok (.lastore, 1) := by decide +kernel
theorem dL_stream_14 : decode cL_stream 14 = .ok (.goto 11, 3) := by decide +kernel
theorem dL_stream_17 : decode cL_stream 17 = .ok (.astore 6, 2) := by decide +kernel
theorem dL_stream_19 : decode cL_stream 19 = .ok (.iconst 1, 1) := by decide +kernel
theorem dL_stream_20 : decode cL_stream 20 = .ok (.ireturn, 1) := by decide +kernel
theorem dL_stream_21 : decode cL_stream 21 = .ok (.astore 6, 2) := by decide +kernel
theorem dL_stream_23 : decode cL_stream 23 = .ok (.iconst 2, 1) := by decide +kernel
theorem dL_stream_24 : decode cL_stream 24 = .ok (.ireturn, 1) := by decide +kernel
theorem dL_stream_25 : decode cL_stream 25 = .ok (.iconst 0, 1) := by decide +kernel
theorem dL_stream_26 : decode cL_stream 26 = .ok (.ireturn, 1) := by decide +kernel
theorem dL_flush_0 : decode cL_flush 0 = .ok (.aload_n 2, 1) := by decide +kernel
theorem dL_flush_1 : decode cL_flush 1 = .ok (.iconst 0, 1) := by decide +kernel
theorem dL_flush_2 : decode cL_flush 2 = .ok (.aload_n 0, 1) := by decide +kernel
theorem dL_flush_3 : decode cL_flush 3 = .ok (.iload_n 1, 1) := by decide +kernel
theorem dL_flush_4 : decode cL_flush 4 = .ok (.invokevirtual 21, 3) := by decide +kernel
theorem dL_flush_7 : decode cL_flush 7 = .ok (.i2l, 1) := by decide +kernel
theorem dL_flush_8 : decode cL_flush 8 = .ok (.lastore, 1) := by decide +kernel
theorem dL_flush_9 : decode cL_flush 9 = .ok (.goto 6, 3) := by decide +kernel
theorem dL_flush_12 : decode cL_flush 12 = .ok (.astore_n 3, 1) := by decide +kernel
theorem dL_flush_13 : decode cL_flush 13 = .ok (.iconst 1, 1) := by decide +kernel
theorem dL_flush_14 : decode cL_flush 14 = .ok (.ireturn, 1) := by decide +kernel
theorem dL_flush_15 : decode cL_flush 15 = .ok (.iconst 0, 1) := by decide +kernel
theorem dL_flush_16 : decode cL_flush 16 = .ok (.ireturn, 1) := by decide +kernel
theorem dL_giveWay_0 : decode cL_giveWay 0 = .ok (.aload_n 3, 1) := by decide +kernel
theorem dL_giveWay_1 : decode cL_giveWay 1 = .ok (.iconst 0, 1) := by decide +kernel
theorem dL_giveWay_2 : decode cL_giveWay 2 = .ok (.aload_n 0, 1) := by decide +kernel
theorem dL_giveWay_3 : decode cL_giveWay 3 = .ok (.iload_n 1, 1) := by decide +kernel
theorem dL_giveWay_4 : decode cL_giveWay 4 = .ok (.iload_n 2, 1) := by decide +kernel
theorem dL_giveWay_5 : decode cL_giveWay 5 = .ok (.invokevirtual 25, 3) := by decide +kernel
theorem dL_giveWay_8 : decode cL_giveWay 8 = .ok (.i2l, 1) := by decide +kernel
theorem dL_giveWay_9 : decode cL_giveWay 9 = .ok (.lastore, 1) := by decide +kernel
theorem dL_giveWay_10 : decode cL_giveWay 10 = .ok (.goto 7, 3) := by decide +kernel
theorem dL_giveWay_13 : decode cL_giveWay 13 = .ok (.astore 4, 2) := by decide +kernel
theorem dL_giveWay_15 : decode cL_giveWay 15 = .ok (.iconst 1, 1) := by decide +kernel
theorem dL_giveWay_16 : decode cL_giveWay 16 = .ok (.ireturn, 1) := by decide +kernel
theorem dL_giveWay_17 : decode cL_giveWay 17 = .ok (.iconst 0, 1) := by decide +kernel
theorem dL_giveWay_18 : decode cL_giveWay 18 = .ok (.ireturn, 1) := by decide +kernel
theorem dL_setLeast_0 : decode cL_setLeast 0 = .ok (.aload_n 3, 1) := by decide +kernel
theorem dL_setLeast_1 : decode cL_setLeast 1 = .ok (.iconst 0, 1) := by decide +kernel
theorem dL_setLeast_2 : decode cL_setLeast 2 = .ok (.aload_n 0, 1) := by decide +kernel
theorem dL_setLeast_3 : decode cL_setLeast 3 = .ok (.iload_n 1, 1) := by decide +kernel
theorem dL_setLeast_4 : decode cL_setLeast 4 = .ok (.iload_n 2, 1) := by decide +kernel
theorem dL_setLeast_5 : decode cL_setLeast 5 = .ok (.invokevirtual 28, 3) := by decide +kernel
theorem dL_setLeast_8 : decode cL_setLeast 8 = .ok (.i2l, 1) := by decide +kernel
theorem dL_setLeast_9 : decode cL_setLeast 9 = .ok (.lastore, 1) := by decide +kernel
theorem dL_setLeast_10 : decode cL_setLeast 10 = .ok (.goto 11, 3) := by decide +kernel
theorem dL_setLeast_13 : decode cL_setLeast 13 = .ok (.astore 4, 2) := by decide +kernel
theorem dL_setLeast_15 : decode cL_setLeast 15 = .ok (.iconst 1, 1) := by decide +kernel
theorem dL_setLeast_16 : decode cL_setLeast 16 = .ok (.ireturn, 1) := by decide +kernel
theorem dL_setLeast_17 : decode cL_setLeast 17 = .ok (.astore 4, 2) := by decide +kernel
theorem dL_setLeast_19 : decode cL_setLeast 19 = .ok (.iconst 2, 1) := by decide +kernel
theorem dL_setLeast_20 : decode cL_setLeast 20 = .ok (.ireturn, 1) := by decide +kernel
theorem dL_setLeast_21 : decode cL_setLeast 21 = .ok (.iconst 0, 1) := by decide +kernel
theorem dL_setLeast_22 : decode cL_setLeast 22 = .ok (.ireturn, 1) := by decide +kernel
theorem dL_setEpoch_0 : decode cL_setEpoch 0 = .ok (.aload_n 2, 1) := by decide +kernel
theorem dL_setEpoch_1 : decode cL_setEpoch 1 = .ok (.iconst 0, 1) := by decide +kernel
theorem dL_setEpoch_2 : decode cL_setEpoch 2 = .ok (.aload_n 0, 1) := by decide +kernel
theorem dL_setEpoch_3 : decode cL_setEpoch 3 = .ok (.iload_n 1, 1) := by decide +kernel
theorem dL_setEpoch_4 : decode cL_setEpoch 4 = .ok (.invokevirtual 31, 3) := by decide +kernel
theorem dL_setEpoch_7 : decode cL_setEpoch 7 = .ok (.i2l, 1) := by decide +kernel
theorem dL_setEpoch_8 : decode cL_setEpoch 8 = .ok (.lastore, 1) := by decide +kernel
theorem dL_setEpoch_9 : decode cL_setEpoch 9 = .ok (.goto 6, 3) := by decide +kernel
theorem dL_setEpoch_12 : decode cL_setEpoch 12 = .ok (.astore_n 3, 1) := by decide +kernel
theorem dL_setEpoch_13 : decode cL_setEpoch 13 = .ok (.iconst 1, 1) := by decide +kernel
theorem dL_setEpoch_14 : decode cL_setEpoch 14 = .ok (.ireturn, 1) := by decide +kernel
theorem dL_setEpoch_15 : decode cL_setEpoch 15 = .ok (.iconst 0, 1) := by decide +kernel
theorem dL_setEpoch_16 : decode cL_setEpoch 16 = .ok (.ireturn, 1) := by decide +kernel
theorem dL_appendText_0 : decode cL_appendText 0 = .ok (.aload_n 2, 1) := by decide +kernel
theorem dL_appendText_1 : decode cL_appendText 1 = .ok (.iconst 0, 1) := by decide +kernel
theorem dL_appendText_2 : decode cL_appendText 2 = .ok (.aload_n 0, 1) := by decide +kernel
theorem dL_appendText_3 : decode cL_appendText 3 = .ok (.iload_n 1, 1) := by decide +kernel
theorem dL_appendText_4 : decode cL_appendText 4 = .ok (.invokevirtual 34, 3) := by decide +kernel
theorem dL_appendText_7 : decode cL_appendText 7 = .ok (.i2l, 1) := by decide +kernel
theorem dL_appendText_8 : decode cL_appendText 8 = .ok (.lastore, 1) := by decide +kernel
theorem dL_appendText_9 : decode cL_appendText 9 = .ok (.goto 9, 3) := by decide +kernel
theorem dL_appendText_12 : decode cL_appendText 12 = .ok (.astore_n 3, 1) := by decide +kernel
theorem dL_appendText_13 : decode cL_appendText 13 = .ok (.iconst 1, 1) := by decide +kernel
theorem dL_appendText_14 : decode cL_appendText 14 = .ok (.ireturn, 1) := by decide +kernel
theorem dL_appendText_15 : decode cL_appendText 15 = .ok (.astore_n 3, 1) := by decide +kernel
theorem dL_appendText_16 : decode cL_appendText 16 = .ok (.iconst 2, 1) := by decide +kernel
theorem dL_appendText_17 : decode cL_appendText 17 = .ok (.ireturn, 1) := by decide +kernel
theorem dL_appendText_18 : decode cL_appendText 18 = .ok (.iconst 0, 1) := by decide +kernel
theorem dL_appendText_19 : decode cL_appendText 19 = .ok (.ireturn, 1) := by decide +kernel
theorem dL_runText_0 : decode cL_runText 0 = .ok (.aload_n 1, 1) := by decide +kernel
theorem dL_runText_1 : decode cL_runText 1 = .ok (.iconst 0, 1) := by decide +kernel
theorem dL_runText_2 : decode cL_runText 2 = .ok (.aload_n 0, 1) := by decide +kernel
theorem dL_runText_3 : decode cL_runText 3 = .ok (.invokevirtual 39, 3) := by decide +kernel
theorem dL_runText_6 : decode cL_runText 6 = .ok (.i2l, 1) := by decide +kernel
theorem dL_runText_7 : decode cL_runText 7 = .ok (.lastore, 1) := by decide +kernel
theorem dL_runText_8 : decode cL_runText 8 = .ok (.goto 6, 3) := by decide +kernel
theorem dL_runText_11 : decode cL_runText 11 = .ok (.astore_n 2, 1) := by decide +kernel
theorem dL_runText_12 : decode cL_runText 12 = .ok (.iconst 1, 1) := by decide +kernel
theorem dL_runText_13 : decode cL_runText 13 = .ok (.ireturn, 1) := by decide +kernel
theorem dL_runText_14 : decode cL_runText 14 = .ok (.iconst 0, 1) := by decide +kernel
theorem dL_runText_15 : decode cL_runText 15 = .ok (.ireturn, 1) := by decide +kernel
theorem dL_undo_0 : decode cL_undo 0 = .ok (.aload_n 1, 1) := by decide +kernel
theorem dL_undo_1 : decode cL_undo 1 = .ok (.iconst 0, 1) := by decide +kernel
theorem dL_undo_2 : decode cL_undo 2 = .ok (.aload_n 0, 1) := by decide +kernel
theorem dL_undo_3 : decode cL_undo 3 = .ok (.invokevirtual 43, 3) := by decide +kernel
theorem dL_undo_6 : decode cL_undo 6 = .ok (.i2l, 1) := by decide +kernel
theorem dL_undo_7 : decode cL_undo 7 = .ok (.lastore, 1) := by decide +kernel
theorem dL_undo_8 : decode cL_undo 8 = .ok (.goto 6, 3) := by decide +kernel
theorem dL_undo_11 : decode cL_undo 11 = .ok (.astore_n 2, 1) := by decide +kernel
theorem dL_undo_12 : decode cL_undo 12 = .ok (.iconst 1, 1) := by decide +kernel
theorem dL_undo_13 : decode cL_undo 13 = .ok (.ireturn, 1) := by decide +kernel
theorem dL_undo_14 : decode cL_undo 14 = .ok (.iconst 0, 1) := by decide +kernel
theorem dL_undo_15 : decode cL_undo 15 = .ok (.ireturn, 1) := by decide +kernel
theorem dL_save_0 : decode cL_save 0 = .ok (.aload_n 2, 1) := by decide +kernel
theorem dL_save_1 : decode cL_save 1 = .ok (.iconst 0, 1) := by decide +kernel
theorem dL_save_2 : decode cL_save 2 = .ok (.aload_n 0, 1) := by decide +kernel
theorem dL_save_3 : decode cL_save 3 = .ok (.iload_n 1, 1) := by decide +kernel
theorem dL_save_4 : decode cL_save 4 = .ok (.invokevirtual 46, 3) := by decide +kernel
theorem dL_save_7 : decode cL_save 7 = .ok (.i2l, 1) := by decide +kernel
theorem dL_save_8 : decode cL_save 8 = .ok (.lastore, 1) := by decide +kernel
theorem dL_save_9 : decode cL_save 9 = .ok (.goto 6, 3) := by decide +kernel
theorem dL_save_12 : decode cL_save 12 = .ok (.astore_n 3, 1) := by decide +kernel
theorem dL_save_13 : decode cL_save 13 = .ok (.iconst 1, 1) := by decide +kernel
theorem dL_save_14 : decode cL_save 14 = .ok (.ireturn, 1) := by decide +kernel
theorem dL_save_15 : decode cL_save 15 = .ok (.iconst 0, 1) := by decide +kernel
theorem dL_save_16 : decode cL_save 16 = .ok (.ireturn, 1) := by decide +kernel
theorem dL_restore_0 : decode cL_restore 0 = .ok (.aload_n 2, 1) := by decide +kernel
theorem dL_restore_1 : decode cL_restore 1 = .ok (.iconst 0, 1) := by decide +kernel
theorem dL_restore_2 : decode cL_restore 2 = .ok (.aload_n 0, 1) := by decide +kernel
theorem dL_restore_3 : decode cL_restore 3 = .ok (.iload_n 1, 1) := by decide +kernel
theorem dL_restore_4 : decode cL_restore 4 = .ok (.invokevirtual 49, 3) := by decide +kernel
theorem dL_restore_7 : decode cL_restore 7 = .ok (.i2l, 1) := by decide +kernel
theorem dL_restore_8 : decode cL_restore 8 = .ok (.lastore, 1) := by decide +kernel
theorem dL_restore_9 : decode cL_restore 9 = .ok (.goto 9, 3) := by decide +kernel
theorem dL_restore_12 : decode cL_restore 12 = .ok (.astore_n 3, 1) := by decide +kernel
theorem dL_restore_13 : decode cL_restore 13 = .ok (.iconst 1, 1) := by decide +kernel
theorem dL_restore_14 : decode cL_restore 14 = .ok (.ireturn, 1) := by decide +kernel
theorem dL_restore_15 : decode cL_restore 15 = .ok (.astore_n 3, 1) := by decide +kernel
theorem dL_restore_16 : decode cL_restore 16 = .ok (.iconst 2, 1) := by decide +kernel
theorem dL_restore_17 : decode cL_restore 17 = .ok (.ireturn, 1) := by decide +kernel
theorem dL_restore_18 : decode cL_restore 18 = .ok (.iconst 0, 1) := by decide +kernel
theorem dL_restore_19 : decode cL_restore 19 = .ok (.ireturn, 1) := by decide +kernel
theorem dL_owner_0 : decode cL_owner 0 = .ok (.aload_n 2, 1) := by decide +kernel
theorem dL_owner_1 : decode cL_owner 1 = .ok (.iconst 0, 1) := by decide +kernel
theorem dL_owner_2 : decode cL_owner 2 = .ok (.aload_n 0, 1) := by decide +kernel
theorem dL_owner_3 : decode cL_owner 3 = .ok (.iload_n 1, 1) := by decide +kernel
theorem dL_owner_4 : decode cL_owner 4 = .ok (.invokevirtual 52, 3) := by decide +kernel
theorem dL_owner_7 : decode cL_owner 7 = .ok (.i2l, 1) := by decide +kernel
theorem dL_owner_8 : decode cL_owner 8 = .ok (.lastore, 1) := by decide +kernel
theorem dL_owner_9 : decode cL_owner 9 = .ok (.goto 6, 3) := by decide +kernel
theorem dL_owner_12 : decode cL_owner 12 = .ok (.astore_n 3, 1) := by decide +kernel
theorem dL_owner_13 : decode cL_owner 13 = .ok (.iconst 1, 1) := by decide +kernel
theorem dL_owner_14 : decode cL_owner 14 = .ok (.ireturn, 1) := by decide +kernel
theorem dL_owner_15 : decode cL_owner 15 = .ok (.iconst 0, 1) := by decide +kernel
theorem dL_owner_16 : decode cL_owner 16 = .ok (.ireturn, 1) := by decide +kernel
theorem dL_waysOf_0 : decode cL_waysOf 0 = .ok (.aload_n 2, 1) := by decide +kernel
theorem dL_waysOf_1 : decode cL_waysOf 1 = .ok (.iconst 0, 1) := by decide +kernel
theorem dL_waysOf_2 : decode cL_waysOf 2 = .ok (.aload_n 0, 1) := by decide +kernel
theorem dL_waysOf_3 : decode cL_waysOf 3 = .ok (.iload_n 1, 1) := by decide +kernel
theorem dL_waysOf_4 : decode cL_waysOf 4 = .ok (.invokevirtual 55, 3) := by decide +kernel
theorem dL_waysOf_7 : decode cL_waysOf 7 = .ok (.i2l, 1) := by decide +kernel
theorem dL_waysOf_8 : decode cL_waysOf 8 = .ok (.lastore, 1) := by decide +kernel
theorem dL_waysOf_9 : decode cL_waysOf 9 = .ok (.goto 6, 3) := by decide +kernel
theorem dL_waysOf_12 : decode cL_waysOf 12 = .ok (.astore_n 3, 1) := by decide +kernel
theorem dL_waysOf_13 : decode cL_waysOf 13 = .ok (.iconst 1, 1) := by decide +kernel
theorem dL_waysOf_14 : decode cL_waysOf 14 = .ok (.ireturn, 1) := by decide +kernel
theorem dL_waysOf_15 : decode cL_waysOf 15 = .ok (.iconst 0, 1) := by decide +kernel
theorem dL_waysOf_16 : decode cL_waysOf 16 = .ok (.ireturn, 1) := by decide +kernel
theorem dL_line_0 : decode cL_line 0 = .ok (.aload_n 3, 1) := by decide +kernel
theorem dL_line_1 : decode cL_line 1 = .ok (.iconst 0, 1) := by decide +kernel
theorem dL_line_2 : decode cL_line 2 = .ok (.aload_n 0, 1) := by decide +kernel
theorem dL_line_3 : decode cL_line 3 = .ok (.iload_n 1, 1) := by decide +kernel
theorem dL_line_4 : decode cL_line 4 = .ok (.iload_n 2, 1) := by decide +kernel
theorem dL_line_5 : decode cL_line 5 = .ok (.invokevirtual 58, 3) := by decide +kernel
theorem dL_line_8 : decode cL_line 8 = .ok (.i2l, 1) := by decide +kernel
theorem dL_line_9 : decode cL_line 9 = .ok (.lastore, 1) := by decide +kernel
theorem dL_line_10 : decode cL_line 10 = .ok (.goto 7, 3) := by decide +kernel
theorem dL_line_13 : decode cL_line 13 = .ok (.astore 4, 2) := by decide +kernel
theorem dL_line_15 : decode cL_line 15 = .ok (.iconst 1, 1) := by decide +kernel
theorem dL_line_16 : decode cL_line 16 = .ok (.ireturn, 1) := by decide +kernel
theorem dL_line_17 : decode cL_line 17 = .ok (.iconst 0, 1) := by decide +kernel
theorem dL_line_18 : decode cL_line 18 = .ok (.ireturn, 1) := by decide +kernel
theorem dL_lines_0 : decode cL_lines 0 = .ok (.aload_n 3, 1) := by decide +kernel
theorem dL_lines_1 : decode cL_lines 1 = .ok (.iconst 0, 1) := by decide +kernel
theorem dL_lines_2 : decode cL_lines 2 = .ok (.aload_n 0, 1) := by decide +kernel
theorem dL_lines_3 : decode cL_lines 3 = .ok (.iload_n 1, 1) := by decide +kernel
theorem dL_lines_4 : decode cL_lines 4 = .ok (.iload_n 2, 1) := by decide +kernel
theorem dL_lines_5 : decode cL_lines 5 = .ok (.invokevirtual 61, 3) := by decide +kernel
theorem dL_lines_8 : decode cL_lines 8 = .ok (.i2l, 1) := by decide +kernel
theorem dL_lines_9 : decode cL_lines 9 = .ok (.lastore, 1) := by decide +kernel
theorem dL_lines_10 : decode cL_lines 10 = .ok (.goto 7, 3) := by decide +kernel
theorem dL_lines_13 : decode cL_lines 13 = .ok (.astore 4, 2) := by decide +kernel
theorem dL_lines_15 : decode cL_lines 15 = .ok (.iconst 1, 1) := by decide +kernel
theorem dL_lines_16 : decode cL_lines 16 = .ok (.ireturn, 1) := by decide +kernel
theorem dL_lines_17 : decode cL_lines 17 = .ok (.iconst 0, 1) := by decide +kernel
theorem dL_lines_18 : decode cL_lines 18 = .ok (.ireturn, 1) := by decide +kernel
theorem dL_ifAccessed_0 : decode cL_ifAccessed 0 = .ok (.aload_n 3, 1) := by decide +kernel
theorem dL_ifAccessed_1 : decode cL_ifAccessed 1 = .ok (.iconst 0, 1) := by decide +kernel
theorem dL_ifAccessed_2 : decode cL_ifAccessed 2 = .ok (.aload_n 0, 1) := by decide +kernel
theorem dL_ifAccessed_3 : decode cL_ifAccessed 3 = .ok (.iload_n 1, 1) := by decide +kernel
theorem dL_ifAccessed_4 : decode cL_ifAccessed 4 = .ok (.iload_n 2, 1) := by decide +kernel
theorem dL_ifAccessed_5 : decode cL_ifAccessed 5 = .ok (.invokevirtual 65, 3) := by decide +kernel
theorem dL_ifAccessed_8 : decode cL_ifAccessed 8 = .ok (.i2l, 1) := by decide +kernel
theorem dL_ifAccessed_9 : decode cL_ifAccessed 9 = .ok (.lastore, 1) := by decide +kernel
theorem dL_ifAccessed_10 : decode cL_ifAccessed 10 = .ok (.goto 11, 3) := by decide +kernel
theorem dL_ifAccessed_13 : decode cL_ifAccessed 13 = .ok (.astore 4, 2) := by decide +kernel
theorem dL_ifAccessed_15 : decode cL_ifAccessed 15 = .ok (.iconst 1, 1) := by decide +kernel
theorem dL_ifAccessed_16 : decode cL_ifAccessed 16 = .ok (.ireturn, 1) := by decide +kernel
theorem dL_ifAccessed_17 : decode cL_ifAccessed 17 = .ok (.astore 4, 2) := by decide +kernel
theorem dL_ifAccessed_19 : decode cL_ifAccessed 19 = .ok (.iconst 2, 1) := by decide +kernel
theorem dL_ifAccessed_20 : decode cL_ifAccessed 20 = .ok (.ireturn, 1) := by decide +kernel
theorem dL_ifAccessed_21 : decode cL_ifAccessed 21 = .ok (.iconst 0, 1) := by decide +kernel
theorem dL_ifAccessed_22 : decode cL_ifAccessed 22 = .ok (.ireturn, 1) := by decide +kernel
theorem dL_victim_0 : decode cL_victim 0 = .ok (.aload_n 3, 1) := by decide +kernel
theorem dL_victim_1 : decode cL_victim 1 = .ok (.iconst 0, 1) := by decide +kernel
theorem dL_victim_2 : decode cL_victim 2 = .ok (.aload_n 0, 1) := by decide +kernel
theorem dL_victim_3 : decode cL_victim 3 = .ok (.iload_n 1, 1) := by decide +kernel
theorem dL_victim_4 : decode cL_victim 4 = .ok (.iload_n 2, 1) := by decide +kernel
theorem dL_victim_5 : decode cL_victim 5 = .ok (.invokevirtual 68, 3) := by decide +kernel
theorem dL_victim_8 : decode cL_victim 8 = .ok (.i2l, 1) := by decide +kernel
theorem dL_victim_9 : decode cL_victim 9 = .ok (.lastore, 1) := by decide +kernel
theorem dL_victim_10 : decode cL_victim 10 = .ok (.goto 11, 3) := by decide +kernel
theorem dL_victim_13 : decode cL_victim 13 = .ok (.astore 4, 2) := by decide +kernel
theorem dL_victim_15 : decode cL_victim 15 = .ok (.iconst 1, 1) := by decide +kernel
theorem dL_victim_16 : decode cL_victim 16 = .ok (.ireturn, 1) := by decide +kernel
theorem dL_victim_17 : decode cL_victim 17 = .ok (.astore 4, 2) := by decide +kernel
theorem dL_victim_19 : decode cL_victim 19 = .ok (.iconst 2, 1) := by decide +kernel
theorem dL_victim_20 : decode cL_victim 20 = .ok (.ireturn, 1) := by decide +kernel
theorem dL_victim_21 : decode cL_victim 21 = .ok (.iconst 0, 1) := by decide +kernel
theorem dL_victim_22 : decode cL_victim 22 = .ok (.ireturn, 1) := by decide +kernel
theorem dL_gain_0 : decode cL_gain 0 = .ok (.aload_n 3, 1) := by decide +kernel
theorem dL_gain_1 : decode cL_gain 1 = .ok (.iconst 0, 1) := by decide +kernel
theorem dL_gain_2 : decode cL_gain 2 = .ok (.aload_n 0, 1) := by decide +kernel
theorem dL_gain_3 : decode cL_gain 3 = .ok (.iload_n 1, 1) := by decide +kernel
theorem dL_gain_4 : decode cL_gain 4 = .ok (.iload_n 2, 1) := by decide +kernel
theorem dL_gain_5 : decode cL_gain 5 = .ok (.invokevirtual 71, 3) := by decide +kernel
theorem dL_gain_8 : decode cL_gain 8 = .ok (.i2l, 1) := by decide +kernel
theorem dL_gain_9 : decode cL_gain 9 = .ok (.lastore, 1) := by decide +kernel
theorem dL_gain_10 : decode cL_gain 10 = .ok (.goto 7, 3) := by decide +kernel
theorem dL_gain_13 : decode cL_gain 13 = .ok (.astore 4, 2) := by decide +kernel
theorem dL_gain_15 : decode cL_gain 15 = .ok (.iconst 1, 1) := by decide +kernel
theorem dL_gain_16 : decode cL_gain 16 = .ok (.ireturn, 1) := by decide +kernel
theorem dL_gain_17 : decode cL_gain 17 = .ok (.iconst 0, 1) := by decide +kernel
theorem dL_gain_18 : decode cL_gain 18 = .ok (.ireturn, 1) := by decide +kernel
theorem dL_utility_0 : decode cL_utility 0 = .ok (.aload_n 3, 1) := by decide +kernel
theorem dL_utility_1 : decode cL_utility 1 = .ok (.iconst 0, 1) := by decide +kernel
theorem dL_utility_2 : decode cL_utility 2 = .ok (.aload_n 0, 1) := by decide +kernel
theorem dL_utility_3 : decode cL_utility 3 = .ok (.iload_n 1, 1) := by decide +kernel
theorem dL_utility_4 : decode cL_utility 4 = .ok (.iload_n 2, 1) := by decide +kernel
theorem dL_utility_5 : decode cL_utility 5 = .ok (.invokevirtual 74, 3) := by decide +kernel
theorem dL_utility_8 : decode cL_utility 8 = .ok (.i2l, 1) := by decide +kernel
theorem dL_utility_9 : decode cL_utility 9 = .ok (.lastore, 1) := by decide +kernel
theorem dL_utility_10 : decode cL_utility 10 = .ok (.goto 11, 3) := by decide +kernel
theorem dL_utility_13 : decode cL_utility 13 = .ok (.astore 4, 2) := by decide +kernel
theorem dL_utility_15 : decode cL_utility 15 = .ok (.iconst 1, 1) := by decide +kernel
theorem dL_utility_16 : decode cL_utility 16 = .ok (.ireturn, 1) := by decide +kernel
theorem dL_utility_17 : decode cL_utility 17 = .ok (.astore 4, 2) := by decide +kernel
theorem dL_utility_19 : decode cL_utility 19 = .ok (.iconst 2, 1) := by decide +kernel
theorem dL_utility_20 : decode cL_utility 20 = .ok (.ireturn, 1) := by decide +kernel
theorem dL_utility_21 : decode cL_utility 21 = .ok (.iconst 0, 1) := by decide +kernel
theorem dL_utility_22 : decode cL_utility 22 = .ok (.ireturn, 1) := by decide +kernel
theorem dL_monitored_0 : decode cL_monitored 0 = .ok (.aload 4, 2) := by decide +kernel
theorem dL_monitored_2 : decode cL_monitored 2 = .ok (.iconst 0, 1) := by decide +kernel
theorem dL_monitored_3 : decode cL_monitored 3 = .ok (.aload_n 0, 1) := by decide +kernel
theorem dL_monitored_4 : decode cL_monitored 4 = .ok (.iload_n 1, 1) := by decide +kernel
theorem dL_monitored_5 : decode cL_monitored 5 = .ok (.iload_n 2, 1) := by decide +kernel
theorem dL_monitored_6 : decode cL_monitored 6 = .ok (.iload_n 3, 1) := by decide +kernel
theorem dL_monitored_7 : decode cL_monitored 7 = .ok (.invokevirtual 77, 3) := by decide +kernel
theorem dL_monitored_10 : decode cL_monitored 10 = .ok (.i2l, 1) := by decide +kernel
theorem dL_monitored_11 : decode cL_monitored 11 = .ok (.lastore, 1) := by decide +kernel
theorem dL_monitored_12 : decode cL_monitored 12 = .ok (.goto 7, 3) := by decide +kernel
theorem dL_monitored_15 : decode cL_monitored 15 = .ok (.astore 5, 2) := by decide +kernel
theorem dL_monitored_17 : decode cL_monitored 17 = .ok (.iconst 1, 1) := by decide +kernel
theorem dL_monitored_18 : decode cL_monitored 18 = .ok (.ireturn, 1) := by decide +kernel
theorem dL_monitored_19 : decode cL_monitored 19 = .ok (.iconst 0, 1) := by decide +kernel
theorem dL_monitored_20 : decode cL_monitored 20 = .ok (.ireturn, 1) := by decide +kernel
theorem dL_target_0 : decode cL_target 0 = .ok (.aload_n 2, 1) := by decide +kernel
theorem dL_target_1 : decode cL_target 1 = .ok (.iconst 0, 1) := by decide +kernel
theorem dL_target_2 : decode cL_target 2 = .ok (.aload_n 0, 1) := by decide +kernel
theorem dL_target_3 : decode cL_target 3 = .ok (.iload_n 1, 1) := by decide +kernel
theorem dL_target_4 : decode cL_target 4 = .ok (.invokevirtual 81, 3) := by decide +kernel
theorem dL_target_7 : decode cL_target 7 = .ok (.i2l, 1) := by decide +kernel
theorem dL_target_8 : decode cL_target 8 = .ok (.lastore, 1) := by decide +kernel
theorem dL_target_9 : decode cL_target 9 = .ok (.goto 6, 3) := by decide +kernel
theorem dL_target_12 : decode cL_target 12 = .ok (.astore_n 3, 1) := by decide +kernel
theorem dL_target_13 : decode cL_target 13 = .ok (.iconst 1, 1) := by decide +kernel
theorem dL_target_14 : decode cL_target 14 = .ok (.ireturn, 1) := by decide +kernel
theorem dL_target_15 : decode cL_target 15 = .ok (.iconst 0, 1) := by decide +kernel
theorem dL_target_16 : decode cL_target 16 = .ok (.ireturn, 1) := by decide +kernel
theorem dL_count_0 : decode cL_count 0 = .ok (.aload_n 3, 1) := by decide +kernel
theorem dL_count_1 : decode cL_count 1 = .ok (.iconst 0, 1) := by decide +kernel
theorem dL_count_2 : decode cL_count 2 = .ok (.aload_n 0, 1) := by decide +kernel
theorem dL_count_3 : decode cL_count 3 = .ok (.iload_n 1, 1) := by decide +kernel
theorem dL_count_4 : decode cL_count 4 = .ok (.iload_n 2, 1) := by decide +kernel
theorem dL_count_5 : decode cL_count 5 = .ok (.invokevirtual 84, 3) := by decide +kernel
theorem dL_count_8 : decode cL_count 8 = .ok (.i2l, 1) := by decide +kernel
theorem dL_count_9 : decode cL_count 9 = .ok (.lastore, 1) := by decide +kernel
theorem dL_count_10 : decode cL_count 10 = .ok (.goto 11, 3) := by decide +kernel
theorem dL_count_13 : decode cL_count 13 = .ok (.astore 4, 2) := by decide +kernel
theorem dL_count_15 : decode cL_count 15 = .ok (.iconst 1, 1) := by decide +kernel
theorem dL_count_16 : decode cL_count 16 = .ok (.ireturn, 1) := by decide +kernel
theorem dL_count_17 : decode cL_count 17 = .ok (.astore 4, 2) := by decide +kernel
theorem dL_count_19 : decode cL_count 19 = .ok (.iconst 2, 1) := by decide +kernel
theorem dL_count_20 : decode cL_count 20 = .ok (.ireturn, 1) := by decide +kernel
theorem dL_count_21 : decode cL_count 21 = .ok (.iconst 0, 1) := by decide +kernel
theorem dL_count_22 : decode cL_count 22 = .ok (.ireturn, 1) := by decide +kernel
theorem dL_hitRate_0 : decode cL_hitRate 0 = .ok (.aload_n 2, 1) := by decide +kernel
theorem dL_hitRate_1 : decode cL_hitRate 1 = .ok (.iconst 0, 1) := by decide +kernel
theorem dL_hitRate_2 : decode cL_hitRate 2 = .ok (.aload_n 0, 1) := by decide +kernel
theorem dL_hitRate_3 : decode cL_hitRate 3 = .ok (.iload_n 1, 1) := by decide +kernel
theorem dL_hitRate_4 : decode cL_hitRate 4 = .ok (.invokevirtual 87, 3) := by decide +kernel
theorem dL_hitRate_7 : decode cL_hitRate 7 = .ok (.dastore, 1) := by decide +kernel
theorem dL_hitRate_8 : decode cL_hitRate 8 = .ok (.goto 6, 3) := by decide +kernel
theorem dL_hitRate_11 : decode cL_hitRate 11 = .ok (.astore_n 3, 1) := by decide +kernel
theorem dL_hitRate_12 : decode cL_hitRate 12 = .ok (.iconst 1, 1) := by decide +kernel
theorem dL_hitRate_13 : decode cL_hitRate 13 = .ok (.ireturn, 1) := by decide +kernel
theorem dL_hitRate_14 : decode cL_hitRate 14 = .ok (.iconst 0, 1) := by decide +kernel
theorem dL_hitRate_15 : decode cL_hitRate 15 = .ok (.ireturn, 1) := by decide +kernel
