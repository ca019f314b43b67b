theorem dL_keep_1 : decode cL_keep 1 = .ok (.iconst 0, 1) := by decide +kernel
theorem dL_keep_2 : decode cL_keep 2 = .ok (.aload_n 0, 1) := by decide +kernel
theorem dL_keep_3 : decode cL_keep 3 = .ok (.iload_n 1, 1) := by decide +kernel
theorem dL_keep_4 : decode cL_keep 4 = .ok (.iload_n 2, 1) := by decide +kernel
theorem dL_keep_5 : decode cL_keep 5 = .ok (.invokevirtual 60, 3) := by decide +kernel
theorem dL_keep_8 : decode cL_keep 8 = .ok (.i2l, 1) := by decide +kernel
theorem dL_keep_9 : decode cL_keep 9 = .ok (.lastore, 1) := by decide +kernel
theorem dL_keep_10 : decode cL_keep 10 = .ok (.goto 15, 3) := by decide +kernel
theorem dL_keep_13 : decode cL_keep 13 = .ok (.astore 4, 2) := by decide +kernel
theorem dL_keep_15 : decode cL_keep 15 = .ok (.iconst 1, 1) := by decide +kernel
theorem dL_keep_16 : decode cL_keep 16 = .ok (.ireturn, 1) := by decide +kernel
theorem dL_keep_17 : decode cL_keep 17 = .ok (.astore 4, 2) := by decide +kernel
theorem dL_keep_19 : decode cL_keep 19 = .ok (.iconst 2, 1) := by decide +kernel
theorem dL_keep_20 : decode cL_keep 20 = .ok (.ireturn, 1) := by decide +kernel
theorem dL_keep_21 : decode cL_keep 21 = .ok (.astore 4, 2) := by decide +kernel
theorem dL_keep_23 : decode cL_keep 23 = .ok (.iconst 3, 1) := by decide +kernel
theorem dL_keep_24 : decode cL_keep 24 = .ok (.ireturn, 1) := by decide +kernel
theorem dL_keep_25 : decode cL_keep 25 = .ok (.iconst 0, 1) := by decide +kernel
theorem dL_keep_26 : decode cL_keep 26 = .ok (.ireturn, 1) := by decide +kernel
theorem dL_cell_0 : decode cL_cell 0 = .ok (.aload 4, 2) := by decide +kernel
theorem dL_cell_2 : decode cL_cell 2 = .ok (.iconst 0, 1) := by decide +kernel
theorem dL_cell_3 : decode cL_cell 3 = .ok (.aload_n 0, 1) := by decide +kernel
theorem dL_cell_4 : decode cL_cell 4 = .ok (.iload_n 1, 1) := by decide +kernel
theorem dL_cell_5 : decode cL_cell 5 = .ok (.iload_n 2, 1) := by decide +kernel
theorem dL_cell_6 : decode cL_cell 6 = .ok (.iload_n 3, 1) := by decide +kernel
theorem dL_cell_7 : decode cL_cell 7 = .ok (.invokevirtual 63, 3) := by decide +kernel
theorem dL_cell_10 : decode cL_cell 10 = .ok (.i2l, 1) := by decide +kernel
theorem dL_cell_11 : decode cL_cell 11 = .ok (.lastore, 1) := by decide +kernel
theorem dL_cell_12 : decode cL_cell 12 = .ok (.goto 15, 3) := by decide +kernel
theorem dL_cell_15 : decode cL_cell 15 = .ok (.astore 5, 2) := by decide +kernel
theorem dL_cell_17 : decode cL_cell 17 = .ok (.iconst 1, 1) := by decide +kernel
theorem dL_cell_18 : decode cL_cell 18 = .ok (.ireturn, 1) := by decide +kernel
theorem dL_cell_19 : decode cL_cell 19 = .ok (.astore 5, 2) := by decide +kernel
theorem dL_cell_21 : decode cL_cell 21 = .ok (.iconst 2, 1) := by decide +kernel
theorem dL_cell_22 : decode cL_cell 22 = .ok (.ireturn, 1) := by decide +kernel
theorem dL_cell_23 : decode cL_cell 23 = .ok (.astore 5, 2) := by decide +kernel
theorem dL_cell_25 : decode cL_cell 25 = .ok (.iconst 3, 1) := by decide +kernel
theorem dL_cell_26 : decode cL_cell 26 = .ok (.ireturn, 1) := by decide +kernel
theorem dL_cell_27 : decode cL_cell 27 = .ok (.iconst 0, 1) := by decide +kernel
theorem dL_cell_28 : decode cL_cell 28 = .ok (.ireturn, 1) := by decide +kernel
theorem dL_size_0 : decode cL_size 0 = .ok (.aload_n 2, 1) := by decide +kernel
theorem dL_size_1 : decode cL_size 1 = .ok (.iconst 0, 1) := by decide +kernel
theorem dL_size_2 : decode cL_size 2 = .ok (.aload_n 0, 1) := by decide +kernel
theorem dL_size_3 : decode cL_size 3 = .ok (.iload_n 1, 1) := by decide +kernel
theorem dL_size_4 : decode cL_size 4 = .ok (.invokevirtual 67, 3) := by decide +kernel
theorem dL_size_7 : decode cL_size 7 = .ok (.i2l, 1) := by decide +kernel
theorem dL_size_8 : decode cL_size 8 = .ok (.lastore, 1) := by decide +kernel
theorem dL_size_9 : decode cL_size 9 = .ok (.goto 6, 3) := by decide +kernel
theorem dL_size_12 : decode cL_size 12 = .ok (.astore_n 3, 1) := by decide +kernel
theorem dL_size_13 : decode cL_size 13 = .ok (.iconst 1, 1) := by decide +kernel
theorem dL_size_14 : decode cL_size 14 = .ok (.ireturn, 1) := by decide +kernel
theorem dL_size_15 : decode cL_size 15 = .ok (.iconst 0, 1) := by decide +kernel
theorem dL_size_16 : decode cL_size 16 = .ok (.ireturn, 1) := by decide +kernel
theorem dL_layouts_0 : decode cL_layouts 0 = .ok (.aload_n 2, 1) := by decide +kernel
theorem dL_layouts_1 : decode cL_layouts 1 = .ok (.iconst 0, 1) := by decide +kernel
theorem dL_layouts_2 : decode cL_layouts 2 = .ok (.aload_n 0, 1) := by decide +kernel
theorem dL_layouts_3 : decode cL_layouts 3 = .ok (.iload_n 1, 1) := by decide +kernel
theorem dL_layouts_4 : decode cL_layouts 4 = .ok (.invokevirtual 70, 3) := by decide +kernel
theorem dL_layouts_7 : decode cL_layouts 7 = .ok (.i2l, 1) := by decide +kernel
theorem dL_layouts_8 : decode cL_layouts 8 = .ok (.lastore, 1) := by decide +kernel
theorem dL_layouts_9 : decode cL_layouts 9 = .ok (.goto 6, 3) := by decide +kernel
theorem dL_layouts_12 : decode cL_layouts 12 = .ok (.astore_n 3, 1) := by decide +kernel
theorem dL_layouts_13 : decode cL_layouts 13 = .ok (.iconst 1, 1) := by decide +kernel
theorem dL_layouts_14 : decode cL_layouts 14 = .ok (.ireturn, 1) := by decide +kernel
theorem dL_layouts_15 : decode cL_layouts 15 = .ok (.iconst 0, 1) := by decide +kernel
theorem dL_layouts_16 : decode cL_layouts 16 = .ok (.ireturn, 1) := by decide +kernel
theorem dL_print_0 : decode cL_print 0 = .ok (.aload 5, 2) := by decide +kernel
theorem dL_print_2 : decode cL_print 2 = .ok (.iconst 0, 1) := by decide +kernel
theorem dL_print_3 : decode cL_print 3 = .ok (.aload_n 0, 1) := by decide +kernel
theorem dL_print_4 : decode cL_print 4 = .ok (.iload_n 1, 1) := by decide +kernel
theorem dL_print_5 : decode cL_print 5 = .ok (.iload_n 2, 1) := by decide +kernel
theorem dL_print_6 : decode cL_print 6 = .ok (.iload_n 3, 1) := by decide +kernel
theorem dL_print_7 : decode cL_print 7 = .ok (.iload 4, 2) := by decide +kernel
theorem dL_print_9 : decode cL_print 9 = .ok (.invokevirtual 73, 3) := by decide +kernel
theorem dL_print_12 : decode cL_print 12 = .ok (.i2l, 1) := by decide +kernel
theorem dL_print_13 : decode cL_print 13 = .ok (.lastore, 1) := by decide +kernel
theorem dL_print_14 : decode cL_print 14 = .ok (.goto 15, 3) := by decide +kernel
theorem dL_print_17 : decode cL_print 17 = .ok (.astore 6, 2) := by decide +kernel
theorem dL_print_19 : decode cL_print 19 = .ok (.iconst 1, 1) := by decide +kernel
theorem dL_print_20 : decode cL_print 20 = .ok (.ireturn, 1) := by decide +kernel
theorem dL_print_21 : decode cL_print 21 = .ok (.astore 6, 2) := by decide +kernel
theorem dL_print_23 : decode cL_print 23 = .ok (.iconst 2, 1) := by decide +kernel
theorem dL_print_24 : decode cL_print 24 = .ok (.ireturn, 1) := by decide +kernel
theorem dL_print_25 : decode cL_print 25 = .ok (.astore 6, 2) := by decide +kernel
theorem dL_print_27 : decode cL_print 27 = .ok (.iconst 3, 1) := by decide +kernel
theorem dL_print_28 : decode cL_print 28 = .ok (.ireturn, 1) := by decide +kernel
theorem dL_print_29 : decode cL_print 29 = .ok (.iconst 0, 1) := by decide +kernel
theorem dL_print_30 : decode cL_print 30 = .ok (.ireturn, 1) := by decide +kernel
theorem dL_printByAll_0 : decode cL_printByAll 0 = .ok (.aload 5, 2) := by decide +kernel
theorem dL_printByAll_2 : decode cL_printByAll 2 = .ok (.iconst 0, 1) := by decide +kernel
theorem dL_printByAll_3 : decode cL_printByAll 3 = .ok (.aload_n 0, 1) := by decide +kernel
theorem dL_printByAll_4 : decode cL_printByAll 4 = .ok (.iload_n 1, 1) := by decide +kernel
theorem dL_printByAll_5 : decode cL_printByAll 5 = .ok (.iload_n 2, 1) := by decide +kernel
theorem dL_printByAll_6 : decode cL_printByAll 6 = .ok (.iload_n 3, 1) := by decide +kernel
theorem dL_printByAll_7 : decode cL_printByAll 7 = .ok (.iload 4, 2) := by decide +kernel
theorem dL_printByAll_9 : decode cL_printByAll 9 = .ok (.invokevirtual 77, 3) := by decide +kernel
theorem dL_printByAll_12 : decode cL_printByAll 12 = .ok (.i2l, 1) := by decide +kernel
theorem dL_printByAll_13 : decode cL_printByAll 13 = .ok (.lastore, 1) := by decide +kernel
theorem dL_printByAll_14 : decode cL_printByAll 14 = .ok (.goto 15, 3) := by decide +kernel
theorem dL_printByAll_17 : decode cL_printByAll 17 = .ok (.astore 6, 2) := by decide +kernel
theorem dL_printByAll_19 : decode cL_printByAll 19 = .ok (.iconst 1, 1) := by decide +kernel
theorem dL_printByAll_20 : decode cL_printByAll 20 = .ok (.ireturn, 1) := by decide +kernel
theorem dL_printByAll_21 : decode cL_printByAll 21 = .ok (.astore 6, 2) := by decide +kernel
theorem dL_printByAll_23 : decode cL_printByAll 23 = .ok (.iconst 2, 1) := by decide +kernel
theorem dL_printByAll_24 : decode cL_printByAll 24 = .ok (.ireturn, 1) := by decide +kernel
theorem dL_printByAll_25 : decode cL_printByAll 25 = .ok (.astore 6, 2) := by decide +kernel
theorem dL_printByAll_27 : decode cL_printByAll 27 = .ok (.iconst 3, 1) := by decide +kernel
theorem dL_printByAll_28 : decode cL_printByAll 28 = .ok (.ireturn, 1) := by decide +kernel
theorem dL_printByAll_29 : decode cL_printByAll 29 = .ok (.iconst 0, 1) := by decide +kernel
theorem dL_printByAll_30 : decode cL_printByAll 30 = .ok (.ireturn, 1) := by decide +kernel
theorem dL_printGreedy_0 : decode cL_printGreedy 0 = .ok (.aload 5, 2) := by decide +kernel
theorem dL_printGreedy_2 : decode cL_printGreedy 2 = .ok (.iconst 0, 1) := by decide +kernel
theorem dL_printGreedy_3 : decode cL_printGreedy 3 = .ok (.aload_n 0, 1) := by decide +kernel
theorem dL_printGreedy_4 : decode cL_printGreedy 4 = .ok (.iload_n 1, 1) := by decide +kernel
theorem dL_printGreedy_5 : decode cL_printGreedy 5 = .ok (.iload_n 2, 1) := by decide +kernel
theorem dL_printGreedy_6 : decode cL_printGreedy 6 = .ok (.iload_n 3, 1) := by decide +kernel
theorem dL_printGreedy_7 : decode cL_printGreedy 7 = .ok (.iload 4, 2) := by decide +kernel
theorem dL_printGreedy_9 : decode cL_printGreedy 9 = .ok (.invokevirtual 80, 3) := by decide +kernel
theorem dL_printGreedy_12 : decode cL_printGreedy 12 = .ok (.i2l, 1) := by decide +kernel
theorem dL_printGreedy_13 : decode cL_printGreedy 13 = .ok (.lastore, 1) := by decide +kernel
theorem dL_printGreedy_14 : decode cL_printGreedy 14 = .ok (.goto 15, 3) := by decide +kernel
theorem dL_printGreedy_17 : decode cL_printGreedy 17 = .ok (.astore 6, 2) := by decide +kernel
theorem dL_printGreedy_19 : decode cL_printGreedy 19 = .ok (.iconst 1, 1) := by decide +kernel
theorem dL_printGreedy_20 : decode cL_printGreedy 20 = .ok (.ireturn, 1) := by decide +kernel
theorem dL_printGreedy_21 : decode cL_printGreedy 21 = .ok (.astore 6, 2) := by decide +kernel
theorem dL_printGreedy_23 : decode cL_printGreedy 23 = .ok (.iconst 2, 1) := by decide +kernel
theorem dL_printGreedy_24 : decode cL_printGreedy 24 = .ok (.ireturn, 1) := by decide +kernel
theorem dL_printGreedy_25 : decode cL_printGreedy 25 = .ok (.astore 6, 2) := by decide +kernel
theorem dL_printGreedy_27 : decode cL_printGreedy 27 = .ok (.iconst 3, 1) := by decide +kernel
theorem dL_printGreedy_28 : decode cL_printGreedy 28 = .ok (.ireturn, 1) := by decide +kernel
theorem dL_printGreedy_29 : decode cL_printGreedy 29 = .ok (.iconst 0, 1) := by decide +kernel
theorem dL_printGreedy_30 : decode cL_printGreedy 30 = .ok (.ireturn, 1) := by decide +kernel
theorem dL_length_0 : decode cL_length 0 = .ok (.aload_n 2, 1) := by decide +kernel
theorem dL_length_1 : decode cL_length 1 = .ok (.iconst 0, 1) := by decide +kernel
theorem dL_length_2 : decode cL_length 2 = .ok (.aload_n 0, 1) := by decide +kernel
theorem dL_length_3 : decode cL_length 3 = .ok (.iload_n 1, 1) := by decide +kernel
theorem dL_length_4 : decode cL_length 4 = .ok (.invokevirtual 83, 3) := by decide +kernel
theorem dL_length_7 : decode cL_length 7 = .ok (.i2l, 1) := by decide +kernel
theorem dL_length_8 : decode cL_length 8 = .ok (.lastore, 1) := by decide +kernel
theorem dL_length_9 : decode cL_length 9 = .ok (.goto 6, 3) := by decide +kernel
theorem dL_length_12 : decode cL_length 12 = .ok (.astore_n 3, 1) := by decide +kernel
theorem dL_length_13 : decode cL_length 13 = .ok (.iconst 1, 1) := by decide +kernel
theorem dL_length_14 : decode cL_length 14 = .ok (.ireturn, 1) := by decide +kernel
theorem dL_length_15 : decode cL_length 15 = .ok (.iconst 0, 1) := by decide +kernel
theorem dL_length_16 : decode cL_length 16 = .ok (.ireturn, 1) := by decide +kernel
theorem dL_signAt_0 : decode cL_signAt 0 = .ok (.aload_n 3, 1) := by decide +kernel
theorem dL_signAt_1 : decode cL_signAt 1 = .ok (.iconst 0, 1) := by decide +kernel
theorem dL_signAt_2 : decode cL_signAt 2 = .ok (.aload_n 0, 1) := by decide +kernel
theorem dL_signAt_3 : decode cL_signAt 3 = .ok (.iload_n 1, 1) := by decide +kernel
theorem dL_signAt_4 : decode cL_signAt 4 = .ok (.iload_n 2, 1) := by decide +kernel
theorem dL_signAt_5 : decode cL_signAt 5 = .ok (.invokevirtual 86, 3) := by decide +kernel
theorem dL_signAt_8 : decode cL_signAt 8 = .ok (.i2l, 1) := by decide +kernel
theorem dL_signAt_9 : decode cL_signAt 9 = .ok (.lastore, 1) := by decide +kernel
theorem dL_signAt_10 : decode cL_signAt 10 = .ok (.goto 7, 3) := by decide +kernel
theorem dL_signAt_13 : decode cL_signAt 13 = .ok (.astore 4, 2) := by decide +kernel
theorem dL_signAt_15 : decode cL_signAt 15 = .ok (.iconst 1, 1) := by decide +kernel
theorem dL_signAt_16 : decode cL_signAt 16 = .ok (.ireturn, 1) := by decide +kernel
theorem dL_signAt_17 : decode cL_signAt 17 = .ok (.iconst 0, 1) := by decide +kernel
theorem dL_signAt_18 : decode cL_signAt 18 = .ok (.ireturn, 1) := by decide +kernel
theorem dL_nodeAt_0 : decode cL_nodeAt 0 = .ok (.aload_n 3, 1) := by decide +kernel
theorem dL_nodeAt_1 : decode cL_nodeAt 1 = .ok (.iconst 0, 1) := by decide +kernel
theorem dL_nodeAt_2 : decode cL_nodeAt 2 = .ok (.aload_n 0, 1) := by decide +kernel
theorem dL_nodeAt_3 : decode cL_nodeAt 3 = .ok (.iload_n 1, 1) := by decide +kernel
theorem dL_nodeAt_4 : decode cL_nodeAt 4 = .ok (.iload_n 2, 1) := by decide +kernel
theorem dL_nodeAt_5 : decode cL_nodeAt 5 = .ok (.invokevirtual 90, 3) := by decide +kernel
theorem dL_nodeAt_8 : decode cL_nodeAt 8 = .ok (.i2l, 1) := by decide +kernel
theorem dL_nodeAt_9 : decode cL_nodeAt 9 = .ok (.lastore, 1) := by decide +kernel
theorem dL_nodeAt_10 : decode cL_nodeAt 10 = .ok (.goto 7, 3) := by decide +kernel
theorem dL_nodeAt_13 : decode cL_nodeAt 13 = .ok (.astore 4, 2) := by decide +kernel
theorem dL_nodeAt_15 : decode cL_nodeAt 15 = .ok (.iconst 1, 1) := by decide +kernel
theorem dL_nodeAt_16 : decode cL_nodeAt 16 = .ok (.ireturn, 1) := by decide +kernel
theorem dL_nodeAt_17 : decode cL_nodeAt 17 = .ok (.iconst 0, 1) := by decide +kernel
theorem dL_nodeAt_18 : decode cL_nodeAt 18 = .ok (.ireturn, 1) := by decide +kernel
theorem dL_placeOf_0 : decode cL_placeOf 0 = .ok (.aload_n 2, 1) := by decide +kernel
theorem dL_placeOf_1 : decode cL_placeOf 1 = .ok (.iconst 0, 1) := by decide +kernel
theorem dL_placeOf_2 : decode cL_placeOf 2 = .ok (.aload_n 0, 1) := by decide +kernel
theorem dL_placeOf_3 : decode cL_placeOf 3 = .ok (.iload_n 1, 1) := by decide +kernel
theorem dL_placeOf_4 : decode cL_placeOf 4 = .ok (.invokevirtual 93, 3) := by decide +kernel
theorem dL_placeOf_7 : decode cL_placeOf 7 = .ok (.i2l, 1) := by decide +kernel
theorem dL_placeOf_8 : decode cL_placeOf 8 = .ok (.lastore, 1) := by decide +kernel
theorem dL_placeOf_9 : decode cL_placeOf 9 = .ok (.goto 6, 3) := by decide +kernel
theorem dL_placeOf_12 : decode cL_placeOf 12 = .ok (.astore_n 3, 1) := by decide +kernel
theorem dL_placeOf_13 : decode cL_placeOf 13 = .ok (.iconst 1, 1) := by decide +kernel
theorem dL_placeOf_14 : decode cL_placeOf 14 = .ok (.ireturn, 1) := by decide +kernel
theorem dL_placeOf_15 : decode cL_placeOf 15 = .ok (.iconst 0, 1) := by decide +kernel
theorem dL_placeOf_16 : decode cL_placeOf 16 = .ok (.ireturn, 1) := by decide +kernel
theorem dL_wayAt_0 : decode cL_wayAt 0 = .ok (.aload_n 2, 1) := by decide +kernel
theorem dL_wayAt_1 : decode cL_wayAt 1 = .ok (.iconst 0, 1) := by decide +kernel
theorem dL_wayAt_2 : decode cL_wayAt 2 = .ok (.aload_n 0, 1) := by decide +kernel
theorem dL_wayAt_3 : decode cL_wayAt 3 = .ok (.iload_n 1, 1) := by decide +kernel
theorem dL_wayAt_4 : decode cL_wayAt 4 = .ok (.invokevirtual 96, 3) := by decide +kernel
theorem dL_wayAt_7 : decode cL_wayAt 7 = .ok (.i2l, 1) := by decide +kernel
theorem dL_wayAt_8 : decode cL_wayAt 8 = .ok (.lastore, 1) := by decide +kernel
theorem dL_wayAt_9 : decode cL_wayAt 9 = .ok (.goto 6, 3) := by decide +kernel
theorem dL_wayAt_12 : decode cL_wayAt 12 = .ok (.astore_n 3, 1) := by decide +kernel
theorem dL_wayAt_13 : decode cL_wayAt 13 = .ok (.iconst 1, 1) := by decide +kernel
theorem dL_wayAt_14 : decode cL_wayAt 14 = .ok (.ireturn, 1) := by decide +kernel
theorem dL_wayAt_15 : decode cL_wayAt 15 = .ok (.iconst 0, 1) := by decide +kernel
theorem dL_wayAt_16 : decode cL_wayAt 16 = .ok (.ireturn, 1) := by decide +kernel
theorem dL_breakPages_0 : decode cL_breakPages 0 = .ok (.aload_n 2, 1) := by decide +kernel
theorem dL_breakPages_1 : decode cL_breakPages 1 = .ok (.iconst 0, 1) := by decide +kernel
theorem dL_breakPages_2 : decode cL_breakPages 2 = .ok (.aload_n 0, 1) := by decide +kernel
theorem dL_breakPages_3 : decode cL_breakPages 3 = .ok (.iload_n 1, 1) := by decide +kernel
theorem dL_breakPages_4 : decode cL_breakPages 4 = .ok (.invokevirtual 99, 3) := by decide +kernel
theorem dL_breakPages_7 : decode cL_breakPages 7 = .ok (.i2l, 1) := by decide +kernel
theorem dL_breakPages_8 : decode cL_breakPages 8 = .ok (.lastore, 1) := by decide +kernel
theorem dL_breakPages_9 : decode cL_breakPages 9 = .ok (.goto 9, 3) := by decide +kernel
theorem dL_breakPages_12 : decode cL_breakPages 12 = .ok (.astore_n 3, 1) := by decide +kernel
theorem dL_breakPages_13 : decode cL_breakPages 13 = .ok (.iconst 1, 1) := by decide +kernel
theorem dL_breakPages_14 : decode cL_breakPages 14 = .ok (.ireturn, 1) := by decide +kernel
theorem dL_breakPages_15 : decode cL_breakPages 15 = .ok (.astore_n 3, 1) := by decide +kernel
theorem dL_breakPages_16 : decode cL_breakPages 16 = .ok (.iconst 2, 1) := by decide +kernel
theorem dL_breakPages_17 : decode cL_breakPages 17 = .ok (.ireturn, 1) := by decide +kernel
theorem dL_breakPages_18 : decode cL_breakPages 18 = .ok (.iconst 0, 1) := by decide +kernel
theorem dL_breakPages_19 : decode cL_breakPages 19 = .ok (.ireturn, 1) := by decide +kernel
theorem dL_pageOf_0 : decode cL_pageOf 0 = .ok (.aload_n 2, 1) := by decide +kernel
theorem dL_pageOf_1 : decode cL_pageOf 1 = .ok (.iconst 0, 1) := by decide +kernel
theorem dL_pageOf_2 : decode cL_pageOf 2 = .ok (.aload_n 0, 1) := by decide +kernel
theorem dL_pageOf_3 : decode cL_pageOf 3 = .ok (.iload_n 1, 1) := by decide +kernel
theorem dL_pageOf_4 : decode cL_pageOf 4 = .ok (.invokevirtual 102, 3) := by decide +kernel
theorem dL_pageOf_7 : decode cL_pageOf 7 = .ok (.i2l, 1) := by decide +kernel
theorem dL_pageOf_8 : decode cL_pageOf 8 = .ok (.lastore, 1) := by decide +kernel
theorem dL_pageOf_9 : decode cL_pageOf 9 = .ok (.goto 9, 3) := by decide +kernel
theorem dL_pageOf_12 : decode cL_pageOf 12 = .ok (.astore_n 3, 1) := by decide +kernel
theorem dL_pageOf_13 : decode cL_pageOf 13 = .ok (.iconst 1, 1) := by decide +kernel
theorem dL_pageOf_14 : decode cL_pageOf 14 = .ok (.ireturn, 1) := by decide +kernel
theorem dL_pageOf_15 : decode cL_pageOf 15 = .ok (.astore_n 3, 1) := by decide +kernel
theorem dL_pageOf_16 : decode cL_pageOf 16 = .ok (.iconst 2, 1) := by decide +kernel
theorem dL_pageOf_17 : decode cL_pageOf 17 = .ok (.ireturn, 1) := by decide +kernel
theorem dL_pageOf_18 : decode cL_pageOf 18 = .ok (.iconst 0, 1) := by decide +kernel
theorem dL_pageOf_19 : decode cL_pageOf 19 = .ok (.ireturn, 1) := by decide +kernel
