theorem dX10_cell_5 : decode cX10_cell 5 = .ok (.astore 4, 2) := by decide +kernel
theorem dX10_cell_7 : decode cX10_cell 7 = .ok (.iload_n 1, 1) := by decide +kernel
theorem dX10_cell_8 : decode cX10_cell 8 = .ok (.iconst 0, 1) := by decide +kernel
theorem dX10_cell_9 : decode cX10_cell 9 = .ok (.iconst 3, 1) := by decide +kernel
theorem dX10_cell_10 : decode cX10_cell 10 = .ok (.invokestatic 56, 3) := by decide +kernel
theorem dX10_cell_13 : decode cX10_cell 13 = .ok (.iload_n 2, 1) := by decide +kernel
theorem dX10_cell_14 : decode cX10_cell 14 = .ok (.iconst 0, 1) := by decide +kernel
theorem dX10_cell_15 : decode cX10_cell 15 = .ok (.iconst 4, 1) := by decide +kernel
theorem dX10_cell_16 : decode cX10_cell 16 = .ok (.invokestatic 56, 3) := by decide +kernel
theorem dX10_cell_19 : decode cX10_cell 19 = .ok (.aload 4, 2) := by decide +kernel
theorem dX10_cell_21 : decode cX10_cell 21 = .ok (.getfield 122, 3) := by decide +kernel
theorem dX10_cell_24 : decode cX10_cell 24 = .ok (.ifCond .eq 13, 3) := by decide +kernel
theorem dX10_cell_27 : decode cX10_cell 27 = .ok (.new 126, 3) := by decide +kernel
theorem dX10_cell_30 : decode cX10_cell 30 = .ok (.dup, 1) := by decide +kernel
theorem dX10_cell_31 : decode cX10_cell 31 = .ok (.ldc 128, 2) := by decide +kernel
theorem dX10_cell_33 : decode cX10_cell 33 = .ok (.invokespecial 130, 3) := by decide +kernel
theorem dX10_cell_36 : decode cX10_cell 36 = .ok (.athrow, 1) := by decide +kernel
theorem dX10_cell_37 : decode cX10_cell 37 = .ok (.aload_n 0, 1) := by decide +kernel
theorem dX10_cell_38 : decode cX10_cell 38 = .ok (.new 9, 3) := by decide +kernel
theorem dX10_cell_41 : decode cX10_cell 41 = .ok (.dup, 1) := by decide +kernel
theorem dX10_cell_42 : decode cX10_cell 42 = .ok (.getstatic 133, 3) := by decide +kernel
theorem dX10_cell_45 : decode cX10_cell 45 = .ok (.iload_n 1, 1) := by decide +kernel
theorem dX10_cell_46 : decode cX10_cell 46 = .ok (.iconst 5, 1) := by decide +kernel
theorem dX10_cell_47 : decode cX10_cell 47 = .ok (.imul, 1) := by decide +kernel
theorem dX10_cell_48 : decode cX10_cell 48 = .ok (.iload_n 2, 1) := by decide +kernel
theorem dX10_cell_49 : decode cX10_cell 49 = .ok (.iadd, 1) := by decide +kernel
theorem dX10_cell_50 : decode cX10_cell 50 = .ok (.aload 4, 2) := by decide +kernel
theorem dX10_cell_52 : decode cX10_cell 52 = .ok (.aconst_null, 1) := by decide +kernel
theorem dX10_cell_53 : decode cX10_cell 53 = .ok (.invokespecial 95, 3) := by decide +kernel
theorem dX10_cell_56 : decode cX10_cell 56 = .ok (.invokevirtual 69, 3) := by decide +kernel
theorem dX10_cell_59 : decode cX10_cell 59 = .ok (.ireturn, 1) := by decide +kernel
theorem dX10_nodes_0 : decode cX10_nodes 0 = .ok (.aload_n 0, 1) := by decide +kernel
theorem dX10_nodes_1 : decode cX10_nodes 1 = .ok (.getfield 15, 3) := by decide +kernel
theorem dX10_nodes_4 : decode cX10_nodes 4 = .ok (.ireturn, 1) := by decide +kernel
theorem dX10_size_0 : decode cX10_size 0 = .ok (.aload_n 0, 1) := by decide +kernel
theorem dX10_size_1 : decode cX10_size 1 = .ok (.iload_n 1, 1) := by decide +kernel
theorem dX10_size_2 : decode cX10_size 2 = .ok (.invokevirtual 91, 3) := by decide +kernel
theorem dX10_size_5 : decode cX10_size 5 = .ok (.getfield 136, 3) := by decide +kernel
theorem dX10_size_8 : decode cX10_size 8 = .ok (.ireturn, 1) := by decide +kernel
theorem dX10_layouts_0 : decode cX10_layouts 0 = .ok (.aload_n 0, 1) := by decide +kernel
theorem dX10_layouts_1 : decode cX10_layouts 1 = .ok (.iload_n 1, 1) := by decide +kernel
theorem dX10_layouts_2 : decode cX10_layouts 2 = .ok (.invokevirtual 91, 3) := by decide +kernel
theorem dX10_layouts_5 : decode cX10_layouts 5 = .ok (.getfield 139, 3) := by decide +kernel
theorem dX10_layouts_8 : decode cX10_layouts 8 = .ok (.ireturn, 1) := by decide +kernel
theorem dX10_print_0 : decode cX10_print 0 = .ok (.aload_n 0, 1) := by decide +kernel
theorem dX10_print_1 : decode cX10_print 1 = .ok (.iload_n 1, 1) := by decide +kernel
theorem dX10_print_2 : decode cX10_print 2 = .ok (.invokevirtual 91, 3) := by decide +kernel
theorem dX10_print_5 : decode cX10_print 5 = .ok (.astore 5, 2) := by decide +kernel
theorem dX10_print_7 : decode cX10_print 7 = .ok (.aload_n 0, 1) := by decide +kernel
theorem dX10_print_8 : decode cX10_print 8 = .ok (.aload 5, 2) := by decide +kernel
theorem dX10_print_10 : decode cX10_print 10 = .ok (.iload_n 2, 1) := by decide +kernel
theorem dX10_print_11 : decode cX10_print 11 = .ok (.iload_n 3, 1) := by decide +kernel
theorem dX10_print_12 : decode cX10_print 12 = .ok (.iload 4, 2) := by decide +kernel
theorem dX10_print_14 : decode cX10_print 14 = .ok (.invokevirtual 142, 3) := by decide +kernel
theorem dX10_print_17 : decode cX10_print 17 = .ok (.aload_n 0, 1) := by decide +kernel
theorem dX10_print_18 : decode cX10_print 18 = .ok (.getfield 31, 3) := by decide +kernel
theorem dX10_print_21 : decode cX10_print 21 = .ok (.aload 5, 2) := by decide +kernel
theorem dX10_print_23 : decode cX10_print 23 = .ok (.invokevirtual 146, 3) := by decide +kernel
theorem dX10_print_26 : decode cX10_print 26 = .ok (.ifCond .ne 13, 3) := by decide +kernel
theorem dX10_print_29 : decode cX10_print 29 = .ok (.new 126, 3) := by decide +kernel
theorem dX10_print_32 : decode cX10_print 32 = .ok (.dup, 1) := by decide +kernel
theorem dX10_print_33 : decode cX10_print 33 = .ok (.ldc 150, 2) := by decide +kernel
theorem dX10_print_35 : decode cX10_print 35 = .ok (.invokespecial 130, 3) := by decide +kernel
theorem dX10_print_38 : decode cX10_print 38 = .ok (.athrow, 1) := by decide +kernel
theorem dX10_print_39 : decode cX10_print 39 = .ok (.aload_n 0, 1) := by decide +kernel
theorem dX10_print_40 : decode cX10_print 40 = .ok (.getfield 38, 3) := by decide +kernel
theorem dX10_print_43 : decode cX10_print 43 = .ok (.aload 5, 2) := by decide +kernel
theorem dX10_print_45 : decode cX10_print 45 = .ok (.aload_n 0, 1) := by decide +kernel
theorem dX10_print_46 : decode cX10_print 46 = .ok (.getfield 31, 3) := by decide +kernel
theorem dX10_print_49 : decode cX10_print 49 = .ok (.getfield 152, 3) := by decide +kernel
theorem dX10_print_52 : decode cX10_print 52 = .ok (.aload_n 0, 1) := by decide +kernel
theorem dX10_print_53 : decode cX10_print 53 = .ok (.getfield 31, 3) := by decide +kernel
theorem dX10_print_56 : decode cX10_print 56 = .ok (.getfield 155, 3) := by decide +kernel
theorem dX10_print_59 : decode cX10_print 59 = .ok (.invokevirtual 158, 3) := by decide +kernel
theorem dX10_print_62 : decode cX10_print 62 = .ok (.aload_n 0, 1) := by decide +kernel
theorem dX10_print_63 : decode cX10_print 63 = .ok (.invokevirtual 162, 3) := by decide +kernel
theorem dX10_print_66 : decode cX10_print 66 = .ok (.ireturn, 1) := by decide +kernel
theorem dX10_printByAll_0 : decode cX10_printByAll 0 = .ok (.aload_n 0, 1) := by decide +kernel
theorem dX10_printByAll_1 : decode cX10_printByAll 1 = .ok (.iload_n 1, 1) := by decide +kernel
theorem dX10_printByAll_2 : decode cX10_printByAll 2 = .ok (.invokevirtual 91, 3) := by decide +kernel
theorem dX10_printByAll_5 : decode cX10_printByAll 5 = .ok (.astore 5, 2) := by decide +kernel
theorem dX10_printByAll_7 : decode cX10_printByAll 7 = .ok (.aload_n 0, 1) := by decide +kernel
theorem dX10_printByAll_8 : decode cX10_printByAll 8 = .ok (.aload 5, 2) := by decide +kernel
theorem dX10_printByAll_10 : decode cX10_printByAll 10 = .ok (.iload_n 2, 1) := by decide +kernel
theorem dX10_printByAll_11 : decode cX10_printByAll 11 = .ok (.iload_n 3, 1) := by decide +kernel
theorem dX10_printByAll_12 : decode cX10_printByAll 12 = .ok (.iload 4, 2) := by decide +kernel
theorem dX10_printByAll_14 : decode cX10_printByAll 14 = .ok (.invokevirtual 142, 3) := by decide +kernel
theorem dX10_printByAll_17 : decode cX10_printByAll 17 = .ok (.aload 5, 2) := by decide +kernel
theorem dX10_printByAll_19 : decode cX10_printByAll 19 = .ok (.getfield 139, 3) := by decide +kernel
theorem dX10_printByAll_22 : decode cX10_printByAll 22 = .ok (.bipush 100, 2) := by decide +kernel
theorem dX10_printByAll_24 : decode cX10_printByAll 24 = .ok (.if_icmp .le 13, 3) := by decide +kernel
theorem dX10_printByAll_27 : decode cX10_printByAll 27 = .ok (.new 126, 3) := by decide +kernel
theorem dX10_printByAll_30 : decode cX10_printByAll 30 = .ok (.dup, 1) := by decide +kernel
theorem dX10_printByAll_31 : decode cX10_printByAll 31 = .ok (.ldc 166, 2) := by decide +kernel
theorem dX10_printByAll_33 : decode cX10_printByAll 33 = .ok (.invokespecial 130, 3) := by decide +kernel
theorem dX10_printByAll_36 : decode cX10_printByAll 36 = .ok (.athrow, 1) := by decide +kernel
theorem dX10_printByAll_37 : decode cX10_printByAll 37 = .ok (.aload_n 0, 1) := by decide +kernel
theorem dX10_printByAll_38 : decode cX10_printByAll 38 = .ok (.getfield 38, 3) := by decide +kernel
theorem dX10_printByAll_41 : decode cX10_printByAll 41 = .ok (.aload 5, 2) := by decide +kernel
theorem dX10_printByAll_43 : decode cX10_printByAll 43 = .ok (.invokevirtual 168, 3) := by decide +kernel
theorem dX10_printByAll_46 : decode cX10_printByAll 46 = .ok (.ifCond .ne 13, 3) := by decide +kernel
theorem dX10_printByAll_49 : decode cX10_printByAll 49 = .ok (.new 126, 3) := by decide +kernel
theorem dX10_printByAll_52 : decode cX10_printByAll 52 = .ok (.dup, 1) := by decide +kernel
theorem dX10_printByAll_53 : decode cX10_printByAll 53 = .ok (.ldc 150, 2) := by decide +kernel
theorem dX10_printByAll_55 : decode cX10_printByAll 55 = .ok (.invokespecial 130, 3) := by decide +kernel
theorem dX10_printByAll_58 : decode cX10_printByAll 58 = .ok (.athrow, 1) := by decide +kernel
theorem dX10_printByAll_59 : decode cX10_printByAll 59 = .ok (.aload_n 0, 1) := by decide +kernel
theorem dX10_printByAll_60 : decode cX10_printByAll 60 = .ok (.invokevirtual 162, 3) := by decide +kernel
theorem dX10_printByAll_63 : decode cX10_printByAll 63 = .ok (.ireturn, 1) := by decide +kernel
theorem dX10_printGreedy_0 : decode cX10_printGreedy 0 = .ok (.aload_n 0, 1) := by decide +kernel
theorem dX10_printGreedy_1 : decode cX10_printGreedy 1 = .ok (.iload_n 1, 1) := by decide +kernel
theorem dX10_printGreedy_2 : decode cX10_printGreedy 2 = .ok (.invokevirtual 91, 3) := by decide +kernel
theorem dX10_printGreedy_5 : decode cX10_printGreedy 5 = .ok (.astore 5, 2) := by decide +kernel
theorem dX10_printGreedy_7 : decode cX10_printGreedy 7 = .ok (.aload_n 0, 1) := by decide +kernel
theorem dX10_printGreedy_8 : decode cX10_printGreedy 8 = .ok (.aload 5, 2) := by decide +kernel
theorem dX10_printGreedy_10 : decode cX10_printGreedy 10 = .ok (.iload_n 2, 1) := by decide +kernel
theorem dX10_printGreedy_11 : decode cX10_printGreedy 11 = .ok (.iload_n 3, 1) := by decide +kernel
theorem dX10_printGreedy_12 : decode cX10_printGreedy 12 = .ok (.iload 4, 2) := by decide +kernel
theorem dX10_printGreedy_14 : decode cX10_printGreedy 14 = .ok (.invokevirtual 142, 3) := by decide +kernel
theorem dX10_printGreedy_17 : decode cX10_printGreedy 17 = .ok (.aload_n 0, 1) := by decide +kernel
theorem dX10_printGreedy_18 : decode cX10_printGreedy 18 = .ok (.getfield 38, 3) := by decide +kernel
theorem dX10_printGreedy_21 : decode cX10_printGreedy 21 = .ok (.aload 5, 2) := by decide +kernel
theorem dX10_printGreedy_23 : decode cX10_printGreedy 23 = .ok (.invokevirtual 171, 3) := by decide +kernel
theorem dX10_printGreedy_26 : decode cX10_printGreedy 26 = .ok (.ifCond .ne 13, 3) := by decide +kernel
theorem dX10_printGreedy_29 : decode cX10_printGreedy 29 = .ok (.new 126, 3) := by decide +kernel
theorem dX10_printGreedy_32 : decode cX10_printGreedy 32 = .ok (.dup, 1) := by decide +kernel
theorem dX10_printGreedy_33 : decode cX10_printGreedy 33 = .ok (.ldc 174, 2) := by decide +kernel
theorem dX10_printGreedy_35 : decode cX10_printGreedy 35 = .ok (.invokespecial 130, 3) := by decide +kernel
theorem dX10_printGreedy_38 : decode cX10_printGreedy 38 = .ok (.athrow, 1) := by decide +kernel
theorem dX10_printGreedy_39 : decode cX10_printGreedy 39 = .ok (.aload_n 0, 1) := by decide +kernel
theorem dX10_printGreedy_40 : decode cX10_printGreedy 40 = .ok (.invokevirtual 162, 3) := by decide +kernel
theorem dX10_printGreedy_43 : decode cX10_printGreedy 43 = .ok (.ireturn, 1) := by decide +kernel
theorem dX10_lines_0 : decode cX10_lines 0 = .ok (.aload_n 0, 1) := by decide +kernel
theorem dX10_lines_1 : decode cX10_lines 1 = .ok (.getfield 52, 3) := by decide +kernel
theorem dX10_lines_4 : decode cX10_lines 4 = .ok (.getfield 176, 3) := by decide +kernel
theorem dX10_lines_7 : decode cX10_lines 7 = .ok (.ireturn, 1) := by decide +kernel
theorem dX10_length_0 : decode cX10_length 0 = .ok (.aload_n 0, 1) := by decide +kernel
theorem dX10_length_1 : decode cX10_length 1 = .ok (.iload_n 1, 1) := by decide +kernel
theorem dX10_length_2 : decode cX10_length 2 = .ok (.invokevirtual 179, 3) := by decide +kernel
theorem dX10_length_5 : decode cX10_length 5 = .ok (.aload_n 0, 1) := by decide +kernel
theorem dX10_length_6 : decode cX10_length 6 = .ok (.getfield 52, 3) := by decide +kernel
theorem dX10_length_9 : decode cX10_length 9 = .ok (.iload_n 1, 1) := by decide +kernel
theorem dX10_length_10 : decode cX10_length 10 = .ok (.invokevirtual 183, 3) := by decide +kernel
theorem dX10_length_13 : decode cX10_length 13 = .ok (.ireturn, 1) := by decide +kernel
theorem dX10_signAt_0 : decode cX10_signAt 0 = .ok (.aload_n 0, 1) := by decide +kernel
theorem dX10_signAt_1 : decode cX10_signAt 1 = .ok (.iload_n 1, 1) := by decide +kernel
theorem dX10_signAt_2 : decode cX10_signAt 2 = .ok (.iload_n 2, 1) := by decide +kernel
theorem dX10_signAt_3 : decode cX10_signAt 3 = .ok (.invokevirtual 187, 3) := by decide +kernel
theorem dX10_signAt_6 : decode cX10_signAt 6 = .ok (.aload_n 0, 1) := by decide +kernel
theorem dX10_signAt_7 : decode cX10_signAt 7 = .ok (.getfield 52, 3) := by decide +kernel
theorem dX10_signAt_10 : decode cX10_signAt 10 = .ok (.iload_n 1, 1) := by decide +kernel
theorem dX10_signAt_11 : decode cX10_signAt 11 = .ok (.iload_n 2, 1) := by decide +kernel
theorem dX10_signAt_12 : decode cX10_signAt 12 = .ok (.invokevirtual 191, 3) := by decide +kernel
theorem dX10_signAt_15 : decode cX10_signAt 15 = .ok (.astore_n 3, 1) := by decide +kernel
theorem dX10_signAt_16 : decode cX10_signAt 16 = .ok (.aload_n 3, 1) := by decide +kernel
theorem dX10_signAt_17 : decode cX10_signAt 17 = .ok (.ifnonnull 8, 3) := by decide +kernel
theorem dX10_signAt_20 : decode cX10_signAt 20 = .ok (.bipush 32, 2) := by decide +kernel
theorem dX10_signAt_22 : decode cX10_signAt 22 = .ok (.goto 7, 3) := by decide +kernel
theorem dX10_signAt_25 : decode cX10_signAt 25 = .ok (.aload_n 3, 1) := by decide +kernel
theorem dX10_signAt_26 : decode cX10_signAt 26 = .ok (.invokevirtual 195, 3) := by decide +kernel
theorem dX10_signAt_29 : decode cX10_signAt 29 = .ok (.ireturn, 1) := by decide +kernel
theorem dX10_nodeAt_0 : decode cX10_nodeAt 0 = .ok (.aload_n 0, 1) := by decide +kernel
theorem dX10_nodeAt_1 : decode cX10_nodeAt 1 = .ok (.iload_n 1, 1) := by decide +kernel
theorem dX10_nodeAt_2 : decode cX10_nodeAt 2 = .ok (.iload_n 2, 1) := by decide +kernel
theorem dX10_nodeAt_3 : decode cX10_nodeAt 3 = .ok (.invokevirtual 187, 3) := by decide +kernel
theorem dX10_nodeAt_6 : decode cX10_nodeAt 6 = .ok (.aload_n 0, 1) := by decide +kernel
theorem dX10_nodeAt_7 : decode cX10_nodeAt 7 = .ok (.getfield 52, 3) := by decide +kernel
theorem dX10_nodeAt_10 : decode cX10_nodeAt 10 = .ok (.iload_n 1, 1) := by decide +kernel
theorem dX10_nodeAt_11 : decode cX10_nodeAt 11 = .ok (.iload_n 2, 1) := by decide +kernel
theorem dX10_nodeAt_12 : decode cX10_nodeAt 12 = .ok (.invokevirtual 191, 3) := by decide +kernel
theorem dX10_nodeAt_15 : decode cX10_nodeAt 15 = .ok (.astore_n 3, 1) := by decide +kernel
theorem dX10_nodeAt_16 : decode cX10_nodeAt 16 = .ok (.aload_n 3, 1) := by decide +kernel
theorem dX10_nodeAt_17 : decode cX10_nodeAt 17 = .ok (.ifnonnull 7, 3) := by decide +kernel
theorem dX10_nodeAt_20 : decode cX10_nodeAt 20 = .ok (.iconst (-1), 1) := by decide +kernel
theorem dX10_nodeAt_21 : decode cX10_nodeAt 21 = .ok (.goto 7, 3) := by decide +kernel
theorem dX10_nodeAt_24 : decode cX10_nodeAt 24 = .ok (.aload_n 3, 1) := by decide +kernel
theorem dX10_nodeAt_25 : decode cX10_nodeAt 25 = .ok (.getfield 199, 3) := by decide +kernel
theorem dX10_nodeAt_28 : decode cX10_nodeAt 28 = .ok (.ireturn, 1) := by decide +kernel
theorem dX10_placeOf_0 : decode cX10_placeOf 0 = .ok (.aload_n 0, 1) := by decide +kernel
theorem dX10_placeOf_1 : decode cX10_placeOf 1 = .ok (.getfield 52, 3) := by decide +kernel
theorem dX10_placeOf_4 : decode cX10_placeOf 4 = .ok (.aload_n 0, 1) := by decide +kernel
theorem dX10_placeOf_5 : decode cX10_placeOf 5 = .ok (.iload_n 1, 1) := by decide +kernel
theorem dX10_placeOf_6 : decode cX10_placeOf 6 = .ok (.invokevirtual 91, 3) := by decide +kernel
theorem dX10_placeOf_9 : decode cX10_placeOf 9 = .ok (.invokevirtual 202, 3) := by decide +kernel
theorem dX10_placeOf_12 : decode cX10_placeOf 12 = .ok (.ireturn, 1) := by decide +kernel
theorem dX10_decisions_0 : decode cX10_decisions 0 = .ok (.aload_n 0, 1) := by decide +kernel
theorem dX10_decisions_1 : decode cX10_decisions 1 = .ok (.getfield 52, 3) := by decide +kernel
theorem dX10_decisions_4 : decode cX10_decisions 4 = .ok (.getfield 205, 3) := by decide +kernel
theorem dX10_decisions_7 : decode cX10_decisions 7 = .ok (.ireturn, 1) := by decide +kernel
theorem dX10_wayAt_0 : decode cX10_wayAt 0 = .ok (.iload_n 1, 1) := by decide +kernel
theorem dX10_wayAt_1 : decode cX10_wayAt 1 = .ok (.ifCond .lt 14, 3) := by decide +kernel
theorem dX10_wayAt_4 : decode cX10_wayAt 4 = .ok (.iload_n 1, 1) := by decide +kernel
theorem dX10_wayAt_5 : decode cX10_wayAt 5 = .ok (.aload_n 0, 1) := by decide +kernel
theorem dX10_wayAt_6 : decode cX10_wayAt 6 = .ok (.getfield 52, 3) := by decide +kernel
theorem dX10_wayAt_9 : decode cX10_wayAt 9 = .ok (.getfield 205, 3) := by decide +kernel
theorem dX10_wayAt_12 : decode cX10_wayAt 12 = .ok (.if_icmp .lt 13, 3) := by decide +kernel
theorem dX10_wayAt_15 : decode cX10_wayAt 15 = .ok (.new 208, 3) := by decide +kernel
theorem dX10_wayAt_18 : decode cX10_wayAt 18 = .ok (.dup, 1) := by decide +kernel
theorem dX10_wayAt_19 : decode cX10_wayAt 19 = .ok (.ldc 210, 2) := by decide +kernel
theorem dX10_wayAt_21 : decode cX10_wayAt 21 = .ok (.invokespecial 212, 3) := by decide +kernel
theorem dX10_wayAt_24 : decode cX10_wayAt 24 = .ok (.athrow, 1) := by decide +kernel
theorem dX10_wayAt_25 : decode cX10_wayAt 25 = .ok (.aload_n 0, 1) := by decide +kernel
theorem dX10_wayAt_26 : decode cX10_wayAt 26 = .ok (.getfield 52, 3) := by decide +kernel
theorem dX10_wayAt_29 : decode cX10_wayAt 29 = .ok (.getfield 213, 3) := by decide +kernel
theorem dX10_wayAt_32 : decode cX10_wayAt 32 = .ok (.iload_n 1, 1) := by decide +kernel
theorem dX10_wayAt_33 : decode cX10_wayAt 33 = .ok (.invokestatic 216, 3) := by decide +kernel
theorem dX10_wayAt_36 : decode cX10_wayAt 36 = .ok (.ireturn, 1) := by decide +kernel
theorem dX10_breakPages_0 : decode cX10_breakPages 0 = .ok (.iload_n 1, 1) := by decide +kernel
theorem dX10_breakPages_1 : decode cX10_breakPages 1 = .ok (.iconst 1, 1) := by decide +kernel
theorem dX10_breakPages_2 : decode cX10_breakPages 2 = .ok (.bipush 20, 2) := by decide +kernel
theorem dX10_breakPages_4 : decode cX10_breakPages 4 = .ok (.invokestatic 56, 3) := by decide +kernel
theorem dX10_breakPages_7 : decode cX10_breakPages 7 = .ok (.aload_n 0, 1) := by decide +kernel
theorem dX10_breakPages_8 : decode cX10_breakPages 8 = .ok (.getfield 52, 3) := by decide +kernel
theorem dX10_breakPages_11 : decode cX10_breakPages 11 = .ok (.getfield 176, 3) := by decide +kernel
theorem dX10_breakPages_14 : decode cX10_breakPages 14 = .ok (.ifCond .ne 13, 3) := by decide +kernel
theorem dX10_breakPages_17 : decode cX10_breakPages 17 = .ok (.new 126, 3) := by decide +kernel
theorem dX10_breakPages_20 : decode cX10_breakPages 20 = .ok (.dup, 1) := by decide +kernel
theorem dX10_breakPages_21 : decode cX10_breakPages 21 = .ok (.ldc 220, 2) := by decide +kernel
theorem dX10_breakPages_23 : decode cX10_breakPages 23 = .ok (.invokespecial 130, 3) := by decide +kernel
theorem dX10_breakPages_26 : decode cX10_breakPages 26 = .ok (.athrow, 1) := by decide +kernel
theorem dX10_breakPages_27 : decode cX10_breakPages 27 = .ok (.aload_n 0, 1) := by decide +kernel
theorem dX10_breakPages_28 : decode cX10_breakPages 28 = .ok (.getfield 45, 3) := by decide +kernel
theorem dX10_breakPages_31 : decode cX10_breakPages 31 = .ok (.aload_n 0, 1) := by decide +kernel
theorem dX10_breakPages_32 : decode cX10_breakPages 32 = .ok (.getfield 52, 3) := by decide +kernel
theorem dX10_breakPages_35 : decode cX10_breakPages 35 = .ok (.iload_n 1, 1) := by decide +kernel
theorem dX10_breakPages_36 : decode cX10_breakPages 36 = .ok (.invokevirtual 222, 3) := by decide +kernel
theorem dX10_breakPages_39 : decode cX10_breakPages 39 = .ok (.ireturn, 1) := by decide +kernel
theorem dX10_pageOf_0 : decode cX10_pageOf 0 = .ok (.aload_n 0, 1) := by decide +kernel
theorem dX10_pageOf_1 : decode cX10_pageOf 1 = .ok (.iload_n 1, 1) := by decide +kernel
theorem dX10_pageOf_2 : decode cX10_pageOf 2 = .ok (.invokevirtual 179, 3) := by decide +kernel
theorem dX10_pageOf_5 : decode cX10_pageOf 5 = .ok (.aload_n 0, 1) := by decide +kernel
theorem dX10_pageOf_6 : decode cX10_pageOf 6 = .ok (.getfield 45, 3) := by decide +kernel
theorem dX10_pageOf_9 : decode cX10_pageOf 9 = .ok (.getfield 226, 3) := by decide +kernel
theorem dX10_pageOf_12 : decode cX10_pageOf 12 = .ok (.ifCond .ne 13, 3) := by decide +kernel
theorem dX10_pageOf_15 : decode cX10_pageOf 15 = .ok (.new 126, 3) := by decide +kernel
theorem dX10_pageOf_18 : decode cX10_pageOf 18 = .ok (.dup, 1) := by decide +kernel
theorem dX10_pageOf_19 : decode cX10_pageOf 19 = .ok (.ldc 229, 2) := by decide +kernel
theorem dX10_pageOf_21 : decode cX10_pageOf 21 = .ok (.invokespecial 130, 3) := by decide +kernel
theorem dX10_pageOf_24 : decode cX10_pageOf 24 = .ok (.athrow, 1) := by decide +kernel
theorem dX10_pageOf_25 : decode cX10_pageOf 25 = .ok (.aload_n 0, 1) := by decide +kernel
theorem dX10_pageOf_26 : decode cX10_pageOf 26 = .ok (.getfield 45, 3) := by decide +kernel
theorem dX10_pageOf_29 : decode cX10_pageOf 29 = .ok (.iload_n 1, 1) := by decide +kernel
theorem dX10_pageOf_30 : decode cX10_pageOf 30 = .ok (.invokevirtual 231, 3) := by decide +kernel
theorem dX10_pageOf_33 : decode cX10_pageOf 33 = .ok (.ireturn, 1) := by decide +kernel
theorem dX10_checkRange_0 : decode cX10_checkRange 0 = .ok (.iload_n 0, 1) := by decide +kernel
theorem dX10_checkRange_1 : decode cX10_checkRange 1 = .ok (.iload_n 1, 1) := by decide +kernel
theorem dX10_checkRange_2 : decode cX10_checkRange 2 = .ok (.if_icmp .lt 8, 3) := by decide +kernel
theorem dX10_checkRange_5 : decode cX10_checkRange 5 = .ok (.iload_n 0, 1) := by decide +kernel
theorem dX10_checkRange_6 : decode cX10_checkRange 6 = .ok (.iload_n 2, 1) := by decide +kernel
theorem dX10_checkRange_7 : decode cX10_checkRange 7 = .ok (.if_icmp .le 13, 3) := by decide +kernel
theorem dX10_checkRange_10 : decode cX10_checkRange 10 = .ok (.new 234, 3) := by decide +kernel
theorem dX10_checkRange_13 : decode cX10_checkRange 13 = .ok (.dup, 1) := by decide +kernel
theorem dX10_checkRange_14 : decode cX10_checkRange 14 = .ok (.ldc 236, 2) := by decide +kernel
theorem dX10_checkRange_16 : decode cX10_checkRange 16 = .ok (.invokespecial 238, 3) := by decide +kernel
theorem dX10_checkRange_19 : decode cX10_checkRange 19 = .ok (.athrow, 1) := by decide +kernel
theorem dX10_checkRange_20 : decode cX10_checkRange 20 = .ok (.return_, 1) := by decide +kernel
theorem dX10_checkLine_0 : decode cX10_checkLine 0 = .ok (.iload_n 1, 1) := by decide +kernel
theorem dX10_checkLine_1 : decode cX10_checkLine 1 = .ok (.ifCond .lt 14, 3) := by decide +kernel
theorem dX10_checkLine_4 : decode cX10_checkLine 4 = .ok (.iload_n 1, 1) := by decide +kernel
theorem dX10_checkLine_5 : decode cX10_checkLine 5 = .ok (.aload_n 0, 1) := by decide +kernel
theorem dX10_checkLine_6 : decode cX10_checkLine 6 = .ok (.getfield 52, 3) := by decide +kernel
theorem dX10_checkLine_9 : decode cX10_checkLine 9 = .ok (.getfield 176, 3) := by decide +kernel
theorem dX10_checkLine_12 : decode cX10_checkLine 12 = .ok (.if_icmp .lt 13, 3) := by decide +kernel
theorem dX10_checkLine_15 : decode cX10_checkLine 15 = .ok (.new 208, 3) := by decide +kernel
theorem dX10_checkLine_18 : decode cX10_checkLine 18 = .ok (.dup, 1) := by decide +kernel
theorem dX10_checkLine_19 : decode cX10_checkLine 19 = .ok (.ldc 239, 2) := by decide +kernel
theorem dX10_checkLine_21 : decode cX10_checkLine 21 = .ok (.invokespecial 212, 3) := by decide +kernel
theorem dX10_checkLine_24 : decode cX10_checkLine 24 = .ok (.athrow, 1) := by decide +kernel
theorem dX10_checkLine_25 : decode cX10_checkLine 25 = .ok (.return_, 1) := by decide +kernel
theorem dX10_checkColumn_0 : decode cX10_checkColumn 0 = .ok (.aload_n 0, 1) := by decide +kernel
theorem dX10_checkColumn_1 : decode cX10_checkColumn 1 = .ok (.iload_n 1, 1) := by decide +kernel
theorem dX10_checkColumn_2 : decode cX10_checkColumn 2 = .ok (.invokevirtual 179, 3) := by decide +kernel
theorem dX10_checkColumn_5 : decode cX10_checkColumn 5 = .ok (.iload_n 2, 1) := by decide +kernel
theorem dX10_checkColumn_6 : decode cX10_checkColumn 6 = .ok (.ifCond .lt 15, 3) := by decide +kernel
theorem dX10_checkColumn_9 : decode cX10_checkColumn 9 = .ok (.iload_n 2, 1) := by decide +kernel
theorem dX10_checkColumn_10 : decode cX10_checkColumn 10 = .ok (.aload_n 0, 1) := by decide +kernel
theorem dX10_checkColumn_11 : decode cX10_checkColumn 11 = .ok (.getfield 52, 3) := by decide +kernel
theorem dX10_checkColumn_14 : decode cX10_checkColumn 14 = .ok (.iload_n 1, 1) := by decide +kernel
theorem dX10_checkColumn_15 : decode cX10_checkColumn 15 = .ok (.invokevirtual 183, 3) := by decide +kernel
theorem dX10_checkColumn_18 : decode cX10_checkColumn 18 = .ok (.if_icmp .lt 13, 3) := by decide +kernel
theorem dX10_checkColumn_21 : decode cX10_checkColumn 21 = .ok (.new 208, 3) := by decide +kernel
theorem dX10_checkColumn_24 : decode cX10_checkColumn 24 = .ok (.dup, 1) := by decide +kernel
theorem dX10_checkColumn_25 : decode cX10_checkColumn 25 = .ok (.ldc 241, 2) := by decide +kernel
theorem dX10_checkColumn_27 : decode cX10_checkColumn 27 = .ok (.invokespecial 212, 3) := by decide +kernel
theorem dX10_checkColumn_30 : decode cX10_checkColumn 30 = .ok (.athrow, 1) := by decide +kernel
theorem dX10_checkColumn_31 : decode cX10_checkColumn 31 = .ok (.return_, 1) := by decide +kernel
theorem dX10_nodeOf_0 : decode cX10_nodeOf 0 = .ok (.iload_n 1, 1) := by decide +kernel
theorem dX10_nodeOf_1 : decode cX10_nodeOf 1 = .ok (.ifCond .lt 20, 3) := by decide +kernel
theorem dX10_nodeOf_4 : decode cX10_nodeOf 4 = .ok (.iload_n 1, 1) := by decide +kernel
theorem dX10_nodeOf_5 : decode cX10_nodeOf 5 = .ok (.aload_n 0, 1) := by decide +kernel
theorem dX10_nodeOf_6 : decode cX10_nodeOf 6 = .ok (.getfield 15, 3) := by decide +kernel
theorem dX10_nodeOf_9 : decode cX10_nodeOf 9 = .ok (.if_icmp .ge 12, 3) := by decide +kernel
theorem dX10_nodeOf_12 : decode cX10_nodeOf 12 = .ok (.iload_n 1, 1) := by decide +kernel
theorem dX10_nodeOf_13 : decode cX10_nodeOf 13 = .ok (.aload_n 0, 1) := by decide +kernel
theorem dX10_nodeOf_14 : decode cX10_nodeOf 14 = .ok (.getfield 11, 3) := by decide +kernel
theorem dX10_nodeOf_17 : decode cX10_nodeOf 17 = .ok (.arraylength, 1) := by decide +kernel
theorem dX10_nodeOf_18 : decode cX10_nodeOf 18 = .ok (.if_icmp .lt 13, 3) := by decide +kernel
theorem dX10_nodeOf_21 : decode cX10_nodeOf 21 = .ok (.new 208, 3) := by decide +kernel
theorem dX10_nodeOf_24 : decode cX10_nodeOf 24 = .ok (.dup, 1) := by decide +kernel
theorem dX10_nodeOf_25 : decode cX10_nodeOf 25 = .ok (.ldc 243, 2) := by decide +kernel
theorem dX10_nodeOf_27 : decode cX10_nodeOf 27 = .ok (.invokespecial 212, 3) := by decide +kernel
theorem dX10_nodeOf_30 : decode cX10_nodeOf 30 = .ok (.athrow, 1) := by decide +kernel
theorem dX10_nodeOf_31 : decode cX10_nodeOf 31 = .ok (.aload_n 0, 1) := by decide +kernel
theorem dX10_nodeOf_32 : decode cX10_nodeOf 32 = .ok (.getfield 11, 3) := by decide +kernel
theorem dX10_nodeOf_35 : decode cX10_nodeOf 35 = .ok (.iload_n 1, 1) := by decide +kernel
theorem dX10_nodeOf_36 : decode cX10_nodeOf 36 = .ok (.aaload, 1) := by decide +kernel
theorem dX10_nodeOf_37 : decode cX10_nodeOf 37 = .ok (.astore_n 2, 1) := by decide +kernel
theorem dX10_nodeOf_38 : decode cX10_nodeOf 38 = .ok (.aload_n 2, 1) := by decide +kernel
theorem dX10_nodeOf_39 : decode cX10_nodeOf 39 = .ok (.ifnonnull 13, 3) := by decide +kernel
theorem dX10_nodeOf_42 : decode cX10_nodeOf 42 = .ok (.new 208, 3) := by decide +kernel
theorem dX10_nodeOf_45 : decode cX10_nodeOf 45 = .ok (.dup, 1) := by decide +kernel
theorem dX10_nodeOf_46 : decode cX10_nodeOf 46 = .ok (.ldc 243, 2) := by decide +kernel
theorem dX10_nodeOf_48 : decode cX10_nodeOf 48 = .ok (.invokespecial 212, 3) := by decide +kernel
theorem dX10_nodeOf_51 : decode cX10_nodeOf 51 = .ok (.athrow, 1) := by decide +kernel
theorem dX10_nodeOf_52 : decode cX10_nodeOf 52 = .ok (.aload_n 2, 1) := by decide +kernel
theorem dX10_nodeOf_53 : decode cX10_nodeOf 53 = .ok (.areturn, 1) := by decide +kernel
theorem dX10_add_0 : decode cX10_add 0 = .ok (.aload_n 0, 1) := by decide +kernel
theorem dX10_add_1 : decode cX10_add 1 = .ok (.getfield 15, 3) := by decide +kernel
theorem dX10_add_4 : decode cX10_add 4 = .ok (.aload_n 0, 1) := by decide +kernel
theorem dX10_add_5 : decode cX10_add 5 = .ok (.getfield 11, 3) := by decide +kernel
theorem dX10_add_8 : decode cX10_add 8 = .ok (.arraylength, 1) := by decide +kernel
theorem dX10_add_9 : decode cX10_add 9 = .ok (.if_icmp .lt 13, 3) := by decide +kernel
theorem dX10_add_12 : decode cX10_add 12 = .ok (.new 126, 3) := by decide +kernel
theorem dX10_add_15 : decode cX10_add 15 = .ok (.dup, 1) := by decide +kernel
theorem dX10_add_16 : decode cX10_add 16 = .ok (.ldc 245, 2) := by decide +kernel
theorem dX10_add_18 : decode cX10_add 18 = .ok (.invokespecial 130, 3) := by decide +kernel
theorem dX10_add_21 : decode cX10_add 21 = .ok (.athrow, 1) := by decide +kernel
theorem dX10_add_22 : decode cX10_add 22 = .ok (.aload_n 1, 1) := by decide +kernel
theorem dX10_add_23 : decode cX10_add 23 = .ok (.getfield 136, 3) := by decide +kernel
theorem dX10_add_26 : decode cX10_add 26 = .ok (.bipush 30, 2) := by decide +kernel
theorem dX10_add_28 : decode cX10_add 28 = .ok (.if_icmp .gt 12, 3) := by decide +kernel
theorem dX10_add_31 : decode cX10_add 31 = .ok (.aload_n 1, 1) := by decide +kernel
theorem dX10_add_32 : decode cX10_add 32 = .ok (.getfield 247, 3) := by decide +kernel
theorem dX10_add_35 : decode cX10_add 35 = .ok (.bipush 30, 2) := by decide +kernel
theorem dX10_add_37 : decode cX10_add 37 = .ok (.if_icmp .le 13, 3) := by decide +kernel
theorem dX10_add_40 : decode cX10_add 40 = .ok (.new 126, 3) := by decide +kernel
theorem dX10_add_43 : decode cX10_add 43 = .ok (.dup, 1) := by decide +kernel
theorem dX10_add_44 : decode cX10_add 44 = .ok (.ldc 250, 2) := by decide +kernel
theorem dX10_add_46 : decode cX10_add 46 = .ok (.invokespecial 130, 3) := by decide +kernel
theorem dX10_add_49 : decode cX10_add 49 = .ok (.athrow, 1) := by decide +kernel
theorem dX10_add_50 : decode cX10_add 50 = .ok (.aload_n 1, 1) := by decide +kernel
theorem dX10_add_51 : decode cX10_add 51 = .ok (.aload_n 0, 1) := by decide +kernel
theorem dX10_add_52 : decode cX10_add 52 = .ok (.getfield 15, 3) := by decide +kernel
theorem dX10_add_55 : decode cX10_add 55 = .ok (.invokevirtual 252, 3) := by decide +kernel
theorem dX10_add_58 : decode cX10_add 58 = .ok (.aload_n 0, 1) := by decide +kernel
theorem dX10_add_59 : decode cX10_add 59 = .ok (.getfield 11, 3) := by decide +kernel
theorem dX10_add_62 : decode cX10_add 62 = .ok (.aload_n 0, 1) := by decide +kernel
theorem dX10_add_63 : decode cX10_add 63 = .ok (.getfield 15, 3) := by decide +kernel
theorem dX10_add_66 : decode cX10_add 66 = .ok (.aload_n 1, 1) := by decide +kernel
theorem dX10_add_67 : decode cX10_add 67 = .ok (.aastore, 1) := by decide +kernel
theorem dX10_add_68 : decode cX10_add 68 = .ok (.aload_n 0, 1) := by decide +kernel
theorem dX10_add_69 : decode cX10_add 69 = .ok (.dup, 1) := by decide +kernel
theorem dX10_add_70 : decode cX10_add 70 = .ok (.getfield 15, 3) := by decide +kernel
theorem dX10_add_73 : decode cX10_add 73 = .ok (.iconst 1, 1) := by decide +kernel
theorem dX10_add_74 : decode cX10_add 74 = .ok (.iadd, 1) := by decide +kernel
theorem dX10_add_75 : decode cX10_add 75 = .ok (.putfield 15, 3) := by decide +kernel
theorem dX10_add_78 : decode cX10_add 78 = .ok (.aload_n 1, 1) := by decide +kernel
theorem dX10_add_79 : decode cX10_add 79 = .ok (.getfield 199, 3) := by decide +kernel
theorem dX10_add_82 : decode cX10_add 82 = .ok (.ireturn, 1) := by decide +kernel
theorem dX11_init_0 : decode cX11_init 0 = .ok (.aload_n 0, 1) := by decide +kernel
theorem dX11_init_1 : decode cX11_init 1 = .ok (.invokespecial 1, 3) := by decide +kernel
theorem dX11_init_4 : decode cX11_init 4 = .ok (.aload_n 0, 1) := by decide +kernel
theorem dX11_init_5 : decode cX11_init 5 = .ok (.bipush 60, 2) := by decide +kernel
theorem dX11_init_7 : decode cX11_init 7 = .ok (.newarray .int, 2) := by decide +kernel
theorem dX11_init_9 : decode cX11_init 9 = .ok (.putfield 7, 3) := by decide +kernel
theorem dX11_init_12 : decode cX11_init 12 = .ok (.aload_n 0, 1) := by decide +kernel
theorem dX11_init_13 : decode cX11_init 13 = .ok (.bipush 60, 2) := by decide +kernel
theorem dX11_init_15 : decode cX11_init 15 = .ok (.newarray .int, 2) := by decide +kernel
theorem dX11_init_17 : decode cX11_init 17 = .ok (.putfield 13, 3) := by decide +kernel
theorem dX11_init_20 : decode cX11_init 20 = .ok (.aload_n 0, 1) := by decide +kernel
theorem dX11_init_21 : decode cX11_init 21 = .ok (.bipush 60, 2) := by decide +kernel
theorem dX11_init_23 : decode cX11_init 23 = .ok (.newarray .int, 2) := by decide +kernel
theorem dX11_init_25 : decode cX11_init 25 = .ok (.putfield 16, 3) := by decide +kernel
theorem dX11_init_28 : decode cX11_init 28 = .ok (.aload_n 0, 1) := by decide +kernel
theorem dX11_init_29 : decode cX11_init 29 = .ok (.bipush 60, 2) := by decide +kernel
theorem dX11_init_31 : decode cX11_init 31 = .ok (.newarray .int, 2) := by decide +kernel
theorem dX11_init_33 : decode cX11_init 33 = .ok (.putfield 19, 3) := by decide +kernel
theorem dX11_init_36 : decode cX11_init 36 = .ok (.aload_n 0, 1) := by decide +kernel
theorem dX11_init_37 : decode cX11_init 37 = .ok (.bipush 60, 2) := by decide +kernel
theorem dX11_init_39 : decode cX11_init 39 = .ok (.newarray .int, 2) := by decide +kernel
theorem dX11_init_41 : decode cX11_init 41 = .ok (.putfield 22, 3) := by decide +kernel
theorem dX11_init_44 : decode cX11_init 44 = .ok (.aload_n 0, 1) := by decide +kernel
theorem dX11_init_45 : decode cX11_init 45 = .ok (.bipush 60, 2) := by decide +kernel
theorem dX11_init_47 : decode cX11_init 47 = .ok (.newarray .int, 2) := by decide +kernel
theorem dX11_init_49 : decode cX11_init 49 = .ok (.putfield 25, 3) := by decide +kernel
theorem dX11_init_52 : decode cX11_init 52 = .ok (.aload_n 0, 1) := by decide +kernel
theorem dX11_init_53 : decode cX11_init 53 = .ok (.bipush 60, 2) := by decide +kernel
theorem dX11_init_55 : decode cX11_init 55 = .ok (.newarray .int, 2) := by decide +kernel
theorem dX11_init_57 : decode cX11_init 57 = .ok (.putfield 28, 3) := by decide +kernel
theorem dX11_init_60 : decode cX11_init 60 = .ok (.aload_n 0, 1) := by decide +kernel
theorem dX11_init_61 : decode cX11_init 61 = .ok (.bipush 60, 2) := by decide +kernel
theorem dX11_init_63 : decode cX11_init 63 = .ok (.newarray .int, 2) := by decide +kernel
theorem dX11_init_65 : decode cX11_init 65 = .ok (.putfield 31, 3) := by decide +kernel
theorem dX11_init_68 : decode cX11_init 68 = .ok (.aload_n 0, 1) := by decide +kernel
theorem dX11_init_69 : decode cX11_init 69 = .ok (.bipush 60, 2) := by decide +kernel
theorem dX11_init_71 : decode cX11_init 71 = .ok (.newarray .int, 2) := by decide +kernel
theorem dX11_init_73 : decode cX11_init 73 = .ok (.putfield 34, 3) := by decide +kernel
theorem dX11_init_76 : decode cX11_init 76 = .ok (.aload_n 0, 1) := by decide +kernel
theorem dX11_init_77 : decode cX11_init 77 = .ok (.bipush 60, 2) := by decide +kernel
theorem dX11_init_79 : decode cX11_init 79 = .ok (.newarray .int, 2) := by decide +kernel
theorem dX11_init_81 : decode cX11_init 81 = .ok (.putfield 37, 3) := by decide +kernel
theorem dX11_init_84 : decode cX11_init 84 = .ok (.aload_n 0, 1) := by decide +kernel
theorem dX11_init_85 : decode cX11_init 85 = .ok (.bipush 60, 2) := by decide +kernel
theorem dX11_init_87 : decode cX11_init 87 = .ok (.newarray .int, 2) := by decide +kernel
theorem dX11_init_89 : decode cX11_init 89 = .ok (.putfield 40, 3) := by decide +kernel
theorem dX11_init_92 : decode cX11_init 92 = .ok (.aload_n 0, 1) := by decide +kernel
theorem dX11_init_93 : decode cX11_init 93 = .ok (.bipush 60, 2) := by decide +kernel
theorem dX11_init_95 : decode cX11_init 95 = .ok (.newarray .boolean, 2) := by decide +kernel
theorem dX11_init_97 : decode cX11_init 97 = .ok (.putfield 43, 3) := by decide +kernel
theorem dX11_init_100 : decode cX11_init 100 = .ok (.aload_n 0, 1) := by decide +kernel
theorem dX11_init_101 : decode cX11_init 101 = .ok (.sipush 8000, 3) := by decide +kernel
theorem dX11_init_104 : decode cX11_init 104 = .ok (.newarray .int, 2) := by decide +kernel
theorem dX11_init_106 : decode cX11_init 106 = .ok (.putfield 47, 3) := by decide +kernel
theorem dX11_init_109 : decode cX11_init 109 = .ok (.aload_n 0, 1) := by decide +kernel
theorem dX11_init_110 : decode cX11_init 110 = .ok (.sipush 8000, 3) := by decide +kernel
theorem dX11_init_113 : decode cX11_init 113 = .ok (.newarray .int, 2) := by decide +kernel
theorem dX11_init_115 : decode cX11_init 115 = .ok (.putfield 50, 3) := by decide +kernel
theorem dX11_init_118 : decode cX11_init 118 = .ok (.aload_n 0, 1) := by decide +kernel
theorem dX11_init_119 : decode cX11_init 119 = .ok (.sipush 8000, 3) := by decide +kernel
theorem dX11_init_122 : decode cX11_init 122 = .ok (.newarray .int, 2) := by decide +kernel
theorem dX11_init_124 : decode cX11_init 124 = .ok (.putfield 53, 3) := by decide +kernel
theorem dX11_init_127 : decode cX11_init 127 = .ok (.aload_n 0, 1) := by decide +kernel
theorem dX11_init_128 : decode cX11_init 128 = .ok (.sipush 8000, 3) := by decide +kernel
theorem dX11_init_131 : decode cX11_init 131 = .ok (.newarray .int, 2) := by decide +kernel
theorem dX11_init_133 : decode cX11_init 133 = .ok (.putfield 56, 3) := by decide +kernel
theorem dX11_init_136 : decode cX11_init 136 = .ok (.aload_n 0, 1) := by decide +kernel
theorem dX11_init_137 : decode cX11_init 137 = .ok (.sipush 8000, 3) := by decide +kernel
theorem dX11_init_140 : decode cX11_init 140 = .ok (.newarray .int, 2) := by decide +kernel
theorem dX11_init_142 : decode cX11_init 142 = .ok (.putfield 59, 3) := by decide +kernel
theorem dX11_init_145 : decode cX11_init 145 = .ok (.aload_n 0, 1) := by decide +kernel
theorem dX11_init_146 : decode cX11_init 146 = .ok (.sipush 8000, 3) := by decide +kernel
theorem dX11_init_149 : decode cX11_init 149 = .ok (.newarray .boolean, 2) := by decide +kernel
theorem dX11_init_151 : decode cX11_init 151 = .ok (.putfield 62, 3) := by decide +kernel
theorem dX11_init_154 : decode cX11_init 154 = .ok (.aload_n 0, 1) := by decide +kernel
theorem dX11_init_155 : decode cX11_init 155 = .ok (.sipush 8000, 3) := by decide +kernel
theorem dX11_init_158 : decode cX11_init 158 = .ok (.newarray .boolean, 2) := by decide +kernel
theorem dX11_init_160 : decode cX11_init 160 = .ok (.putfield 65, 3) := by decide +kernel
theorem dX11_init_163 : decode cX11_init 163 = .ok (.aload_n 0, 1) := by decide +kernel
theorem dX11_init_164 : decode cX11_init 164 = .ok (.sipush 8000, 3) := by decide +kernel
theorem dX11_init_167 : decode cX11_init 167 = .ok (.newarray .int, 2) := by decide +kernel
theorem dX11_init_169 : decode cX11_init 169 = .ok (.putfield 68, 3) := by decide +kernel
theorem dX11_init_172 : decode cX11_init 172 = .ok (.aload_n 0, 1) := by decide +kernel
theorem dX11_init_173 : decode cX11_init 173 = .ok (.sipush 8000, 3) := by decide +kernel
theorem dX11_init_176 : decode cX11_init 176 = .ok (.newarray .int, 2) := by decide +kernel
theorem dX11_init_178 : decode cX11_init 178 = .ok (.putfield 71, 3) := by decide +kernel
theorem dX11_init_181 : decode cX11_init 181 = .ok (.aload_n 0, 1) := by decide +kernel
theorem dX11_init_182 : decode cX11_init 182 = .ok (.sipush 400, 3) := by decide +kernel
theorem dX11_init_185 : decode cX11_init 185 = .ok (.newarray .int, 2) := by decide +kernel
theorem dX11_init_187 : decode cX11_init 187 = .ok (.putfield 74, 3) := by decide +kernel
theorem dX11_init_190 : decode cX11_init 190 = .ok (.aload_n 0, 1) := by decide +kernel
theorem dX11_init_191 : decode cX11_init 191 = .ok (.bipush 20, 2) := by decide +kernel
theorem dX11_init_193 : decode cX11_init 193 = .ok (.newarray .int, 2) := by decide +kernel
theorem dX11_init_195 : decode cX11_init 195 = .ok (.putfield 77, 3) := by decide +kernel
theorem dX11_init_198 : decode cX11_init 198 = .ok (.aload_n 0, 1) := by decide +kernel
theorem dX11_init_199 : decode cX11_init 199 = .ok (.ldc 80, 2) := by decide +kernel
theorem dX11_init_201 : decode cX11_init 201 = .ok (.newarray .int, 2) := by decide +kernel
theorem dX11_init_203 : decode cX11_init 203 = .ok (.putfield 81, 3) := by decide +kernel
theorem dX11_init_206 : decode cX11_init 206 = .ok (.aload_n 0, 1) := by decide +kernel
theorem dX11_init_207 : decode cX11_init 207 = .ok (.ldc 80, 2) := by decide +kernel
theorem dX11_init_209 : decode cX11_init 209 = .ok (.newarray .int, 2) := by decide +kernel
theorem dX11_init_211 : decode cX11_init 211 = .ok (.putfield 84, 3) := by decide +kernel
theorem dX11_init_214 : decode cX11_init 214 = .ok (.aload_n 0, 1) := by decide +kernel
theorem dX11_init_215 : decode cX11_init 215 = .ok (.ldc 80, 2) := by decide +kernel
theorem dX11_init_217 : decode cX11_init 217 = .ok (.newarray .int, 2) := by decide +kernel
theorem dX11_init_219 : decode cX11_init 219 = .ok (.putfield 87, 3) := by decide +kernel
theorem dX11_init_222 : decode cX11_init 222 = .ok (.aload_n 0, 1) := by decide +kernel
theorem dX11_init_223 : decode cX11_init 223 = .ok (.ldc 80, 2) := by decide +kernel
theorem dX11_init_225 : decode cX11_init 225 = .ok (.newarray .boolean, 2) := by decide +kernel
theorem dX11_init_227 : decode cX11_init 227 = .ok (.putfield 90, 3) := by decide +kernel
theorem dX11_init_230 : decode cX11_init 230 = .ok (.aload_n 0, 1) := by decide +kernel
theorem dX11_init_231 : decode cX11_init 231 = .ok (.ldc 80, 2) := by decide +kernel
theorem dX11_init_233 : decode cX11_init 233 = .ok (.newarray .int, 2) := by decide +kernel
theorem dX11_init_235 : decode cX11_init 235 = .ok (.putfield 93, 3) := by decide +kernel
theorem dX11_init_238 : decode cX11_init 238 = .ok (.aload_n 0, 1) := by decide +kernel
theorem dX11_init_239 : decode cX11_init 239 = .ok (.ldc 80, 2) := by decide +kernel
theorem dX11_init_241 : decode cX11_init 241 = .ok (.newarray .int, 2) := by decide +kernel
theorem dX11_init_243 : decode cX11_init 243 = .ok (.putfield 96, 3) := by decide +kernel
theorem dX11_init_246 : decode cX11_init 246 = .ok (.aload_n 0, 1) := by decide +kernel
theorem dX11_init_247 : decode cX11_init 247 = .ok (.ldc 80, 2) := by decide +kernel
theorem dX11_init_249 : decode cX11_init 249 = .ok (.newarray .int, 2) := by decide +kernel
theorem dX11_init_251 : decode cX11_init 251 = .ok (.putfield 99, 3) := by decide +kernel
theorem dX11_init_254 : decode cX11_init 254 = .ok (.aload_n 0, 1) := by decide +kernel
theorem dX11_init_255 : decode cX11_init 255 = .ok (.ldc 80, 2) := by decide +kernel
theorem dX11_init_257 : decode cX11_init 257 = .ok (.newarray .int, 2) := by decide +kernel
theorem dX11_init_259 : decode cX11_init 259 = .ok (.putfield 102, 3) := by decide +kernel
theorem dX11_init_262 : decode cX11_init 262 = .ok (.aload_n 0, 1) := by decide +kernel
theorem dX11_init_263 : decode cX11_init 263 = .ok (.ldc 80, 2) := by decide +kernel
theorem dX11_init_265 : decode cX11_init 265 = .ok (.newarray .int, 2) := by decide +kernel
theorem dX11_init_267 : decode cX11_init 267 = .ok (.putfield 105, 3) := by decide +kernel
theorem dX11_init_270 : decode cX11_init 270 = .ok (.aload_n 0, 1) := by decide +kernel
theorem dX11_init_271 : decode cX11_init 271 = .ok (.ldc 80, 2) := by decide +kernel
theorem dX11_init_273 : decode cX11_init 273 = .ok (.newarray .int, 2) := by decide +kernel
theorem dX11_init_275 : decode cX11_init 275 = .ok (.putfield 108, 3) := by decide +kernel
theorem dX11_init_278 : decode cX11_init 278 = .ok (.aload_n 0, 1) := by decide +kernel
theorem dX11_init_279 : decode cX11_init 279 = .ok (.ldc 80, 2) := by decide +kernel
theorem dX11_init_281 : decode cX11_init 281 = .ok (.newarray .int, 2) := by decide +kernel
theorem dX11_init_283 : decode cX11_init 283 = .ok (.putfield 111, 3) := by decide +kernel
theorem dX11_init_286 : decode cX11_init 286 = .ok (.aload_n 0, 1) := by decide +kernel
theorem dX11_init_287 : decode cX11_init 287 = .ok (.ldc 80, 2) := by decide +kernel
theorem dX11_init_289 : decode cX11_init 289 = .ok (.newarray .int, 2) := by decide +kernel
