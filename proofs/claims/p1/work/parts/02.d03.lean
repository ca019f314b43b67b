theorem dX11_keep_2 : decode cX11_keep 2 = .ok (.iload_n 1, 1) := by decide +kernel
theorem dX11_keep_3 : decode cX11_keep 3 = .ok (.iconst 0, 1) := by decide +kernel
theorem dX11_keep_4 : decode cX11_keep 4 = .ok (.sipush 1000, 3) := by decide +kernel
theorem dX11_keep_7 : decode cX11_keep 7 = .ok (.invokestatic 195, 3) := by decide +kernel
theorem dX11_keep_10 : decode cX11_keep 10 = .ok (.invokevirtual 234, 3) := by decide +kernel
theorem dX11_keep_13 : decode cX11_keep 13 = .ok (.ifCond .eq 16, 3) := by decide +kernel
theorem dX11_keep_16 : decode cX11_keep 16 = .ok (.aload_n 0, 1) := by decide +kernel
theorem dX11_keep_17 : decode cX11_keep 17 = .ok (.bipush 14, 2) := by decide +kernel
theorem dX11_keep_19 : decode cX11_keep 19 = .ok (.iload_n 1, 1) := by decide +kernel
theorem dX11_keep_20 : decode cX11_keep 20 = .ok (.iload_n 2, 1) := by decide +kernel
theorem dX11_keep_21 : decode cX11_keep 21 = .ok (.iconst (-1), 1) := by decide +kernel
theorem dX11_keep_22 : decode cX11_keep 22 = .ok (.iconst 3, 1) := by decide +kernel
theorem dX11_keep_23 : decode cX11_keep 23 = .ok (.invokevirtual 230, 3) := by decide +kernel
theorem dX11_keep_26 : decode cX11_keep 26 = .ok (.goto 4, 3) := by decide +kernel
theorem dX11_keep_29 : decode cX11_keep 29 = .ok (.iconst 0, 1) := by decide +kernel
theorem dX11_keep_30 : decode cX11_keep 30 = .ok (.ireturn, 1) := by decide +kernel
theorem dX11_cell_0 : decode cX11_cell 0 = .ok (.aload_n 0, 1) := by decide +kernel
theorem dX11_cell_1 : decode cX11_cell 1 = .ok (.iload_n 3, 1) := by decide +kernel
theorem dX11_cell_2 : decode cX11_cell 2 = .ok (.iload_n 1, 1) := by decide +kernel
theorem dX11_cell_3 : decode cX11_cell 3 = .ok (.iconst 0, 1) := by decide +kernel
theorem dX11_cell_4 : decode cX11_cell 4 = .ok (.iconst 3, 1) := by decide +kernel
theorem dX11_cell_5 : decode cX11_cell 5 = .ok (.invokestatic 195, 3) := by decide +kernel
theorem dX11_cell_8 : decode cX11_cell 8 = .ok (.ifCond .eq 16, 3) := by decide +kernel
theorem dX11_cell_11 : decode cX11_cell 11 = .ok (.iload_n 2, 1) := by decide +kernel
theorem dX11_cell_12 : decode cX11_cell 12 = .ok (.iconst 0, 1) := by decide +kernel
theorem dX11_cell_13 : decode cX11_cell 13 = .ok (.iconst 4, 1) := by decide +kernel
theorem dX11_cell_14 : decode cX11_cell 14 = .ok (.invokestatic 195, 3) := by decide +kernel
theorem dX11_cell_17 : decode cX11_cell 17 = .ok (.ifCond .eq 7, 3) := by decide +kernel
theorem dX11_cell_20 : decode cX11_cell 20 = .ok (.iconst 1, 1) := by decide +kernel
theorem dX11_cell_21 : decode cX11_cell 21 = .ok (.goto 4, 3) := by decide +kernel
theorem dX11_cell_24 : decode cX11_cell 24 = .ok (.iconst 0, 1) := by decide +kernel
theorem dX11_cell_25 : decode cX11_cell 25 = .ok (.invokevirtual 234, 3) := by decide +kernel
theorem dX11_cell_28 : decode cX11_cell 28 = .ok (.ifCond .ne 5, 3) := by decide +kernel
theorem dX11_cell_31 : decode cX11_cell 31 = .ok (.iconst 0, 1) := by decide +kernel
theorem dX11_cell_32 : decode cX11_cell 32 = .ok (.ireturn, 1) := by decide +kernel
theorem dX11_cell_33 : decode cX11_cell 33 = .ok (.aload_n 0, 1) := by decide +kernel
theorem dX11_cell_34 : decode cX11_cell 34 = .ok (.aload_n 0, 1) := by decide +kernel
theorem dX11_cell_35 : decode cX11_cell 35 = .ok (.getfield 43, 3) := by decide +kernel
theorem dX11_cell_38 : decode cX11_cell 38 = .ok (.iload_n 3, 1) := by decide +kernel
theorem dX11_cell_39 : decode cX11_cell 39 = .ok (.baload, 1) := by decide +kernel
theorem dX11_cell_40 : decode cX11_cell 40 = .ok (.ifCond .eq 7, 3) := by decide +kernel
theorem dX11_cell_43 : decode cX11_cell 43 = .ok (.iconst 3, 1) := by decide +kernel
theorem dX11_cell_44 : decode cX11_cell 44 = .ok (.goto 4, 3) := by decide +kernel
theorem dX11_cell_47 : decode cX11_cell 47 = .ok (.iconst 0, 1) := by decide +kernel
theorem dX11_cell_48 : decode cX11_cell 48 = .ok (.putfield 192, 3) := by decide +kernel
theorem dX11_cell_51 : decode cX11_cell 51 = .ok (.aload_n 0, 1) := by decide +kernel
theorem dX11_cell_52 : decode cX11_cell 52 = .ok (.getfield 192, 3) := by decide +kernel
theorem dX11_cell_55 : decode cX11_cell 55 = .ok (.ifCond .ne 20, 3) := by decide +kernel
theorem dX11_cell_58 : decode cX11_cell 58 = .ok (.aload_n 0, 1) := by decide +kernel
theorem dX11_cell_59 : decode cX11_cell 59 = .ok (.bipush 15, 2) := by decide +kernel
theorem dX11_cell_61 : decode cX11_cell 61 = .ok (.iconst 5, 1) := by decide +kernel
theorem dX11_cell_62 : decode cX11_cell 62 = .ok (.iload_n 1, 1) := by decide +kernel
theorem dX11_cell_63 : decode cX11_cell 63 = .ok (.imul, 1) := by decide +kernel
theorem dX11_cell_64 : decode cX11_cell 64 = .ok (.iload_n 2, 1) := by decide +kernel
theorem dX11_cell_65 : decode cX11_cell 65 = .ok (.iadd, 1) := by decide +kernel
theorem dX11_cell_66 : decode cX11_cell 66 = .ok (.iload_n 3, 1) := by decide +kernel
theorem dX11_cell_67 : decode cX11_cell 67 = .ok (.iconst (-1), 1) := by decide +kernel
theorem dX11_cell_68 : decode cX11_cell 68 = .ok (.iconst 3, 1) := by decide +kernel
theorem dX11_cell_69 : decode cX11_cell 69 = .ok (.invokevirtual 230, 3) := by decide +kernel
theorem dX11_cell_72 : decode cX11_cell 72 = .ok (.goto 4, 3) := by decide +kernel
theorem dX11_cell_75 : decode cX11_cell 75 = .ok (.iconst 0, 1) := by decide +kernel
theorem dX11_cell_76 : decode cX11_cell 76 = .ok (.ireturn, 1) := by decide +kernel
theorem dX11_nodes_0 : decode cX11_nodes 0 = .ok (.aload_n 0, 1) := by decide +kernel
theorem dX11_nodes_1 : decode cX11_nodes 1 = .ok (.iconst 0, 1) := by decide +kernel
theorem dX11_nodes_2 : decode cX11_nodes 2 = .ok (.putfield 192, 3) := by decide +kernel
theorem dX11_nodes_5 : decode cX11_nodes 5 = .ok (.aload_n 0, 1) := by decide +kernel
theorem dX11_nodes_6 : decode cX11_nodes 6 = .ok (.getfield 188, 3) := by decide +kernel
theorem dX11_nodes_9 : decode cX11_nodes 9 = .ok (.ireturn, 1) := by decide +kernel
theorem dX11_size_0 : decode cX11_size 0 = .ok (.aload_n 0, 1) := by decide +kernel
theorem dX11_size_1 : decode cX11_size 1 = .ok (.aload_n 0, 1) := by decide +kernel
theorem dX11_size_2 : decode cX11_size 2 = .ok (.iload_n 1, 1) := by decide +kernel
theorem dX11_size_3 : decode cX11_size 3 = .ok (.invokevirtual 222, 3) := by decide +kernel
theorem dX11_size_6 : decode cX11_size 6 = .ok (.ifCond .eq 7, 3) := by decide +kernel
theorem dX11_size_9 : decode cX11_size 9 = .ok (.iconst 0, 1) := by decide +kernel
theorem dX11_size_10 : decode cX11_size 10 = .ok (.goto 4, 3) := by decide +kernel
theorem dX11_size_13 : decode cX11_size 13 = .ok (.iconst 1, 1) := by decide +kernel
theorem dX11_size_14 : decode cX11_size 14 = .ok (.putfield 192, 3) := by decide +kernel
theorem dX11_size_17 : decode cX11_size 17 = .ok (.aload_n 0, 1) := by decide +kernel
theorem dX11_size_18 : decode cX11_size 18 = .ok (.getfield 192, 3) := by decide +kernel
theorem dX11_size_21 : decode cX11_size 21 = .ok (.ifCond .ne 12, 3) := by decide +kernel
theorem dX11_size_24 : decode cX11_size 24 = .ok (.aload_n 0, 1) := by decide +kernel
theorem dX11_size_25 : decode cX11_size 25 = .ok (.getfield 25, 3) := by decide +kernel
theorem dX11_size_28 : decode cX11_size 28 = .ok (.iload_n 1, 1) := by decide +kernel
theorem dX11_size_29 : decode cX11_size 29 = .ok (.iaload, 1) := by decide +kernel
theorem dX11_size_30 : decode cX11_size 30 = .ok (.goto 4, 3) := by decide +kernel
theorem dX11_size_33 : decode cX11_size 33 = .ok (.iconst 0, 1) := by decide +kernel
theorem dX11_size_34 : decode cX11_size 34 = .ok (.ireturn, 1) := by decide +kernel
theorem dX11_layouts_0 : decode cX11_layouts 0 = .ok (.aload_n 0, 1) := by decide +kernel
theorem dX11_layouts_1 : decode cX11_layouts 1 = .ok (.aload_n 0, 1) := by decide +kernel
theorem dX11_layouts_2 : decode cX11_layouts 2 = .ok (.iload_n 1, 1) := by decide +kernel
theorem dX11_layouts_3 : decode cX11_layouts 3 = .ok (.invokevirtual 222, 3) := by decide +kernel
theorem dX11_layouts_6 : decode cX11_layouts 6 = .ok (.ifCond .eq 7, 3) := by decide +kernel
theorem dX11_layouts_9 : decode cX11_layouts 9 = .ok (.iconst 0, 1) := by decide +kernel
theorem dX11_layouts_10 : decode cX11_layouts 10 = .ok (.goto 4, 3) := by decide +kernel
theorem dX11_layouts_13 : decode cX11_layouts 13 = .ok (.iconst 1, 1) := by decide +kernel
theorem dX11_layouts_14 : decode cX11_layouts 14 = .ok (.putfield 192, 3) := by decide +kernel
theorem dX11_layouts_17 : decode cX11_layouts 17 = .ok (.aload_n 0, 1) := by decide +kernel
theorem dX11_layouts_18 : decode cX11_layouts 18 = .ok (.getfield 192, 3) := by decide +kernel
theorem dX11_layouts_21 : decode cX11_layouts 21 = .ok (.ifCond .ne 12, 3) := by decide +kernel
theorem dX11_layouts_24 : decode cX11_layouts 24 = .ok (.aload_n 0, 1) := by decide +kernel
theorem dX11_layouts_25 : decode cX11_layouts 25 = .ok (.getfield 37, 3) := by decide +kernel
theorem dX11_layouts_28 : decode cX11_layouts 28 = .ok (.iload_n 1, 1) := by decide +kernel
theorem dX11_layouts_29 : decode cX11_layouts 29 = .ok (.iaload, 1) := by decide +kernel
theorem dX11_layouts_30 : decode cX11_layouts 30 = .ok (.goto 4, 3) := by decide +kernel
theorem dX11_layouts_33 : decode cX11_layouts 33 = .ok (.iconst 0, 1) := by decide +kernel
theorem dX11_layouts_34 : decode cX11_layouts 34 = .ok (.ireturn, 1) := by decide +kernel
theorem dX11_asksToPrint_0 : decode cX11_asksToPrint 0 = .ok (.aload_n 0, 1) := by decide +kernel
theorem dX11_asksToPrint_1 : decode cX11_asksToPrint 1 = .ok (.aload_n 0, 1) := by decide +kernel
theorem dX11_asksToPrint_2 : decode cX11_asksToPrint 2 = .ok (.iload_n 1, 1) := by decide +kernel
theorem dX11_asksToPrint_3 : decode cX11_asksToPrint 3 = .ok (.invokevirtual 222, 3) := by decide +kernel
theorem dX11_asksToPrint_6 : decode cX11_asksToPrint 6 = .ok (.ifCond .ne 7, 3) := by decide +kernel
theorem dX11_asksToPrint_9 : decode cX11_asksToPrint 9 = .ok (.iconst 1, 1) := by decide +kernel
theorem dX11_asksToPrint_10 : decode cX11_asksToPrint 10 = .ok (.goto 39, 3) := by decide +kernel
theorem dX11_asksToPrint_13 : decode cX11_asksToPrint 13 = .ok (.iload_n 2, 1) := by decide +kernel
theorem dX11_asksToPrint_14 : decode cX11_asksToPrint 14 = .ok (.iconst 1, 1) := by decide +kernel
theorem dX11_asksToPrint_15 : decode cX11_asksToPrint 15 = .ok (.bipush 80, 2) := by decide +kernel
theorem dX11_asksToPrint_17 : decode cX11_asksToPrint 17 = .ok (.invokestatic 195, 3) := by decide +kernel
theorem dX11_asksToPrint_20 : decode cX11_asksToPrint 20 = .ok (.ifCond .eq 24, 3) := by decide +kernel
theorem dX11_asksToPrint_23 : decode cX11_asksToPrint 23 = .ok (.iload_n 3, 1) := by decide +kernel
theorem dX11_asksToPrint_24 : decode cX11_asksToPrint 24 = .ok (.iconst 1, 1) := by decide +kernel
theorem dX11_asksToPrint_25 : decode cX11_asksToPrint 25 = .ok (.bipush 80, 2) := by decide +kernel
theorem dX11_asksToPrint_27 : decode cX11_asksToPrint 27 = .ok (.invokestatic 195, 3) := by decide +kernel
theorem dX11_asksToPrint_30 : decode cX11_asksToPrint 30 = .ok (.ifCond .eq 14, 3) := by decide +kernel
theorem dX11_asksToPrint_33 : decode cX11_asksToPrint 33 = .ok (.iload 4, 2) := by decide +kernel
theorem dX11_asksToPrint_35 : decode cX11_asksToPrint 35 = .ok (.iconst 0, 1) := by decide +kernel
theorem dX11_asksToPrint_36 : decode cX11_asksToPrint 36 = .ok (.bipush 100, 2) := by decide +kernel
theorem dX11_asksToPrint_38 : decode cX11_asksToPrint 38 = .ok (.invokestatic 195, 3) := by decide +kernel
theorem dX11_asksToPrint_41 : decode cX11_asksToPrint 41 = .ok (.ifCond .ne 7, 3) := by decide +kernel
theorem dX11_asksToPrint_44 : decode cX11_asksToPrint 44 = .ok (.iconst 2, 1) := by decide +kernel
theorem dX11_asksToPrint_45 : decode cX11_asksToPrint 45 = .ok (.goto 4, 3) := by decide +kernel
theorem dX11_asksToPrint_48 : decode cX11_asksToPrint 48 = .ok (.iconst 0, 1) := by decide +kernel
theorem dX11_asksToPrint_49 : decode cX11_asksToPrint 49 = .ok (.putfield 192, 3) := by decide +kernel
theorem dX11_asksToPrint_52 : decode cX11_asksToPrint 52 = .ok (.aload_n 0, 1) := by decide +kernel
theorem dX11_asksToPrint_53 : decode cX11_asksToPrint 53 = .ok (.getfield 192, 3) := by decide +kernel
theorem dX11_asksToPrint_56 : decode cX11_asksToPrint 56 = .ok (.ifCond .ne 19, 3) := by decide +kernel
theorem dX11_asksToPrint_59 : decode cX11_asksToPrint 59 = .ok (.aload_n 0, 1) := by decide +kernel
theorem dX11_asksToPrint_60 : decode cX11_asksToPrint 60 = .ok (.iload_n 2, 1) := by decide +kernel
theorem dX11_asksToPrint_61 : decode cX11_asksToPrint 61 = .ok (.putfield 261, 3) := by decide +kernel
theorem dX11_asksToPrint_64 : decode cX11_asksToPrint 64 = .ok (.aload_n 0, 1) := by decide +kernel
theorem dX11_asksToPrint_65 : decode cX11_asksToPrint 65 = .ok (.iload_n 3, 1) := by decide +kernel
theorem dX11_asksToPrint_66 : decode cX11_asksToPrint 66 = .ok (.putfield 264, 3) := by decide +kernel
theorem dX11_asksToPrint_69 : decode cX11_asksToPrint 69 = .ok (.aload_n 0, 1) := by decide +kernel
theorem dX11_asksToPrint_70 : decode cX11_asksToPrint 70 = .ok (.iload 4, 2) := by decide +kernel
theorem dX11_asksToPrint_72 : decode cX11_asksToPrint 72 = .ok (.putfield 280, 3) := by decide +kernel
theorem dX11_asksToPrint_75 : decode cX11_asksToPrint 75 = .ok (.aload_n 0, 1) := by decide +kernel
theorem dX11_asksToPrint_76 : decode cX11_asksToPrint 76 = .ok (.getfield 192, 3) := by decide +kernel
theorem dX11_asksToPrint_79 : decode cX11_asksToPrint 79 = .ok (.ifCond .ne 7, 3) := by decide +kernel
theorem dX11_asksToPrint_82 : decode cX11_asksToPrint 82 = .ok (.iconst 1, 1) := by decide +kernel
theorem dX11_asksToPrint_83 : decode cX11_asksToPrint 83 = .ok (.goto 4, 3) := by decide +kernel
theorem dX11_asksToPrint_86 : decode cX11_asksToPrint 86 = .ok (.iconst 0, 1) := by decide +kernel
theorem dX11_asksToPrint_87 : decode cX11_asksToPrint 87 = .ok (.ireturn, 1) := by decide +kernel
theorem dX11_print_0 : decode cX11_print 0 = .ok (.aload_n 0, 1) := by decide +kernel
theorem dX11_print_1 : decode cX11_print 1 = .ok (.iload_n 1, 1) := by decide +kernel
theorem dX11_print_2 : decode cX11_print 2 = .ok (.iload_n 2, 1) := by decide +kernel
theorem dX11_print_3 : decode cX11_print 3 = .ok (.iload_n 3, 1) := by decide +kernel
theorem dX11_print_4 : decode cX11_print 4 = .ok (.iload 4, 2) := by decide +kernel
theorem dX11_print_6 : decode cX11_print 6 = .ok (.invokevirtual 413, 3) := by decide +kernel
theorem dX11_print_9 : decode cX11_print 9 = .ok (.ifCond .eq 11, 3) := by decide +kernel
theorem dX11_print_12 : decode cX11_print 12 = .ok (.aload_n 0, 1) := by decide +kernel
theorem dX11_print_13 : decode cX11_print 13 = .ok (.iload_n 1, 1) := by decide +kernel
theorem dX11_print_14 : decode cX11_print 14 = .ok (.invokevirtual 416, 3) := by decide +kernel
theorem dX11_print_17 : decode cX11_print 17 = .ok (.goto 4, 3) := by decide +kernel
theorem dX11_print_20 : decode cX11_print 20 = .ok (.iconst 0, 1) := by decide +kernel
theorem dX11_print_21 : decode cX11_print 21 = .ok (.ireturn, 1) := by decide +kernel
theorem dX11_printByAll_0 : decode cX11_printByAll 0 = .ok (.aload_n 0, 1) := by decide +kernel
theorem dX11_printByAll_1 : decode cX11_printByAll 1 = .ok (.iload_n 1, 1) := by decide +kernel
theorem dX11_printByAll_2 : decode cX11_printByAll 2 = .ok (.iload_n 2, 1) := by decide +kernel
theorem dX11_printByAll_3 : decode cX11_printByAll 3 = .ok (.iload_n 3, 1) := by decide +kernel
theorem dX11_printByAll_4 : decode cX11_printByAll 4 = .ok (.iload 4, 2) := by decide +kernel
theorem dX11_printByAll_6 : decode cX11_printByAll 6 = .ok (.invokevirtual 413, 3) := by decide +kernel
theorem dX11_printByAll_9 : decode cX11_printByAll 9 = .ok (.ifCond .ne 5, 3) := by decide +kernel
theorem dX11_printByAll_12 : decode cX11_printByAll 12 = .ok (.iconst 0, 1) := by decide +kernel
theorem dX11_printByAll_13 : decode cX11_printByAll 13 = .ok (.ireturn, 1) := by decide +kernel
theorem dX11_printByAll_14 : decode cX11_printByAll 14 = .ok (.aload_n 0, 1) := by decide +kernel
theorem dX11_printByAll_15 : decode cX11_printByAll 15 = .ok (.aload_n 0, 1) := by decide +kernel
theorem dX11_printByAll_16 : decode cX11_printByAll 16 = .ok (.getfield 37, 3) := by decide +kernel
theorem dX11_printByAll_19 : decode cX11_printByAll 19 = .ok (.iload_n 1, 1) := by decide +kernel
theorem dX11_printByAll_20 : decode cX11_printByAll 20 = .ok (.iaload, 1) := by decide +kernel
theorem dX11_printByAll_21 : decode cX11_printByAll 21 = .ok (.bipush 100, 2) := by decide +kernel
theorem dX11_printByAll_23 : decode cX11_printByAll 23 = .ok (.if_icmp .le 7, 3) := by decide +kernel
theorem dX11_printByAll_26 : decode cX11_printByAll 26 = .ok (.iconst 3, 1) := by decide +kernel
theorem dX11_printByAll_27 : decode cX11_printByAll 27 = .ok (.goto 4, 3) := by decide +kernel
theorem dX11_printByAll_30 : decode cX11_printByAll 30 = .ok (.iconst 0, 1) := by decide +kernel
theorem dX11_printByAll_31 : decode cX11_printByAll 31 = .ok (.putfield 192, 3) := by decide +kernel
theorem dX11_printByAll_34 : decode cX11_printByAll 34 = .ok (.aload_n 0, 1) := by decide +kernel
theorem dX11_printByAll_35 : decode cX11_printByAll 35 = .ok (.getfield 192, 3) := by decide +kernel
theorem dX11_printByAll_38 : decode cX11_printByAll 38 = .ok (.ifCond .le 5, 3) := by decide +kernel
theorem dX11_printByAll_41 : decode cX11_printByAll 41 = .ok (.iconst 0, 1) := by decide +kernel
theorem dX11_printByAll_42 : decode cX11_printByAll 42 = .ok (.ireturn, 1) := by decide +kernel
theorem dX11_printByAll_43 : decode cX11_printByAll 43 = .ok (.aload_n 0, 1) := by decide +kernel
theorem dX11_printByAll_44 : decode cX11_printByAll 44 = .ok (.iload_n 1, 1) := by decide +kernel
theorem dX11_printByAll_45 : decode cX11_printByAll 45 = .ok (.invokevirtual 317, 3) := by decide +kernel
theorem dX11_printByAll_48 : decode cX11_printByAll 48 = .ok (.iconst (-1), 1) := by decide +kernel
theorem dX11_printByAll_49 : decode cX11_printByAll 49 = .ok (.istore 5, 2) := by decide +kernel
theorem dX11_printByAll_51 : decode cX11_printByAll 51 = .ok (.iconst 0, 1) := by decide +kernel
theorem dX11_printByAll_52 : decode cX11_printByAll 52 = .ok (.istore 6, 2) := by decide +kernel
theorem dX11_printByAll_54 : decode cX11_printByAll 54 = .ok (.iconst 0, 1) := by decide +kernel
theorem dX11_printByAll_55 : decode cX11_printByAll 55 = .ok (.istore 7, 2) := by decide +kernel
theorem dX11_printByAll_57 : decode cX11_printByAll 57 = .ok (.aload_n 0, 1) := by decide +kernel
theorem dX11_printByAll_58 : decode cX11_printByAll 58 = .ok (.iconst 0, 1) := by decide +kernel
theorem dX11_printByAll_59 : decode cX11_printByAll 59 = .ok (.putfield 332, 3) := by decide +kernel
theorem dX11_printByAll_62 : decode cX11_printByAll 62 = .ok (.iconst 1, 1) := by decide +kernel
theorem dX11_printByAll_63 : decode cX11_printByAll 63 = .ok (.istore 8, 2) := by decide +kernel
theorem dX11_printByAll_65 : decode cX11_printByAll 65 = .ok (.iload 8, 2) := by decide +kernel
theorem dX11_printByAll_67 : decode cX11_printByAll 67 = .ok (.ifCond .eq 92, 3) := by decide +kernel
theorem dX11_printByAll_70 : decode cX11_printByAll 70 = .ok (.aload_n 0, 1) := by decide +kernel
theorem dX11_printByAll_71 : decode cX11_printByAll 71 = .ok (.invokevirtual 419, 3) := by decide +kernel
theorem dX11_printByAll_74 : decode cX11_printByAll 74 = .ok (.aload_n 0, 1) := by decide +kernel
theorem dX11_printByAll_75 : decode cX11_printByAll 75 = .ok (.getfield 335, 3) := by decide +kernel
theorem dX11_printByAll_78 : decode cX11_printByAll 78 = .ok (.ifCond .ne 72, 3) := by decide +kernel
theorem dX11_printByAll_81 : decode cX11_printByAll 81 = .ok (.iload 5, 2) := by decide +kernel
theorem dX11_printByAll_83 : decode cX11_printByAll 83 = .ok (.iconst (-1), 1) := by decide +kernel
theorem dX11_printByAll_84 : decode cX11_printByAll 84 = .ok (.if_icmp .eq 16, 3) := by decide +kernel
theorem dX11_printByAll_87 : decode cX11_printByAll 87 = .ok (.aload_n 0, 1) := by decide +kernel
theorem dX11_printByAll_88 : decode cX11_printByAll 88 = .ok (.iload 6, 2) := by decide +kernel
theorem dX11_printByAll_90 : decode cX11_printByAll 90 = .ok (.iload 7, 2) := by decide +kernel
theorem dX11_printByAll_92 : decode cX11_printByAll 92 = .ok (.iload 5, 2) := by decide +kernel
theorem dX11_printByAll_94 : decode cX11_printByAll 94 = .ok (.invokevirtual 422, 3) := by decide +kernel
theorem dX11_printByAll_97 : decode cX11_printByAll 97 = .ok (.ifCond .eq 53, 3) := by decide +kernel
theorem dX11_printByAll_100 : decode cX11_printByAll 100 = .ok (.aload_n 0, 1) := by decide +kernel
theorem dX11_printByAll_101 : decode cX11_printByAll 101 = .ok (.getfield 329, 3) := by decide +kernel
theorem dX11_printByAll_104 : decode cX11_printByAll 104 = .ok (.istore 5, 2) := by decide +kernel
theorem dX11_printByAll_106 : decode cX11_printByAll 106 = .ok (.aload_n 0, 1) := by decide +kernel
theorem dX11_printByAll_107 : decode cX11_printByAll 107 = .ok (.getfield 347, 3) := by decide +kernel
theorem dX11_printByAll_110 : decode cX11_printByAll 110 = .ok (.istore 6, 2) := by decide +kernel
theorem dX11_printByAll_112 : decode cX11_printByAll 112 = .ok (.aload_n 0, 1) := by decide +kernel
theorem dX11_printByAll_113 : decode cX11_printByAll 113 = .ok (.getfield 350, 3) := by decide +kernel
theorem dX11_printByAll_116 : decode cX11_printByAll 116 = .ok (.istore 7, 2) := by decide +kernel
theorem dX11_printByAll_118 : decode cX11_printByAll 118 = .ok (.iconst 0, 1) := by decide +kernel
theorem dX11_printByAll_119 : decode cX11_printByAll 119 = .ok (.istore 9, 2) := by decide +kernel
theorem dX11_printByAll_121 : decode cX11_printByAll 121 = .ok (.iload 9, 2) := by decide +kernel
theorem dX11_printByAll_123 : decode cX11_printByAll 123 = .ok (.aload_n 0, 1) := by decide +kernel
theorem dX11_printByAll_124 : decode cX11_printByAll 124 = .ok (.getfield 329, 3) := by decide +kernel
theorem dX11_printByAll_127 : decode cX11_printByAll 127 = .ok (.if_icmp .ge 23, 3) := by decide +kernel
theorem dX11_printByAll_130 : decode cX11_printByAll 130 = .ok (.aload_n 0, 1) := by decide +kernel
theorem dX11_printByAll_131 : decode cX11_printByAll 131 = .ok (.getfield 176, 3) := by decide +kernel
theorem dX11_printByAll_134 : decode cX11_printByAll 134 = .ok (.iload 9, 2) := by decide +kernel
theorem dX11_printByAll_136 : decode cX11_printByAll 136 = .ok (.aload_n 0, 1) := by decide +kernel
theorem dX11_printByAll_137 : decode cX11_printByAll 137 = .ok (.getfield 140, 3) := by decide +kernel
theorem dX11_printByAll_140 : decode cX11_printByAll 140 = .ok (.iload 9, 2) := by decide +kernel
theorem dX11_printByAll_142 : decode cX11_printByAll 142 = .ok (.iaload, 1) := by decide +kernel
theorem dX11_printByAll_143 : decode cX11_printByAll 143 = .ok (.iastore, 1) := by decide +kernel
theorem dX11_printByAll_144 : decode cX11_printByAll 144 = .ok (.iinc 9 1, 3) := by decide +kernel
theorem dX11_printByAll_147 : decode cX11_printByAll 147 = .ok (.goto (-26), 3) := by decide +kernel
theorem dX11_printByAll_150 : decode cX11_printByAll 150 = .ok (.aload_n 0, 1) := by decide +kernel
theorem dX11_printByAll_151 : decode cX11_printByAll 151 = .ok (.invokevirtual 425, 3) := by decide +kernel
theorem dX11_printByAll_154 : decode cX11_printByAll 154 = .ok (.istore 8, 2) := by decide +kernel
theorem dX11_printByAll_156 : decode cX11_printByAll 156 = .ok (.goto (-91), 3) := by decide +kernel
theorem dX11_printByAll_159 : decode cX11_printByAll 159 = .ok (.aload_n 0, 1) := by decide +kernel
theorem dX11_printByAll_160 : decode cX11_printByAll 160 = .ok (.iload 5, 2) := by decide +kernel
theorem dX11_printByAll_162 : decode cX11_printByAll 162 = .ok (.iconst (-1), 1) := by decide +kernel
theorem dX11_printByAll_163 : decode cX11_printByAll 163 = .ok (.if_icmp .ne 7, 3) := by decide +kernel
theorem dX11_printByAll_166 : decode cX11_printByAll 166 = .ok (.iconst 3, 1) := by decide +kernel
theorem dX11_printByAll_167 : decode cX11_printByAll 167 = .ok (.goto 4, 3) := by decide +kernel
theorem dX11_printByAll_170 : decode cX11_printByAll 170 = .ok (.iconst 0, 1) := by decide +kernel
theorem dX11_printByAll_171 : decode cX11_printByAll 171 = .ok (.putfield 192, 3) := by decide +kernel
theorem dX11_printByAll_174 : decode cX11_printByAll 174 = .ok (.aload_n 0, 1) := by decide +kernel
theorem dX11_printByAll_175 : decode cX11_printByAll 175 = .ok (.getfield 192, 3) := by decide +kernel
theorem dX11_printByAll_178 : decode cX11_printByAll 178 = .ok (.ifCond .le 5, 3) := by decide +kernel
theorem dX11_printByAll_181 : decode cX11_printByAll 181 = .ok (.iconst 0, 1) := by decide +kernel
theorem dX11_printByAll_182 : decode cX11_printByAll 182 = .ok (.ireturn, 1) := by decide +kernel
theorem dX11_printByAll_183 : decode cX11_printByAll 183 = .ok (.aload_n 0, 1) := by decide +kernel
theorem dX11_printByAll_184 : decode cX11_printByAll 184 = .ok (.iload 5, 2) := by decide +kernel
theorem dX11_printByAll_186 : decode cX11_printByAll 186 = .ok (.putfield 332, 3) := by decide +kernel
theorem dX11_printByAll_189 : decode cX11_printByAll 189 = .ok (.iconst 0, 1) := by decide +kernel
theorem dX11_printByAll_190 : decode cX11_printByAll 190 = .ok (.istore 9, 2) := by decide +kernel
theorem dX11_printByAll_192 : decode cX11_printByAll 192 = .ok (.iload 9, 2) := by decide +kernel
theorem dX11_printByAll_194 : decode cX11_printByAll 194 = .ok (.iload 5, 2) := by decide +kernel
theorem dX11_printByAll_196 : decode cX11_printByAll 196 = .ok (.if_icmp .ge 23, 3) := by decide +kernel
theorem dX11_printByAll_199 : decode cX11_printByAll 199 = .ok (.aload_n 0, 1) := by decide +kernel
theorem dX11_printByAll_200 : decode cX11_printByAll 200 = .ok (.getfield 140, 3) := by decide +kernel
theorem dX11_printByAll_203 : decode cX11_printByAll 203 = .ok (.iload 9, 2) := by decide +kernel
theorem dX11_printByAll_205 : decode cX11_printByAll 205 = .ok (.aload_n 0, 1) := by decide +kernel
theorem dX11_printByAll_206 : decode cX11_printByAll 206 = .ok (.getfield 176, 3) := by decide +kernel
theorem dX11_printByAll_209 : decode cX11_printByAll 209 = .ok (.iload 9, 2) := by decide +kernel
theorem dX11_printByAll_211 : decode cX11_printByAll 211 = .ok (.iaload, 1) := by decide +kernel
theorem dX11_printByAll_212 : decode cX11_printByAll 212 = .ok (.iastore, 1) := by decide +kernel
theorem dX11_printByAll_213 : decode cX11_printByAll 213 = .ok (.iinc 9 1, 3) := by decide +kernel
theorem dX11_printByAll_216 : decode cX11_printByAll 216 = .ok (.goto (-24), 3) := by decide +kernel
theorem dX11_printByAll_219 : decode cX11_printByAll 219 = .ok (.aload_n 0, 1) := by decide +kernel
theorem dX11_printByAll_220 : decode cX11_printByAll 220 = .ok (.invokevirtual 410, 3) := by decide +kernel
theorem dX11_printByAll_223 : decode cX11_printByAll 223 = .ok (.ireturn, 1) := by decide +kernel
theorem dX11_printGreedy_0 : decode cX11_printGreedy 0 = .ok (.aload_n 0, 1) := by decide +kernel
theorem dX11_printGreedy_1 : decode cX11_printGreedy 1 = .ok (.iload_n 1, 1) := by decide +kernel
theorem dX11_printGreedy_2 : decode cX11_printGreedy 2 = .ok (.iload_n 2, 1) := by decide +kernel
theorem dX11_printGreedy_3 : decode cX11_printGreedy 3 = .ok (.iload_n 3, 1) := by decide +kernel
theorem dX11_printGreedy_4 : decode cX11_printGreedy 4 = .ok (.iload 4, 2) := by decide +kernel
theorem dX11_printGreedy_6 : decode cX11_printGreedy 6 = .ok (.invokevirtual 413, 3) := by decide +kernel
theorem dX11_printGreedy_9 : decode cX11_printGreedy 9 = .ok (.ifCond .ne 5, 3) := by decide +kernel
theorem dX11_printGreedy_12 : decode cX11_printGreedy 12 = .ok (.iconst 0, 1) := by decide +kernel
theorem dX11_printGreedy_13 : decode cX11_printGreedy 13 = .ok (.ireturn, 1) := by decide +kernel
theorem dX11_printGreedy_14 : decode cX11_printGreedy 14 = .ok (.aload_n 0, 1) := by decide +kernel
theorem dX11_printGreedy_15 : decode cX11_printGreedy 15 = .ok (.iload_n 1, 1) := by decide +kernel
theorem dX11_printGreedy_16 : decode cX11_printGreedy 16 = .ok (.invokevirtual 317, 3) := by decide +kernel
theorem dX11_printGreedy_19 : decode cX11_printGreedy 19 = .ok (.aload_n 0, 1) := by decide +kernel
theorem dX11_printGreedy_20 : decode cX11_printGreedy 20 = .ok (.iconst 0, 1) := by decide +kernel
theorem dX11_printGreedy_21 : decode cX11_printGreedy 21 = .ok (.putfield 332, 3) := by decide +kernel
theorem dX11_printGreedy_24 : decode cX11_printGreedy 24 = .ok (.iconst 1, 1) := by decide +kernel
theorem dX11_printGreedy_25 : decode cX11_printGreedy 25 = .ok (.istore 5, 2) := by decide +kernel
theorem dX11_printGreedy_27 : decode cX11_printGreedy 27 = .ok (.iload 5, 2) := by decide +kernel
theorem dX11_printGreedy_29 : decode cX11_printGreedy 29 = .ok (.ifCond .eq 96, 3) := by decide +kernel
theorem dX11_printGreedy_32 : decode cX11_printGreedy 32 = .ok (.aload_n 0, 1) := by decide +kernel
theorem dX11_printGreedy_33 : decode cX11_printGreedy 33 = .ok (.getfield 140, 3) := by decide +kernel
theorem dX11_printGreedy_36 : decode cX11_printGreedy 36 = .ok (.aload_n 0, 1) := by decide +kernel
theorem dX11_printGreedy_37 : decode cX11_printGreedy 37 = .ok (.getfield 332, 3) := by decide +kernel
theorem dX11_printGreedy_40 : decode cX11_printGreedy 40 = .ok (.iconst 0, 1) := by decide +kernel
theorem dX11_printGreedy_41 : decode cX11_printGreedy 41 = .ok (.iastore, 1) := by decide +kernel
theorem dX11_printGreedy_42 : decode cX11_printGreedy 42 = .ok (.aload_n 0, 1) := by decide +kernel
theorem dX11_printGreedy_43 : decode cX11_printGreedy 43 = .ok (.dup, 1) := by decide +kernel
theorem dX11_printGreedy_44 : decode cX11_printGreedy 44 = .ok (.getfield 332, 3) := by decide +kernel
theorem dX11_printGreedy_47 : decode cX11_printGreedy 47 = .ok (.iconst 1, 1) := by decide +kernel
theorem dX11_printGreedy_48 : decode cX11_printGreedy 48 = .ok (.iadd, 1) := by decide +kernel
theorem dX11_printGreedy_49 : decode cX11_printGreedy 49 = .ok (.putfield 332, 3) := by decide +kernel
theorem dX11_printGreedy_52 : decode cX11_printGreedy 52 = .ok (.aload_n 0, 1) := by decide +kernel
theorem dX11_printGreedy_53 : decode cX11_printGreedy 53 = .ok (.aload_n 0, 1) := by decide +kernel
theorem dX11_printGreedy_54 : decode cX11_printGreedy 54 = .ok (.getfield 332, 3) := by decide +kernel
theorem dX11_printGreedy_57 : decode cX11_printGreedy 57 = .ok (.iconst 1, 1) := by decide +kernel
theorem dX11_printGreedy_58 : decode cX11_printGreedy 58 = .ok (.isub, 1) := by decide +kernel
theorem dX11_printGreedy_59 : decode cX11_printGreedy 59 = .ok (.iconst 0, 1) := by decide +kernel
theorem dX11_printGreedy_60 : decode cX11_printGreedy 60 = .ok (.invokevirtual 395, 3) := by decide +kernel
theorem dX11_printGreedy_63 : decode cX11_printGreedy 63 = .ok (.aload_n 0, 1) := by decide +kernel
theorem dX11_printGreedy_64 : decode cX11_printGreedy 64 = .ok (.getfield 329, 3) := by decide +kernel
theorem dX11_printGreedy_67 : decode cX11_printGreedy 67 = .ok (.aload_n 0, 1) := by decide +kernel
theorem dX11_printGreedy_68 : decode cX11_printGreedy 68 = .ok (.getfield 332, 3) := by decide +kernel
theorem dX11_printGreedy_71 : decode cX11_printGreedy 71 = .ok (.if_icmp .lt 7, 3) := by decide +kernel
theorem dX11_printGreedy_74 : decode cX11_printGreedy 74 = .ok (.iconst 1, 1) := by decide +kernel
theorem dX11_printGreedy_75 : decode cX11_printGreedy 75 = .ok (.goto 4, 3) := by decide +kernel
theorem dX11_printGreedy_78 : decode cX11_printGreedy 78 = .ok (.iconst 0, 1) := by decide +kernel
theorem dX11_printGreedy_79 : decode cX11_printGreedy 79 = .ok (.istore 5, 2) := by decide +kernel
theorem dX11_printGreedy_81 : decode cX11_printGreedy 81 = .ok (.iload 5, 2) := by decide +kernel
theorem dX11_printGreedy_83 : decode cX11_printGreedy 83 = .ok (.ifCond .eq 29, 3) := by decide +kernel
theorem dX11_printGreedy_86 : decode cX11_printGreedy 86 = .ok (.aload_n 0, 1) := by decide +kernel
theorem dX11_printGreedy_87 : decode cX11_printGreedy 87 = .ok (.getfield 140, 3) := by decide +kernel
theorem dX11_printGreedy_90 : decode cX11_printGreedy 90 = .ok (.aload_n 0, 1) := by decide +kernel
theorem dX11_printGreedy_91 : decode cX11_printGreedy 91 = .ok (.getfield 332, 3) := by decide +kernel
theorem dX11_printGreedy_94 : decode cX11_printGreedy 94 = .ok (.iconst 1, 1) := by decide +kernel
theorem dX11_printGreedy_95 : decode cX11_printGreedy 95 = .ok (.isub, 1) := by decide +kernel
theorem dX11_printGreedy_96 : decode cX11_printGreedy 96 = .ok (.aload_n 0, 1) := by decide +kernel
theorem dX11_printGreedy_97 : decode cX11_printGreedy 97 = .ok (.invokevirtual 429, 3) := by decide +kernel
theorem dX11_printGreedy_100 : decode cX11_printGreedy 100 = .ok (.ifCond .eq 7, 3) := by decide +kernel
theorem dX11_printGreedy_103 : decode cX11_printGreedy 103 = .ok (.iconst 0, 1) := by decide +kernel
theorem dX11_printGreedy_104 : decode cX11_printGreedy 104 = .ok (.goto 4, 3) := by decide +kernel
theorem dX11_printGreedy_107 : decode cX11_printGreedy 107 = .ok (.iconst 1, 1) := by decide +kernel
theorem dX11_printGreedy_108 : decode cX11_printGreedy 108 = .ok (.iastore, 1) := by decide +kernel
theorem dX11_printGreedy_109 : decode cX11_printGreedy 109 = .ok (.goto (-82), 3) := by decide +kernel
theorem dX11_printGreedy_112 : decode cX11_printGreedy 112 = .ok (.aload_n 0, 1) := by decide +kernel
theorem dX11_printGreedy_113 : decode cX11_printGreedy 113 = .ok (.dup, 1) := by decide +kernel
theorem dX11_printGreedy_114 : decode cX11_printGreedy 114 = .ok (.getfield 332, 3) := by decide +kernel
theorem dX11_printGreedy_117 : decode cX11_printGreedy 117 = .ok (.iconst 1, 1) := by decide +kernel
theorem dX11_printGreedy_118 : decode cX11_printGreedy 118 = .ok (.isub, 1) := by decide +kernel
theorem dX11_printGreedy_119 : decode cX11_printGreedy 119 = .ok (.putfield 332, 3) := by decide +kernel
theorem dX11_printGreedy_122 : decode cX11_printGreedy 122 = .ok (.goto (-95), 3) := by decide +kernel
theorem dX11_printGreedy_125 : decode cX11_printGreedy 125 = .ok (.aload_n 0, 1) := by decide +kernel
theorem dX11_printGreedy_126 : decode cX11_printGreedy 126 = .ok (.sipush 1000, 3) := by decide +kernel
theorem dX11_printGreedy_129 : decode cX11_printGreedy 129 = .ok (.iconst 0, 1) := by decide +kernel
theorem dX11_printGreedy_130 : decode cX11_printGreedy 130 = .ok (.invokevirtual 395, 3) := by decide +kernel
theorem dX11_printGreedy_133 : decode cX11_printGreedy 133 = .ok (.aload_n 0, 1) := by decide +kernel
theorem dX11_printGreedy_134 : decode cX11_printGreedy 134 = .ok (.aload_n 0, 1) := by decide +kernel
theorem dX11_printGreedy_135 : decode cX11_printGreedy 135 = .ok (.getfield 335, 3) := by decide +kernel
theorem dX11_printGreedy_138 : decode cX11_printGreedy 138 = .ok (.ifCond .eq 7, 3) := by decide +kernel
theorem dX11_printGreedy_141 : decode cX11_printGreedy 141 = .ok (.iconst 3, 1) := by decide +kernel
theorem dX11_printGreedy_142 : decode cX11_printGreedy 142 = .ok (.goto 4, 3) := by decide +kernel
theorem dX11_printGreedy_145 : decode cX11_printGreedy 145 = .ok (.iconst 0, 1) := by decide +kernel
theorem dX11_printGreedy_146 : decode cX11_printGreedy 146 = .ok (.putfield 192, 3) := by decide +kernel
theorem dX11_printGreedy_149 : decode cX11_printGreedy 149 = .ok (.aload_n 0, 1) := by decide +kernel
theorem dX11_printGreedy_150 : decode cX11_printGreedy 150 = .ok (.getfield 192, 3) := by decide +kernel
theorem dX11_printGreedy_153 : decode cX11_printGreedy 153 = .ok (.ifCond .ne 10, 3) := by decide +kernel
theorem dX11_printGreedy_156 : decode cX11_printGreedy 156 = .ok (.aload_n 0, 1) := by decide +kernel
theorem dX11_printGreedy_157 : decode cX11_printGreedy 157 = .ok (.invokevirtual 410, 3) := by decide +kernel
theorem dX11_printGreedy_160 : decode cX11_printGreedy 160 = .ok (.goto 4, 3) := by decide +kernel
theorem dX11_printGreedy_163 : decode cX11_printGreedy 163 = .ok (.iconst 0, 1) := by decide +kernel
theorem dX11_printGreedy_164 : decode cX11_printGreedy 164 = .ok (.ireturn, 1) := by decide +kernel
theorem dX11_isLine_0 : decode cX11_isLine 0 = .ok (.aload_n 0, 1) := by decide +kernel
theorem dX11_isLine_1 : decode cX11_isLine 1 = .ok (.iload_n 1, 1) := by decide +kernel
theorem dX11_isLine_2 : decode cX11_isLine 2 = .ok (.iconst 0, 1) := by decide +kernel
theorem dX11_isLine_3 : decode cX11_isLine 3 = .ok (.aload_n 0, 1) := by decide +kernel
theorem dX11_isLine_4 : decode cX11_isLine 4 = .ok (.getfield 398, 3) := by decide +kernel
theorem dX11_isLine_7 : decode cX11_isLine 7 = .ok (.iconst 1, 1) := by decide +kernel
theorem dX11_isLine_8 : decode cX11_isLine 8 = .ok (.isub, 1) := by decide +kernel
theorem dX11_isLine_9 : decode cX11_isLine 9 = .ok (.invokestatic 195, 3) := by decide +kernel
theorem dX11_isLine_12 : decode cX11_isLine 12 = .ok (.ifCond .eq 7, 3) := by decide +kernel
theorem dX11_isLine_15 : decode cX11_isLine 15 = .ok (.iconst 0, 1) := by decide +kernel
theorem dX11_isLine_16 : decode cX11_isLine 16 = .ok (.goto 4, 3) := by decide +kernel
theorem dX11_isLine_19 : decode cX11_isLine 19 = .ok (.iconst 1, 1) := by decide +kernel
theorem dX11_isLine_20 : decode cX11_isLine 20 = .ok (.putfield 192, 3) := by decide +kernel
theorem dX11_isLine_23 : decode cX11_isLine 23 = .ok (.aload_n 0, 1) := by decide +kernel
theorem dX11_isLine_24 : decode cX11_isLine 24 = .ok (.getfield 192, 3) := by decide +kernel
theorem dX11_isLine_27 : decode cX11_isLine 27 = .ok (.ifCond .ne 7, 3) := by decide +kernel
theorem dX11_isLine_30 : decode cX11_isLine 30 = .ok (.iconst 1, 1) := by decide +kernel
theorem dX11_isLine_31 : decode cX11_isLine 31 = .ok (.goto 4, 3) := by decide +kernel
theorem dX11_isLine_34 : decode cX11_isLine 34 = .ok (.iconst 0, 1) := by decide +kernel
theorem dX11_isLine_35 : decode cX11_isLine 35 = .ok (.ireturn, 1) := by decide +kernel
theorem dX11_lines_0 : decode cX11_lines 0 = .ok (.aload_n 0, 1) := by decide +kernel
theorem dX11_lines_1 : decode cX11_lines 1 = .ok (.iconst 0, 1) := by decide +kernel
theorem dX11_lines_2 : decode cX11_lines 2 = .ok (.putfield 192, 3) := by decide +kernel
theorem dX11_lines_5 : decode cX11_lines 5 = .ok (.aload_n 0, 1) := by decide +kernel
theorem dX11_lines_6 : decode cX11_lines 6 = .ok (.getfield 398, 3) := by decide +kernel
theorem dX11_lines_9 : decode cX11_lines 9 = .ok (.ireturn, 1) := by decide +kernel
theorem dX11_length_0 : decode cX11_length 0 = .ok (.aload_n 0, 1) := by decide +kernel
theorem dX11_length_1 : decode cX11_length 1 = .ok (.iload_n 1, 1) := by decide +kernel
theorem dX11_length_2 : decode cX11_length 2 = .ok (.invokevirtual 432, 3) := by decide +kernel
theorem dX11_length_5 : decode cX11_length 5 = .ok (.ifCond .eq 11, 3) := by decide +kernel
theorem dX11_length_8 : decode cX11_length 8 = .ok (.aload_n 0, 1) := by decide +kernel
theorem dX11_length_9 : decode cX11_length 9 = .ok (.iload_n 1, 1) := by decide +kernel
theorem dX11_length_10 : decode cX11_length 10 = .ok (.invokevirtual 435, 3) := by decide +kernel
theorem dX11_length_13 : decode cX11_length 13 = .ok (.goto 4, 3) := by decide +kernel
theorem dX11_length_16 : decode cX11_length 16 = .ok (.iconst 0, 1) := by decide +kernel
theorem dX11_length_17 : decode cX11_length 17 = .ok (.ireturn, 1) := by decide +kernel
theorem dX11_isPlace_0 : decode cX11_isPlace 0 = .ok (.aload_n 0, 1) := by decide +kernel
theorem dX11_isPlace_1 : decode cX11_isPlace 1 = .ok (.iload_n 1, 1) := by decide +kernel
theorem dX11_isPlace_2 : decode cX11_isPlace 2 = .ok (.iconst 0, 1) := by decide +kernel
theorem dX11_isPlace_3 : decode cX11_isPlace 3 = .ok (.aload_n 0, 1) := by decide +kernel
theorem dX11_isPlace_4 : decode cX11_isPlace 4 = .ok (.getfield 398, 3) := by decide +kernel
theorem dX11_isPlace_7 : decode cX11_isPlace 7 = .ok (.iconst 1, 1) := by decide +kernel
theorem dX11_isPlace_8 : decode cX11_isPlace 8 = .ok (.isub, 1) := by decide +kernel
theorem dX11_isPlace_9 : decode cX11_isPlace 9 = .ok (.invokestatic 195, 3) := by decide +kernel
theorem dX11_isPlace_12 : decode cX11_isPlace 12 = .ok (.ifCond .eq 22, 3) := by decide +kernel
theorem dX11_isPlace_15 : decode cX11_isPlace 15 = .ok (.iload_n 2, 1) := by decide +kernel
theorem dX11_isPlace_16 : decode cX11_isPlace 16 = .ok (.iconst 0, 1) := by decide +kernel
theorem dX11_isPlace_17 : decode cX11_isPlace 17 = .ok (.aload_n 0, 1) := by decide +kernel
theorem dX11_isPlace_18 : decode cX11_isPlace 18 = .ok (.iload_n 1, 1) := by decide +kernel
theorem dX11_isPlace_19 : decode cX11_isPlace 19 = .ok (.invokevirtual 435, 3) := by decide +kernel
theorem dX11_isPlace_22 : decode cX11_isPlace 22 = .ok (.iconst 1, 1) := by decide +kernel
theorem dX11_isPlace_23 : decode cX11_isPlace 23 = .ok (.isub, 1) := by decide +kernel
theorem dX11_isPlace_24 : decode cX11_isPlace 24 = .ok (.invokestatic 195, 3) := by decide +kernel
theorem dX11_isPlace_27 : decode cX11_isPlace 27 = .ok (.ifCond .eq 7, 3) := by decide +kernel
theorem dX11_isPlace_30 : decode cX11_isPlace 30 = .ok (.iconst 0, 1) := by decide +kernel
theorem dX11_isPlace_31 : decode cX11_isPlace 31 = .ok (.goto 4, 3) := by decide +kernel
theorem dX11_isPlace_34 : decode cX11_isPlace 34 = .ok (.iconst 1, 1) := by decide +kernel
theorem dX11_isPlace_35 : decode cX11_isPlace 35 = .ok (.putfield 192, 3) := by decide +kernel
theorem dX11_isPlace_38 : decode cX11_isPlace 38 = .ok (.aload_n 0, 1) := by decide +kernel
theorem dX11_isPlace_39 : decode cX11_isPlace 39 = .ok (.getfield 192, 3) := by decide +kernel
theorem dX11_isPlace_42 : decode cX11_isPlace 42 = .ok (.ifCond .ne 7, 3) := by decide +kernel
theorem dX11_isPlace_45 : decode cX11_isPlace 45 = .ok (.iconst 1, 1) := by decide +kernel
theorem dX11_isPlace_46 : decode cX11_isPlace 46 = .ok (.goto 4, 3) := by decide +kernel
theorem dX11_isPlace_49 : decode cX11_isPlace 49 = .ok (.iconst 0, 1) := by decide +kernel
theorem dX11_isPlace_50 : decode cX11_isPlace 50 = .ok (.ireturn, 1) := by decide +kernel
theorem dX11_signAt_0 : decode cX11_signAt 0 = .ok (.aload_n 0, 1) := by decide +kernel
theorem dX11_signAt_1 : decode cX11_signAt 1 = .ok (.iload_n 1, 1) := by decide +kernel
theorem dX11_signAt_2 : decode cX11_signAt 2 = .ok (.iload_n 2, 1) := by decide +kernel
theorem dX11_signAt_3 : decode cX11_signAt 3 = .ok (.invokevirtual 438, 3) := by decide +kernel
theorem dX11_signAt_6 : decode cX11_signAt 6 = .ok (.ifCond .ne 5, 3) := by decide +kernel
theorem dX11_signAt_9 : decode cX11_signAt 9 = .ok (.iconst 0, 1) := by decide +kernel
theorem dX11_signAt_10 : decode cX11_signAt 10 = .ok (.ireturn, 1) := by decide +kernel
theorem dX11_signAt_11 : decode cX11_signAt 11 = .ok (.aload_n 0, 1) := by decide +kernel
theorem dX11_signAt_12 : decode cX11_signAt 12 = .ok (.iload_n 1, 1) := by decide +kernel
theorem dX11_signAt_13 : decode cX11_signAt 13 = .ok (.iload_n 2, 1) := by decide +kernel
theorem dX11_signAt_14 : decode cX11_signAt 14 = .ok (.invokevirtual 441, 3) := by decide +kernel
theorem dX11_signAt_17 : decode cX11_signAt 17 = .ok (.istore_n 3, 1) := by decide +kernel
theorem dX11_signAt_18 : decode cX11_signAt 18 = .ok (.iload_n 3, 1) := by decide +kernel
theorem dX11_signAt_19 : decode cX11_signAt 19 = .ok (.iconst (-1), 1) := by decide +kernel
theorem dX11_signAt_20 : decode cX11_signAt 20 = .ok (.if_icmp .ne 6, 3) := by decide +kernel
theorem dX11_signAt_23 : decode cX11_signAt 23 = .ok (.bipush 32, 2) := by decide +kernel
theorem dX11_signAt_25 : decode cX11_signAt 25 = .ok (.ireturn, 1) := by decide +kernel
theorem dX11_signAt_26 : decode cX11_signAt 26 = .ok (.aload_n 0, 1) := by decide +kernel
theorem dX11_signAt_27 : decode cX11_signAt 27 = .ok (.getfield 152, 3) := by decide +kernel
theorem dX11_signAt_30 : decode cX11_signAt 30 = .ok (.iload_n 3, 1) := by decide +kernel
theorem dX11_signAt_31 : decode cX11_signAt 31 = .ok (.iaload, 1) := by decide +kernel
theorem dX11_signAt_32 : decode cX11_signAt 32 = .ok (.istore 4, 2) := by decide +kernel
theorem dX11_signAt_34 : decode cX11_signAt 34 = .ok (.aload_n 0, 1) := by decide +kernel
theorem dX11_signAt_35 : decode cX11_signAt 35 = .ok (.getfield 7, 3) := by decide +kernel
theorem dX11_signAt_38 : decode cX11_signAt 38 = .ok (.iload 4, 2) := by decide +kernel
theorem dX11_signAt_40 : decode cX11_signAt 40 = .ok (.iaload, 1) := by decide +kernel
theorem dX11_signAt_41 : decode cX11_signAt 41 = .ok (.ifCond .ne 8, 3) := by decide +kernel
theorem dX11_signAt_44 : decode cX11_signAt 44 = .ok (.bipush 97, 2) := by decide +kernel
theorem dX11_signAt_46 : decode cX11_signAt 46 = .ok (.goto 5, 3) := by decide +kernel
theorem dX11_signAt_49 : decode cX11_signAt 49 = .ok (.bipush 65, 2) := by decide +kernel
theorem dX11_signAt_51 : decode cX11_signAt 51 = .ok (.aload_n 0, 1) := by decide +kernel
theorem dX11_signAt_52 : decode cX11_signAt 52 = .ok (.getfield 13, 3) := by decide +kernel
theorem dX11_signAt_55 : decode cX11_signAt 55 = .ok (.iload 4, 2) := by decide +kernel
theorem dX11_signAt_57 : decode cX11_signAt 57 = .ok (.iaload, 1) := by decide +kernel
theorem dX11_signAt_58 : decode cX11_signAt 58 = .ok (.iadd, 1) := by decide +kernel
theorem dX11_signAt_59 : decode cX11_signAt 59 = .ok (.i2c, 1) := by decide +kernel
theorem dX11_signAt_60 : decode cX11_signAt 60 = .ok (.ireturn, 1) := by decide +kernel
theorem dX11_nodeAt_0 : decode cX11_nodeAt 0 = .ok (.aload_n 0, 1) := by decide +kernel
theorem dX11_nodeAt_1 : decode cX11_nodeAt 1 = .ok (.iload_n 1, 1) := by decide +kernel
theorem dX11_nodeAt_2 : decode cX11_nodeAt 2 = .ok (.iload_n 2, 1) := by decide +kernel
theorem dX11_nodeAt_3 : decode cX11_nodeAt 3 = .ok (.invokevirtual 438, 3) := by decide +kernel
theorem dX11_nodeAt_6 : decode cX11_nodeAt 6 = .ok (.ifCond .ne 5, 3) := by decide +kernel
theorem dX11_nodeAt_9 : decode cX11_nodeAt 9 = .ok (.iconst 0, 1) := by decide +kernel
theorem dX11_nodeAt_10 : decode cX11_nodeAt 10 = .ok (.ireturn, 1) := by decide +kernel
theorem dX11_nodeAt_11 : decode cX11_nodeAt 11 = .ok (.aload_n 0, 1) := by decide +kernel
theorem dX11_nodeAt_12 : decode cX11_nodeAt 12 = .ok (.iload_n 1, 1) := by decide +kernel
theorem dX11_nodeAt_13 : decode cX11_nodeAt 13 = .ok (.iload_n 2, 1) := by decide +kernel
theorem dX11_nodeAt_14 : decode cX11_nodeAt 14 = .ok (.invokevirtual 441, 3) := by decide +kernel
theorem dX11_nodeAt_17 : decode cX11_nodeAt 17 = .ok (.istore_n 3, 1) := by decide +kernel
theorem dX11_nodeAt_18 : decode cX11_nodeAt 18 = .ok (.iload_n 3, 1) := by decide +kernel
theorem dX11_nodeAt_19 : decode cX11_nodeAt 19 = .ok (.iconst (-1), 1) := by decide +kernel
theorem dX11_nodeAt_20 : decode cX11_nodeAt 20 = .ok (.if_icmp .ne 7, 3) := by decide +kernel
theorem dX11_nodeAt_23 : decode cX11_nodeAt 23 = .ok (.iconst (-1), 1) := by decide +kernel
theorem dX11_nodeAt_24 : decode cX11_nodeAt 24 = .ok (.goto 9, 3) := by decide +kernel
theorem dX11_nodeAt_27 : decode cX11_nodeAt 27 = .ok (.aload_n 0, 1) := by decide +kernel
theorem dX11_nodeAt_28 : decode cX11_nodeAt 28 = .ok (.getfield 152, 3) := by decide +kernel
theorem dX11_nodeAt_31 : decode cX11_nodeAt 31 = .ok (.iload_n 3, 1) := by decide +kernel
theorem dX11_nodeAt_32 : decode cX11_nodeAt 32 = .ok (.iaload, 1) := by decide +kernel
theorem dX11_nodeAt_33 : decode cX11_nodeAt 33 = .ok (.ireturn, 1) := by decide +kernel
theorem dX11_placeOf_0 : decode cX11_placeOf 0 = .ok (.aload_n 0, 1) := by decide +kernel
theorem dX11_placeOf_1 : decode cX11_placeOf 1 = .ok (.aload_n 0, 1) := by decide +kernel
theorem dX11_placeOf_2 : decode cX11_placeOf 2 = .ok (.iload_n 1, 1) := by decide +kernel
theorem dX11_placeOf_3 : decode cX11_placeOf 3 = .ok (.invokevirtual 222, 3) := by decide +kernel
