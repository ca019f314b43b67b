theorem dX1_init_0 : decode cX1_init 0 = .ok (.aload_n 0, 1) := by decide +kernel
theorem dX1_init_1 : decode cX1_init 1 = .ok (.invokespecial 3, 3) := by decide +kernel
theorem dX1_init_4 : decode cX1_init 4 = .ok (.aload_n 0, 1) := by decide +kernel
theorem dX1_init_5 : decode cX1_init 5 = .ok (.aload_n 1, 1) := by decide +kernel
theorem dX1_init_6 : decode cX1_init 6 = .ok (.putfield 9, 3) := by decide +kernel
theorem dX1_init_9 : decode cX1_init 9 = .ok (.aload_n 0, 1) := by decide +kernel
theorem dX1_init_10 : decode cX1_init 10 = .ok (.new 15, 3) := by decide +kernel
theorem dX1_init_13 : decode cX1_init 13 = .ok (.dup, 1) := by decide +kernel
theorem dX1_init_14 : decode cX1_init 14 = .ok (.invokespecial 17, 3) := by decide +kernel
theorem dX1_init_17 : decode cX1_init 17 = .ok (.putfield 18, 3) := by decide +kernel
theorem dX1_init_20 : decode cX1_init 20 = .ok (.return_, 1) := by decide +kernel
theorem dX2_init_0 : decode cX2_init 0 = .ok (.aload_n 0, 1) := by decide +kernel
theorem dX2_init_1 : decode cX2_init 1 = .ok (.invokespecial 3, 3) := by decide +kernel
theorem dX2_init_4 : decode cX2_init 4 = .ok (.aload_n 0, 1) := by decide +kernel
theorem dX2_init_5 : decode cX2_init 5 = .ok (.bipush 61, 2) := by decide +kernel
theorem dX2_init_7 : decode cX2_init 7 = .ok (.newarray .int, 2) := by decide +kernel
theorem dX2_init_9 : decode cX2_init 9 = .ok (.putfield 11, 3) := by decide +kernel
theorem dX2_init_12 : decode cX2_init 12 = .ok (.aload_n 0, 1) := by decide +kernel
theorem dX2_init_13 : decode cX2_init 13 = .ok (.bipush 61, 2) := by decide +kernel
theorem dX2_init_15 : decode cX2_init 15 = .ok (.newarray .int, 2) := by decide +kernel
theorem dX2_init_17 : decode cX2_init 17 = .ok (.putfield 15, 3) := by decide +kernel
theorem dX2_init_20 : decode cX2_init 20 = .ok (.aload_n 0, 1) := by decide +kernel
theorem dX2_init_21 : decode cX2_init 21 = .ok (.sipush 256, 3) := by decide +kernel
theorem dX2_init_24 : decode cX2_init 24 = .ok (.newarray .int, 2) := by decide +kernel
theorem dX2_init_26 : decode cX2_init 26 = .ok (.putfield 18, 3) := by decide +kernel
theorem dX2_init_29 : decode cX2_init 29 = .ok (.aload_n 0, 1) := by decide +kernel
theorem dX2_init_30 : decode cX2_init 30 = .ok (.bipush 61, 2) := by decide +kernel
theorem dX2_init_32 : decode cX2_init 32 = .ok (.newarray .int, 2) := by decide +kernel
theorem dX2_init_34 : decode cX2_init 34 = .ok (.putfield 21, 3) := by decide +kernel
theorem dX2_init_37 : decode cX2_init 37 = .ok (.return_, 1) := by decide +kernel
theorem dX3_endsLine_0 : decode cX3_endsLine 0 = .ok (.aload_n 0, 1) := by decide +kernel
theorem dX3_endsLine_1 : decode cX3_endsLine 1 = .ok (.getstatic 10, 3) := by decide +kernel
theorem dX3_endsLine_4 : decode cX3_endsLine 4 = .ok (.if_acmp .eq 17, 3) := by decide +kernel
theorem dX3_endsLine_7 : decode cX3_endsLine 7 = .ok (.aload_n 0, 1) := by decide +kernel
theorem dX3_endsLine_8 : decode cX3_endsLine 8 = .ok (.getstatic 13, 3) := by decide +kernel
theorem dX3_endsLine_11 : decode cX3_endsLine 11 = .ok (.if_acmp .eq 10, 3) := by decide +kernel
theorem dX3_endsLine_14 : decode cX3_endsLine 14 = .ok (.aload_n 0, 1) := by decide +kernel
theorem dX3_endsLine_15 : decode cX3_endsLine 15 = .ok (.getstatic 16, 3) := by decide +kernel
theorem dX3_endsLine_18 : decode cX3_endsLine 18 = .ok (.if_acmp .ne 7, 3) := by decide +kernel
theorem dX3_endsLine_21 : decode cX3_endsLine 21 = .ok (.iconst 1, 1) := by decide +kernel
theorem dX3_endsLine_22 : decode cX3_endsLine 22 = .ok (.goto 4, 3) := by decide +kernel
theorem dX3_endsLine_25 : decode cX3_endsLine 25 = .ok (.iconst 0, 1) := by decide +kernel
theorem dX3_endsLine_26 : decode cX3_endsLine 26 = .ok (.ireturn, 1) := by decide +kernel
theorem dX4_init_0 : decode cX4_init 0 = .ok (.aload_n 0, 1) := by decide +kernel
theorem dX4_init_1 : decode cX4_init 1 = .ok (.invokespecial 3, 3) := by decide +kernel
theorem dX4_init_4 : decode cX4_init 4 = .ok (.aload_n 0, 1) := by decide +kernel
theorem dX4_init_5 : decode cX4_init 5 = .ok (.aload_n 1, 1) := by decide +kernel
theorem dX4_init_6 : decode cX4_init 6 = .ok (.putfield 9, 3) := by decide +kernel
theorem dX4_init_9 : decode cX4_init 9 = .ok (.aload_n 0, 1) := by decide +kernel
theorem dX4_init_10 : decode cX4_init 10 = .ok (.iload_n 2, 1) := by decide +kernel
theorem dX4_init_11 : decode cX4_init 11 = .ok (.putfield 15, 3) := by decide +kernel
theorem dX4_init_14 : decode cX4_init 14 = .ok (.aload_n 0, 1) := by decide +kernel
theorem dX4_init_15 : decode cX4_init 15 = .ok (.aconst_null, 1) := by decide +kernel
theorem dX4_init_16 : decode cX4_init 16 = .ok (.putfield 19, 3) := by decide +kernel
theorem dX4_init_19 : decode cX4_init 19 = .ok (.aload_n 0, 1) := by decide +kernel
theorem dX4_init_20 : decode cX4_init 20 = .ok (.aconst_null, 1) := by decide +kernel
theorem dX4_init_21 : decode cX4_init 21 = .ok (.putfield 23, 3) := by decide +kernel
theorem dX4_init_24 : decode cX4_init 24 = .ok (.aload_n 0, 1) := by decide +kernel
theorem dX4_init_25 : decode cX4_init 25 = .ok (.iconst 1, 1) := by decide +kernel
theorem dX4_init_26 : decode cX4_init 26 = .ok (.putfield 26, 3) := by decide +kernel
theorem dX4_init_29 : decode cX4_init 29 = .ok (.aload_n 0, 1) := by decide +kernel
theorem dX4_init_30 : decode cX4_init 30 = .ok (.iload_n 3, 1) := by decide +kernel
theorem dX4_init_31 : decode cX4_init 31 = .ok (.putfield 29, 3) := by decide +kernel
theorem dX4_init_34 : decode cX4_init 34 = .ok (.aload_n 0, 1) := by decide +kernel
theorem dX4_init_35 : decode cX4_init 35 = .ok (.aload_n 1, 1) := by decide +kernel
theorem dX4_init_36 : decode cX4_init 36 = .ok (.getfield 32, 3) := by decide +kernel
theorem dX4_init_39 : decode cX4_init 39 = .ok (.putfield 38, 3) := by decide +kernel
theorem dX4_init_42 : decode cX4_init 42 = .ok (.aload_n 0, 1) := by decide +kernel
theorem dX4_init_43 : decode cX4_init 43 = .ok (.aload_n 1, 1) := by decide +kernel
theorem dX4_init_44 : decode cX4_init 44 = .ok (.invokevirtual 41, 3) := by decide +kernel
theorem dX4_init_47 : decode cX4_init 47 = .ok (.putfield 45, 3) := by decide +kernel
theorem dX4_init_50 : decode cX4_init 50 = .ok (.aload_n 0, 1) := by decide +kernel
theorem dX4_init_51 : decode cX4_init 51 = .ok (.aload_n 1, 1) := by decide +kernel
theorem dX4_init_52 : decode cX4_init 52 = .ok (.iload_n 2, 1) := by decide +kernel
theorem dX4_init_53 : decode cX4_init 53 = .ok (.invokestatic 48, 3) := by decide +kernel
theorem dX4_init_56 : decode cX4_init 56 = .ok (.putfield 52, 3) := by decide +kernel
theorem dX4_init_59 : decode cX4_init 59 = .ok (.aload_n 0, 1) := by decide +kernel
theorem dX4_init_60 : decode cX4_init 60 = .ok (.iconst 1, 1) := by decide +kernel
theorem dX4_init_61 : decode cX4_init 61 = .ok (.putfield 55, 3) := by decide +kernel
theorem dX4_init_64 : decode cX4_init 64 = .ok (.aload_n 0, 1) := by decide +kernel
theorem dX4_init_65 : decode cX4_init 65 = .ok (.iconst 1, 1) := by decide +kernel
theorem dX4_init_66 : decode cX4_init 66 = .ok (.putfield 58, 3) := by decide +kernel
theorem dX4_init_69 : decode cX4_init 69 = .ok (.return_, 1) := by decide +kernel
theorem dX4_traitsOfLeaf_0 : decode cX4_traitsOfLeaf 0 = .ok (.aload_n 0, 1) := by decide +kernel
theorem dX4_traitsOfLeaf_1 : decode cX4_traitsOfLeaf 1 = .ok (.getstatic 69, 3) := by decide +kernel
theorem dX4_traitsOfLeaf_4 : decode cX4_traitsOfLeaf 4 = .ok (.if_acmp .ne 14, 3) := by decide +kernel
theorem dX4_traitsOfLeaf_7 : decode cX4_traitsOfLeaf 7 = .ok (.iload_n 1, 1) := by decide +kernel
theorem dX4_traitsOfLeaf_8 : decode cX4_traitsOfLeaf 8 = .ok (.iconst 1, 1) := by decide +kernel
theorem dX4_traitsOfLeaf_9 : decode cX4_traitsOfLeaf 9 = .ok (.if_icmp .le 7, 3) := by decide +kernel
theorem dX4_traitsOfLeaf_12 : decode cX4_traitsOfLeaf 12 = .ok (.iconst 2, 1) := by decide +kernel
theorem dX4_traitsOfLeaf_13 : decode cX4_traitsOfLeaf 13 = .ok (.goto 4, 3) := by decide +kernel
theorem dX4_traitsOfLeaf_16 : decode cX4_traitsOfLeaf 16 = .ok (.iconst 0, 1) := by decide +kernel
theorem dX4_traitsOfLeaf_17 : decode cX4_traitsOfLeaf 17 = .ok (.ireturn, 1) := by decide +kernel
theorem dX4_traitsOfLeaf_18 : decode cX4_traitsOfLeaf 18 = .ok (.aload_n 0, 1) := by decide +kernel
theorem dX4_traitsOfLeaf_19 : decode cX4_traitsOfLeaf 19 = .ok (.invokevirtual 41, 3) := by decide +kernel
theorem dX4_traitsOfLeaf_22 : decode cX4_traitsOfLeaf 22 = .ok (.ifCond .eq 7, 3) := by decide +kernel
theorem dX4_traitsOfLeaf_25 : decode cX4_traitsOfLeaf 25 = .ok (.iconst 0, 1) := by decide +kernel
theorem dX4_traitsOfLeaf_26 : decode cX4_traitsOfLeaf 26 = .ok (.goto 4, 3) := by decide +kernel
theorem dX4_traitsOfLeaf_29 : decode cX4_traitsOfLeaf 29 = .ok (.iconst 1, 1) := by decide +kernel
theorem dX4_traitsOfLeaf_30 : decode cX4_traitsOfLeaf 30 = .ok (.ireturn, 1) := by decide +kernel
theorem dX4_take_0 : decode cX4_take 0 = .ok (.aload_n 0, 1) := by decide +kernel
theorem dX4_take_1 : decode cX4_take 1 = .ok (.iload_n 1, 1) := by decide +kernel
theorem dX4_take_2 : decode cX4_take 2 = .ok (.putfield 116, 3) := by decide +kernel
theorem dX4_take_5 : decode cX4_take 5 = .ok (.aload_n 0, 1) := by decide +kernel
theorem dX4_take_6 : decode cX4_take 6 = .ok (.aload_n 0, 1) := by decide +kernel
theorem dX4_take_7 : decode cX4_take 7 = .ok (.getfield 81, 3) := by decide +kernel
theorem dX4_take_10 : decode cX4_take 10 = .ok (.aload_n 0, 1) := by decide +kernel
theorem dX4_take_11 : decode cX4_take 11 = .ok (.invokevirtual 119, 3) := by decide +kernel
theorem dX4_take_14 : decode cX4_take 14 = .ok (.lor, 1) := by decide +kernel
theorem dX4_take_15 : decode cX4_take 15 = .ok (.putfield 81, 3) := by decide +kernel
theorem dX4_take_18 : decode cX4_take 18 = .ok (.return_, 1) := by decide +kernel
theorem dX4_bit_0 : decode cX4_bit 0 = .ok (.lconst 1, 1) := by decide +kernel
theorem dX4_bit_1 : decode cX4_bit 1 = .ok (.aload_n 0, 1) := by decide +kernel
theorem dX4_bit_2 : decode cX4_bit 2 = .ok (.getfield 116, 3) := by decide +kernel
theorem dX4_bit_5 : decode cX4_bit 5 = .ok (.lshl, 1) := by decide +kernel
theorem dX4_bit_6 : decode cX4_bit 6 = .ok (.lreturn, 1) := by decide +kernel
theorem dX5_init_0 : decode cX5_init 0 = .ok (.aload_n 0, 1) := by decide +kernel
theorem dX5_init_1 : decode cX5_init 1 = .ok (.invokespecial 3, 3) := by decide +kernel
theorem dX5_init_4 : decode cX5_init 4 = .ok (.aload_n 0, 1) := by decide +kernel
theorem dX5_init_5 : decode cX5_init 5 = .ok (.bipush 31, 2) := by decide +kernel
theorem dX5_init_7 : decode cX5_init 7 = .ok (.newarray .int, 2) := by decide +kernel
theorem dX5_init_9 : decode cX5_init 9 = .ok (.putfield 9, 3) := by decide +kernel
theorem dX5_init_12 : decode cX5_init 12 = .ok (.aload_n 0, 1) := by decide +kernel
theorem dX5_init_13 : decode cX5_init 13 = .ok (.bipush 32, 2) := by decide +kernel
theorem dX5_init_15 : decode cX5_init 15 = .ok (.newarray .int, 2) := by decide +kernel
theorem dX5_init_17 : decode cX5_init 17 = .ok (.putfield 15, 3) := by decide +kernel
theorem dX5_init_20 : decode cX5_init 20 = .ok (.aload_n 0, 1) := by decide +kernel
theorem dX5_init_21 : decode cX5_init 21 = .ok (.bipush 32, 2) := by decide +kernel
theorem dX5_init_23 : decode cX5_init 23 = .ok (.newarray .int, 2) := by decide +kernel
theorem dX5_init_25 : decode cX5_init 25 = .ok (.putfield 18, 3) := by decide +kernel
theorem dX5_init_28 : decode cX5_init 28 = .ok (.aload_n 0, 1) := by decide +kernel
theorem dX5_init_29 : decode cX5_init 29 = .ok (.bipush 32, 2) := by decide +kernel
theorem dX5_init_31 : decode cX5_init 31 = .ok (.newarray .int, 2) := by decide +kernel
theorem dX5_init_33 : decode cX5_init 33 = .ok (.putfield 21, 3) := by decide +kernel
theorem dX5_init_36 : decode cX5_init 36 = .ok (.return_, 1) := by decide +kernel
theorem dX6_init_0 : decode cX6_init 0 = .ok (.aload_n 0, 1) := by decide +kernel
theorem dX6_init_1 : decode cX6_init 1 = .ok (.invokespecial 3, 3) := by decide +kernel
theorem dX6_init_4 : decode cX6_init 4 = .ok (.aload_n 0, 1) := by decide +kernel
theorem dX6_init_5 : decode cX6_init 5 = .ok (.aload_n 1, 1) := by decide +kernel
theorem dX6_init_6 : decode cX6_init 6 = .ok (.putfield 9, 3) := by decide +kernel
theorem dX6_init_9 : decode cX6_init 9 = .ok (.aload_n 0, 1) := by decide +kernel
theorem dX6_init_10 : decode cX6_init 10 = .ok (.new 15, 3) := by decide +kernel
theorem dX6_init_13 : decode cX6_init 13 = .ok (.dup, 1) := by decide +kernel
theorem dX6_init_14 : decode cX6_init 14 = .ok (.invokespecial 17, 3) := by decide +kernel
theorem dX6_init_17 : decode cX6_init 17 = .ok (.putfield 18, 3) := by decide +kernel
theorem dX6_init_20 : decode cX6_init 20 = .ok (.aload_n 0, 1) := by decide +kernel
theorem dX6_init_21 : decode cX6_init 21 = .ok (.new 22, 3) := by decide +kernel
theorem dX6_init_24 : decode cX6_init 24 = .ok (.dup, 1) := by decide +kernel
theorem dX6_init_25 : decode cX6_init 25 = .ok (.aload_n 0, 1) := by decide +kernel
theorem dX6_init_26 : decode cX6_init 26 = .ok (.getfield 18, 3) := by decide +kernel
theorem dX6_init_29 : decode cX6_init 29 = .ok (.invokespecial 24, 3) := by decide +kernel
theorem dX6_init_32 : decode cX6_init 32 = .ok (.putfield 27, 3) := by decide +kernel
theorem dX6_init_35 : decode cX6_init 35 = .ok (.return_, 1) := by decide +kernel
theorem dX7_init_0 : decode cX7_init 0 = .ok (.aload_n 0, 1) := by decide +kernel
theorem dX7_init_1 : decode cX7_init 1 = .ok (.invokespecial 3, 3) := by decide +kernel
theorem dX7_init_4 : decode cX7_init 4 = .ok (.aload_n 0, 1) := by decide +kernel
theorem dX7_init_5 : decode cX7_init 5 = .ok (.bipush 31, 2) := by decide +kernel
theorem dX7_init_7 : decode cX7_init 7 = .ok (.newarray .int, 2) := by decide +kernel
theorem dX7_init_9 : decode cX7_init 9 = .ok (.putfield 9, 3) := by decide +kernel
theorem dX7_init_12 : decode cX7_init 12 = .ok (.aload_n 0, 1) := by decide +kernel
theorem dX7_init_13 : decode cX7_init 13 = .ok (.bipush 31, 2) := by decide +kernel
theorem dX7_init_15 : decode cX7_init 15 = .ok (.newarray .int, 2) := by decide +kernel
theorem dX7_init_17 : decode cX7_init 17 = .ok (.putfield 15, 3) := by decide +kernel
theorem dX7_init_20 : decode cX7_init 20 = .ok (.aload_n 0, 1) := by decide +kernel
theorem dX7_init_21 : decode cX7_init 21 = .ok (.bipush 31, 2) := by decide +kernel
theorem dX7_init_23 : decode cX7_init 23 = .ok (.newarray .int, 2) := by decide +kernel
theorem dX7_init_25 : decode cX7_init 25 = .ok (.putfield 18, 3) := by decide +kernel
theorem dX7_init_28 : decode cX7_init 28 = .ok (.aload_n 0, 1) := by decide +kernel
theorem dX7_init_29 : decode cX7_init 29 = .ok (.bipush 60, 2) := by decide +kernel
theorem dX7_init_31 : decode cX7_init 31 = .ok (.newarray .int, 2) := by decide +kernel
theorem dX7_init_33 : decode cX7_init 33 = .ok (.putfield 21, 3) := by decide +kernel
theorem dX7_init_36 : decode cX7_init 36 = .ok (.aload_n 0, 1) := by decide +kernel
theorem dX7_init_37 : decode cX7_init 37 = .ok (.getfield 21, 3) := by decide +kernel
theorem dX7_init_40 : decode cX7_init 40 = .ok (.iconst (-1), 1) := by decide +kernel
theorem dX7_init_41 : decode cX7_init 41 = .ok (.invokestatic 24, 3) := by decide +kernel
theorem dX7_init_44 : decode cX7_init 44 = .ok (.aload_n 0, 1) := by decide +kernel
theorem dX7_init_45 : decode cX7_init 45 = .ok (.bipush 30, 2) := by decide +kernel
theorem dX7_init_47 : decode cX7_init 47 = .ok (.anewarray 30, 3) := by decide +kernel
theorem dX7_init_50 : decode cX7_init 50 = .ok (.putfield 32, 3) := by decide +kernel
theorem dX7_init_53 : decode cX7_init 53 = .ok (.aload_n 0, 1) := by decide +kernel
theorem dX7_init_54 : decode cX7_init 54 = .ok (.bipush 30, 2) := by decide +kernel
theorem dX7_init_56 : decode cX7_init 56 = .ok (.newarray .int, 2) := by decide +kernel
theorem dX7_init_58 : decode cX7_init 58 = .ok (.putfield 36, 3) := by decide +kernel
theorem dX7_init_61 : decode cX7_init 61 = .ok (.aload_n 0, 1) := by decide +kernel
theorem dX7_init_62 : decode cX7_init 62 = .ok (.bipush 30, 2) := by decide +kernel
theorem dX7_init_64 : decode cX7_init 64 = .ok (.newarray .int, 2) := by decide +kernel
theorem dX7_init_66 : decode cX7_init 66 = .ok (.putfield 39, 3) := by decide +kernel
theorem dX7_init_69 : decode cX7_init 69 = .ok (.return_, 1) := by decide +kernel
theorem dX8_init_0 : decode cX8_init 0 = .ok (.aload_n 0, 1) := by decide +kernel
theorem dX8_init_1 : decode cX8_init 1 = .ok (.invokespecial 3, 3) := by decide +kernel
theorem dX8_init_4 : decode cX8_init 4 = .ok (.aload_n 0, 1) := by decide +kernel
theorem dX8_init_5 : decode cX8_init 5 = .ok (.aload_n 1, 1) := by decide +kernel
theorem dX8_init_6 : decode cX8_init 6 = .ok (.putfield 9, 3) := by decide +kernel
theorem dX8_init_9 : decode cX8_init 9 = .ok (.aload_n 0, 1) := by decide +kernel
theorem dX8_init_10 : decode cX8_init 10 = .ok (.bipush 32, 2) := by decide +kernel
theorem dX8_init_12 : decode cX8_init 12 = .ok (.newarray .int, 2) := by decide +kernel
theorem dX8_init_14 : decode cX8_init 14 = .ok (.putfield 15, 3) := by decide +kernel
theorem dX8_init_17 : decode cX8_init 17 = .ok (.aload_n 0, 1) := by decide +kernel
theorem dX8_init_18 : decode cX8_init 18 = .ok (.bipush 32, 2) := by decide +kernel
theorem dX8_init_20 : decode cX8_init 20 = .ok (.newarray .int, 2) := by decide +kernel
theorem dX8_init_22 : decode cX8_init 22 = .ok (.putfield 19, 3) := by decide +kernel
theorem dX8_init_25 : decode cX8_init 25 = .ok (.aload_n 0, 1) := by decide +kernel
theorem dX8_init_26 : decode cX8_init 26 = .ok (.bipush 32, 2) := by decide +kernel
theorem dX8_init_28 : decode cX8_init 28 = .ok (.newarray .int, 2) := by decide +kernel
theorem dX8_init_30 : decode cX8_init 30 = .ok (.putfield 22, 3) := by decide +kernel
theorem dX8_init_33 : decode cX8_init 33 = .ok (.aload_n 0, 1) := by decide +kernel
theorem dX8_init_34 : decode cX8_init 34 = .ok (.bipush 32, 2) := by decide +kernel
theorem dX8_init_36 : decode cX8_init 36 = .ok (.newarray .int, 2) := by decide +kernel
theorem dX8_init_38 : decode cX8_init 38 = .ok (.putfield 25, 3) := by decide +kernel
theorem dX8_init_41 : decode cX8_init 41 = .ok (.aload_n 0, 1) := by decide +kernel
theorem dX8_init_42 : decode cX8_init 42 = .ok (.bipush 32, 2) := by decide +kernel
theorem dX8_init_44 : decode cX8_init 44 = .ok (.newarray .long, 2) := by decide +kernel
theorem dX8_init_46 : decode cX8_init 46 = .ok (.putfield 28, 3) := by decide +kernel
theorem dX8_init_49 : decode cX8_init 49 = .ok (.aload_n 0, 1) := by decide +kernel
theorem dX8_init_50 : decode cX8_init 50 = .ok (.bipush 32, 2) := by decide +kernel
theorem dX8_init_52 : decode cX8_init 52 = .ok (.newarray .long, 2) := by decide +kernel
theorem dX8_init_54 : decode cX8_init 54 = .ok (.putfield 32, 3) := by decide +kernel
theorem dX8_init_57 : decode cX8_init 57 = .ok (.aload_n 0, 1) := by decide +kernel
theorem dX8_init_58 : decode cX8_init 58 = .ok (.bipush 32, 2) := by decide +kernel
theorem dX8_init_60 : decode cX8_init 60 = .ok (.newarray .int, 2) := by decide +kernel
theorem dX8_init_62 : decode cX8_init 62 = .ok (.putfield 35, 3) := by decide +kernel
theorem dX8_init_65 : decode cX8_init 65 = .ok (.aload_n 0, 1) := by decide +kernel
theorem dX8_init_66 : decode cX8_init 66 = .ok (.bipush 32, 2) := by decide +kernel
theorem dX8_init_68 : decode cX8_init 68 = .ok (.newarray .int, 2) := by decide +kernel
theorem dX8_init_70 : decode cX8_init 70 = .ok (.putfield 38, 3) := by decide +kernel
theorem dX8_init_73 : decode cX8_init 73 = .ok (.aload_n 0, 1) := by decide +kernel
theorem dX8_init_74 : decode cX8_init 74 = .ok (.bipush 32, 2) := by decide +kernel
theorem dX8_init_76 : decode cX8_init 76 = .ok (.newarray .long, 2) := by decide +kernel
theorem dX8_init_78 : decode cX8_init 78 = .ok (.putfield 41, 3) := by decide +kernel
theorem dX8_init_81 : decode cX8_init 81 = .ok (.aload_n 0, 1) := by decide +kernel
theorem dX8_init_82 : decode cX8_init 82 = .ok (.bipush 32, 2) := by decide +kernel
theorem dX8_init_84 : decode cX8_init 84 = .ok (.newarray .int, 2) := by decide +kernel
theorem dX8_init_86 : decode cX8_init 86 = .ok (.putfield 44, 3) := by decide +kernel
theorem dX8_init_89 : decode cX8_init 89 = .ok (.aload_n 0, 1) := by decide +kernel
theorem dX8_init_90 : decode cX8_init 90 = .ok (.bipush 32, 2) := by decide +kernel
theorem dX8_init_92 : decode cX8_init 92 = .ok (.newarray .int, 2) := by decide +kernel
theorem dX8_init_94 : decode cX8_init 94 = .ok (.putfield 47, 3) := by decide +kernel
theorem dX8_init_97 : decode cX8_init 97 = .ok (.aload_n 0, 1) := by decide +kernel
theorem dX8_init_98 : decode cX8_init 98 = .ok (.bipush 32, 2) := by decide +kernel
theorem dX8_init_100 : decode cX8_init 100 = .ok (.newarray .int, 2) := by decide +kernel
theorem dX8_init_102 : decode cX8_init 102 = .ok (.putfield 50, 3) := by decide +kernel
theorem dX8_init_105 : decode cX8_init 105 = .ok (.aload_n 0, 1) := by decide +kernel
theorem dX8_init_106 : decode cX8_init 106 = .ok (.bipush 32, 2) := by decide +kernel
theorem dX8_init_108 : decode cX8_init 108 = .ok (.putfield 53, 3) := by decide +kernel
theorem dX8_init_111 : decode cX8_init 111 = .ok (.return_, 1) := by decide +kernel
theorem dX9_init_0 : decode cX9_init 0 = .ok (.aload_n 0, 1) := by decide +kernel
theorem dX9_init_1 : decode cX9_init 1 = .ok (.invokespecial 3, 3) := by decide +kernel
theorem dX9_init_4 : decode cX9_init 4 = .ok (.aload_n 0, 1) := by decide +kernel
theorem dX9_init_5 : decode cX9_init 5 = .ok (.bipush 20, 2) := by decide +kernel
theorem dX9_init_7 : decode cX9_init 7 = .ok (.newarray .int, 2) := by decide +kernel
theorem dX9_init_9 : decode cX9_init 9 = .ok (.putfield 9, 3) := by decide +kernel
theorem dX9_init_12 : decode cX9_init 12 = .ok (.return_, 1) := by decide +kernel
theorem dX10_init_0 : decode cX10_init 0 = .ok (.aload_n 0, 1) := by decide +kernel
theorem dX10_init_1 : decode cX10_init 1 = .ok (.invokespecial 3, 3) := by decide +kernel
theorem dX10_init_4 : decode cX10_init 4 = .ok (.aload_n 0, 1) := by decide +kernel
theorem dX10_init_5 : decode cX10_init 5 = .ok (.bipush 60, 2) := by decide +kernel
theorem dX10_init_7 : decode cX10_init 7 = .ok (.anewarray 9, 3) := by decide +kernel
theorem dX10_init_10 : decode cX10_init 10 = .ok (.putfield 11, 3) := by decide +kernel
theorem dX10_init_13 : decode cX10_init 13 = .ok (.aload_n 0, 1) := by decide +kernel
theorem dX10_init_14 : decode cX10_init 14 = .ok (.iconst 0, 1) := by decide +kernel
theorem dX10_init_15 : decode cX10_init 15 = .ok (.putfield 15, 3) := by decide +kernel
theorem dX10_init_18 : decode cX10_init 18 = .ok (.aload_n 0, 1) := by decide +kernel
theorem dX10_init_19 : decode cX10_init 19 = .ok (.new 19, 3) := by decide +kernel
theorem dX10_init_22 : decode cX10_init 22 = .ok (.dup, 1) := by decide +kernel
theorem dX10_init_23 : decode cX10_init 23 = .ok (.invokespecial 21, 3) := by decide +kernel
theorem dX10_init_26 : decode cX10_init 26 = .ok (.putfield 22, 3) := by decide +kernel
theorem dX10_init_29 : decode cX10_init 29 = .ok (.aload_n 0, 1) := by decide +kernel
theorem dX10_init_30 : decode cX10_init 30 = .ok (.new 26, 3) := by decide +kernel
theorem dX10_init_33 : decode cX10_init 33 = .ok (.dup, 1) := by decide +kernel
theorem dX10_init_34 : decode cX10_init 34 = .ok (.aload_n 0, 1) := by decide +kernel
theorem dX10_init_35 : decode cX10_init 35 = .ok (.getfield 22, 3) := by decide +kernel
theorem dX10_init_38 : decode cX10_init 38 = .ok (.invokespecial 28, 3) := by decide +kernel
theorem dX10_init_41 : decode cX10_init 41 = .ok (.putfield 31, 3) := by decide +kernel
theorem dX10_init_44 : decode cX10_init 44 = .ok (.aload_n 0, 1) := by decide +kernel
theorem dX10_init_45 : decode cX10_init 45 = .ok (.new 35, 3) := by decide +kernel
theorem dX10_init_48 : decode cX10_init 48 = .ok (.dup, 1) := by decide +kernel
theorem dX10_init_49 : decode cX10_init 49 = .ok (.aload_n 0, 1) := by decide +kernel
theorem dX10_init_50 : decode cX10_init 50 = .ok (.getfield 22, 3) := by decide +kernel
theorem dX10_init_53 : decode cX10_init 53 = .ok (.invokespecial 37, 3) := by decide +kernel
theorem dX10_init_56 : decode cX10_init 56 = .ok (.putfield 38, 3) := by decide +kernel
theorem dX10_init_59 : decode cX10_init 59 = .ok (.aload_n 0, 1) := by decide +kernel
theorem dX10_init_60 : decode cX10_init 60 = .ok (.new 42, 3) := by decide +kernel
theorem dX10_init_63 : decode cX10_init 63 = .ok (.dup, 1) := by decide +kernel
theorem dX10_init_64 : decode cX10_init 64 = .ok (.invokespecial 44, 3) := by decide +kernel
theorem dX10_init_67 : decode cX10_init 67 = .ok (.putfield 45, 3) := by decide +kernel
theorem dX10_init_70 : decode cX10_init 70 = .ok (.aload_n 0, 1) := by decide +kernel
theorem dX10_init_71 : decode cX10_init 71 = .ok (.new 49, 3) := by decide +kernel
theorem dX10_init_74 : decode cX10_init 74 = .ok (.dup, 1) := by decide +kernel
theorem dX10_init_75 : decode cX10_init 75 = .ok (.invokespecial 51, 3) := by decide +kernel
theorem dX10_init_78 : decode cX10_init 78 = .ok (.putfield 52, 3) := by decide +kernel
theorem dX10_init_81 : decode cX10_init 81 = .ok (.return_, 1) := by decide +kernel
theorem dX10_text_0 : decode cX10_text 0 = .ok (.iload_n 1, 1) := by decide +kernel
theorem dX10_text_1 : decode cX10_text 1 = .ok (.iconst 0, 1) := by decide +kernel
theorem dX10_text_2 : decode cX10_text 2 = .ok (.bipush 25, 2) := by decide +kernel
theorem dX10_text_4 : decode cX10_text 4 = .ok (.invokestatic 56, 3) := by decide +kernel
theorem dX10_text_7 : decode cX10_text 7 = .ok (.iload_n 2, 1) := by decide +kernel
theorem dX10_text_8 : decode cX10_text 8 = .ok (.iconst 1, 1) := by decide +kernel
theorem dX10_text_9 : decode cX10_text 9 = .ok (.bipush 20, 2) := by decide +kernel
theorem dX10_text_11 : decode cX10_text 11 = .ok (.invokestatic 56, 3) := by decide +kernel
theorem dX10_text_14 : decode cX10_text 14 = .ok (.aload_n 0, 1) := by decide +kernel
theorem dX10_text_15 : decode cX10_text 15 = .ok (.new 9, 3) := by decide +kernel
theorem dX10_text_18 : decode cX10_text 18 = .ok (.dup, 1) := by decide +kernel
theorem dX10_text_19 : decode cX10_text 19 = .ok (.getstatic 60, 3) := by decide +kernel
theorem dX10_text_22 : decode cX10_text 22 = .ok (.iload_n 1, 1) := by decide +kernel
theorem dX10_text_23 : decode cX10_text 23 = .ok (.iload_n 2, 1) := by decide +kernel
theorem dX10_text_24 : decode cX10_text 24 = .ok (.invokespecial 66, 3) := by decide +kernel
theorem dX10_text_27 : decode cX10_text 27 = .ok (.invokevirtual 69, 3) := by decide +kernel
theorem dX10_text_30 : decode cX10_text 30 = .ok (.ireturn, 1) := by decide +kernel
theorem dX10_remark_0 : decode cX10_remark 0 = .ok (.iload_n 1, 1) := by decide +kernel
theorem dX10_remark_1 : decode cX10_remark 1 = .ok (.iconst 0, 1) := by decide +kernel
theorem dX10_remark_2 : decode cX10_remark 2 = .ok (.bipush 25, 2) := by decide +kernel
theorem dX10_remark_4 : decode cX10_remark 4 = .ok (.invokestatic 56, 3) := by decide +kernel
theorem dX10_remark_7 : decode cX10_remark 7 = .ok (.iload_n 2, 1) := by decide +kernel
theorem dX10_remark_8 : decode cX10_remark 8 = .ok (.iconst 1, 1) := by decide +kernel
theorem dX10_remark_9 : decode cX10_remark 9 = .ok (.bipush 20, 2) := by decide +kernel
theorem dX10_remark_11 : decode cX10_remark 11 = .ok (.invokestatic 56, 3) := by decide +kernel
theorem dX10_remark_14 : decode cX10_remark 14 = .ok (.aload_n 0, 1) := by decide +kernel
theorem dX10_remark_15 : decode cX10_remark 15 = .ok (.new 9, 3) := by decide +kernel
theorem dX10_remark_18 : decode cX10_remark 18 = .ok (.dup, 1) := by decide +kernel
theorem dX10_remark_19 : decode cX10_remark 19 = .ok (.getstatic 73, 3) := by decide +kernel
theorem dX10_remark_22 : decode cX10_remark 22 = .ok (.iload_n 1, 1) := by decide +kernel
theorem dX10_remark_23 : decode cX10_remark 23 = .ok (.iload_n 2, 1) := by decide +kernel
theorem dX10_remark_24 : decode cX10_remark 24 = .ok (.invokespecial 66, 3) := by decide +kernel
theorem dX10_remark_27 : decode cX10_remark 27 = .ok (.invokevirtual 69, 3) := by decide +kernel
theorem dX10_remark_30 : decode cX10_remark 30 = .ok (.ireturn, 1) := by decide +kernel
theorem dX10_line_0 : decode cX10_line 0 = .ok (.aload_n 0, 1) := by decide +kernel
theorem dX10_line_1 : decode cX10_line 1 = .ok (.new 9, 3) := by decide +kernel
theorem dX10_line_4 : decode cX10_line 4 = .ok (.dup, 1) := by decide +kernel
theorem dX10_line_5 : decode cX10_line 5 = .ok (.getstatic 76, 3) := by decide +kernel
theorem dX10_line_8 : decode cX10_line 8 = .ok (.iconst 0, 1) := by decide +kernel
theorem dX10_line_9 : decode cX10_line 9 = .ok (.iconst 1, 1) := by decide +kernel
theorem dX10_line_10 : decode cX10_line 10 = .ok (.invokespecial 66, 3) := by decide +kernel
theorem dX10_line_13 : decode cX10_line 13 = .ok (.invokevirtual 69, 3) := by decide +kernel
theorem dX10_line_16 : decode cX10_line 16 = .ok (.ireturn, 1) := by decide +kernel
theorem dX10_soft_0 : decode cX10_soft 0 = .ok (.aload_n 0, 1) := by decide +kernel
theorem dX10_soft_1 : decode cX10_soft 1 = .ok (.new 9, 3) := by decide +kernel
theorem dX10_soft_4 : decode cX10_soft 4 = .ok (.dup, 1) := by decide +kernel
theorem dX10_soft_5 : decode cX10_soft 5 = .ok (.getstatic 79, 3) := by decide +kernel
theorem dX10_soft_8 : decode cX10_soft 8 = .ok (.iconst 0, 1) := by decide +kernel
theorem dX10_soft_9 : decode cX10_soft 9 = .ok (.iconst 0, 1) := by decide +kernel
theorem dX10_soft_10 : decode cX10_soft 10 = .ok (.invokespecial 66, 3) := by decide +kernel
theorem dX10_soft_13 : decode cX10_soft 13 = .ok (.invokevirtual 69, 3) := by decide +kernel
theorem dX10_soft_16 : decode cX10_soft 16 = .ok (.ireturn, 1) := by decide +kernel
theorem dX10_hard_0 : decode cX10_hard 0 = .ok (.aload_n 0, 1) := by decide +kernel
theorem dX10_hard_1 : decode cX10_hard 1 = .ok (.new 9, 3) := by decide +kernel
theorem dX10_hard_4 : decode cX10_hard 4 = .ok (.dup, 1) := by decide +kernel
theorem dX10_hard_5 : decode cX10_hard 5 = .ok (.getstatic 82, 3) := by decide +kernel
theorem dX10_hard_8 : decode cX10_hard 8 = .ok (.iconst 0, 1) := by decide +kernel
theorem dX10_hard_9 : decode cX10_hard 9 = .ok (.iconst 0, 1) := by decide +kernel
theorem dX10_hard_10 : decode cX10_hard 10 = .ok (.invokespecial 66, 3) := by decide +kernel
theorem dX10_hard_13 : decode cX10_hard 13 = .ok (.invokevirtual 69, 3) := by decide +kernel
theorem dX10_hard_16 : decode cX10_hard 16 = .ok (.ireturn, 1) := by decide +kernel
theorem dX10_tab_0 : decode cX10_tab 0 = .ok (.iload_n 1, 1) := by decide +kernel
theorem dX10_tab_1 : decode cX10_tab 1 = .ok (.iconst 0, 1) := by decide +kernel
theorem dX10_tab_2 : decode cX10_tab 2 = .ok (.bipush 80, 2) := by decide +kernel
theorem dX10_tab_4 : decode cX10_tab 4 = .ok (.invokestatic 56, 3) := by decide +kernel
theorem dX10_tab_7 : decode cX10_tab 7 = .ok (.aload_n 0, 1) := by decide +kernel
theorem dX10_tab_8 : decode cX10_tab 8 = .ok (.new 9, 3) := by decide +kernel
theorem dX10_tab_11 : decode cX10_tab 11 = .ok (.dup, 1) := by decide +kernel
theorem dX10_tab_12 : decode cX10_tab 12 = .ok (.getstatic 85, 3) := by decide +kernel
theorem dX10_tab_15 : decode cX10_tab 15 = .ok (.iload_n 1, 1) := by decide +kernel
theorem dX10_tab_16 : decode cX10_tab 16 = .ok (.iconst 0, 1) := by decide +kernel
theorem dX10_tab_17 : decode cX10_tab 17 = .ok (.invokespecial 66, 3) := by decide +kernel
theorem dX10_tab_20 : decode cX10_tab 20 = .ok (.invokevirtual 69, 3) := by decide +kernel
theorem dX10_tab_23 : decode cX10_tab 23 = .ok (.ireturn, 1) := by decide +kernel
theorem dX10_pair_0 : decode cX10_pair 0 = .ok (.aload_n 0, 1) := by decide +kernel
theorem dX10_pair_1 : decode cX10_pair 1 = .ok (.new 9, 3) := by decide +kernel
theorem dX10_pair_4 : decode cX10_pair 4 = .ok (.dup, 1) := by decide +kernel
theorem dX10_pair_5 : decode cX10_pair 5 = .ok (.getstatic 88, 3) := by decide +kernel
theorem dX10_pair_8 : decode cX10_pair 8 = .ok (.iconst 0, 1) := by decide +kernel
theorem dX10_pair_9 : decode cX10_pair 9 = .ok (.aload_n 0, 1) := by decide +kernel
theorem dX10_pair_10 : decode cX10_pair 10 = .ok (.iload_n 1, 1) := by decide +kernel
theorem dX10_pair_11 : decode cX10_pair 11 = .ok (.invokevirtual 91, 3) := by decide +kernel
theorem dX10_pair_14 : decode cX10_pair 14 = .ok (.aload_n 0, 1) := by decide +kernel
theorem dX10_pair_15 : decode cX10_pair 15 = .ok (.iload_n 2, 1) := by decide +kernel
theorem dX10_pair_16 : decode cX10_pair 16 = .ok (.invokevirtual 91, 3) := by decide +kernel
theorem dX10_pair_19 : decode cX10_pair 19 = .ok (.invokespecial 95, 3) := by decide +kernel
theorem dX10_pair_22 : decode cX10_pair 22 = .ok (.invokevirtual 69, 3) := by decide +kernel
theorem dX10_pair_25 : decode cX10_pair 25 = .ok (.ireturn, 1) := by decide +kernel
theorem dX10_nest_0 : decode cX10_nest 0 = .ok (.aload_n 0, 1) := by decide +kernel
theorem dX10_nest_1 : decode cX10_nest 1 = .ok (.iload_n 2, 1) := by decide +kernel
theorem dX10_nest_2 : decode cX10_nest 2 = .ok (.invokevirtual 91, 3) := by decide +kernel
theorem dX10_nest_5 : decode cX10_nest 5 = .ok (.astore_n 3, 1) := by decide +kernel
theorem dX10_nest_6 : decode cX10_nest 6 = .ok (.iload_n 1, 1) := by decide +kernel
theorem dX10_nest_7 : decode cX10_nest 7 = .ok (.bipush (-20), 2) := by decide +kernel
theorem dX10_nest_9 : decode cX10_nest 9 = .ok (.bipush 20, 2) := by decide +kernel
theorem dX10_nest_11 : decode cX10_nest 11 = .ok (.invokestatic 56, 3) := by decide +kernel
theorem dX10_nest_14 : decode cX10_nest 14 = .ok (.aload_n 0, 1) := by decide +kernel
theorem dX10_nest_15 : decode cX10_nest 15 = .ok (.new 9, 3) := by decide +kernel
theorem dX10_nest_18 : decode cX10_nest 18 = .ok (.dup, 1) := by decide +kernel
theorem dX10_nest_19 : decode cX10_nest 19 = .ok (.getstatic 98, 3) := by decide +kernel
theorem dX10_nest_22 : decode cX10_nest 22 = .ok (.iload_n 1, 1) := by decide +kernel
theorem dX10_nest_23 : decode cX10_nest 23 = .ok (.aload_n 3, 1) := by decide +kernel
theorem dX10_nest_24 : decode cX10_nest 24 = .ok (.aconst_null, 1) := by decide +kernel
theorem dX10_nest_25 : decode cX10_nest 25 = .ok (.invokespecial 95, 3) := by decide +kernel
theorem dX10_nest_28 : decode cX10_nest 28 = .ok (.invokevirtual 69, 3) := by decide +kernel
theorem dX10_nest_31 : decode cX10_nest 31 = .ok (.ireturn, 1) := by decide +kernel
theorem dX10_align_0 : decode cX10_align 0 = .ok (.aload_n 0, 1) := by decide +kernel
theorem dX10_align_1 : decode cX10_align 1 = .ok (.new 9, 3) := by decide +kernel
theorem dX10_align_4 : decode cX10_align 4 = .ok (.dup, 1) := by decide +kernel
theorem dX10_align_5 : decode cX10_align 5 = .ok (.getstatic 101, 3) := by decide +kernel
theorem dX10_align_8 : decode cX10_align 8 = .ok (.iconst 0, 1) := by decide +kernel
theorem dX10_align_9 : decode cX10_align 9 = .ok (.aload_n 0, 1) := by decide +kernel
theorem dX10_align_10 : decode cX10_align 10 = .ok (.iload_n 1, 1) := by decide +kernel
theorem dX10_align_11 : decode cX10_align 11 = .ok (.invokevirtual 91, 3) := by decide +kernel
theorem dX10_align_14 : decode cX10_align 14 = .ok (.aconst_null, 1) := by decide +kernel
theorem dX10_align_15 : decode cX10_align 15 = .ok (.invokespecial 95, 3) := by decide +kernel
theorem dX10_align_18 : decode cX10_align 18 = .ok (.invokevirtual 69, 3) := by decide +kernel
theorem dX10_align_21 : decode cX10_align 21 = .ok (.ireturn, 1) := by decide +kernel
theorem dX10_group_0 : decode cX10_group 0 = .ok (.aload_n 0, 1) := by decide +kernel
theorem dX10_group_1 : decode cX10_group 1 = .ok (.new 9, 3) := by decide +kernel
theorem dX10_group_4 : decode cX10_group 4 = .ok (.dup, 1) := by decide +kernel
theorem dX10_group_5 : decode cX10_group 5 = .ok (.getstatic 104, 3) := by decide +kernel
theorem dX10_group_8 : decode cX10_group 8 = .ok (.iconst 0, 1) := by decide +kernel
theorem dX10_group_9 : decode cX10_group 9 = .ok (.aload_n 0, 1) := by decide +kernel
theorem dX10_group_10 : decode cX10_group 10 = .ok (.iload_n 1, 1) := by decide +kernel
theorem dX10_group_11 : decode cX10_group 11 = .ok (.invokevirtual 91, 3) := by decide +kernel
theorem dX10_group_14 : decode cX10_group 14 = .ok (.aconst_null, 1) := by decide +kernel
theorem dX10_group_15 : decode cX10_group 15 = .ok (.invokespecial 95, 3) := by decide +kernel
theorem dX10_group_18 : decode cX10_group 18 = .ok (.invokevirtual 69, 3) := by decide +kernel
theorem dX10_group_21 : decode cX10_group 21 = .ok (.ireturn, 1) := by decide +kernel
theorem dX10_choice_0 : decode cX10_choice 0 = .ok (.aload_n 0, 1) := by decide +kernel
theorem dX10_choice_1 : decode cX10_choice 1 = .ok (.new 9, 3) := by decide +kernel
theorem dX10_choice_4 : decode cX10_choice 4 = .ok (.dup, 1) := by decide +kernel
theorem dX10_choice_5 : decode cX10_choice 5 = .ok (.getstatic 107, 3) := by decide +kernel
theorem dX10_choice_8 : decode cX10_choice 8 = .ok (.iconst 0, 1) := by decide +kernel
theorem dX10_choice_9 : decode cX10_choice 9 = .ok (.aload_n 0, 1) := by decide +kernel
theorem dX10_choice_10 : decode cX10_choice 10 = .ok (.iload_n 1, 1) := by decide +kernel
theorem dX10_choice_11 : decode cX10_choice 11 = .ok (.invokevirtual 91, 3) := by decide +kernel
theorem dX10_choice_14 : decode cX10_choice 14 = .ok (.aload_n 0, 1) := by decide +kernel
theorem dX10_choice_15 : decode cX10_choice 15 = .ok (.iload_n 2, 1) := by decide +kernel
theorem dX10_choice_16 : decode cX10_choice 16 = .ok (.invokevirtual 91, 3) := by decide +kernel
theorem dX10_choice_19 : decode cX10_choice 19 = .ok (.invokespecial 95, 3) := by decide +kernel
theorem dX10_choice_22 : decode cX10_choice 22 = .ok (.invokevirtual 69, 3) := by decide +kernel
theorem dX10_choice_25 : decode cX10_choice 25 = .ok (.ireturn, 1) := by decide +kernel
theorem dX10_flat_0 : decode cX10_flat 0 = .ok (.aload_n 0, 1) := by decide +kernel
theorem dX10_flat_1 : decode cX10_flat 1 = .ok (.new 9, 3) := by decide +kernel
theorem dX10_flat_4 : decode cX10_flat 4 = .ok (.dup, 1) := by decide +kernel
theorem dX10_flat_5 : decode cX10_flat 5 = .ok (.getstatic 110, 3) := by decide +kernel
theorem dX10_flat_8 : decode cX10_flat 8 = .ok (.iconst 0, 1) := by decide +kernel
theorem dX10_flat_9 : decode cX10_flat 9 = .ok (.aload_n 0, 1) := by decide +kernel
theorem dX10_flat_10 : decode cX10_flat 10 = .ok (.iload_n 1, 1) := by decide +kernel
theorem dX10_flat_11 : decode cX10_flat 11 = .ok (.invokevirtual 91, 3) := by decide +kernel
theorem dX10_flat_14 : decode cX10_flat 14 = .ok (.aconst_null, 1) := by decide +kernel
theorem dX10_flat_15 : decode cX10_flat 15 = .ok (.invokespecial 95, 3) := by decide +kernel
theorem dX10_flat_18 : decode cX10_flat 18 = .ok (.invokevirtual 69, 3) := by decide +kernel
theorem dX10_flat_21 : decode cX10_flat 21 = .ok (.ireturn, 1) := by decide +kernel
theorem dX10_broken_0 : decode cX10_broken 0 = .ok (.aload_n 0, 1) := by decide +kernel
theorem dX10_broken_1 : decode cX10_broken 1 = .ok (.new 9, 3) := by decide +kernel
theorem dX10_broken_4 : decode cX10_broken 4 = .ok (.dup, 1) := by decide +kernel
theorem dX10_broken_5 : decode cX10_broken 5 = .ok (.getstatic 113, 3) := by decide +kernel
theorem dX10_broken_8 : decode cX10_broken 8 = .ok (.iconst 0, 1) := by decide +kernel
theorem dX10_broken_9 : decode cX10_broken 9 = .ok (.aload_n 0, 1) := by decide +kernel
theorem dX10_broken_10 : decode cX10_broken 10 = .ok (.iload_n 1, 1) := by decide +kernel
theorem dX10_broken_11 : decode cX10_broken 11 = .ok (.invokevirtual 91, 3) := by decide +kernel
theorem dX10_broken_14 : decode cX10_broken 14 = .ok (.aload_n 0, 1) := by decide +kernel
theorem dX10_broken_15 : decode cX10_broken 15 = .ok (.iload_n 2, 1) := by decide +kernel
theorem dX10_broken_16 : decode cX10_broken 16 = .ok (.invokevirtual 91, 3) := by decide +kernel
theorem dX10_broken_19 : decode cX10_broken 19 = .ok (.invokespecial 95, 3) := by decide +kernel
theorem dX10_broken_22 : decode cX10_broken 22 = .ok (.invokevirtual 69, 3) := by decide +kernel
theorem dX10_broken_25 : decode cX10_broken 25 = .ok (.ireturn, 1) := by decide +kernel
theorem dX10_price_0 : decode cX10_price 0 = .ok (.aload_n 0, 1) := by decide +kernel
theorem dX10_price_1 : decode cX10_price 1 = .ok (.iload_n 2, 1) := by decide +kernel
theorem dX10_price_2 : decode cX10_price 2 = .ok (.invokevirtual 91, 3) := by decide +kernel
theorem dX10_price_5 : decode cX10_price 5 = .ok (.astore_n 3, 1) := by decide +kernel
theorem dX10_price_6 : decode cX10_price 6 = .ok (.iload_n 1, 1) := by decide +kernel
theorem dX10_price_7 : decode cX10_price 7 = .ok (.iconst 0, 1) := by decide +kernel
theorem dX10_price_8 : decode cX10_price 8 = .ok (.sipush 1000, 3) := by decide +kernel
theorem dX10_price_11 : decode cX10_price 11 = .ok (.invokestatic 56, 3) := by decide +kernel
theorem dX10_price_14 : decode cX10_price 14 = .ok (.aload_n 0, 1) := by decide +kernel
theorem dX10_price_15 : decode cX10_price 15 = .ok (.new 9, 3) := by decide +kernel
theorem dX10_price_18 : decode cX10_price 18 = .ok (.dup, 1) := by decide +kernel
theorem dX10_price_19 : decode cX10_price 19 = .ok (.getstatic 116, 3) := by decide +kernel
theorem dX10_price_22 : decode cX10_price 22 = .ok (.iload_n 1, 1) := by decide +kernel
theorem dX10_price_23 : decode cX10_price 23 = .ok (.aload_n 3, 1) := by decide +kernel
theorem dX10_price_24 : decode cX10_price 24 = .ok (.aconst_null, 1) := by decide +kernel
theorem dX10_price_25 : decode cX10_price 25 = .ok (.invokespecial 95, 3) := by decide +kernel
theorem dX10_price_28 : decode cX10_price 28 = .ok (.invokevirtual 69, 3) := by decide +kernel
theorem dX10_price_31 : decode cX10_price 31 = .ok (.ireturn, 1) := by decide +kernel
theorem dX10_keep_0 : decode cX10_keep 0 = .ok (.aload_n 0, 1) := by decide +kernel
theorem dX10_keep_1 : decode cX10_keep 1 = .ok (.iload_n 2, 1) := by decide +kernel
theorem dX10_keep_2 : decode cX10_keep 2 = .ok (.invokevirtual 91, 3) := by decide +kernel
theorem dX10_keep_5 : decode cX10_keep 5 = .ok (.astore_n 3, 1) := by decide +kernel
theorem dX10_keep_6 : decode cX10_keep 6 = .ok (.iload_n 1, 1) := by decide +kernel
theorem dX10_keep_7 : decode cX10_keep 7 = .ok (.iconst 0, 1) := by decide +kernel
theorem dX10_keep_8 : decode cX10_keep 8 = .ok (.sipush 1000, 3) := by decide +kernel
theorem dX10_keep_11 : decode cX10_keep 11 = .ok (.invokestatic 56, 3) := by decide +kernel
theorem dX10_keep_14 : decode cX10_keep 14 = .ok (.aload_n 0, 1) := by decide +kernel
theorem dX10_keep_15 : decode cX10_keep 15 = .ok (.new 9, 3) := by decide +kernel
theorem dX10_keep_18 : decode cX10_keep 18 = .ok (.dup, 1) := by decide +kernel
theorem dX10_keep_19 : decode cX10_keep 19 = .ok (.getstatic 119, 3) := by decide +kernel
theorem dX10_keep_22 : decode cX10_keep 22 = .ok (.iload_n 1, 1) := by decide +kernel
theorem dX10_keep_23 : decode cX10_keep 23 = .ok (.aload_n 3, 1) := by decide +kernel
theorem dX10_keep_24 : decode cX10_keep 24 = .ok (.aconst_null, 1) := by decide +kernel
theorem dX10_keep_25 : decode cX10_keep 25 = .ok (.invokespecial 95, 3) := by decide +kernel
theorem dX10_keep_28 : decode cX10_keep 28 = .ok (.invokevirtual 69, 3) := by decide +kernel
theorem dX10_keep_31 : decode cX10_keep 31 = .ok (.ireturn, 1) := by decide +kernel
theorem dX10_cell_0 : decode cX10_cell 0 = .ok (.aload_n 0, 1) := by decide +kernel
theorem dX10_cell_1 : decode cX10_cell 1 = .ok (.iload_n 3, 1) := by decide +kernel
theorem dX10_cell_2 : decode cX10_cell 2 = .ok (.invokevirtual 91, 3) := by decide +kernel
