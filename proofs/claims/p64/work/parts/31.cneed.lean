theorem dX10_init_0 : decode cX10_init 0 = .ok (.aload_n 0, 1) := by decide +kernel
theorem dX10_init_1 : decode cX10_init 1 = .ok (.invokespecial 3, 3) := by decide +kernel
theorem dX10_init_4 : decode cX10_init 4 = .ok (.aload_n 0, 1) := by decide +kernel
theorem dX10_init_5 : decode cX10_init 5 = .ok (.bipush 36, 2) := by decide +kernel
theorem dX10_init_7 : decode cX10_init 7 = .ok (.newarray .int, 2) := by decide +kernel
theorem dX10_init_9 : decode cX10_init 9 = .ok (.putfield 9, 3) := by decide +kernel
theorem dX10_init_12 : decode cX10_init 12 = .ok (.return_, 1) := by decide +kernel
theorem dX6_init_0 : decode cX6_init 0 = .ok (.aload_n 0, 1) := by decide +kernel
theorem dX6_init_1 : decode cX6_init 1 = .ok (.invokespecial 3, 3) := by decide +kernel
theorem dX6_init_4 : decode cX6_init 4 = .ok (.aload_n 0, 1) := by decide +kernel
theorem dX6_init_5 : decode cX6_init 5 = .ok (.bipush 6, 2) := by decide +kernel
theorem dX6_init_7 : decode cX6_init 7 = .ok (.newarray .int, 2) := by decide +kernel
theorem dX6_init_9 : decode cX6_init 9 = .ok (.putfield 9, 3) := by decide +kernel
theorem dX6_init_12 : decode cX6_init 12 = .ok (.aload_n 0, 1) := by decide +kernel
theorem dX6_init_13 : decode cX6_init 13 = .ok (.bipush 6, 2) := by decide +kernel
theorem dX6_init_15 : decode cX6_init 15 = .ok (.newarray .int, 2) := by decide +kernel
theorem dX6_init_17 : decode cX6_init 17 = .ok (.putfield 15, 3) := by decide +kernel
theorem dX6_init_20 : decode cX6_init 20 = .ok (.aload_n 0, 1) := by decide +kernel
theorem dX6_init_21 : decode cX6_init 21 = .ok (.bipush 6, 2) := by decide +kernel
theorem dX6_init_23 : decode cX6_init 23 = .ok (.newarray .int, 2) := by decide +kernel
theorem dX6_init_25 : decode cX6_init 25 = .ok (.putfield 18, 3) := by decide +kernel
theorem dX6_init_28 : decode cX6_init 28 = .ok (.aload_n 0, 1) := by decide +kernel
theorem dX6_init_29 : decode cX6_init 29 = .ok (.bipush 6, 2) := by decide +kernel
theorem dX6_init_31 : decode cX6_init 31 = .ok (.newarray .int, 2) := by decide +kernel
theorem dX6_init_33 : decode cX6_init 33 = .ok (.putfield 21, 3) := by decide +kernel
theorem dX6_init_36 : decode cX6_init 36 = .ok (.return_, 1) := by decide +kernel
theorem dX0_init_0 : decode cX0_init 0 = .ok (.aload_n 0, 1) := by decide +kernel
theorem dX0_init_1 : decode cX0_init 1 = .ok (.invokespecial 3, 3) := by decide +kernel
theorem dX0_init_4 : decode cX0_init 4 = .ok (.aload_n 0, 1) := by decide +kernel
theorem dX0_init_5 : decode cX0_init 5 = .ok (.bipush 40, 2) := by decide +kernel
theorem dX0_init_7 : decode cX0_init 7 = .ok (.newarray .int, 2) := by decide +kernel
theorem dX0_init_9 : decode cX0_init 9 = .ok (.putfield 9, 3) := by decide +kernel
theorem dX0_init_12 : decode cX0_init 12 = .ok (.aload_n 0, 1) := by decide +kernel
theorem dX0_init_13 : decode cX0_init 13 = .ok (.bipush 40, 2) := by decide +kernel
theorem dX0_init_15 : decode cX0_init 15 = .ok (.newarray .int, 2) := by decide +kernel
theorem dX0_init_17 : decode cX0_init 17 = .ok (.putfield 15, 3) := by decide +kernel
theorem dX0_init_20 : decode cX0_init 20 = .ok (.aload_n 0, 1) := by decide +kernel
theorem dX0_init_21 : decode cX0_init 21 = .ok (.bipush 40, 2) := by decide +kernel
theorem dX0_init_23 : decode cX0_init 23 = .ok (.newarray .int, 2) := by decide +kernel
theorem dX0_init_25 : decode cX0_init 25 = .ok (.putfield 18, 3) := by decide +kernel
theorem dX0_init_28 : decode cX0_init 28 = .ok (.return_, 1) := by decide +kernel
theorem dX1_init_0 : decode cX1_init 0 = .ok (.aload_n 0, 1) := by decide +kernel
theorem dX1_init_1 : decode cX1_init 1 = .ok (.invokespecial 3, 3) := by decide +kernel
theorem dX1_init_4 : decode cX1_init 4 = .ok (.aload_n 0, 1) := by decide +kernel
theorem dX1_init_5 : decode cX1_init 5 = .ok (.new 9, 3) := by decide +kernel
theorem dX1_init_8 : decode cX1_init 8 = .ok (.dup, 1) := by decide +kernel
theorem dX1_init_9 : decode cX1_init 9 = .ok (.invokespecial 11, 3) := by decide +kernel
theorem dX1_init_12 : decode cX1_init 12 = .ok (.putfield 12, 3) := by decide +kernel
theorem dX1_init_15 : decode cX1_init 15 = .ok (.aload_n 0, 1) := by decide +kernel
theorem dX1_init_16 : decode cX1_init 16 = .ok (.bipush 12, 2) := by decide +kernel
theorem dX1_init_18 : decode cX1_init 18 = .ok (.newarray .int, 2) := by decide +kernel
theorem dX1_init_20 : decode cX1_init 20 = .ok (.putfield 18, 3) := by decide +kernel
theorem dX1_init_23 : decode cX1_init 23 = .ok (.aload_n 0, 1) := by decide +kernel
theorem dX1_init_24 : decode cX1_init 24 = .ok (.bipush 12, 2) := by decide +kernel
theorem dX1_init_26 : decode cX1_init 26 = .ok (.newarray .int, 2) := by decide +kernel
theorem dX1_init_28 : decode cX1_init 28 = .ok (.putfield 22, 3) := by decide +kernel
theorem dX1_init_31 : decode cX1_init 31 = .ok (.aload_n 0, 1) := by decide +kernel
theorem dX1_init_32 : decode cX1_init 32 = .ok (.bipush 8, 2) := by decide +kernel
theorem dX1_init_34 : decode cX1_init 34 = .ok (.newarray .int, 2) := by decide +kernel
theorem dX1_init_36 : decode cX1_init 36 = .ok (.putfield 25, 3) := by decide +kernel
theorem dX1_init_39 : decode cX1_init 39 = .ok (.aload_n 0, 1) := by decide +kernel
theorem dX1_init_40 : decode cX1_init 40 = .ok (.bipush 8, 2) := by decide +kernel
theorem dX1_init_42 : decode cX1_init 42 = .ok (.newarray .int, 2) := by decide +kernel
theorem dX1_init_44 : decode cX1_init 44 = .ok (.putfield 28, 3) := by decide +kernel
theorem dX1_init_47 : decode cX1_init 47 = .ok (.aload_n 0, 1) := by decide +kernel
theorem dX1_init_48 : decode cX1_init 48 = .ok (.bipush 8, 2) := by decide +kernel
theorem dX1_init_50 : decode cX1_init 50 = .ok (.newarray .int, 2) := by decide +kernel
theorem dX1_init_52 : decode cX1_init 52 = .ok (.putfield 31, 3) := by decide +kernel
theorem dX1_init_55 : decode cX1_init 55 = .ok (.aload_n 0, 1) := by decide +kernel
theorem dX1_init_56 : decode cX1_init 56 = .ok (.new 34, 3) := by decide +kernel
theorem dX1_init_59 : decode cX1_init 59 = .ok (.dup, 1) := by decide +kernel
theorem dX1_init_60 : decode cX1_init 60 = .ok (.invokespecial 36, 3) := by decide +kernel
theorem dX1_init_63 : decode cX1_init 63 = .ok (.putfield 37, 3) := by decide +kernel
theorem dX1_init_66 : decode cX1_init 66 = .ok (.aload_n 0, 1) := by decide +kernel
theorem dX1_init_67 : decode cX1_init 67 = .ok (.iconst 3, 1) := by decide +kernel
theorem dX1_init_68 : decode cX1_init 68 = .ok (.newarray .int, 2) := by decide +kernel
theorem dX1_init_70 : decode cX1_init 70 = .ok (.putfield 41, 3) := by decide +kernel
theorem dX1_init_73 : decode cX1_init 73 = .ok (.aload_n 0, 1) := by decide +kernel
theorem dX1_init_74 : decode cX1_init 74 = .ok (.new 44, 3) := by decide +kernel
theorem dX1_init_77 : decode cX1_init 77 = .ok (.dup, 1) := by decide +kernel
theorem dX1_init_78 : decode cX1_init 78 = .ok (.invokespecial 46, 3) := by decide +kernel
theorem dX1_init_81 : decode cX1_init 81 = .ok (.putfield 47, 3) := by decide +kernel
theorem dX1_init_84 : decode cX1_init 84 = .ok (.return_, 1) := by decide +kernel
theorem dX5_init_0 : decode cX5_init 0 = .ok (.aload_n 0, 1) := by decide +kernel
theorem dX5_init_1 : decode cX5_init 1 = .ok (.invokespecial 3, 3) := by decide +kernel
theorem dX5_init_4 : decode cX5_init 4 = .ok (.aload_n 0, 1) := by decide +kernel
theorem dX5_init_5 : decode cX5_init 5 = .ok (.aload_n 1, 1) := by decide +kernel
theorem dX5_init_6 : decode cX5_init 6 = .ok (.putfield 9, 3) := by decide +kernel
theorem dX5_init_9 : decode cX5_init 9 = .ok (.aload_n 0, 1) := by decide +kernel
theorem dX5_init_10 : decode cX5_init 10 = .ok (.aload_n 2, 1) := by decide +kernel
theorem dX5_init_11 : decode cX5_init 11 = .ok (.putfield 15, 3) := by decide +kernel
theorem dX5_init_14 : decode cX5_init 14 = .ok (.return_, 1) := by decide +kernel
theorem dX2_init_0 : decode cX2_init 0 = .ok (.aload_n 0, 1) := by decide +kernel
theorem dX2_init_1 : decode cX2_init 1 = .ok (.invokespecial 3, 3) := by decide +kernel
theorem dX2_init_4 : decode cX2_init 4 = .ok (.aload_n 0, 1) := by decide +kernel
theorem dX2_init_5 : decode cX2_init 5 = .ok (.bipush 8, 2) := by decide +kernel
theorem dX2_init_7 : decode cX2_init 7 = .ok (.newarray .int, 2) := by decide +kernel
theorem dX2_init_9 : decode cX2_init 9 = .ok (.putfield 9, 3) := by decide +kernel
theorem dX2_init_12 : decode cX2_init 12 = .ok (.aload_n 0, 1) := by decide +kernel
theorem dX2_init_13 : decode cX2_init 13 = .ok (.bipush 8, 2) := by decide +kernel
theorem dX2_init_15 : decode cX2_init 15 = .ok (.newarray .int, 2) := by decide +kernel
theorem dX2_init_17 : decode cX2_init 17 = .ok (.putfield 15, 3) := by decide +kernel
theorem dX2_init_20 : decode cX2_init 20 = .ok (.aload_n 0, 1) := by decide +kernel
theorem dX2_init_21 : decode cX2_init 21 = .ok (.sipush 401, 3) := by decide +kernel
theorem dX2_init_24 : decode cX2_init 24 = .ok (.newarray .byte, 2) := by decide +kernel
theorem dX2_init_26 : decode cX2_init 26 = .ok (.putfield 18, 3) := by decide +kernel
theorem dX2_init_29 : decode cX2_init 29 = .ok (.aload_n 0, 1) := by decide +kernel
theorem dX2_init_30 : decode cX2_init 30 = .ok (.sipush 401, 3) := by decide +kernel
theorem dX2_init_33 : decode cX2_init 33 = .ok (.newarray .int, 2) := by decide +kernel
theorem dX2_init_35 : decode cX2_init 35 = .ok (.putfield 22, 3) := by decide +kernel
theorem dX2_init_38 : decode cX2_init 38 = .ok (.aload_n 0, 1) := by decide +kernel
theorem dX2_init_39 : decode cX2_init 39 = .ok (.sipush 401, 3) := by decide +kernel
theorem dX2_init_42 : decode cX2_init 42 = .ok (.newarray .int, 2) := by decide +kernel
theorem dX2_init_44 : decode cX2_init 44 = .ok (.putfield 25, 3) := by decide +kernel
theorem dX2_init_47 : decode cX2_init 47 = .ok (.aload_n 0, 1) := by decide +kernel
theorem dX2_init_48 : decode cX2_init 48 = .ok (.bipush 12, 2) := by decide +kernel
theorem dX2_init_50 : decode cX2_init 50 = .ok (.newarray .int, 2) := by decide +kernel
theorem dX2_init_52 : decode cX2_init 52 = .ok (.putfield 28, 3) := by decide +kernel
theorem dX2_init_55 : decode cX2_init 55 = .ok (.aload_n 0, 1) := by decide +kernel
theorem dX2_init_56 : decode cX2_init 56 = .ok (.aload_n 1, 1) := by decide +kernel
theorem dX2_init_57 : decode cX2_init 57 = .ok (.putfield 31, 3) := by decide +kernel
theorem dX2_init_60 : decode cX2_init 60 = .ok (.return_, 1) := by decide +kernel
theorem dX4_init_0 : decode cX4_init 0 = .ok (.aload_n 0, 1) := by decide +kernel
theorem dX4_init_1 : decode cX4_init 1 = .ok (.invokespecial 3, 3) := by decide +kernel
theorem dX4_init_4 : decode cX4_init 4 = .ok (.aload_n 0, 1) := by decide +kernel
theorem dX4_init_5 : decode cX4_init 5 = .ok (.sipush 1212, 3) := by decide +kernel
theorem dX4_init_8 : decode cX4_init 8 = .ok (.newarray .int, 2) := by decide +kernel
theorem dX4_init_10 : decode cX4_init 10 = .ok (.putfield 9, 3) := by decide +kernel
theorem dX4_init_13 : decode cX4_init 13 = .ok (.aload_n 0, 1) := by decide +kernel
theorem dX4_init_14 : decode cX4_init 14 = .ok (.aload_n 1, 1) := by decide +kernel
theorem dX4_init_15 : decode cX4_init 15 = .ok (.putfield 15, 3) := by decide +kernel
theorem dX4_init_18 : decode cX4_init 18 = .ok (.return_, 1) := by decide +kernel
theorem dX9_init_0 : decode cX9_init 0 = .ok (.aload_n 0, 1) := by decide +kernel
theorem dX9_init_1 : decode cX9_init 1 = .ok (.invokespecial 3, 3) := by decide +kernel
theorem dX9_init_4 : decode cX9_init 4 = .ok (.aload_n 0, 1) := by decide +kernel
theorem dX9_init_5 : decode cX9_init 5 = .ok (.bipush 12, 2) := by decide +kernel
theorem dX9_init_7 : decode cX9_init 7 = .ok (.newarray .int, 2) := by decide +kernel
theorem dX9_init_9 : decode cX9_init 9 = .ok (.putfield 9, 3) := by decide +kernel
theorem dX9_init_12 : decode cX9_init 12 = .ok (.aload_n 0, 1) := by decide +kernel
theorem dX9_init_13 : decode cX9_init 13 = .ok (.bipush 12, 2) := by decide +kernel
theorem dX9_init_15 : decode cX9_init 15 = .ok (.newarray .int, 2) := by decide +kernel
theorem dX9_init_17 : decode cX9_init 17 = .ok (.putfield 15, 3) := by decide +kernel
theorem dX9_init_20 : decode cX9_init 20 = .ok (.aload_n 0, 1) := by decide +kernel
theorem dX9_init_21 : decode cX9_init 21 = .ok (.aload_n 1, 1) := by decide +kernel
theorem dX9_init_22 : decode cX9_init 22 = .ok (.putfield 18, 3) := by decide +kernel
theorem dX9_init_25 : decode cX9_init 25 = .ok (.return_, 1) := by decide +kernel
theorem dX7_init_0 : decode cX7_init 0 = .ok (.aload_n 0, 1) := by decide +kernel
theorem dX7_init_1 : decode cX7_init 1 = .ok (.invokespecial 3, 3) := by decide +kernel
theorem dX7_init_4 : decode cX7_init 4 = .ok (.aload_n 0, 1) := by decide +kernel
theorem dX7_init_5 : decode cX7_init 5 = .ok (.bipush 48, 2) := by decide +kernel
theorem dX7_init_7 : decode cX7_init 7 = .ok (.newarray .int, 2) := by decide +kernel
theorem dX7_init_9 : decode cX7_init 9 = .ok (.putfield 9, 3) := by decide +kernel
theorem dX7_init_12 : decode cX7_init 12 = .ok (.aload_n 0, 1) := by decide +kernel
theorem dX7_init_13 : decode cX7_init 13 = .ok (.bipush 12, 2) := by decide +kernel
theorem dX7_init_15 : decode cX7_init 15 = .ok (.newarray .int, 2) := by decide +kernel
theorem dX7_init_17 : decode cX7_init 17 = .ok (.putfield 15, 3) := by decide +kernel
theorem dX7_init_20 : decode cX7_init 20 = .ok (.aload_n 0, 1) := by decide +kernel
theorem dX7_init_21 : decode cX7_init 21 = .ok (.iconst 3, 1) := by decide +kernel
theorem dX7_init_22 : decode cX7_init 22 = .ok (.newarray .int, 2) := by decide +kernel
theorem dX7_init_24 : decode cX7_init 24 = .ok (.putfield 18, 3) := by decide +kernel
theorem dX7_init_27 : decode cX7_init 27 = .ok (.aload_n 0, 1) := by decide +kernel
theorem dX7_init_28 : decode cX7_init 28 = .ok (.aload_n 1, 1) := by decide +kernel
theorem dX7_init_29 : decode cX7_init 29 = .ok (.putfield 21, 3) := by decide +kernel
theorem dX7_init_32 : decode cX7_init 32 = .ok (.aload_n 0, 1) := by decide +kernel
theorem dX7_init_33 : decode cX7_init 33 = .ok (.aload_n 2, 1) := by decide +kernel
theorem dX7_init_34 : decode cX7_init 34 = .ok (.putfield 25, 3) := by decide +kernel
theorem dX7_init_37 : decode cX7_init 37 = .ok (.return_, 1) := by decide +kernel
theorem dX8_init_0 : decode cX8_init 0 = .ok (.aload_n 0, 1) := by decide +kernel
theorem dX8_init_1 : decode cX8_init 1 = .ok (.invokespecial 3, 3) := by decide +kernel
theorem dX8_init_4 : decode cX8_init 4 = .ok (.aload_n 0, 1) := by decide +kernel
theorem dX8_init_5 : decode cX8_init 5 = .ok (.iconst 4, 1) := by decide +kernel
theorem dX8_init_6 : decode cX8_init 6 = .ok (.bipush 60, 2) := by decide +kernel
theorem dX8_init_8 : decode cX8_init 8 = .ok (.multianewarray 9 2, 4) := by decide +kernel
theorem dX8_init_12 : decode cX8_init 12 = .ok (.putfield 11, 3) := by decide +kernel
theorem dX8_init_15 : decode cX8_init 15 = .ok (.aload_n 0, 1) := by decide +kernel
theorem dX8_init_16 : decode cX8_init 16 = .ok (.iconst 4, 1) := by decide +kernel
theorem dX8_init_17 : decode cX8_init 17 = .ok (.newarray .int, 2) := by decide +kernel
theorem dX8_init_19 : decode cX8_init 19 = .ok (.putfield 16, 3) := by decide +kernel
theorem dX8_init_22 : decode cX8_init 22 = .ok (.aload_n 0, 1) := by decide +kernel
theorem dX8_init_23 : decode cX8_init 23 = .ok (.iconst 4, 1) := by decide +kernel
theorem dX8_init_24 : decode cX8_init 24 = .ok (.newarray .int, 2) := by decide +kernel
theorem dX8_init_26 : decode cX8_init 26 = .ok (.putfield 20, 3) := by decide +kernel
theorem dX8_init_29 : decode cX8_init 29 = .ok (.aload_n 0, 1) := by decide +kernel
theorem dX8_init_30 : decode cX8_init 30 = .ok (.getfield 20, 3) := by decide +kernel
theorem dX8_init_33 : decode cX8_init 33 = .ok (.iconst (-1), 1) := by decide +kernel
theorem dX8_init_34 : decode cX8_init 34 = .ok (.invokestatic 23, 3) := by decide +kernel
theorem dX8_init_37 : decode cX8_init 37 = .ok (.return_, 1) := by decide +kernel
theorem dX3_init_0 : decode cX3_init 0 = .ok (.aload_n 0, 1) := by decide +kernel
theorem dX3_init_1 : decode cX3_init 1 = .ok (.invokespecial 5, 3) := by decide +kernel
theorem dX3_init_4 : decode cX3_init 4 = .ok (.aload_n 0, 1) := by decide +kernel
theorem dX3_init_5 : decode cX3_init 5 = .ok (.bipush 49, 2) := by decide +kernel
theorem dX3_init_7 : decode cX3_init 7 = .ok (.newarray .int, 2) := by decide +kernel
theorem dX3_init_9 : decode cX3_init 9 = .ok (.putfield 11, 3) := by decide +kernel
theorem dX3_init_12 : decode cX3_init 12 = .ok (.aload_n 0, 1) := by decide +kernel
theorem dX3_init_13 : decode cX3_init 13 = .ok (.bipush 12, 2) := by decide +kernel
theorem dX3_init_15 : decode cX3_init 15 = .ok (.newarray .int, 2) := by decide +kernel
theorem dX3_init_17 : decode cX3_init 17 = .ok (.putfield 15, 3) := by decide +kernel
theorem dX3_init_20 : decode cX3_init 20 = .ok (.aload_n 0, 1) := by decide +kernel
theorem dX3_init_21 : decode cX3_init 21 = .ok (.aload_n 1, 1) := by decide +kernel
theorem dX3_init_22 : decode cX3_init 22 = .ok (.putfield 18, 3) := by decide +kernel
theorem dX3_init_25 : decode cX3_init 25 = .ok (.aload_n 0, 1) := by decide +kernel
theorem dX3_init_26 : decode cX3_init 26 = .ok (.aload_n 2, 1) := by decide +kernel
theorem dX3_init_27 : decode cX3_init 27 = .ok (.putfield 22, 3) := by decide +kernel
theorem dX3_init_30 : decode cX3_init 30 = .ok (.return_, 1) := by decide +kernel
theorem dX12_init_0 : decode cX12_init 0 = .ok (.aload_n 0, 1) := by decide +kernel
theorem dX12_init_1 : decode cX12_init 1 = .ok (.invokespecial 1, 3) := by decide +kernel
theorem dX12_init_4 : decode cX12_init 4 = .ok (.aload_n 0, 1) := by decide +kernel
theorem dX12_init_5 : decode cX12_init 5 = .ok (.iconst 4, 1) := by decide +kernel
theorem dX12_init_6 : decode cX12_init 6 = .ok (.newarray .int, 2) := by decide +kernel
theorem dX12_init_8 : decode cX12_init 8 = .ok (.putfield 7, 3) := by decide +kernel
theorem dX12_init_11 : decode cX12_init 11 = .ok (.aload_n 0, 1) := by decide +kernel
theorem dX12_init_12 : decode cX12_init 12 = .ok (.iconst 4, 1) := by decide +kernel
theorem dX12_init_13 : decode cX12_init 13 = .ok (.newarray .int, 2) := by decide +kernel
theorem dX12_init_15 : decode cX12_init 15 = .ok (.putfield 13, 3) := by decide +kernel
theorem dX12_init_18 : decode cX12_init 18 = .ok (.aload_n 0, 1) := by decide +kernel
theorem dX12_init_19 : decode cX12_init 19 = .ok (.sipush 240, 3) := by decide +kernel
theorem dX12_init_22 : decode cX12_init 22 = .ok (.newarray .long, 2) := by decide +kernel
theorem dX12_init_24 : decode cX12_init 24 = .ok (.putfield 16, 3) := by decide +kernel
theorem dX12_init_27 : decode cX12_init 27 = .ok (.aload_n 0, 1) := by decide +kernel
theorem dX12_init_28 : decode cX12_init 28 = .ok (.bipush 60, 2) := by decide +kernel
theorem dX12_init_30 : decode cX12_init 30 = .ok (.newarray .long, 2) := by decide +kernel
theorem dX12_init_32 : decode cX12_init 32 = .ok (.putfield 20, 3) := by decide +kernel
theorem dX12_init_35 : decode cX12_init 35 = .ok (.aload_n 0, 1) := by decide +kernel
theorem dX12_init_36 : decode cX12_init 36 = .ok (.sipush 1200, 3) := by decide +kernel
theorem dX12_init_39 : decode cX12_init 39 = .ok (.newarray .byte, 2) := by decide +kernel
theorem dX12_init_41 : decode cX12_init 41 = .ok (.putfield 23, 3) := by decide +kernel
theorem dX12_init_44 : decode cX12_init 44 = .ok (.aload_n 0, 1) := by decide +kernel
theorem dX12_init_45 : decode cX12_init 45 = .ok (.iconst (-1), 1) := by decide +kernel
theorem dX12_init_46 : decode cX12_init 46 = .ok (.putfield 27, 3) := by decide +kernel
theorem dX12_init_49 : decode cX12_init 49 = .ok (.aload_n 0, 1) := by decide +kernel
theorem dX12_init_50 : decode cX12_init 50 = .ok (.iconst 5, 1) := by decide +kernel
theorem dX12_init_51 : decode cX12_init 51 = .ok (.newarray .int, 2) := by decide +kernel
theorem dX12_init_53 : decode cX12_init 53 = .ok (.putfield 31, 3) := by decide +kernel
theorem dX12_init_56 : decode cX12_init 56 = .ok (.aload_n 0, 1) := by decide +kernel
theorem dX12_init_57 : decode cX12_init 57 = .ok (.bipush 50, 2) := by decide +kernel
theorem dX12_init_59 : decode cX12_init 59 = .ok (.newarray .int, 2) := by decide +kernel
theorem dX12_init_61 : decode cX12_init 61 = .ok (.putfield 34, 3) := by decide +kernel
theorem dX12_init_64 : decode cX12_init 64 = .ok (.aload_n 0, 1) := by decide +kernel
theorem dX12_init_65 : decode cX12_init 65 = .ok (.bipush 120, 2) := by decide +kernel
theorem dX12_init_67 : decode cX12_init 67 = .ok (.newarray .int, 2) := by decide +kernel
theorem dX12_init_69 : decode cX12_init 69 = .ok (.putfield 37, 3) := by decide +kernel
theorem dX12_init_72 : decode cX12_init 72 = .ok (.aload_n 0, 1) := by decide +kernel
theorem dX12_init_73 : decode cX12_init 73 = .ok (.bipush 120, 2) := by decide +kernel
theorem dX12_init_75 : decode cX12_init 75 = .ok (.newarray .int, 2) := by decide +kernel
theorem dX12_init_77 : decode cX12_init 77 = .ok (.putfield 40, 3) := by decide +kernel
theorem dX12_init_80 : decode cX12_init 80 = .ok (.aload_n 0, 1) := by decide +kernel
theorem dX12_init_81 : decode cX12_init 81 = .ok (.bipush 120, 2) := by decide +kernel
theorem dX12_init_83 : decode cX12_init 83 = .ok (.newarray .int, 2) := by decide +kernel
theorem dX12_init_85 : decode cX12_init 85 = .ok (.putfield 43, 3) := by decide +kernel
theorem dX12_init_88 : decode cX12_init 88 = .ok (.aload_n 0, 1) := by decide +kernel
theorem dX12_init_89 : decode cX12_init 89 = .ok (.bipush 15, 2) := by decide +kernel
theorem dX12_init_91 : decode cX12_init 91 = .ok (.newarray .int, 2) := by decide +kernel
theorem dX12_init_93 : decode cX12_init 93 = .ok (.putfield 46, 3) := by decide +kernel
theorem dX12_init_96 : decode cX12_init 96 = .ok (.aload_n 0, 1) := by decide +kernel
theorem dX12_init_97 : decode cX12_init 97 = .ok (.sipush 800, 3) := by decide +kernel
theorem dX12_init_100 : decode cX12_init 100 = .ok (.newarray .int, 2) := by decide +kernel
theorem dX12_init_102 : decode cX12_init 102 = .ok (.putfield 49, 3) := by decide +kernel
theorem dX12_init_105 : decode cX12_init 105 = .ok (.aload_n 0, 1) := by decide +kernel
theorem dX12_init_106 : decode cX12_init 106 = .ok (.iconst 3, 1) := by decide +kernel
theorem dX12_init_107 : decode cX12_init 107 = .ok (.newarray .boolean, 2) := by decide +kernel
theorem dX12_init_109 : decode cX12_init 109 = .ok (.putfield 52, 3) := by decide +kernel
theorem dX12_init_112 : decode cX12_init 112 = .ok (.aload_n 0, 1) := by decide +kernel
theorem dX12_init_113 : decode cX12_init 113 = .ok (.iconst 3, 1) := by decide +kernel
theorem dX12_init_114 : decode cX12_init 114 = .ok (.newarray .int, 2) := by decide +kernel
theorem dX12_init_116 : decode cX12_init 116 = .ok (.putfield 56, 3) := by decide +kernel
theorem dX12_init_119 : decode cX12_init 119 = .ok (.aload_n 0, 1) := by decide +kernel
theorem dX12_init_120 : decode cX12_init 120 = .ok (.sipush 3208, 3) := by decide +kernel
theorem dX12_init_123 : decode cX12_init 123 = .ok (.newarray .int, 2) := by decide +kernel
theorem dX12_init_125 : decode cX12_init 125 = .ok (.putfield 59, 3) := by decide +kernel
theorem dX12_init_128 : decode cX12_init 128 = .ok (.aload_n 0, 1) := by decide +kernel
theorem dX12_init_129 : decode cX12_init 129 = .ok (.sipush 1212, 3) := by decide +kernel
theorem dX12_init_132 : decode cX12_init 132 = .ok (.newarray .int, 2) := by decide +kernel
theorem dX12_init_134 : decode cX12_init 134 = .ok (.putfield 62, 3) := by decide +kernel
theorem dX12_init_137 : decode cX12_init 137 = .ok (.aload_n 0, 1) := by decide +kernel
theorem dX12_init_138 : decode cX12_init 138 = .ok (.bipush 12, 2) := by decide +kernel
theorem dX12_init_140 : decode cX12_init 140 = .ok (.newarray .int, 2) := by decide +kernel
theorem dX12_init_142 : decode cX12_init 142 = .ok (.putfield 65, 3) := by decide +kernel
theorem dX12_init_145 : decode cX12_init 145 = .ok (.aload_n 0, 1) := by decide +kernel
theorem dX12_init_146 : decode cX12_init 146 = .ok (.iconst 3, 1) := by decide +kernel
theorem dX12_init_147 : decode cX12_init 147 = .ok (.newarray .int, 2) := by decide +kernel
theorem dX12_init_149 : decode cX12_init 149 = .ok (.putfield 68, 3) := by decide +kernel
theorem dX12_init_152 : decode cX12_init 152 = .ok (.aload_n 0, 1) := by decide +kernel
theorem dX12_init_153 : decode cX12_init 153 = .ok (.bipush 12, 2) := by decide +kernel
theorem dX12_init_155 : decode cX12_init 155 = .ok (.newarray .int, 2) := by decide +kernel
theorem dX12_init_157 : decode cX12_init 157 = .ok (.putfield 71, 3) := by decide +kernel
theorem dX12_init_160 : decode cX12_init 160 = .ok (.iconst 0, 1) := by decide +kernel
theorem dX12_init_161 : decode cX12_init 161 = .ok (.istore_n 1, 1) := by decide +kernel
theorem dX12_init_162 : decode cX12_init 162 = .ok (.iload_n 1, 1) := by decide +kernel
theorem dX12_init_163 : decode cX12_init 163 = .ok (.iconst 4, 1) := by decide +kernel
theorem dX12_init_164 : decode cX12_init 164 = .ok (.if_icmp .ge 16, 3) := by decide +kernel
theorem dX12_init_167 : decode cX12_init 167 = .ok (.aload_n 0, 1) := by decide +kernel
theorem dX12_init_168 : decode cX12_init 168 = .ok (.getfield 7, 3) := by decide +kernel
theorem dX12_init_171 : decode cX12_init 171 = .ok (.iload_n 1, 1) := by decide +kernel
theorem dX12_init_172 : decode cX12_init 172 = .ok (.iconst (-1), 1) := by decide +kernel
theorem dX12_init_173 : decode cX12_init 173 = .ok (.iastore, 1) := by decide +kernel
theorem dX12_init_174 : decode cX12_init 174 = .ok (.iinc 1 1, 3) := by decide +kernel
theorem dX12_init_177 : decode cX12_init 177 = .ok (.goto (-15), 3) := by decide +kernel
theorem dX12_init_180 : decode cX12_init 180 = .ok (.return_, 1) := by decide +kernel
theorem dX11_init_0 : decode cX11_init 0 = .ok (.aload_n 0, 1) := by decide +kernel
theorem dX11_init_1 : decode cX11_init 1 = .ok (.invokespecial 3, 3) := by decide +kernel
theorem dX11_init_4 : decode cX11_init 4 = .ok (.aload_n 0, 1) := by decide +kernel
theorem dX11_init_5 : decode cX11_init 5 = .ok (.sipush 1200, 3) := by decide +kernel
theorem dX11_init_8 : decode cX11_init 8 = .ok (.newarray .byte, 2) := by decide +kernel
theorem dX11_init_10 : decode cX11_init 10 = .ok (.putfield 9, 3) := by decide +kernel
theorem dX11_init_13 : decode cX11_init 13 = .ok (.aload_n 0, 1) := by decide +kernel
theorem dX11_init_14 : decode cX11_init 14 = .ok (.iconst 0, 1) := by decide +kernel
theorem dX11_init_15 : decode cX11_init 15 = .ok (.putfield 13, 3) := by decide +kernel
theorem dX11_init_18 : decode cX11_init 18 = .ok (.aload_n 0, 1) := by decide +kernel
theorem dX11_init_19 : decode cX11_init 19 = .ok (.iconst 0, 1) := by decide +kernel
theorem dX11_init_20 : decode cX11_init 20 = .ok (.putfield 17, 3) := by decide +kernel
theorem dX11_init_23 : decode cX11_init 23 = .ok (.aload_n 0, 1) := by decide +kernel
theorem dX11_init_24 : decode cX11_init 24 = .ok (.iconst (-1), 1) := by decide +kernel
theorem dX11_init_25 : decode cX11_init 25 = .ok (.putfield 20, 3) := by decide +kernel
theorem dX11_init_28 : decode cX11_init 28 = .ok (.aload_n 0, 1) := by decide +kernel
theorem dX11_init_29 : decode cX11_init 29 = .ok (.new 23, 3) := by decide +kernel
theorem dX11_init_32 : decode cX11_init 32 = .ok (.dup, 1) := by decide +kernel
theorem dX11_init_33 : decode cX11_init 33 = .ok (.invokespecial 25, 3) := by decide +kernel
theorem dX11_init_36 : decode cX11_init 36 = .ok (.putfield 26, 3) := by decide +kernel
theorem dX11_init_39 : decode cX11_init 39 = .ok (.aload_n 0, 1) := by decide +kernel
theorem dX11_init_40 : decode cX11_init 40 = .ok (.new 23, 3) := by decide +kernel
theorem dX11_init_43 : decode cX11_init 43 = .ok (.dup, 1) := by decide +kernel
theorem dX11_init_44 : decode cX11_init 44 = .ok (.invokespecial 25, 3) := by decide +kernel
theorem dX11_init_47 : decode cX11_init 47 = .ok (.putfield 30, 3) := by decide +kernel
theorem dX11_init_50 : decode cX11_init 50 = .ok (.aload_n 0, 1) := by decide +kernel
theorem dX11_init_51 : decode cX11_init 51 = .ok (.iconst 3, 1) := by decide +kernel
theorem dX11_init_52 : decode cX11_init 52 = .ok (.anewarray 23, 3) := by decide +kernel
theorem dX11_init_55 : decode cX11_init 55 = .ok (.putfield 33, 3) := by decide +kernel
theorem dX11_init_58 : decode cX11_init 58 = .ok (.iconst 0, 1) := by decide +kernel
theorem dX11_init_59 : decode cX11_init 59 = .ok (.istore_n 1, 1) := by decide +kernel
theorem dX11_init_60 : decode cX11_init 60 = .ok (.iload_n 1, 1) := by decide +kernel
theorem dX11_init_61 : decode cX11_init 61 = .ok (.iconst 3, 1) := by decide +kernel
theorem dX11_init_62 : decode cX11_init 62 = .ok (.if_icmp .ge 22, 3) := by decide +kernel
theorem dX11_init_65 : decode cX11_init 65 = .ok (.aload_n 0, 1) := by decide +kernel
theorem dX11_init_66 : decode cX11_init 66 = .ok (.getfield 33, 3) := by decide +kernel
theorem dX11_init_69 : decode cX11_init 69 = .ok (.iload_n 1, 1) := by decide +kernel
theorem dX11_init_70 : decode cX11_init 70 = .ok (.new 23, 3) := by decide +kernel
theorem dX11_init_73 : decode cX11_init 73 = .ok (.dup, 1) := by decide +kernel
theorem dX11_init_74 : decode cX11_init 74 = .ok (.invokespecial 25, 3) := by decide +kernel
theorem dX11_init_77 : decode cX11_init 77 = .ok (.aastore, 1) := by decide +kernel
theorem dX11_init_78 : decode cX11_init 78 = .ok (.iinc 1 1, 3) := by decide +kernel
theorem dX11_init_81 : decode cX11_init 81 = .ok (.goto (-21), 3) := by decide +kernel
theorem dX11_init_84 : decode cX11_init 84 = .ok (.aload_n 0, 1) := by decide +kernel
theorem dX11_init_85 : decode cX11_init 85 = .ok (.iconst 3, 1) := by decide +kernel
theorem dX11_init_86 : decode cX11_init 86 = .ok (.newarray .boolean, 2) := by decide +kernel
theorem dX11_init_88 : decode cX11_init 88 = .ok (.putfield 37, 3) := by decide +kernel
theorem dX11_init_91 : decode cX11_init 91 = .ok (.aload_n 0, 1) := by decide +kernel
theorem dX11_init_92 : decode cX11_init 92 = .ok (.new 41, 3) := by decide +kernel
theorem dX11_init_95 : decode cX11_init 95 = .ok (.dup, 1) := by decide +kernel
theorem dX11_init_96 : decode cX11_init 96 = .ok (.aload_n 0, 1) := by decide +kernel
theorem dX11_init_97 : decode cX11_init 97 = .ok (.getfield 9, 3) := by decide +kernel
theorem dX11_init_100 : decode cX11_init 100 = .ok (.aload_n 0, 1) := by decide +kernel
theorem dX11_init_101 : decode cX11_init 101 = .ok (.getfield 30, 3) := by decide +kernel
theorem dX11_init_104 : decode cX11_init 104 = .ok (.invokespecial 43, 3) := by decide +kernel
theorem dX11_init_107 : decode cX11_init 107 = .ok (.putfield 46, 3) := by decide +kernel
theorem dX11_init_110 : decode cX11_init 110 = .ok (.aload_n 0, 1) := by decide +kernel
theorem dX11_init_111 : decode cX11_init 111 = .ok (.new 50, 3) := by decide +kernel
theorem dX11_init_114 : decode cX11_init 114 = .ok (.dup, 1) := by decide +kernel
theorem dX11_init_115 : decode cX11_init 115 = .ok (.aload_n 0, 1) := by decide +kernel
theorem dX11_init_116 : decode cX11_init 116 = .ok (.getfield 26, 3) := by decide +kernel
theorem dX11_init_119 : decode cX11_init 119 = .ok (.invokespecial 52, 3) := by decide +kernel
theorem dX11_init_122 : decode cX11_init 122 = .ok (.putfield 55, 3) := by decide +kernel
theorem dX11_init_125 : decode cX11_init 125 = .ok (.aload_n 0, 1) := by decide +kernel
theorem dX11_init_126 : decode cX11_init 126 = .ok (.new 59, 3) := by decide +kernel
theorem dX11_init_129 : decode cX11_init 129 = .ok (.dup, 1) := by decide +kernel
theorem dX11_init_130 : decode cX11_init 130 = .ok (.aload_n 0, 1) := by decide +kernel
theorem dX11_init_131 : decode cX11_init 131 = .ok (.getfield 26, 3) := by decide +kernel
theorem dX11_init_134 : decode cX11_init 134 = .ok (.invokespecial 61, 3) := by decide +kernel
theorem dX11_init_137 : decode cX11_init 137 = .ok (.putfield 62, 3) := by decide +kernel
theorem dX11_init_140 : decode cX11_init 140 = .ok (.aload_n 0, 1) := by decide +kernel
theorem dX11_init_141 : decode cX11_init 141 = .ok (.new 66, 3) := by decide +kernel
theorem dX11_init_144 : decode cX11_init 144 = .ok (.dup, 1) := by decide +kernel
theorem dX11_init_145 : decode cX11_init 145 = .ok (.aload_n 0, 1) := by decide +kernel
theorem dX11_init_146 : decode cX11_init 146 = .ok (.getfield 26, 3) := by decide +kernel
theorem dX11_init_149 : decode cX11_init 149 = .ok (.invokespecial 68, 3) := by decide +kernel
theorem dX11_init_152 : decode cX11_init 152 = .ok (.putfield 69, 3) := by decide +kernel
theorem dX11_init_155 : decode cX11_init 155 = .ok (.aload_n 0, 1) := by decide +kernel
theorem dX11_init_156 : decode cX11_init 156 = .ok (.new 73, 3) := by decide +kernel
theorem dX11_init_159 : decode cX11_init 159 = .ok (.dup, 1) := by decide +kernel
theorem dX11_init_160 : decode cX11_init 160 = .ok (.aload_n 0, 1) := by decide +kernel
theorem dX11_init_161 : decode cX11_init 161 = .ok (.getfield 26, 3) := by decide +kernel
theorem dX11_init_164 : decode cX11_init 164 = .ok (.aload_n 0, 1) := by decide +kernel
theorem dX11_init_165 : decode cX11_init 165 = .ok (.getfield 55, 3) := by decide +kernel
theorem dX11_init_168 : decode cX11_init 168 = .ok (.invokespecial 75, 3) := by decide +kernel
theorem dX11_init_171 : decode cX11_init 171 = .ok (.putfield 78, 3) := by decide +kernel
theorem dX11_init_174 : decode cX11_init 174 = .ok (.aload_n 0, 1) := by decide +kernel
theorem dX11_init_175 : decode cX11_init 175 = .ok (.new 82, 3) := by decide +kernel
theorem dX11_init_178 : decode cX11_init 178 = .ok (.dup, 1) := by decide +kernel
theorem dX11_init_179 : decode cX11_init 179 = .ok (.invokespecial 84, 3) := by decide +kernel
theorem dX11_init_182 : decode cX11_init 182 = .ok (.putfield 85, 3) := by decide +kernel
theorem dX11_init_185 : decode cX11_init 185 = .ok (.aload_n 0, 1) := by decide +kernel
theorem dX11_init_186 : decode cX11_init 186 = .ok (.new 89, 3) := by decide +kernel
theorem dX11_init_189 : decode cX11_init 189 = .ok (.dup, 1) := by decide +kernel
theorem dX11_init_190 : decode cX11_init 190 = .ok (.aload_n 0, 1) := by decide +kernel
theorem dX11_init_191 : decode cX11_init 191 = .ok (.getfield 26, 3) := by decide +kernel
theorem dX11_init_194 : decode cX11_init 194 = .ok (.aload_n 0, 1) := by decide +kernel
theorem dX11_init_195 : decode cX11_init 195 = .ok (.getfield 85, 3) := by decide +kernel
theorem dX11_init_198 : decode cX11_init 198 = .ok (.invokespecial 91, 3) := by decide +kernel
theorem dX11_init_201 : decode cX11_init 201 = .ok (.putfield 94, 3) := by decide +kernel
theorem dX11_init_204 : decode cX11_init 204 = .ok (.return_, 1) := by decide +kernel
theorem q154 : Cond.methodLink "EbbWreck$Tide" 3 ⟨"java/lang/Object", "<init>", "()V"⟩ ∈ lw_g := mg (List.mem_of_getElem? (i := 154) (by decide +kernel)) rfl
theorem q179 : Cond.arrayClass .int ∈ lw_g := mg (List.mem_of_getElem? (i := 179) (by decide +kernel)) rfl
theorem q185 : Cond.methodLink "EbbWreck$RuleBook" 3 ⟨"java/lang/Object", "<init>", "()V"⟩ ∈ lw_g := mg (List.mem_of_getElem? (i := 185) (by decide +kernel)) rfl
theorem q214 : Cond.methodLink "EbbWreck$Acts" 3 ⟨"java/lang/Object", "<init>", "()V"⟩ ∈ lw_g := mg (List.mem_of_getElem? (i := 214) (by decide +kernel)) rfl
theorem q148 : Cond.methodLink "EbbWreck$Coast" 3 ⟨"java/lang/Object", "<init>", "()V"⟩ ∈ lw_g := mg (List.mem_of_getElem? (i := 148) (by decide +kernel)) rfl
theorem q149 : Cond.classLink "EbbWreck$Coast" 9 "EbbWreck$Tide" ∈ lw_g := mg (List.mem_of_getElem? (i := 149) (by decide +kernel)) rfl
theorem q150 : Cond.instantiable "EbbWreck$Tide" 5 ∈ lw_g := mg (List.mem_of_getElem? (i := 150) (by decide +kernel)) rfl
theorem q152 : Cond.instanceMethod ⟨"EbbWreck$Tide", "<init>", "()V"⟩ ∈ lw_g := mg (List.mem_of_getElem? (i := 152) (by decide +kernel)) rfl
theorem q153 : Cond.code ⟨"EbbWreck$Tide", "<init>", "()V"⟩ prog_12_method_1_code 1 none ∈ lw_g := mg (List.mem_of_getElem? (i := 153) (by decide +kernel)) rfl
theorem q180 : Cond.classLink "EbbWreck$Coast" 34 "EbbWreck$RuleBook" ∈ lw_g := mg (List.mem_of_getElem? (i := 180) (by decide +kernel)) rfl
theorem q181 : Cond.instantiable "EbbWreck$RuleBook" 5 ∈ lw_g := mg (List.mem_of_getElem? (i := 181) (by decide +kernel)) rfl
theorem q183 : Cond.instanceMethod ⟨"EbbWreck$RuleBook", "<init>", "()V"⟩ ∈ lw_g := mg (List.mem_of_getElem? (i := 183) (by decide +kernel)) rfl
theorem q184 : Cond.code ⟨"EbbWreck$RuleBook", "<init>", "()V"⟩ prog_8_method_1_code 1 none ∈ lw_g := mg (List.mem_of_getElem? (i := 184) (by decide +kernel)) rfl
theorem q209 : Cond.classLink "EbbWreck$Coast" 44 "EbbWreck$Acts" ∈ lw_g := mg (List.mem_of_getElem? (i := 209) (by decide +kernel)) rfl
theorem q210 : Cond.instantiable "EbbWreck$Acts" 4 ∈ lw_g := mg (List.mem_of_getElem? (i := 210) (by decide +kernel)) rfl
theorem q212 : Cond.instanceMethod ⟨"EbbWreck$Acts", "<init>", "()V"⟩ ∈ lw_g := mg (List.mem_of_getElem? (i := 212) (by decide +kernel)) rfl
theorem q213 : Cond.code ⟨"EbbWreck$Acts", "<init>", "()V"⟩ prog_2_method_1_code 1 none ∈ lw_g := mg (List.mem_of_getElem? (i := 213) (by decide +kernel)) rfl
theorem q341 : Cond.methodLink "EbbWreck$Reader" 3 ⟨"java/lang/Object", "<init>", "()V"⟩ ∈ lw_g := mg (List.mem_of_getElem? (i := 341) (by decide +kernel)) rfl
theorem q378 : Cond.methodLink "EbbWreck$Drift" 3 ⟨"java/lang/Object", "<init>", "()V"⟩ ∈ lw_g := mg (List.mem_of_getElem? (i := 378) (by decide +kernel)) rfl
theorem q178 : Cond.arrayClass .byte ∈ lw_g := mg (List.mem_of_getElem? (i := 178) (by decide +kernel)) rfl
theorem q415 : Cond.methodLink "EbbWreck$Pushing" 3 ⟨"java/lang/Object", "<init>", "()V"⟩ ∈ lw_g := mg (List.mem_of_getElem? (i := 415) (by decide +kernel)) rfl
theorem q434 : Cond.methodLink "EbbWreck$Throwing" 3 ⟨"java/lang/Object", "<init>", "()V"⟩ ∈ lw_g := mg (List.mem_of_getElem? (i := 434) (by decide +kernel)) rfl
theorem q450 : Cond.methodLink "EbbWreck$Seating" 3 ⟨"java/lang/Object", "<init>", "()V"⟩ ∈ lw_g := mg (List.mem_of_getElem? (i := 450) (by decide +kernel)) rfl
theorem q472 : Cond.methodLink "EbbWreck$Slots" 3 ⟨"java/lang/Object", "<init>", "()V"⟩ ∈ lw_g := mg (List.mem_of_getElem? (i := 472) (by decide +kernel)) rfl
theorem q473 : Cond.classLink "EbbWreck$Slots" 9 "[[J" ∈ lw_g := mg (List.mem_of_getElem? (i := 473) (by decide +kernel)) rfl
theorem q493 : Cond.arrayClass .long ∈ lw_g := mg (List.mem_of_getElem? (i := 493) (by decide +kernel)) rfl
theorem q475 : Cond.methodLink "EbbWreck$Slots" 23 ⟨"java/util/Arrays", "fill", "([II)V"⟩ ∈ lw_g := mg (List.mem_of_getElem? (i := 475) (by decide +kernel)) rfl
theorem q499 : Cond.methodLink "EbbWreck$Floats" 5 ⟨"java/lang/Object", "<init>", "()V"⟩ ∈ lw_g := mg (List.mem_of_getElem? (i := 499) (by decide +kernel)) rfl
theorem q1467 : Cond.methodLink "EbbWreckModel" 1 ⟨"java/lang/Object", "<init>", "()V"⟩ ∈ lw_g := mg (List.mem_of_getElem? (i := 1467) (by decide +kernel)) rfl
theorem q372 : Cond.arrayClass .boolean ∈ lw_g := mg (List.mem_of_getElem? (i := 372) (by decide +kernel)) rfl
theorem q140 : Cond.methodLink "EbbWreck" 3 ⟨"java/lang/Object", "<init>", "()V"⟩ ∈ lw_g := mg (List.mem_of_getElem? (i := 140) (by decide +kernel)) rfl
theorem q143 : Cond.classLink "EbbWreck" 23 "EbbWreck$Coast" ∈ lw_g := mg (List.mem_of_getElem? (i := 143) (by decide +kernel)) rfl
theorem q144 : Cond.instantiable "EbbWreck$Coast" 15 ∈ lw_g := mg (List.mem_of_getElem? (i := 144) (by decide +kernel)) rfl
theorem q146 : Cond.instanceMethod ⟨"EbbWreck$Coast", "<init>", "()V"⟩ ∈ lw_g := mg (List.mem_of_getElem? (i := 146) (by decide +kernel)) rfl
theorem q147 : Cond.code ⟨"EbbWreck$Coast", "<init>", "()V"⟩ prog_3_method_1_code 1 none ∈ lw_g := mg (List.mem_of_getElem? (i := 147) (by decide +kernel)) rfl
theorem q336 : Cond.classLink "EbbWreck" 41 "EbbWreck$Reader" ∈ lw_g := mg (List.mem_of_getElem? (i := 336) (by decide +kernel)) rfl
theorem q337 : Cond.instantiable "EbbWreck$Reader" 9 ∈ lw_g := mg (List.mem_of_getElem? (i := 337) (by decide +kernel)) rfl
theorem q338 : Cond.methodLink "EbbWreck" 43 ⟨"EbbWreck$Reader", "<init>", "([BLEbbWreck$Coast;)V"⟩ ∈ lw_g := mg (List.mem_of_getElem? (i := 338) (by decide +kernel)) rfl
theorem q339 : Cond.instanceMethod ⟨"EbbWreck$Reader", "<init>", "([BLEbbWreck$Coast;)V"⟩ ∈ lw_g := mg (List.mem_of_getElem? (i := 339) (by decide +kernel)) rfl
theorem q340 : Cond.code ⟨"EbbWreck$Reader", "<init>", "([BLEbbWreck$Coast;)V"⟩ prog_7_method_1_code 3 none ∈ lw_g := mg (List.mem_of_getElem? (i := 340) (by decide +kernel)) rfl
theorem q373 : Cond.classLink "EbbWreck" 50 "EbbWreck$Drift" ∈ lw_g := mg (List.mem_of_getElem? (i := 373) (by decide +kernel)) rfl
theorem q374 : Cond.instantiable "EbbWreck$Drift" 9 ∈ lw_g := mg (List.mem_of_getElem? (i := 374) (by decide +kernel)) rfl
theorem q375 : Cond.methodLink "EbbWreck" 52 ⟨"EbbWreck$Drift", "<init>", "(LEbbWreck$Coast;)V"⟩ ∈ lw_g := mg (List.mem_of_getElem? (i := 375) (by decide +kernel)) rfl
theorem q376 : Cond.instanceMethod ⟨"EbbWreck$Drift", "<init>", "(LEbbWreck$Coast;)V"⟩ ∈ lw_g := mg (List.mem_of_getElem? (i := 376) (by decide +kernel)) rfl
theorem q377 : Cond.code ⟨"EbbWreck$Drift", "<init>", "(LEbbWreck$Coast;)V"⟩ prog_4_method_1_code 2 none ∈ lw_g := mg (List.mem_of_getElem? (i := 377) (by decide +kernel)) rfl
theorem q410 : Cond.classLink "EbbWreck" 59 "EbbWreck$Pushing" ∈ lw_g := mg (List.mem_of_getElem? (i := 410) (by decide +kernel)) rfl
theorem q411 : Cond.instantiable "EbbWreck$Pushing" 4 ∈ lw_g := mg (List.mem_of_getElem? (i := 411) (by decide +kernel)) rfl
theorem q412 : Cond.methodLink "EbbWreck" 61 ⟨"EbbWreck$Pushing", "<init>", "(LEbbWreck$Coast;)V"⟩ ∈ lw_g := mg (List.mem_of_getElem? (i := 412) (by decide +kernel)) rfl
theorem q413 : Cond.instanceMethod ⟨"EbbWreck$Pushing", "<init>", "(LEbbWreck$Coast;)V"⟩ ∈ lw_g := mg (List.mem_of_getElem? (i := 413) (by decide +kernel)) rfl
theorem q414 : Cond.code ⟨"EbbWreck$Pushing", "<init>", "(LEbbWreck$Coast;)V"⟩ prog_6_method_1_code 2 none ∈ lw_g := mg (List.mem_of_getElem? (i := 414) (by decide +kernel)) rfl
theorem q429 : Cond.classLink "EbbWreck" 66 "EbbWreck$Throwing" ∈ lw_g := mg (List.mem_of_getElem? (i := 429) (by decide +kernel)) rfl
theorem q430 : Cond.instantiable "EbbWreck$Throwing" 3 ∈ lw_g := mg (List.mem_of_getElem? (i := 430) (by decide +kernel)) rfl
theorem q431 : Cond.methodLink "EbbWreck" 68 ⟨"EbbWreck$Throwing", "<init>", "(LEbbWreck$Coast;)V"⟩ ∈ lw_g := mg (List.mem_of_getElem? (i := 431) (by decide +kernel)) rfl
theorem q432 : Cond.instanceMethod ⟨"EbbWreck$Throwing", "<init>", "(LEbbWreck$Coast;)V"⟩ ∈ lw_g := mg (List.mem_of_getElem? (i := 432) (by decide +kernel)) rfl
theorem q433 : Cond.code ⟨"EbbWreck$Throwing", "<init>", "(LEbbWreck$Coast;)V"⟩ prog_11_method_1_code 2 none ∈ lw_g := mg (List.mem_of_getElem? (i := 433) (by decide +kernel)) rfl
theorem q445 : Cond.classLink "EbbWreck" 73 "EbbWreck$Seating" ∈ lw_g := mg (List.mem_of_getElem? (i := 445) (by decide +kernel)) rfl
theorem q446 : Cond.instantiable "EbbWreck$Seating" 5 ∈ lw_g := mg (List.mem_of_getElem? (i := 446) (by decide +kernel)) rfl
theorem q447 : Cond.methodLink "EbbWreck" 75 ⟨"EbbWreck$Seating", "<init>", "(LEbbWreck$Coast;LEbbWreck$Drift;)V"⟩ ∈ lw_g := mg (List.mem_of_getElem? (i := 447) (by decide +kernel)) rfl
theorem q448 : Cond.instanceMethod ⟨"EbbWreck$Seating", "<init>", "(LEbbWreck$Coast;LEbbWreck$Drift;)V"⟩ ∈ lw_g := mg (List.mem_of_getElem? (i := 448) (by decide +kernel)) rfl
theorem q449 : Cond.code ⟨"EbbWreck$Seating", "<init>", "(LEbbWreck$Coast;LEbbWreck$Drift;)V"⟩ prog_9_method_1_code 3 none ∈ lw_g := mg (List.mem_of_getElem? (i := 449) (by decide +kernel)) rfl
theorem q467 : Cond.classLink "EbbWreck" 82 "EbbWreck$Slots" ∈ lw_g := mg (List.mem_of_getElem? (i := 467) (by decide +kernel)) rfl
theorem q468 : Cond.instantiable "EbbWreck$Slots" 3 ∈ lw_g := mg (List.mem_of_getElem? (i := 468) (by decide +kernel)) rfl
theorem q469 : Cond.methodLink "EbbWreck" 84 ⟨"EbbWreck$Slots", "<init>", "()V"⟩ ∈ lw_g := mg (List.mem_of_getElem? (i := 469) (by decide +kernel)) rfl
theorem q470 : Cond.instanceMethod ⟨"EbbWreck$Slots", "<init>", "()V"⟩ ∈ lw_g := mg (List.mem_of_getElem? (i := 470) (by decide +kernel)) rfl
theorem q471 : Cond.code ⟨"EbbWreck$Slots", "<init>", "()V"⟩ prog_10_method_1_code 1 none ∈ lw_g := mg (List.mem_of_getElem? (i := 471) (by decide +kernel)) rfl
theorem q494 : Cond.classLink "EbbWreck" 89 "EbbWreck$Floats" ∈ lw_g := mg (List.mem_of_getElem? (i := 494) (by decide +kernel)) rfl
theorem q495 : Cond.instantiable "EbbWreck$Floats" 5 ∈ lw_g := mg (List.mem_of_getElem? (i := 495) (by decide +kernel)) rfl
theorem q496 : Cond.methodLink "EbbWreck" 91 ⟨"EbbWreck$Floats", "<init>", "(LEbbWreck$Coast;LEbbWreck$Slots;)V"⟩ ∈ lw_g := mg (List.mem_of_getElem? (i := 496) (by decide +kernel)) rfl
theorem q497 : Cond.instanceMethod ⟨"EbbWreck$Floats", "<init>", "(LEbbWreck$Coast;LEbbWreck$Slots;)V"⟩ ∈ lw_g := mg (List.mem_of_getElem? (i := 497) (by decide +kernel)) rfl
theorem q498 : Cond.code ⟨"EbbWreck$Floats", "<init>", "(LEbbWreck$Coast;LEbbWreck$Slots;)V"⟩ prog_5_method_1_code 3 none ∈ lw_g := mg (List.mem_of_getElem? (i := 498) (by decide +kernel)) rfl
