theorem dX12_isSlot_0 : decode cX12_isSlot 0 = .ok (.iload_n 0, 1) := by decide +kernel
theorem dX12_isSlot_1 : decode cX12_isSlot 1 = .ok (.i2l, 1) := by decide +kernel
theorem dX12_isSlot_2 : decode cX12_isSlot 2 = .ok (.lconst 0, 1) := by decide +kernel
theorem dX12_isSlot_3 : decode cX12_isSlot 3 = .ok (.ldc2_w 77, 3) := by decide +kernel
theorem dX12_isSlot_6 : decode cX12_isSlot 6 = .ok (.invokestatic 79, 3) := by decide +kernel
theorem dX12_isSlot_9 : decode cX12_isSlot 9 = .ok (.ireturn, 1) := by decide +kernel
theorem dX12_whyNot_0 : decode cX12_whyNot 0 = .ok (.iload_n 1, 1) := by decide +kernel
theorem dX12_whyNot_1 : decode cX12_whyNot 1 = .ok (.invokestatic 83, 3) := by decide +kernel
theorem dX12_whyNot_4 : decode cX12_whyNot 4 = .ok (.ifCond .eq 10, 3) := by decide +kernel
theorem dX12_whyNot_7 : decode cX12_whyNot 7 = .ok (.aload_n 0, 1) := by decide +kernel
theorem dX12_whyNot_8 : decode cX12_whyNot 8 = .ok (.invokevirtual 250, 3) := by decide +kernel
theorem dX12_whyNot_11 : decode cX12_whyNot 11 = .ok (.ifCond .ne 6, 3) := by decide +kernel
theorem dX12_whyNot_14 : decode cX12_whyNot 14 = .ok (.bipush (-2), 2) := by decide +kernel
theorem dX12_whyNot_16 : decode cX12_whyNot 16 = .ok (.ireturn, 1) := by decide +kernel
theorem dX12_fits_0 : decode cX12_fits 0 = .ok (.aload_n 0, 1) := by decide +kernel
theorem dX12_fits_1 : decode cX12_fits 1 = .ok (.iconst 0, 1) := by decide +kernel
theorem dX12_fits_2 : decode cX12_fits 2 = .ok (.putfield 74, 3) := by decide +kernel
theorem dX12_fits_5 : decode cX12_fits 5 = .ok (.aload_n 0, 1) := by decide +kernel
theorem dX12_fits_6 : decode cX12_fits 6 = .ok (.iload_n 1, 1) := by decide +kernel
theorem dX12_fits_7 : decode cX12_fits 7 = .ok (.invokevirtual 392, 3) := by decide +kernel
theorem dX12_fits_10 : decode cX12_fits 10 = .ok (.istore_n 2, 1) := by decide +kernel
theorem dX12_fits_11 : decode cX12_fits 11 = .ok (.iload_n 2, 1) := by decide +kernel
theorem dX12_fits_12 : decode cX12_fits 12 = .ok (.ifCond .eq 7, 3) := by decide +kernel
theorem dX12_fits_15 : decode cX12_fits 15 = .ok (.iload_n 2, 1) := by decide +kernel
theorem dX12_fits_16 : decode cX12_fits 16 = .ok (.goto 8, 3) := by decide +kernel
theorem dX12_fits_24 : decode cX12_fits 24 = .ok (.ireturn, 1) := by decide +kernel
theorem dX12_fit_0 : decode cX12_fit 0 = .ok (.aload_n 0, 1) := by decide +kernel
theorem dX12_fit_1 : decode cX12_fit 1 = .ok (.iconst 0, 1) := by decide +kernel
theorem dX12_fit_2 : decode cX12_fit 2 = .ok (.putfield 74, 3) := by decide +kernel
theorem dX12_fit_5 : decode cX12_fit 5 = .ok (.iload_n 2, 1) := by decide +kernel
theorem dX12_fit_6 : decode cX12_fit 6 = .ok (.i2l, 1) := by decide +kernel
theorem dX12_fit_7 : decode cX12_fit 7 = .ok (.lconst 0, 1) := by decide +kernel
theorem dX12_fit_8 : decode cX12_fit 8 = .ok (.lconst 1, 1) := by decide +kernel
theorem dX12_fit_9 : decode cX12_fit 9 = .ok (.invokestatic 79, 3) := by decide +kernel
theorem dX12_fit_12 : decode cX12_fit 12 = .ok (.ifCond .ne 7, 3) := by decide +kernel
theorem dX12_fit_19 : decode cX12_fit 19 = .ok (.aload_n 0, 1) := by decide +kernel
theorem dX12_fit_20 : decode cX12_fit 20 = .ok (.iload_n 1, 1) := by decide +kernel
theorem dX12_fit_21 : decode cX12_fit 21 = .ok (.invokevirtual 392, 3) := by decide +kernel
theorem dX12_fit_24 : decode cX12_fit 24 = .ok (.ifCond .eq 7, 3) := by decide +kernel
theorem dX12_fit_27 : decode cX12_fit 27 = .ok (.sipush (-1000), 3) := by decide +kernel
theorem dX12_fit_30 : decode cX12_fit 30 = .ok (.ireturn, 1) := by decide +kernel
theorem dX12_fit_15 : decode cX12_fit 15 = .ok (.sipush (-1000), 3) := by decide +kernel
theorem dX12_fit_18 : decode cX12_fit 18 = .ok (.ireturn, 1) := by decide +kernel
theorem dX12_ask_0 : decode cX12_ask 0 = .ok (.aload_n 0, 1) := by decide +kernel
theorem dX12_ask_1 : decode cX12_ask 1 = .ok (.iconst 0, 1) := by decide +kernel
theorem dX12_ask_2 : decode cX12_ask 2 = .ok (.putfield 74, 3) := by decide +kernel
theorem dX12_ask_5 : decode cX12_ask 5 = .ok (.aload_n 0, 1) := by decide +kernel
theorem dX12_ask_6 : decode cX12_ask 6 = .ok (.iload_n 1, 1) := by decide +kernel
theorem dX12_ask_7 : decode cX12_ask 7 = .ok (.invokevirtual 392, 3) := by decide +kernel
theorem dX12_ask_10 : decode cX12_ask 10 = .ok (.istore_n 2, 1) := by decide +kernel
theorem dX12_ask_11 : decode cX12_ask 11 = .ok (.iload_n 2, 1) := by decide +kernel
theorem dX12_ask_12 : decode cX12_ask 12 = .ok (.ifCond .eq 5, 3) := by decide +kernel
theorem dX12_ask_15 : decode cX12_ask 15 = .ok (.iload_n 2, 1) := by decide +kernel
theorem dX12_ask_16 : decode cX12_ask 16 = .ok (.ireturn, 1) := by decide +kernel
theorem dX12_leaves_0 : decode cX12_leaves 0 = .ok (.aload_n 0, 1) := by decide +kernel
theorem dX12_leaves_1 : decode cX12_leaves 1 = .ok (.iconst 0, 1) := by decide +kernel
theorem dX12_leaves_2 : decode cX12_leaves 2 = .ok (.putfield 74, 3) := by decide +kernel
theorem dX12_leaves_5 : decode cX12_leaves 5 = .ok (.aload_n 0, 1) := by decide +kernel
theorem dX12_leaves_6 : decode cX12_leaves 6 = .ok (.iload_n 1, 1) := by decide +kernel
theorem dX12_leaves_7 : decode cX12_leaves 7 = .ok (.invokevirtual 392, 3) := by decide +kernel
theorem dX12_leaves_10 : decode cX12_leaves 10 = .ok (.istore_n 2, 1) := by decide +kernel
theorem dX12_leaves_11 : decode cX12_leaves 11 = .ok (.iload_n 2, 1) := by decide +kernel
theorem dX12_leaves_12 : decode cX12_leaves 12 = .ok (.ifCond .eq 5, 3) := by decide +kernel
theorem dX12_leaves_15 : decode cX12_leaves 15 = .ok (.iload_n 2, 1) := by decide +kernel
theorem dX12_leaves_16 : decode cX12_leaves 16 = .ok (.ireturn, 1) := by decide +kernel
theorem dX12_end_0 : decode cX12_end 0 = .ok (.aload_n 0, 1) := by decide +kernel
theorem dX12_end_1 : decode cX12_end 1 = .ok (.iconst 0, 1) := by decide +kernel
theorem dX12_end_2 : decode cX12_end 2 = .ok (.putfield 74, 3) := by decide +kernel
theorem dX12_end_5 : decode cX12_end 5 = .ok (.iload_n 1, 1) := by decide +kernel
theorem dX12_end_6 : decode cX12_end 6 = .ok (.i2l, 1) := by decide +kernel
theorem dX12_end_7 : decode cX12_end 7 = .ok (.lconst 0, 1) := by decide +kernel
theorem dX12_end_8 : decode cX12_end 8 = .ok (.aload_n 0, 1) := by decide +kernel
theorem dX12_end_9 : decode cX12_end 9 = .ok (.getfield 91, 3) := by decide +kernel
theorem dX12_end_12 : decode cX12_end 12 = .ok (.i2l, 1) := by decide +kernel
theorem dX12_end_13 : decode cX12_end 13 = .ok (.invokestatic 79, 3) := by decide +kernel
theorem dX12_end_16 : decode cX12_end 16 = .ok (.ifCond .ne 5, 3) := by decide +kernel
theorem dX12_end_21 : decode cX12_end 21 = .ok (.aload_n 0, 1) := by decide +kernel
theorem dX12_end_22 : decode cX12_end 22 = .ok (.iload_n 1, 1) := by decide +kernel
theorem dX12_end_23 : decode cX12_end 23 = .ok (.putfield 91, 3) := by decide +kernel
theorem dX12_end_26 : decode cX12_end 26 = .ok (.iload_n 1, 1) := by decide +kernel
theorem dX12_end_27 : decode cX12_end 27 = .ok (.ireturn, 1) := by decide +kernel
theorem dX12_end_19 : decode cX12_end 19 = .ok (.iconst (-1), 1) := by decide +kernel
theorem dX12_end_20 : decode cX12_end 20 = .ok (.ireturn, 1) := by decide +kernel
theorem dX12_fault_0 : decode cX12_fault 0 = .ok (.aload_n 0, 1) := by decide +kernel
theorem dX12_fault_1 : decode cX12_fault 1 = .ok (.iconst 0, 1) := by decide +kernel
theorem dX12_fault_2 : decode cX12_fault 2 = .ok (.putfield 74, 3) := by decide +kernel
theorem dX12_fault_5 : decode cX12_fault 5 = .ok (.iload_n 1, 1) := by decide +kernel
theorem dX12_fault_6 : decode cX12_fault 6 = .ok (.ifCond .ne 10, 3) := by decide +kernel
theorem dX12_fault_16 : decode cX12_fault 16 = .ok (.iload_n 1, 1) := by decide +kernel
theorem dX12_fault_17 : decode cX12_fault 17 = .ok (.iconst 1, 1) := by decide +kernel
theorem dX12_fault_18 : decode cX12_fault 18 = .ok (.if_icmp .ne 10, 3) := by decide +kernel
theorem dX12_fault_28 : decode cX12_fault 28 = .ok (.iconst (-1), 1) := by decide +kernel
theorem dX12_fault_29 : decode cX12_fault 29 = .ok (.ireturn, 1) := by decide +kernel
theorem dX12_fault_21 : decode cX12_fault 21 = .ok (.aload_n 0, 1) := by decide +kernel
theorem dX12_fault_22 : decode cX12_fault 22 = .ok (.getfield 27, 3) := by decide +kernel
theorem dX12_fault_25 : decode cX12_fault 25 = .ok (.goto 4, 3) := by decide +kernel
theorem dX12_fault_9 : decode cX12_fault 9 = .ok (.aload_n 0, 1) := by decide +kernel
theorem dX12_fault_10 : decode cX12_fault 10 = .ok (.getfield 153, 3) := by decide +kernel
theorem dX12_fault_13 : decode cX12_fault 13 = .ok (.goto 16, 3) := by decide +kernel
theorem dX12_back_0 : decode cX12_back 0 = .ok (.aload_n 0, 1) := by decide +kernel
theorem dX12_back_1 : decode cX12_back 1 = .ok (.iconst 0, 1) := by decide +kernel
theorem dX12_back_2 : decode cX12_back 2 = .ok (.putfield 74, 3) := by decide +kernel
theorem dX12_back_5 : decode cX12_back 5 = .ok (.iload_n 1, 1) := by decide +kernel
theorem dX12_back_6 : decode cX12_back 6 = .ok (.i2l, 1) := by decide +kernel
theorem dX12_back_7 : decode cX12_back 7 = .ok (.lconst 0, 1) := by decide +kernel
theorem dX12_back_8 : decode cX12_back 8 = .ok (.ldc2_w 271, 3) := by decide +kernel
theorem dX12_back_11 : decode cX12_back 11 = .ok (.invokestatic 79, 3) := by decide +kernel
theorem dX12_back_14 : decode cX12_back 14 = .ok (.ifCond .ne 6, 3) := by decide +kernel
theorem dX12_back_20 : decode cX12_back 20 = .ok (.aload_n 0, 1) := by decide +kernel
theorem dX12_back_21 : decode cX12_back 21 = .ok (.getfield 52, 3) := by decide +kernel
theorem dX12_back_24 : decode cX12_back 24 = .ok (.iload_n 1, 1) := by decide +kernel
theorem dX12_back_25 : decode cX12_back 25 = .ok (.baload, 1) := by decide +kernel
theorem dX12_back_26 : decode cX12_back 26 = .ok (.ifCond .ne 6, 3) := by decide +kernel
theorem dX12_back_29 : decode cX12_back 29 = .ok (.bipush (-6), 2) := by decide +kernel
theorem dX12_back_31 : decode cX12_back 31 = .ok (.ireturn, 1) := by decide +kernel
theorem dX12_back_17 : decode cX12_back 17 = .ok (.bipush (-2), 2) := by decide +kernel
theorem dX12_back_19 : decode cX12_back 19 = .ok (.ireturn, 1) := by decide +kernel
theorem dX12_write_0 : decode cX12_write 0 = .ok (.aload_n 0, 1) := by decide +kernel
theorem dX12_write_1 : decode cX12_write 1 = .ok (.iconst 0, 1) := by decide +kernel
theorem dX12_write_2 : decode cX12_write 2 = .ok (.putfield 74, 3) := by decide +kernel
theorem dX12_write_5 : decode cX12_write 5 = .ok (.iload_n 1, 1) := by decide +kernel
theorem dX12_write_6 : decode cX12_write 6 = .ok (.invokestatic 83, 3) := by decide +kernel
theorem dX12_write_9 : decode cX12_write 9 = .ok (.ifCond .ne 6, 3) := by decide +kernel
theorem dX12_write_15 : decode cX12_write 15 = .ok (.aload_n 0, 1) := by decide +kernel
theorem dX12_write_16 : decode cX12_write 16 = .ok (.getfield 7, 3) := by decide +kernel
theorem dX12_write_19 : decode cX12_write 19 = .ok (.iload_n 1, 1) := by decide +kernel
theorem dX12_write_20 : decode cX12_write 20 = .ok (.iaload, 1) := by decide +kernel
theorem dX12_write_21 : decode cX12_write 21 = .ok (.iconst (-1), 1) := by decide +kernel
theorem dX12_write_22 : decode cX12_write 22 = .ok (.if_icmp .ne 6, 3) := by decide +kernel
theorem dX12_write_25 : decode cX12_write 25 = .ok (.bipush (-6), 2) := by decide +kernel
theorem dX12_write_27 : decode cX12_write 27 = .ok (.ireturn, 1) := by decide +kernel
theorem dX12_write_12 : decode cX12_write 12 = .ok (.bipush (-2), 2) := by decide +kernel
theorem dX12_write_14 : decode cX12_write 14 = .ok (.ireturn, 1) := by decide +kernel
theorem dX12_paste_0 : decode cX12_paste 0 = .ok (.aload_n 0, 1) := by decide +kernel
theorem dX12_paste_1 : decode cX12_paste 1 = .ok (.iconst 0, 1) := by decide +kernel
theorem dX12_paste_2 : decode cX12_paste 2 = .ok (.putfield 74, 3) := by decide +kernel
theorem dX12_paste_5 : decode cX12_paste 5 = .ok (.iload_n 1, 1) := by decide +kernel
theorem dX12_paste_6 : decode cX12_paste 6 = .ok (.invokestatic 83, 3) := by decide +kernel
theorem dX12_paste_9 : decode cX12_paste 9 = .ok (.ifCond .eq 10, 3) := by decide +kernel
theorem dX12_paste_12 : decode cX12_paste 12 = .ok (.iload_n 3, 1) := by decide +kernel
theorem dX12_paste_13 : decode cX12_paste 13 = .ok (.invokestatic 83, 3) := by decide +kernel
theorem dX12_paste_16 : decode cX12_paste 16 = .ok (.ifCond .ne 6, 3) := by decide +kernel
theorem dX12_paste_22 : decode cX12_paste 22 = .ok (.aload_n 0, 1) := by decide +kernel
theorem dX12_paste_23 : decode cX12_paste 23 = .ok (.getfield 7, 3) := by decide +kernel
theorem dX12_paste_26 : decode cX12_paste 26 = .ok (.iload_n 1, 1) := by decide +kernel
theorem dX12_paste_27 : decode cX12_paste 27 = .ok (.iaload, 1) := by decide +kernel
theorem dX12_paste_28 : decode cX12_paste 28 = .ok (.iconst (-1), 1) := by decide +kernel
theorem dX12_paste_29 : decode cX12_paste 29 = .ok (.if_icmp .eq 13, 3) := by decide +kernel
theorem dX12_paste_42 : decode cX12_paste 42 = .ok (.bipush (-6), 2) := by decide +kernel
theorem dX12_paste_44 : decode cX12_paste 44 = .ok (.ireturn, 1) := by decide +kernel
theorem dX12_paste_19 : decode cX12_paste 19 = .ok (.bipush (-2), 2) := by decide +kernel
theorem dX12_paste_21 : decode cX12_paste 21 = .ok (.ireturn, 1) := by decide +kernel
theorem dX12_sizeOf_0 : decode cX12_sizeOf 0 = .ok (.iconst 0, 1) := by decide +kernel
theorem dX12_sizeOf_1 : decode cX12_sizeOf 1 = .ok (.istore_n 1, 1) := by decide +kernel
theorem dX12_sizeOf_2 : decode cX12_sizeOf 2 = .ok (.iload_n 0, 1) := by decide +kernel
theorem dX12_sizeOf_3 : decode cX12_sizeOf 3 = .ok (.istore_n 2, 1) := by decide +kernel
theorem dX12_sizeOf_4 : decode cX12_sizeOf 4 = .ok (.iload_n 2, 1) := by decide +kernel
theorem dX12_sizeOf_5 : decode cX12_sizeOf 5 = .ok (.ifCond .eq 15, 3) := by decide +kernel
theorem dX12_sizeOf_20 : decode cX12_sizeOf 20 = .ok (.iload_n 1, 1) := by decide +kernel
theorem dX12_sizeOf_21 : decode cX12_sizeOf 21 = .ok (.ireturn, 1) := by decide +kernel
theorem dX12_count_0 : decode cX12_count 0 = .ok (.aload_n 0, 1) := by decide +kernel
theorem dX12_count_1 : decode cX12_count 1 = .ok (.iconst 0, 1) := by decide +kernel
theorem dX12_count_2 : decode cX12_count 2 = .ok (.putfield 74, 3) := by decide +kernel
theorem dX12_count_5 : decode cX12_count 5 = .ok (.iconst 0, 1) := by decide +kernel
theorem dX12_count_6 : decode cX12_count 6 = .ok (.istore_n 2, 1) := by decide +kernel
theorem dX12_count_7 : decode cX12_count 7 = .ok (.iload_n 1, 1) := by decide +kernel
theorem dX12_count_8 : decode cX12_count 8 = .ok (.tableswitch 103 5 12 #[48, 103, 103, 103, 103, 58, 65, 70], 48) := by decide +kernel
theorem dX12_count_111 : decode cX12_count 111 = .ok (.iload_n 1, 1) := by decide +kernel
theorem dX12_count_112 : decode cX12_count 112 = .ok (.i2l, 1) := by decide +kernel
theorem dX12_count_113 : decode cX12_count 113 = .ok (.lconst 0, 1) := by decide +kernel
theorem dX12_count_114 : decode cX12_count 114 = .ok (.ldc2_w 441, 3) := by decide +kernel
theorem dX12_count_117 : decode cX12_count 117 = .ok (.invokestatic 79, 3) := by decide +kernel
theorem dX12_count_120 : decode cX12_count 120 = .ok (.ifCond .eq 12, 3) := by decide +kernel
theorem dX12_count_123 : decode cX12_count 123 = .ok (.aload_n 0, 1) := by decide +kernel
theorem dX12_count_124 : decode cX12_count 124 = .ok (.getfield 34, 3) := by decide +kernel
theorem dX12_count_127 : decode cX12_count 127 = .ok (.iload_n 1, 1) := by decide +kernel
theorem dX12_count_128 : decode cX12_count 128 = .ok (.iaload, 1) := by decide +kernel
theorem dX12_count_129 : decode cX12_count 129 = .ok (.goto 4, 3) := by decide +kernel
theorem dX12_count_133 : decode cX12_count 133 = .ok (.ireturn, 1) := by decide +kernel
theorem dX12_count_132 : decode cX12_count 132 = .ok (.iconst (-1), 1) := by decide +kernel
theorem dX12_count_56 : decode cX12_count 56 = .ok (.aload_n 0, 1) := by decide +kernel
theorem dX12_count_57 : decode cX12_count 57 = .ok (.getfield 34, 3) := by decide +kernel
theorem dX12_count_60 : decode cX12_count 60 = .ok (.iconst 5, 1) := by decide +kernel
theorem dX12_count_61 : decode cX12_count 61 = .ok (.iaload, 1) := by decide +kernel
theorem dX12_count_62 : decode cX12_count 62 = .ok (.invokestatic 342, 3) := by decide +kernel
theorem dX12_count_65 : decode cX12_count 65 = .ok (.ireturn, 1) := by decide +kernel
theorem dX12_count_66 : decode cX12_count 66 = .ok (.aload_n 0, 1) := by decide +kernel
theorem dX12_count_67 : decode cX12_count 67 = .ok (.getfield 31, 3) := by decide +kernel
theorem dX12_count_70 : decode cX12_count 70 = .ok (.iconst 0, 1) := by decide +kernel
theorem dX12_count_71 : decode cX12_count 71 = .ok (.iaload, 1) := by decide +kernel
theorem dX12_count_72 : decode cX12_count 72 = .ok (.ireturn, 1) := by decide +kernel
theorem dX12_count_73 : decode cX12_count 73 = .ok (.aload_n 0, 1) := by decide +kernel
theorem dX12_count_74 : decode cX12_count 74 = .ok (.getfield 91, 3) := by decide +kernel
theorem dX12_count_77 : decode cX12_count 77 = .ok (.ireturn, 1) := by decide +kernel
theorem dX12_count_78 : decode cX12_count 78 = .ok (.iconst 0, 1) := by decide +kernel
theorem dX12_count_79 : decode cX12_count 79 = .ok (.istore_n 3, 1) := by decide +kernel
theorem dX12_count_80 : decode cX12_count 80 = .ok (.iload_n 3, 1) := by decide +kernel
theorem dX12_count_81 : decode cX12_count 81 = .ok (.iconst 4, 1) := by decide +kernel
theorem dX12_count_82 : decode cX12_count 82 = .ok (.if_icmp .ge 27, 3) := by decide +kernel
theorem dX12_count_85 : decode cX12_count 85 = .ok (.iload_n 2, 1) := by decide +kernel
theorem dX12_count_86 : decode cX12_count 86 = .ok (.aload_n 0, 1) := by decide +kernel
theorem dX12_count_87 : decode cX12_count 87 = .ok (.getfield 7, 3) := by decide +kernel
theorem dX12_count_90 : decode cX12_count 90 = .ok (.iload_n 3, 1) := by decide +kernel
theorem dX12_count_91 : decode cX12_count 91 = .ok (.iaload, 1) := by decide +kernel
theorem dX12_count_92 : decode cX12_count 92 = .ok (.iconst (-1), 1) := by decide +kernel
theorem dX12_count_93 : decode cX12_count 93 = .ok (.if_icmp .ne 7, 3) := by decide +kernel
theorem dX12_count_96 : decode cX12_count 96 = .ok (.iconst 0, 1) := by decide +kernel
theorem dX12_count_97 : decode cX12_count 97 = .ok (.goto 4, 3) := by decide +kernel
theorem dX12_count_101 : decode cX12_count 101 = .ok (.iadd, 1) := by decide +kernel
theorem dX12_count_102 : decode cX12_count 102 = .ok (.istore_n 2, 1) := by decide +kernel
theorem dX12_count_103 : decode cX12_count 103 = .ok (.iinc 3 1, 3) := by decide +kernel
theorem dX12_count_106 : decode cX12_count 106 = .ok (.goto (-26), 3) := by decide +kernel
theorem dX12_count_109 : decode cX12_count 109 = .ok (.iload_n 2, 1) := by decide +kernel
theorem dX12_count_110 : decode cX12_count 110 = .ok (.ireturn, 1) := by decide +kernel
theorem dX12_four_0 : decode cX12_four 0 = .ok (.bipush 24, 2) := by decide +kernel
theorem dX12_four_2 : decode cX12_four 2 = .ok (.istore_n 2, 1) := by decide +kernel
theorem dX12_four_3 : decode cX12_four 3 = .ok (.iload_n 2, 1) := by decide +kernel
theorem dX12_four_4 : decode cX12_four 4 = .ok (.ifCond .lt 32, 3) := by decide +kernel
theorem dX12_four_7 : decode cX12_four 7 = .ok (.aload_n 0, 1) := by decide +kernel
theorem dX12_four_8 : decode cX12_four 8 = .ok (.getfield 23, 3) := by decide +kernel
theorem dX12_four_11 : decode cX12_four 11 = .ok (.aload_n 0, 1) := by decide +kernel
theorem dX12_four_12 : decode cX12_four 12 = .ok (.getfield 91, 3) := by decide +kernel
theorem dX12_four_15 : decode cX12_four 15 = .ok (.iload_n 1, 1) := by decide +kernel
theorem dX12_four_16 : decode cX12_four 16 = .ok (.iload_n 2, 1) := by decide +kernel
theorem dX12_four_17 : decode cX12_four 17 = .ok (.ishr, 1) := by decide +kernel
theorem dX12_four_18 : decode cX12_four 18 = .ok (.i2b, 1) := by decide +kernel
theorem dX12_four_19 : decode cX12_four 19 = .ok (.bastore, 1) := by decide +kernel
theorem dX12_four_20 : decode cX12_four 20 = .ok (.aload_n 0, 1) := by decide +kernel
theorem dX12_four_21 : decode cX12_four 21 = .ok (.dup, 1) := by decide +kernel
theorem dX12_four_22 : decode cX12_four 22 = .ok (.getfield 91, 3) := by decide +kernel
theorem dX12_four_25 : decode cX12_four 25 = .ok (.iconst 1, 1) := by decide +kernel
theorem dX12_four_26 : decode cX12_four 26 = .ok (.iadd, 1) := by decide +kernel
theorem dX12_four_27 : decode cX12_four 27 = .ok (.putfield 91, 3) := by decide +kernel
theorem dX12_four_30 : decode cX12_four 30 = .ok (.iinc 2 (-8), 3) := by decide +kernel
theorem dX12_four_33 : decode cX12_four 33 = .ok (.goto (-30), 3) := by decide +kernel
theorem dX12_four_36 : decode cX12_four 36 = .ok (.return_, 1) := by decide +kernel
theorem dX12_feed_0 : decode cX12_feed 0 = .ok (.aload_n 0, 1) := by decide +kernel
theorem dX12_feed_1 : decode cX12_feed 1 = .ok (.iconst 0, 1) := by decide +kernel
theorem dX12_feed_2 : decode cX12_feed 2 = .ok (.putfield 74, 3) := by decide +kernel
theorem dX12_feed_5 : decode cX12_feed 5 = .ok (.aload_n 0, 1) := by decide +kernel
theorem dX12_feed_6 : decode cX12_feed 6 = .ok (.getfield 91, 3) := by decide +kernel
theorem dX12_feed_9 : decode cX12_feed 9 = .ok (.bipush 20, 2) := by decide +kernel
theorem dX12_feed_11 : decode cX12_feed 11 = .ok (.iadd, 1) := by decide +kernel
theorem dX12_feed_12 : decode cX12_feed 12 = .ok (.sipush 1200, 3) := by decide +kernel
theorem dX12_feed_15 : decode cX12_feed 15 = .ok (.if_icmp .le 5, 3) := by decide +kernel
theorem dX12_feed_20 : decode cX12_feed 20 = .ok (.aload_n 0, 1) := by decide +kernel
theorem dX12_feed_21 : decode cX12_feed 21 = .ok (.iload_n 1, 1) := by decide +kernel
theorem dX12_feed_22 : decode cX12_feed 22 = .ok (.invokevirtual 94, 3) := by decide +kernel
theorem dX12_feed_25 : decode cX12_feed 25 = .ok (.aload_n 0, 1) := by decide +kernel
theorem dX12_feed_26 : decode cX12_feed 26 = .ok (.iload_n 2, 1) := by decide +kernel
theorem dX12_feed_27 : decode cX12_feed 27 = .ok (.invokevirtual 94, 3) := by decide +kernel
theorem dX12_feed_30 : decode cX12_feed 30 = .ok (.aload_n 0, 1) := by decide +kernel
theorem dX12_feed_31 : decode cX12_feed 31 = .ok (.iload_n 3, 1) := by decide +kernel
theorem dX12_feed_32 : decode cX12_feed 32 = .ok (.invokevirtual 94, 3) := by decide +kernel
theorem dX12_feed_35 : decode cX12_feed 35 = .ok (.aload_n 0, 1) := by decide +kernel
theorem dX12_feed_36 : decode cX12_feed 36 = .ok (.iload 4, 2) := by decide +kernel
theorem dX12_feed_38 : decode cX12_feed 38 = .ok (.invokevirtual 94, 3) := by decide +kernel
theorem dX12_feed_41 : decode cX12_feed 41 = .ok (.aload_n 0, 1) := by decide +kernel
theorem dX12_feed_42 : decode cX12_feed 42 = .ok (.iload 5, 2) := by decide +kernel
theorem dX12_feed_44 : decode cX12_feed 44 = .ok (.invokevirtual 94, 3) := by decide +kernel
theorem dX12_feed_47 : decode cX12_feed 47 = .ok (.aload_n 0, 1) := by decide +kernel
theorem dX12_feed_48 : decode cX12_feed 48 = .ok (.getfield 91, 3) := by decide +kernel
theorem dX12_feed_51 : decode cX12_feed 51 = .ok (.ireturn, 1) := by decide +kernel
theorem dX12_row_0 : decode cX12_row 0 = .ok (.aload_n 0, 1) := by decide +kernel
theorem dX12_row_1 : decode cX12_row 1 = .ok (.iconst 0, 1) := by decide +kernel
theorem dX12_row_2 : decode cX12_row 2 = .ok (.putfield 74, 3) := by decide +kernel
theorem dX12_row_5 : decode cX12_row 5 = .ok (.iload_n 1, 1) := by decide +kernel
theorem dX12_row_6 : decode cX12_row 6 = .ok (.invokestatic 83, 3) := by decide +kernel
theorem dX12_row_9 : decode cX12_row 9 = .ok (.ifCond .eq 21, 3) := by decide +kernel
theorem dX12_row_12 : decode cX12_row 12 = .ok (.iload_n 2, 1) := by decide +kernel
theorem dX12_row_13 : decode cX12_row 13 = .ok (.i2l, 1) := by decide +kernel
theorem dX12_row_14 : decode cX12_row 14 = .ok (.lconst 0, 1) := by decide +kernel
theorem dX12_row_15 : decode cX12_row 15 = .ok (.ldc2_w 77, 3) := by decide +kernel
theorem dX12_row_18 : decode cX12_row 18 = .ok (.invokestatic 79, 3) := by decide +kernel
theorem dX12_row_21 : decode cX12_row 21 = .ok (.ifCond .eq 9, 3) := by decide +kernel
theorem dX12_row_24 : decode cX12_row 24 = .ok (.iload_n 3, 1) := by decide +kernel
theorem dX12_row_25 : decode cX12_row 25 = .ok (.bipush 60, 2) := by decide +kernel
theorem dX12_row_27 : decode cX12_row 27 = .ok (.if_icmp .le 6, 3) := by decide +kernel
theorem dX12_row_33 : decode cX12_row 33 = .ok (.iload_n 3, 1) := by decide +kernel
theorem dX12_row_34 : decode cX12_row 34 = .ok (.ifCond .ge 6, 3) := by decide +kernel
theorem dX12_row_40 : decode cX12_row 40 = .ok (.aload_n 0, 1) := by decide +kernel
theorem dX12_row_41 : decode cX12_row 41 = .ok (.getfield 7, 3) := by decide +kernel
theorem dX12_row_44 : decode cX12_row 44 = .ok (.iload_n 1, 1) := by decide +kernel
theorem dX12_row_45 : decode cX12_row 45 = .ok (.iload_n 2, 1) := by decide +kernel
theorem dX12_row_46 : decode cX12_row 46 = .ok (.iastore, 1) := by decide +kernel
theorem dX12_row_47 : decode cX12_row 47 = .ok (.aload_n 0, 1) := by decide +kernel
theorem dX12_row_48 : decode cX12_row 48 = .ok (.getfield 13, 3) := by decide +kernel
theorem dX12_row_51 : decode cX12_row 51 = .ok (.iload_n 1, 1) := by decide +kernel
theorem dX12_row_52 : decode cX12_row 52 = .ok (.iload_n 3, 1) := by decide +kernel
theorem dX12_row_53 : decode cX12_row 53 = .ok (.iastore, 1) := by decide +kernel
theorem dX12_row_54 : decode cX12_row 54 = .ok (.iconst 0, 1) := by decide +kernel
theorem dX12_row_55 : decode cX12_row 55 = .ok (.istore 4, 2) := by decide +kernel
theorem dX12_row_57 : decode cX12_row 57 = .ok (.iload 4, 2) := by decide +kernel
theorem dX12_row_59 : decode cX12_row 59 = .ok (.iload_n 3, 1) := by decide +kernel
theorem dX12_row_60 : decode cX12_row 60 = .ok (.if_icmp .ge 22, 3) := by decide +kernel
theorem dX12_row_82 : decode cX12_row 82 = .ok (.iconst 0, 1) := by decide +kernel
theorem dX12_row_83 : decode cX12_row 83 = .ok (.ireturn, 1) := by decide +kernel
theorem dX12_row_63 : decode cX12_row 63 = .ok (.aload_n 0, 1) := by decide +kernel
theorem dX12_row_64 : decode cX12_row 64 = .ok (.getfield 16, 3) := by decide +kernel
theorem dX12_row_67 : decode cX12_row 67 = .ok (.bipush 60, 2) := by decide +kernel
theorem dX12_row_69 : decode cX12_row 69 = .ok (.iload_n 1, 1) := by decide +kernel
theorem dX12_row_70 : decode cX12_row 70 = .ok (.imul, 1) := by decide +kernel
theorem dX12_row_71 : decode cX12_row 71 = .ok (.iload 4, 2) := by decide +kernel
theorem dX12_row_73 : decode cX12_row 73 = .ok (.iadd, 1) := by decide +kernel
theorem dX12_row_74 : decode cX12_row 74 = .ok (.lconst 0, 1) := by decide +kernel
theorem dX12_row_75 : decode cX12_row 75 = .ok (.lastore, 1) := by decide +kernel
theorem dX12_row_76 : decode cX12_row 76 = .ok (.iinc 4 1, 3) := by decide +kernel
theorem dX12_row_79 : decode cX12_row 79 = .ok (.goto (-22), 3) := by decide +kernel
theorem dX12_row_37 : decode cX12_row 37 = .ok (.bipush (-3), 2) := by decide +kernel
theorem dX12_row_39 : decode cX12_row 39 = .ok (.ireturn, 1) := by decide +kernel
theorem dX12_row_30 : decode cX12_row 30 = .ok (.bipush (-2), 2) := by decide +kernel
theorem dX12_row_32 : decode cX12_row 32 = .ok (.ireturn, 1) := by decide +kernel
theorem dX12_copyShore_0 : decode cX12_copyShore 0 = .ok (.aload_n 0, 1) := by decide +kernel
theorem dX12_copyShore_1 : decode cX12_copyShore 1 = .ok (.getfield 31, 3) := by decide +kernel
theorem dX12_copyShore_4 : decode cX12_copyShore 4 = .ok (.iconst 1, 1) := by decide +kernel
theorem dX12_copyShore_5 : decode cX12_copyShore 5 = .ok (.iload_n 1, 1) := by decide +kernel
theorem dX12_copyShore_6 : decode cX12_copyShore 6 = .ok (.iload_n 2, 1) := by decide +kernel
theorem dX12_copyShore_7 : decode cX12_copyShore 7 = .ok (.invokestatic 246, 3) := by decide +kernel
theorem dX12_copyShore_10 : decode cX12_copyShore 10 = .ok (.aload_n 0, 1) := by decide +kernel
theorem dX12_copyShore_11 : decode cX12_copyShore 11 = .ok (.getfield 34, 3) := by decide +kernel
theorem dX12_copyShore_14 : decode cX12_copyShore 14 = .ok (.bipush 10, 2) := by decide +kernel
theorem dX12_copyShore_16 : decode cX12_copyShore 16 = .ok (.iload_n 1, 1) := by decide +kernel
theorem dX12_copyShore_17 : decode cX12_copyShore 17 = .ok (.iload_n 2, 1) := by decide +kernel
theorem dX12_copyShore_18 : decode cX12_copyShore 18 = .ok (.invokestatic 246, 3) := by decide +kernel
theorem dX12_copyShore_21 : decode cX12_copyShore 21 = .ok (.aload_n 0, 1) := by decide +kernel
theorem dX12_copyShore_22 : decode cX12_copyShore 22 = .ok (.getfield 37, 3) := by decide +kernel
theorem dX12_copyShore_25 : decode cX12_copyShore 25 = .ok (.bipush 24, 2) := by decide +kernel
theorem dX12_copyShore_27 : decode cX12_copyShore 27 = .ok (.iload_n 1, 1) := by decide +kernel
theorem dX12_copyShore_28 : decode cX12_copyShore 28 = .ok (.iload_n 2, 1) := by decide +kernel
theorem dX12_copyShore_29 : decode cX12_copyShore 29 = .ok (.invokestatic 246, 3) := by decide +kernel
theorem dX12_copyShore_32 : decode cX12_copyShore 32 = .ok (.aload_n 0, 1) := by decide +kernel
theorem dX12_copyShore_33 : decode cX12_copyShore 33 = .ok (.getfield 40, 3) := by decide +kernel
theorem dX12_copyShore_36 : decode cX12_copyShore 36 = .ok (.bipush 24, 2) := by decide +kernel
theorem dX12_copyShore_38 : decode cX12_copyShore 38 = .ok (.iload_n 1, 1) := by decide +kernel
theorem dX12_copyShore_39 : decode cX12_copyShore 39 = .ok (.iload_n 2, 1) := by decide +kernel
theorem dX12_copyShore_40 : decode cX12_copyShore 40 = .ok (.invokestatic 246, 3) := by decide +kernel
theorem dX12_copyShore_43 : decode cX12_copyShore 43 = .ok (.aload_n 0, 1) := by decide +kernel
theorem dX12_copyShore_44 : decode cX12_copyShore 44 = .ok (.getfield 43, 3) := by decide +kernel
theorem dX12_copyShore_47 : decode cX12_copyShore 47 = .ok (.bipush 24, 2) := by decide +kernel
theorem dX12_copyShore_49 : decode cX12_copyShore 49 = .ok (.iload_n 1, 1) := by decide +kernel
theorem dX12_copyShore_50 : decode cX12_copyShore 50 = .ok (.iload_n 2, 1) := by decide +kernel
theorem dX12_copyShore_51 : decode cX12_copyShore 51 = .ok (.invokestatic 246, 3) := by decide +kernel
theorem dX12_copyShore_54 : decode cX12_copyShore 54 = .ok (.aload_n 0, 1) := by decide +kernel
theorem dX12_copyShore_55 : decode cX12_copyShore 55 = .ok (.getfield 46, 3) := by decide +kernel
theorem dX12_copyShore_58 : decode cX12_copyShore 58 = .ok (.iconst 3, 1) := by decide +kernel
theorem dX12_copyShore_59 : decode cX12_copyShore 59 = .ok (.iload_n 1, 1) := by decide +kernel
theorem dX12_copyShore_60 : decode cX12_copyShore 60 = .ok (.iload_n 2, 1) := by decide +kernel
theorem dX12_copyShore_61 : decode cX12_copyShore 61 = .ok (.invokestatic 246, 3) := by decide +kernel
theorem dX12_copyShore_64 : decode cX12_copyShore 64 = .ok (.aload_n 0, 1) := by decide +kernel
theorem dX12_copyShore_65 : decode cX12_copyShore 65 = .ok (.getfield 49, 3) := by decide +kernel
theorem dX12_copyShore_68 : decode cX12_copyShore 68 = .ok (.sipush 160, 3) := by decide +kernel
theorem dX12_copyShore_71 : decode cX12_copyShore 71 = .ok (.iload_n 1, 1) := by decide +kernel
theorem dX12_copyShore_72 : decode cX12_copyShore 72 = .ok (.iload_n 2, 1) := by decide +kernel
theorem dX12_copyShore_73 : decode cX12_copyShore 73 = .ok (.invokestatic 246, 3) := by decide +kernel
theorem dX12_copyShore_76 : decode cX12_copyShore 76 = .ok (.return_, 1) := by decide +kernel
theorem q1590 : Cond.constantLong "EbbWreckModel" 77 3 ∈ lw_g := mg (List.mem_of_getElem? (i := 1590) (by decide +kernel)) rfl
theorem q1589 : Cond.code ⟨"EbbWreckModel", "isSlot", "(I)Z"⟩ prog_14_method_4_code 1 (some .boolean) ∈ lw_g := mg (List.mem_of_getElem? (i := 1589) (by decide +kernel)) rfl
theorem q1588 : Cond.static ⟨"EbbWreckModel", "isSlot", "(I)Z"⟩ ∈ lw_g := mg (List.mem_of_getElem? (i := 1588) (by decide +kernel)) rfl
theorem q1587 : Cond.methodLink "EbbWreckModel" 83 ⟨"EbbWreckModel", "isSlot", "(I)Z"⟩ ∈ lw_g := mg (List.mem_of_getElem? (i := 1587) (by decide +kernel)) rfl
theorem q2022 : Cond.code ⟨"EbbWreckModel", "whyNot", "(I)I"⟩ prog_14_method_104_code 4 (some .int) ∈ lw_g := mg (List.mem_of_getElem? (i := 2022) (by decide +kernel)) rfl
theorem q2021 : Cond.instanceMethod ⟨"EbbWreckModel", "whyNot", "(I)I"⟩ ∈ lw_g := mg (List.mem_of_getElem? (i := 2021) (by decide +kernel)) rfl
theorem q101 : Cond.selects "EbbWreckModel" ⟨"EbbWreckModel", "whyNot", "(I)I"⟩ ⟨"EbbWreckModel", "whyNot", "(I)I"⟩ ∈ lw_g := mg (List.mem_of_getElem? (i := 101) (by decide +kernel)) rfl
theorem q2019 : Cond.methodLink "EbbWreckModel" 392 ⟨"EbbWreckModel", "whyNot", "(I)I"⟩ ∈ lw_g := mg (List.mem_of_getElem? (i := 2019) (by decide +kernel)) rfl
theorem q1474 : Cond.fieldLink "EbbWreckModel" 91 "EbbWreckModel" "taped" "I" ∈ lw_g := mg (List.mem_of_getElem? (i := 1474) (by decide +kernel)) rfl
theorem q1483 : Cond.fieldLink "EbbWreckModel" 27 "EbbWreckModel" "faultPlace" "I" ∈ lw_g := mg (List.mem_of_getElem? (i := 1483) (by decide +kernel)) rfl
theorem q1482 : Cond.fieldLink "EbbWreckModel" 153 "EbbWreckModel" "fault" "I" ∈ lw_g := mg (List.mem_of_getElem? (i := 1482) (by decide +kernel)) rfl
theorem q1754 : Cond.constantLong "EbbWreckModel" 271 2 ∈ lw_g := mg (List.mem_of_getElem? (i := 1754) (by decide +kernel)) rfl
theorem q1491 : Cond.fieldLink "EbbWreckModel" 52 "EbbWreckModel" "isKept" "[Z" ∈ lw_g := mg (List.mem_of_getElem? (i := 1491) (by decide +kernel)) rfl
theorem q1469 : Cond.fieldLink "EbbWreckModel" 7 "EbbWreckModel" "width" "[I" ∈ lw_g := mg (List.mem_of_getElem? (i := 1469) (by decide +kernel)) rfl
theorem q2149 : Cond.constantLong "EbbWreckModel" 441 9 ∈ lw_g := mg (List.mem_of_getElem? (i := 2149) (by decide +kernel)) rfl
theorem q1897 : Cond.code ⟨"EbbWreckModel", "sizeOf", "(I)I"⟩ prog_14_method_46_code 3 (some .int) ∈ lw_g := mg (List.mem_of_getElem? (i := 1897) (by decide +kernel)) rfl
theorem q1896 : Cond.static ⟨"EbbWreckModel", "sizeOf", "(I)I"⟩ ∈ lw_g := mg (List.mem_of_getElem? (i := 1896) (by decide +kernel)) rfl
theorem q1895 : Cond.methodLink "EbbWreckModel" 342 ⟨"EbbWreckModel", "sizeOf", "(I)I"⟩ ∈ lw_g := mg (List.mem_of_getElem? (i := 1895) (by decide +kernel)) rfl
theorem q1473 : Cond.fieldLink "EbbWreckModel" 23 "EbbWreckModel" "tape" "[B" ∈ lw_g := mg (List.mem_of_getElem? (i := 1473) (by decide +kernel)) rfl
theorem q1612 : Cond.code ⟨"EbbWreckModel", "four", "(I)V"⟩ prog_14_method_10_code 3 none ∈ lw_g := mg (List.mem_of_getElem? (i := 1612) (by decide +kernel)) rfl
theorem q1611 : Cond.instanceMethod ⟨"EbbWreckModel", "four", "(I)V"⟩ ∈ lw_g := mg (List.mem_of_getElem? (i := 1611) (by decide +kernel)) rfl
theorem q47 : Cond.selects "EbbWreckModel" ⟨"EbbWreckModel", "four", "(I)V"⟩ ⟨"EbbWreckModel", "four", "(I)V"⟩ ∈ lw_g := mg (List.mem_of_getElem? (i := 47) (by decide +kernel)) rfl
theorem q1609 : Cond.methodLink "EbbWreckModel" 94 ⟨"EbbWreckModel", "four", "(I)V"⟩ ∈ lw_g := mg (List.mem_of_getElem? (i := 1609) (by decide +kernel)) rfl
theorem q1470 : Cond.fieldLink "EbbWreckModel" 13 "EbbWreckModel" "many" "[I" ∈ lw_g := mg (List.mem_of_getElem? (i := 1470) (by decide +kernel)) rfl
theorem q1471 : Cond.fieldLink "EbbWreckModel" 16 "EbbWreckModel" "cells" "[J" ∈ lw_g := mg (List.mem_of_getElem? (i := 1471) (by decide +kernel)) rfl
theorem q1745 : Cond.code ⟨"EbbWreckModel", "copyRow", "([IIII)V"⟩ prog_14_method_37_code 5 none ∈ lw_g := mg (List.mem_of_getElem? (i := 1745) (by decide +kernel)) rfl
theorem q1744 : Cond.static ⟨"EbbWreckModel", "copyRow", "([IIII)V"⟩ ∈ lw_g := mg (List.mem_of_getElem? (i := 1744) (by decide +kernel)) rfl
theorem q1743 : Cond.methodLink "EbbWreckModel" 246 ⟨"EbbWreckModel", "copyRow", "([IIII)V"⟩ ∈ lw_g := mg (List.mem_of_getElem? (i := 1743) (by decide +kernel)) rfl
theorem q1486 : Cond.fieldLink "EbbWreckModel" 37 "EbbWreckModel" "current" "[I" ∈ lw_g := mg (List.mem_of_getElem? (i := 1486) (by decide +kernel)) rfl
theorem q1487 : Cond.fieldLink "EbbWreckModel" 40 "EbbWreckModel" "thing" "[I" ∈ lw_g := mg (List.mem_of_getElem? (i := 1487) (by decide +kernel)) rfl
theorem q1488 : Cond.fieldLink "EbbWreckModel" 43 "EbbWreckModel" "rule" "[I" ∈ lw_g := mg (List.mem_of_getElem? (i := 1488) (by decide +kernel)) rfl
theorem q1489 : Cond.fieldLink "EbbWreckModel" 46 "EbbWreckModel" "sitter" "[I" ∈ lw_g := mg (List.mem_of_getElem? (i := 1489) (by decide +kernel)) rfl
theorem q1490 : Cond.fieldLink "EbbWreckModel" 49 "EbbWreckModel" "act" "[I" ∈ lw_g := mg (List.mem_of_getElem? (i := 1490) (by decide +kernel)) rfl
theorem mX12_isSlot : CmS yX12_isSlot cX12_isSlot 1 (some .boolean) 1 := ⟨q1588, q127, q1589, ⟨by decide, by decide, by decide +kernel⟩⟩
theorem mX12_whyNot : CmV "EbbWreckModel" yX12_whyNot cX12_whyNot 4 (some .int) 1 := ⟨q2021, q101, q127, q2022, ⟨rfl, by decide, by decide, by decide +kernel⟩⟩
theorem mX12_sizeOf : CmS yX12_sizeOf cX12_sizeOf 3 (some .int) 1 := ⟨q1896, q127, q1897, ⟨by decide, by decide, by decide +kernel⟩⟩
theorem mX12_four : CmV "EbbWreckModel" yX12_four cX12_four 3 none 1 := ⟨q1611, q47, q127, q1612, ⟨rfl, by decide, by decide, by decide +kernel⟩⟩
theorem mX12_copyRow : CmS yX12_copyRow cX12_copyRow 5 none 4 := ⟨q1744, q127, q1745, ⟨by decide, by decide, by decide +kernel⟩⟩
