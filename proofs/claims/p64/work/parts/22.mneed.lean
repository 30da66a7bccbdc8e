theorem dX12_in_0 : decode cX12_in 0 = .ok (.lload_n 0, 1) := by decide +kernel
theorem dX12_in_1 : decode cX12_in 1 = .ok (.lload_n 2, 1) := by decide +kernel
theorem dX12_in_2 : decode cX12_in 2 = .ok (.lcmp, 1) := by decide +kernel
theorem dX12_in_3 : decode cX12_in 3 = .ok (.ifCond .lt 14, 3) := by decide +kernel
theorem dX12_in_17 : decode cX12_in 17 = .ok (.iconst 0, 1) := by decide +kernel
theorem dX12_in_18 : decode cX12_in 18 = .ok (.ireturn, 1) := by decide +kernel
theorem dX12_in_6 : decode cX12_in 6 = .ok (.lload_n 0, 1) := by decide +kernel
theorem dX12_in_7 : decode cX12_in 7 = .ok (.lload 4, 2) := by decide +kernel
theorem dX12_in_9 : decode cX12_in 9 = .ok (.lcmp, 1) := by decide +kernel
theorem dX12_in_10 : decode cX12_in 10 = .ok (.ifCond .gt 7, 3) := by decide +kernel
theorem dX12_in_13 : decode cX12_in 13 = .ok (.iconst 1, 1) := by decide +kernel
theorem dX12_in_14 : decode cX12_in 14 = .ok (.goto 4, 3) := by decide +kernel
theorem dX12_isSlot_0 : decode cX12_isSlot 0 = .ok (.iload_n 0, 1) := by decide +kernel
theorem dX12_isSlot_1 : decode cX12_isSlot 1 = .ok (.i2l, 1) := by decide +kernel
theorem dX12_isSlot_2 : decode cX12_isSlot 2 = .ok (.lconst 0, 1) := by decide +kernel
theorem dX12_isSlot_3 : decode cX12_isSlot 3 = .ok (.ldc2_w 77, 3) := by decide +kernel
theorem dX12_isSlot_6 : decode cX12_isSlot 6 = .ok (.invokestatic 79, 3) := by decide +kernel
theorem dX12_isSlot_9 : decode cX12_isSlot 9 = .ok (.ireturn, 1) := by decide +kernel
theorem dX12_cut_0 : decode cX12_cut 0 = .ok (.iload_n 2, 1) := by decide +kernel
theorem dX12_cut_1 : decode cX12_cut 1 = .ok (.ifCond .ne 10, 3) := by decide +kernel
theorem dX12_cut_11 : decode cX12_cut 11 = .ok (.iload_n 2, 1) := by decide +kernel
theorem dX12_cut_12 : decode cX12_cut 12 = .ok (.iconst 1, 1) := by decide +kernel
theorem dX12_cut_13 : decode cX12_cut 13 = .ok (.if_icmp .ne 10, 3) := by decide +kernel
theorem dX12_cut_23 : decode cX12_cut 23 = .ok (.iload_n 2, 1) := by decide +kernel
theorem dX12_cut_24 : decode cX12_cut 24 = .ok (.iconst 2, 1) := by decide +kernel
theorem dX12_cut_25 : decode cX12_cut 25 = .ok (.if_icmp .ne 9, 3) := by decide +kernel
theorem dX12_cut_34 : decode cX12_cut 34 = .ok (.lload_n 0, 1) := by decide +kernel
theorem dX12_cut_35 : decode cX12_cut 35 = .ok (.lreturn, 1) := by decide +kernel
theorem dX12_cut_28 : decode cX12_cut 28 = .ok (.lload_n 0, 1) := by decide +kernel
theorem dX12_cut_29 : decode cX12_cut 29 = .ok (.l2i, 1) := by decide +kernel
theorem dX12_cut_30 : decode cX12_cut 30 = .ok (.i2l, 1) := by decide +kernel
theorem dX12_cut_31 : decode cX12_cut 31 = .ok (.goto 4, 3) := by decide +kernel
theorem dX12_cut_16 : decode cX12_cut 16 = .ok (.lload_n 0, 1) := by decide +kernel
theorem dX12_cut_17 : decode cX12_cut 17 = .ok (.l2i, 1) := by decide +kernel
theorem dX12_cut_18 : decode cX12_cut 18 = .ok (.i2s, 1) := by decide +kernel
theorem dX12_cut_19 : decode cX12_cut 19 = .ok (.i2l, 1) := by decide +kernel
theorem dX12_cut_20 : decode cX12_cut 20 = .ok (.goto 15, 3) := by decide +kernel
theorem dX12_cut_4 : decode cX12_cut 4 = .ok (.lload_n 0, 1) := by decide +kernel
theorem dX12_cut_5 : decode cX12_cut 5 = .ok (.l2i, 1) := by decide +kernel
theorem dX12_cut_6 : decode cX12_cut 6 = .ok (.i2b, 1) := by decide +kernel
theorem dX12_cut_7 : decode cX12_cut 7 = .ok (.i2l, 1) := by decide +kernel
theorem dX12_cut_8 : decode cX12_cut 8 = .ok (.goto 27, 3) := by decide +kernel
theorem dX12_isBit_0 : decode cX12_isBit 0 = .ok (.iload_n 0, 1) := by decide +kernel
theorem dX12_isBit_1 : decode cX12_isBit 1 = .ok (.iload_n 1, 1) := by decide +kernel
theorem dX12_isBit_2 : decode cX12_isBit 2 = .ok (.ishr, 1) := by decide +kernel
theorem dX12_isBit_3 : decode cX12_isBit 3 = .ok (.iconst 1, 1) := by decide +kernel
theorem dX12_isBit_4 : decode cX12_isBit 4 = .ok (.iand, 1) := by decide +kernel
theorem dX12_isBit_5 : decode cX12_isBit 5 = .ok (.iconst 1, 1) := by decide +kernel
theorem dX12_isBit_6 : decode cX12_isBit 6 = .ok (.if_icmp .ne 7, 3) := by decide +kernel
theorem dX12_isBit_13 : decode cX12_isBit 13 = .ok (.iconst 0, 1) := by decide +kernel
theorem dX12_isBit_14 : decode cX12_isBit 14 = .ok (.ireturn, 1) := by decide +kernel
theorem dX12_isBit_9 : decode cX12_isBit 9 = .ok (.iconst 1, 1) := by decide +kernel
theorem dX12_isBit_10 : decode cX12_isBit 10 = .ok (.goto 4, 3) := by decide +kernel
theorem dX12_size_0 : decode cX12_size 0 = .ok (.iload_n 0, 1) := by decide +kernel
theorem dX12_size_1 : decode cX12_size 1 = .ok (.ifCond .ge 8, 3) := by decide +kernel
theorem dX12_size_9 : decode cX12_size 9 = .ok (.iload_n 0, 1) := by decide +kernel
theorem dX12_size_10 : decode cX12_size 10 = .ok (.ireturn, 1) := by decide +kernel
theorem dX12_size_4 : decode cX12_size 4 = .ok (.iload_n 0, 1) := by decide +kernel
theorem dX12_size_5 : decode cX12_size 5 = .ok (.ineg, 1) := by decide +kernel
theorem dX12_size_6 : decode cX12_size 6 = .ok (.goto 4, 3) := by decide +kernel
theorem dX12_isShore_0 : decode cX12_isShore 0 = .ok (.aload_n 0, 1) := by decide +kernel
theorem dX12_isShore_1 : decode cX12_isShore 1 = .ok (.getfield 31, 3) := by decide +kernel
theorem dX12_isShore_4 : decode cX12_isShore 4 = .ok (.iconst 0, 1) := by decide +kernel
theorem dX12_isShore_5 : decode cX12_isShore 5 = .ok (.iaload, 1) := by decide +kernel
theorem dX12_isShore_6 : decode cX12_isShore 6 = .ok (.ifCond .le 7, 3) := by decide +kernel
theorem dX12_isShore_13 : decode cX12_isShore 13 = .ok (.iconst 0, 1) := by decide +kernel
theorem dX12_isShore_14 : decode cX12_isShore 14 = .ok (.ireturn, 1) := by decide +kernel
theorem dX12_isShore_9 : decode cX12_isShore 9 = .ok (.iconst 1, 1) := by decide +kernel
theorem dX12_isShore_10 : decode cX12_isShore 10 = .ok (.goto 4, 3) := by decide +kernel
theorem dX12_isCell_0 : decode cX12_isCell 0 = .ok (.lload_n 1, 1) := by decide +kernel
theorem dX12_isCell_1 : decode cX12_isCell 1 = .ok (.lconst 0, 1) := by decide +kernel
theorem dX12_isCell_2 : decode cX12_isCell 2 = .ok (.aload_n 0, 1) := by decide +kernel
theorem dX12_isCell_3 : decode cX12_isCell 3 = .ok (.getfield 34, 3) := by decide +kernel
theorem dX12_isCell_6 : decode cX12_isCell 6 = .ok (.iconst 0, 1) := by decide +kernel
theorem dX12_isCell_7 : decode cX12_isCell 7 = .ok (.iaload, 1) := by decide +kernel
theorem dX12_isCell_8 : decode cX12_isCell 8 = .ok (.i2l, 1) := by decide +kernel
theorem dX12_isCell_9 : decode cX12_isCell 9 = .ok (.lconst 1, 1) := by decide +kernel
theorem dX12_isCell_10 : decode cX12_isCell 10 = .ok (.lsub, 1) := by decide +kernel
theorem dX12_isCell_11 : decode cX12_isCell 11 = .ok (.invokestatic 79, 3) := by decide +kernel
theorem dX12_isCell_14 : decode cX12_isCell 14 = .ok (.ireturn, 1) := by decide +kernel
theorem dX12_isThing_0 : decode cX12_isThing 0 = .ok (.iload_n 1, 1) := by decide +kernel
theorem dX12_isThing_1 : decode cX12_isThing 1 = .ok (.i2l, 1) := by decide +kernel
theorem dX12_isThing_2 : decode cX12_isThing 2 = .ok (.lconst 0, 1) := by decide +kernel
theorem dX12_isThing_3 : decode cX12_isThing 3 = .ok (.aload_n 0, 1) := by decide +kernel
theorem dX12_isThing_4 : decode cX12_isThing 4 = .ok (.getfield 34, 3) := by decide +kernel
theorem dX12_isThing_7 : decode cX12_isThing 7 = .ok (.bipush 6, 2) := by decide +kernel
theorem dX12_isThing_9 : decode cX12_isThing 9 = .ok (.iaload, 1) := by decide +kernel
theorem dX12_isThing_10 : decode cX12_isThing 10 = .ok (.iconst 1, 1) := by decide +kernel
theorem dX12_isThing_11 : decode cX12_isThing 11 = .ok (.isub, 1) := by decide +kernel
theorem dX12_isThing_12 : decode cX12_isThing 12 = .ok (.i2l, 1) := by decide +kernel
theorem dX12_isThing_13 : decode cX12_isThing 13 = .ok (.invokestatic 79, 3) := by decide +kernel
theorem dX12_isThing_16 : decode cX12_isThing 16 = .ok (.ireturn, 1) := by decide +kernel
theorem dX12_isRule_0 : decode cX12_isRule 0 = .ok (.iload_n 1, 1) := by decide +kernel
theorem dX12_isRule_1 : decode cX12_isRule 1 = .ok (.i2l, 1) := by decide +kernel
theorem dX12_isRule_2 : decode cX12_isRule 2 = .ok (.lconst 0, 1) := by decide +kernel
theorem dX12_isRule_3 : decode cX12_isRule 3 = .ok (.aload_n 0, 1) := by decide +kernel
theorem dX12_isRule_4 : decode cX12_isRule 4 = .ok (.getfield 34, 3) := by decide +kernel
theorem dX12_isRule_7 : decode cX12_isRule 7 = .ok (.bipush 7, 2) := by decide +kernel
theorem dX12_isRule_9 : decode cX12_isRule 9 = .ok (.iaload, 1) := by decide +kernel
theorem dX12_isRule_10 : decode cX12_isRule 10 = .ok (.iconst 1, 1) := by decide +kernel
theorem dX12_isRule_11 : decode cX12_isRule 11 = .ok (.isub, 1) := by decide +kernel
theorem dX12_isRule_12 : decode cX12_isRule 12 = .ok (.i2l, 1) := by decide +kernel
theorem dX12_isRule_13 : decode cX12_isRule 13 = .ok (.invokestatic 79, 3) := by decide +kernel
theorem dX12_isRule_16 : decode cX12_isRule 16 = .ok (.ireturn, 1) := by decide +kernel
theorem dX12_isSitter_0 : decode cX12_isSitter 0 = .ok (.iload_n 1, 1) := by decide +kernel
theorem dX12_isSitter_1 : decode cX12_isSitter 1 = .ok (.i2l, 1) := by decide +kernel
theorem dX12_isSitter_2 : decode cX12_isSitter 2 = .ok (.lconst 0, 1) := by decide +kernel
theorem dX12_isSitter_3 : decode cX12_isSitter 3 = .ok (.aload_n 0, 1) := by decide +kernel
theorem dX12_isSitter_4 : decode cX12_isSitter 4 = .ok (.getfield 34, 3) := by decide +kernel
theorem dX12_isSitter_7 : decode cX12_isSitter 7 = .ok (.bipush 8, 2) := by decide +kernel
theorem dX12_isSitter_9 : decode cX12_isSitter 9 = .ok (.iaload, 1) := by decide +kernel
theorem dX12_isSitter_10 : decode cX12_isSitter 10 = .ok (.iconst 1, 1) := by decide +kernel
theorem dX12_isSitter_11 : decode cX12_isSitter 11 = .ok (.isub, 1) := by decide +kernel
theorem dX12_isSitter_12 : decode cX12_isSitter 12 = .ok (.i2l, 1) := by decide +kernel
theorem dX12_isSitter_13 : decode cX12_isSitter 13 = .ok (.invokestatic 79, 3) := by decide +kernel
theorem dX12_isSitter_16 : decode cX12_isSitter 16 = .ok (.ireturn, 1) := by decide +kernel
theorem dX12_isParty_0 : decode cX12_isParty 0 = .ok (.aload_n 0, 1) := by decide +kernel
theorem dX12_isParty_1 : decode cX12_isParty 1 = .ok (.invokevirtual 250, 3) := by decide +kernel
theorem dX12_isParty_4 : decode cX12_isParty 4 = .ok (.ifCond .eq 19, 3) := by decide +kernel
theorem dX12_isParty_23 : decode cX12_isParty 23 = .ok (.iconst 0, 1) := by decide +kernel
theorem dX12_isParty_24 : decode cX12_isParty 24 = .ok (.ireturn, 1) := by decide +kernel
theorem dX12_isParty_7 : decode cX12_isParty 7 = .ok (.iload_n 1, 1) := by decide +kernel
theorem dX12_isParty_8 : decode cX12_isParty 8 = .ok (.i2l, 1) := by decide +kernel
theorem dX12_isParty_9 : decode cX12_isParty 9 = .ok (.lconst 0, 1) := by decide +kernel
theorem dX12_isParty_10 : decode cX12_isParty 10 = .ok (.ldc2_w 253, 3) := by decide +kernel
theorem dX12_isParty_13 : decode cX12_isParty 13 = .ok (.invokestatic 79, 3) := by decide +kernel
theorem dX12_isParty_16 : decode cX12_isParty 16 = .ok (.ifCond .eq 7, 3) := by decide +kernel
theorem dX12_isParty_19 : decode cX12_isParty 19 = .ok (.iconst 1, 1) := by decide +kernel
theorem dX12_isParty_20 : decode cX12_isParty 20 = .ok (.goto 4, 3) := by decide +kernel
theorem dX12_isBeach_0 : decode cX12_isBeach 0 = .ok (.aload_n 0, 1) := by decide +kernel
theorem dX12_isBeach_1 : decode cX12_isBeach 1 = .ok (.getfield 34, 3) := by decide +kernel
theorem dX12_isBeach_4 : decode cX12_isBeach 4 = .ok (.iconst 5, 1) := by decide +kernel
theorem dX12_isBeach_5 : decode cX12_isBeach 5 = .ok (.iaload, 1) := by decide +kernel
theorem dX12_isBeach_6 : decode cX12_isBeach 6 = .ok (.iload_n 1, 1) := by decide +kernel
theorem dX12_isBeach_7 : decode cX12_isBeach 7 = .ok (.invokestatic 255, 3) := by decide +kernel
theorem dX12_isBeach_10 : decode cX12_isBeach 10 = .ok (.ireturn, 1) := by decide +kernel
theorem dX12_worth_0 : decode cX12_worth 0 = .ok (.aload_n 0, 1) := by decide +kernel
theorem dX12_worth_1 : decode cX12_worth 1 = .ok (.getfield 40, 3) := by decide +kernel
theorem dX12_worth_4 : decode cX12_worth 4 = .ok (.iconst 3, 1) := by decide +kernel
theorem dX12_worth_5 : decode cX12_worth 5 = .ok (.iload_n 1, 1) := by decide +kernel
theorem dX12_worth_6 : decode cX12_worth 6 = .ok (.imul, 1) := by decide +kernel
theorem dX12_worth_7 : decode cX12_worth 7 = .ok (.iaload, 1) := by decide +kernel
theorem dX12_worth_8 : decode cX12_worth 8 = .ok (.ireturn, 1) := by decide +kernel
theorem dX12_round_0 : decode cX12_round 0 = .ok (.aload_n 0, 1) := by decide +kernel
theorem dX12_round_1 : decode cX12_round 1 = .ok (.getfield 34, 3) := by decide +kernel
theorem dX12_round_4 : decode cX12_round 4 = .ok (.iconst 1, 1) := by decide +kernel
theorem dX12_round_5 : decode cX12_round 5 = .ok (.iaload, 1) := by decide +kernel
theorem dX12_round_6 : decode cX12_round 6 = .ok (.iconst 2, 1) := by decide +kernel
theorem dX12_round_7 : decode cX12_round 7 = .ok (.aload_n 0, 1) := by decide +kernel
theorem dX12_round_8 : decode cX12_round 8 = .ok (.getfield 34, 3) := by decide +kernel
theorem dX12_round_11 : decode cX12_round 11 = .ok (.iconst 2, 1) := by decide +kernel
theorem dX12_round_12 : decode cX12_round 12 = .ok (.iaload, 1) := by decide +kernel
theorem dX12_round_13 : decode cX12_round 13 = .ok (.imul, 1) := by decide +kernel
theorem dX12_round_14 : decode cX12_round 14 = .ok (.iadd, 1) := by decide +kernel
theorem dX12_round_15 : decode cX12_round 15 = .ok (.aload_n 0, 1) := by decide +kernel
theorem dX12_round_16 : decode cX12_round 16 = .ok (.getfield 34, 3) := by decide +kernel
theorem dX12_round_19 : decode cX12_round 19 = .ok (.iconst 3, 1) := by decide +kernel
theorem dX12_round_20 : decode cX12_round 20 = .ok (.iaload, 1) := by decide +kernel
theorem dX12_round_21 : decode cX12_round 21 = .ok (.iadd, 1) := by decide +kernel
theorem dX12_round_22 : decode cX12_round 22 = .ok (.ireturn, 1) := by decide +kernel
theorem dX12_phaseOf_0 : decode cX12_phaseOf 0 = .ok (.iload_n 1, 1) := by decide +kernel
theorem dX12_phaseOf_1 : decode cX12_phaseOf 1 = .ok (.aload_n 0, 1) := by decide +kernel
theorem dX12_phaseOf_2 : decode cX12_phaseOf 2 = .ok (.invokevirtual 259, 3) := by decide +kernel
theorem dX12_phaseOf_5 : decode cX12_phaseOf 5 = .ok (.irem, 1) := by decide +kernel
theorem dX12_phaseOf_6 : decode cX12_phaseOf 6 = .ok (.istore_n 2, 1) := by decide +kernel
theorem dX12_phaseOf_7 : decode cX12_phaseOf 7 = .ok (.iload_n 2, 1) := by decide +kernel
theorem dX12_phaseOf_8 : decode cX12_phaseOf 8 = .ok (.ifCond .ge 10, 3) := by decide +kernel
theorem dX12_phaseOf_18 : decode cX12_phaseOf 18 = .ok (.iload_n 2, 1) := by decide +kernel
theorem dX12_phaseOf_19 : decode cX12_phaseOf 19 = .ok (.aload_n 0, 1) := by decide +kernel
theorem dX12_phaseOf_20 : decode cX12_phaseOf 20 = .ok (.getfield 34, 3) := by decide +kernel
theorem dX12_phaseOf_23 : decode cX12_phaseOf 23 = .ok (.iconst 1, 1) := by decide +kernel
theorem dX12_phaseOf_24 : decode cX12_phaseOf 24 = .ok (.iaload, 1) := by decide +kernel
theorem dX12_phaseOf_25 : decode cX12_phaseOf 25 = .ok (.if_icmp .ge 5, 3) := by decide +kernel
theorem dX12_phaseOf_30 : decode cX12_phaseOf 30 = .ok (.iload_n 2, 1) := by decide +kernel
theorem dX12_phaseOf_31 : decode cX12_phaseOf 31 = .ok (.aload_n 0, 1) := by decide +kernel
theorem dX12_phaseOf_32 : decode cX12_phaseOf 32 = .ok (.getfield 34, 3) := by decide +kernel
theorem dX12_phaseOf_35 : decode cX12_phaseOf 35 = .ok (.iconst 1, 1) := by decide +kernel
theorem dX12_phaseOf_36 : decode cX12_phaseOf 36 = .ok (.iaload, 1) := by decide +kernel
theorem dX12_phaseOf_37 : decode cX12_phaseOf 37 = .ok (.aload_n 0, 1) := by decide +kernel
theorem dX12_phaseOf_38 : decode cX12_phaseOf 38 = .ok (.getfield 34, 3) := by decide +kernel
theorem dX12_phaseOf_41 : decode cX12_phaseOf 41 = .ok (.iconst 2, 1) := by decide +kernel
theorem dX12_phaseOf_42 : decode cX12_phaseOf 42 = .ok (.iaload, 1) := by decide +kernel
theorem dX12_phaseOf_43 : decode cX12_phaseOf 43 = .ok (.iadd, 1) := by decide +kernel
theorem dX12_phaseOf_44 : decode cX12_phaseOf 44 = .ok (.if_icmp .ge 5, 3) := by decide +kernel
theorem dX12_phaseOf_49 : decode cX12_phaseOf 49 = .ok (.iload_n 2, 1) := by decide +kernel
theorem dX12_phaseOf_50 : decode cX12_phaseOf 50 = .ok (.aload_n 0, 1) := by decide +kernel
theorem dX12_phaseOf_51 : decode cX12_phaseOf 51 = .ok (.getfield 34, 3) := by decide +kernel
theorem dX12_phaseOf_54 : decode cX12_phaseOf 54 = .ok (.iconst 1, 1) := by decide +kernel
theorem dX12_phaseOf_55 : decode cX12_phaseOf 55 = .ok (.iaload, 1) := by decide +kernel
theorem dX12_phaseOf_56 : decode cX12_phaseOf 56 = .ok (.aload_n 0, 1) := by decide +kernel
theorem dX12_phaseOf_57 : decode cX12_phaseOf 57 = .ok (.getfield 34, 3) := by decide +kernel
theorem dX12_phaseOf_60 : decode cX12_phaseOf 60 = .ok (.iconst 2, 1) := by decide +kernel
theorem dX12_phaseOf_61 : decode cX12_phaseOf 61 = .ok (.iaload, 1) := by decide +kernel
theorem dX12_phaseOf_62 : decode cX12_phaseOf 62 = .ok (.iadd, 1) := by decide +kernel
theorem dX12_phaseOf_63 : decode cX12_phaseOf 63 = .ok (.aload_n 0, 1) := by decide +kernel
theorem dX12_phaseOf_64 : decode cX12_phaseOf 64 = .ok (.getfield 34, 3) := by decide +kernel
theorem dX12_phaseOf_67 : decode cX12_phaseOf 67 = .ok (.iconst 3, 1) := by decide +kernel
theorem dX12_phaseOf_68 : decode cX12_phaseOf 68 = .ok (.iaload, 1) := by decide +kernel
theorem dX12_phaseOf_69 : decode cX12_phaseOf 69 = .ok (.iadd, 1) := by decide +kernel
theorem dX12_phaseOf_70 : decode cX12_phaseOf 70 = .ok (.if_icmp .ge 7, 3) := by decide +kernel
theorem dX12_phaseOf_77 : decode cX12_phaseOf 77 = .ok (.iconst 1, 1) := by decide +kernel
theorem dX12_phaseOf_78 : decode cX12_phaseOf 78 = .ok (.ireturn, 1) := by decide +kernel
theorem dX12_phaseOf_73 : decode cX12_phaseOf 73 = .ok (.iconst 2, 1) := by decide +kernel
theorem dX12_phaseOf_74 : decode cX12_phaseOf 74 = .ok (.goto 4, 3) := by decide +kernel
theorem dX12_phaseOf_47 : decode cX12_phaseOf 47 = .ok (.iconst 1, 1) := by decide +kernel
theorem dX12_phaseOf_48 : decode cX12_phaseOf 48 = .ok (.ireturn, 1) := by decide +kernel
theorem dX12_phaseOf_28 : decode cX12_phaseOf 28 = .ok (.iconst 0, 1) := by decide +kernel
theorem dX12_phaseOf_29 : decode cX12_phaseOf 29 = .ok (.ireturn, 1) := by decide +kernel
theorem dX12_phaseOf_11 : decode cX12_phaseOf 11 = .ok (.iload_n 2, 1) := by decide +kernel
theorem dX12_phaseOf_12 : decode cX12_phaseOf 12 = .ok (.aload_n 0, 1) := by decide +kernel
theorem dX12_phaseOf_13 : decode cX12_phaseOf 13 = .ok (.invokevirtual 259, 3) := by decide +kernel
theorem dX12_phaseOf_16 : decode cX12_phaseOf 16 = .ok (.iadd, 1) := by decide +kernel
theorem dX12_phaseOf_17 : decode cX12_phaseOf 17 = .ok (.istore_n 2, 1) := by decide +kernel
theorem dX12_held_0 : decode cX12_held 0 = .ok (.iload_n 1, 1) := by decide +kernel
theorem dX12_held_1 : decode cX12_held 1 = .ok (.ifCond .ge 7, 3) := by decide +kernel
theorem dX12_held_8 : decode cX12_held 8 = .ok (.iload_n 1, 1) := by decide +kernel
theorem dX12_held_9 : decode cX12_held 9 = .ok (.aload_n 0, 1) := by decide +kernel
theorem dX12_held_10 : decode cX12_held 10 = .ok (.getfield 34, 3) := by decide +kernel
theorem dX12_held_13 : decode cX12_held 13 = .ok (.iconst 0, 1) := by decide +kernel
theorem dX12_held_14 : decode cX12_held 14 = .ok (.iaload, 1) := by decide +kernel
theorem dX12_held_15 : decode cX12_held 15 = .ok (.if_icmp .lt 14, 3) := by decide +kernel
theorem dX12_held_29 : decode cX12_held 29 = .ok (.iload_n 1, 1) := by decide +kernel
theorem dX12_held_30 : decode cX12_held 30 = .ok (.ireturn, 1) := by decide +kernel
theorem dX12_held_18 : decode cX12_held 18 = .ok (.aload_n 0, 1) := by decide +kernel
theorem dX12_held_19 : decode cX12_held 19 = .ok (.getfield 34, 3) := by decide +kernel
theorem dX12_held_22 : decode cX12_held 22 = .ok (.iconst 0, 1) := by decide +kernel
theorem dX12_held_23 : decode cX12_held 23 = .ok (.iaload, 1) := by decide +kernel
theorem dX12_held_24 : decode cX12_held 24 = .ok (.iconst 1, 1) := by decide +kernel
theorem dX12_held_25 : decode cX12_held 25 = .ok (.isub, 1) := by decide +kernel
theorem dX12_held_26 : decode cX12_held 26 = .ok (.goto 4, 3) := by decide +kernel
theorem dX12_held_4 : decode cX12_held 4 = .ok (.iconst 0, 1) := by decide +kernel
theorem dX12_held_5 : decode cX12_held 5 = .ok (.goto 25, 3) := by decide +kernel
theorem dX12_on_0 : decode cX12_on 0 = .ok (.aload_n 0, 1) := by decide +kernel
theorem dX12_on_1 : decode cX12_on 1 = .ok (.iload_n 2, 1) := by decide +kernel
theorem dX12_on_2 : decode cX12_on 2 = .ok (.invokevirtual 262, 3) := by decide +kernel
theorem dX12_on_5 : decode cX12_on 5 = .ok (.istore_n 3, 1) := by decide +kernel
theorem dX12_on_6 : decode cX12_on 6 = .ok (.aload_n 0, 1) := by decide +kernel
theorem dX12_on_7 : decode cX12_on 7 = .ok (.iload_n 1, 1) := by decide +kernel
theorem dX12_on_8 : decode cX12_on 8 = .ok (.iload_n 3, 1) := by decide +kernel
theorem dX12_on_9 : decode cX12_on 9 = .ok (.ifCond .ne 14, 3) := by decide +kernel
theorem dX12_on_23 : decode cX12_on 23 = .ok (.iload_n 3, 1) := by decide +kernel
theorem dX12_on_24 : decode cX12_on 24 = .ok (.iconst 2, 1) := by decide +kernel
theorem dX12_on_25 : decode cX12_on 25 = .ok (.if_icmp .ne 16, 3) := by decide +kernel
theorem dX12_on_41 : decode cX12_on 41 = .ok (.iconst 0, 1) := by decide +kernel
theorem dX12_on_42 : decode cX12_on 42 = .ok (.iadd, 1) := by decide +kernel
theorem dX12_on_43 : decode cX12_on 43 = .ok (.invokevirtual 265, 3) := by decide +kernel
theorem dX12_on_46 : decode cX12_on 46 = .ok (.ireturn, 1) := by decide +kernel
theorem dX12_on_28 : decode cX12_on 28 = .ok (.aload_n 0, 1) := by decide +kernel
theorem dX12_on_29 : decode cX12_on 29 = .ok (.getfield 37, 3) := by decide +kernel
theorem dX12_on_32 : decode cX12_on 32 = .ok (.iconst 2, 1) := by decide +kernel
theorem dX12_on_33 : decode cX12_on 33 = .ok (.iload_n 1, 1) := by decide +kernel
theorem dX12_on_34 : decode cX12_on 34 = .ok (.imul, 1) := by decide +kernel
theorem dX12_on_35 : decode cX12_on 35 = .ok (.iconst 1, 1) := by decide +kernel
theorem dX12_on_36 : decode cX12_on 36 = .ok (.iadd, 1) := by decide +kernel
theorem dX12_on_37 : decode cX12_on 37 = .ok (.iaload, 1) := by decide +kernel
theorem dX12_on_38 : decode cX12_on 38 = .ok (.goto 4, 3) := by decide +kernel
theorem dX12_on_12 : decode cX12_on 12 = .ok (.aload_n 0, 1) := by decide +kernel
theorem dX12_on_13 : decode cX12_on 13 = .ok (.getfield 37, 3) := by decide +kernel
theorem dX12_on_16 : decode cX12_on 16 = .ok (.iconst 2, 1) := by decide +kernel
theorem dX12_on_17 : decode cX12_on 17 = .ok (.iload_n 1, 1) := by decide +kernel
theorem dX12_on_18 : decode cX12_on 18 = .ok (.imul, 1) := by decide +kernel
theorem dX12_on_19 : decode cX12_on 19 = .ok (.iaload, 1) := by decide +kernel
theorem dX12_on_20 : decode cX12_on 20 = .ok (.goto 22, 3) := by decide +kernel
theorem dX12_shoved_0 : decode cX12_shoved 0 = .ok (.iload_n 2, 1) := by decide +kernel
theorem dX12_shoved_1 : decode cX12_shoved 1 = .ok (.ifCond .ne 7, 3) := by decide +kernel
theorem dX12_shoved_8 : decode cX12_shoved 8 = .ok (.aload_n 0, 1) := by decide +kernel
theorem dX12_shoved_9 : decode cX12_shoved 9 = .ok (.iload_n 2, 1) := by decide +kernel
theorem dX12_shoved_10 : decode cX12_shoved 10 = .ok (.iconst 1, 1) := by decide +kernel
theorem dX12_shoved_11 : decode cX12_shoved 11 = .ok (.if_icmp .ne 9, 3) := by decide +kernel
theorem dX12_shoved_20 : decode cX12_shoved 20 = .ok (.iload_n 1, 1) := by decide +kernel
theorem dX12_shoved_21 : decode cX12_shoved 21 = .ok (.iconst 1, 1) := by decide +kernel
theorem dX12_shoved_22 : decode cX12_shoved 22 = .ok (.isub, 1) := by decide +kernel
theorem dX12_shoved_23 : decode cX12_shoved 23 = .ok (.invokevirtual 265, 3) := by decide +kernel
theorem dX12_shoved_26 : decode cX12_shoved 26 = .ok (.ireturn, 1) := by decide +kernel
theorem dX12_shoved_14 : decode cX12_shoved 14 = .ok (.iload_n 1, 1) := by decide +kernel
theorem dX12_shoved_15 : decode cX12_shoved 15 = .ok (.iconst 1, 1) := by decide +kernel
theorem dX12_shoved_16 : decode cX12_shoved 16 = .ok (.iadd, 1) := by decide +kernel
theorem dX12_shoved_17 : decode cX12_shoved 17 = .ok (.goto 6, 3) := by decide +kernel
theorem dX12_shoved_4 : decode cX12_shoved 4 = .ok (.iload_n 1, 1) := by decide +kernel
theorem dX12_shoved_5 : decode cX12_shoved 5 = .ok (.goto 21, 3) := by decide +kernel
theorem dX12_stands_0 : decode cX12_stands 0 = .ok (.aload_n 0, 1) := by decide +kernel
theorem dX12_stands_1 : decode cX12_stands 1 = .ok (.getfield 43, 3) := by decide +kernel
theorem dX12_stands_4 : decode cX12_stands 4 = .ok (.iconst 4, 1) := by decide +kernel
theorem dX12_stands_5 : decode cX12_stands 5 = .ok (.iload_n 1, 1) := by decide +kernel
theorem dX12_stands_6 : decode cX12_stands 6 = .ok (.imul, 1) := by decide +kernel
theorem dX12_stands_7 : decode cX12_stands 7 = .ok (.iaload, 1) := by decide +kernel
theorem dX12_stands_8 : decode cX12_stands 8 = .ok (.iload_n 2, 1) := by decide +kernel
theorem dX12_stands_9 : decode cX12_stands 9 = .ok (.if_icmp .gt 38, 3) := by decide +kernel
theorem dX12_stands_47 : decode cX12_stands 47 = .ok (.iconst 0, 1) := by decide +kernel
theorem dX12_stands_48 : decode cX12_stands 48 = .ok (.ireturn, 1) := by decide +kernel
theorem dX12_stands_12 : decode cX12_stands 12 = .ok (.iload_n 2, 1) := by decide +kernel
theorem dX12_stands_13 : decode cX12_stands 13 = .ok (.aload_n 0, 1) := by decide +kernel
theorem dX12_stands_14 : decode cX12_stands 14 = .ok (.getfield 43, 3) := by decide +kernel
theorem dX12_stands_17 : decode cX12_stands 17 = .ok (.iconst 4, 1) := by decide +kernel
theorem dX12_stands_18 : decode cX12_stands 18 = .ok (.iload_n 1, 1) := by decide +kernel
theorem dX12_stands_19 : decode cX12_stands 19 = .ok (.imul, 1) := by decide +kernel
theorem dX12_stands_20 : decode cX12_stands 20 = .ok (.iconst 1, 1) := by decide +kernel
theorem dX12_stands_21 : decode cX12_stands 21 = .ok (.iadd, 1) := by decide +kernel
theorem dX12_stands_22 : decode cX12_stands 22 = .ok (.iaload, 1) := by decide +kernel
theorem dX12_stands_23 : decode cX12_stands 23 = .ok (.if_icmp .gt 24, 3) := by decide +kernel
theorem dX12_stands_26 : decode cX12_stands 26 = .ok (.aload_n 0, 1) := by decide +kernel
theorem dX12_stands_27 : decode cX12_stands 27 = .ok (.getfield 43, 3) := by decide +kernel
theorem dX12_stands_30 : decode cX12_stands 30 = .ok (.iconst 4, 1) := by decide +kernel
theorem dX12_stands_31 : decode cX12_stands 31 = .ok (.iload_n 1, 1) := by decide +kernel
theorem dX12_stands_32 : decode cX12_stands 32 = .ok (.imul, 1) := by decide +kernel
theorem dX12_stands_33 : decode cX12_stands 33 = .ok (.iconst 2, 1) := by decide +kernel
theorem dX12_stands_34 : decode cX12_stands 34 = .ok (.iadd, 1) := by decide +kernel
theorem dX12_stands_35 : decode cX12_stands 35 = .ok (.iaload, 1) := by decide +kernel
theorem dX12_stands_36 : decode cX12_stands 36 = .ok (.iload_n 3, 1) := by decide +kernel
theorem dX12_stands_37 : decode cX12_stands 37 = .ok (.invokestatic 255, 3) := by decide +kernel
theorem dX12_stands_40 : decode cX12_stands 40 = .ok (.ifCond .eq 7, 3) := by decide +kernel
theorem dX12_stands_43 : decode cX12_stands 43 = .ok (.iconst 1, 1) := by decide +kernel
theorem dX12_stands_44 : decode cX12_stands 44 = .ok (.goto 4, 3) := by decide +kernel
theorem dX12_partyOf_0 : decode cX12_partyOf 0 = .ok (.iconst 0, 1) := by decide +kernel
theorem dX12_partyOf_1 : decode cX12_partyOf 1 = .ok (.istore 4, 2) := by decide +kernel
theorem dX12_partyOf_3 : decode cX12_partyOf 3 = .ok (.iload 4, 2) := by decide +kernel
theorem dX12_partyOf_5 : decode cX12_partyOf 5 = .ok (.aload_n 0, 1) := by decide +kernel
theorem dX12_partyOf_6 : decode cX12_partyOf 6 = .ok (.getfield 34, 3) := by decide +kernel
theorem dX12_partyOf_9 : decode cX12_partyOf 9 = .ok (.bipush 7, 2) := by decide +kernel
theorem dX12_partyOf_11 : decode cX12_partyOf 11 = .ok (.iaload, 1) := by decide +kernel
theorem dX12_partyOf_12 : decode cX12_partyOf 12 = .ok (.if_icmp .ge 38, 3) := by decide +kernel
theorem dX12_partyOf_50 : decode cX12_partyOf 50 = .ok (.iconst (-1), 1) := by decide +kernel
theorem dX12_partyOf_51 : decode cX12_partyOf 51 = .ok (.ireturn, 1) := by decide +kernel
theorem dX12_partyOf_15 : decode cX12_partyOf 15 = .ok (.iload 4, 2) := by decide +kernel
theorem dX12_partyOf_17 : decode cX12_partyOf 17 = .ok (.iload_n 3, 1) := by decide +kernel
theorem dX12_partyOf_18 : decode cX12_partyOf 18 = .ok (.if_icmp .eq 26, 3) := by decide +kernel
theorem dX12_partyOf_44 : decode cX12_partyOf 44 = .ok (.iinc 4 1, 3) := by decide +kernel
theorem dX12_partyOf_47 : decode cX12_partyOf 47 = .ok (.goto (-44), 3) := by decide +kernel
theorem dX12_partyOf_21 : decode cX12_partyOf 21 = .ok (.aload_n 0, 1) := by decide +kernel
theorem dX12_partyOf_22 : decode cX12_partyOf 22 = .ok (.iload 4, 2) := by decide +kernel
theorem dX12_partyOf_24 : decode cX12_partyOf 24 = .ok (.iload_n 1, 1) := by decide +kernel
theorem dX12_partyOf_25 : decode cX12_partyOf 25 = .ok (.iload_n 2, 1) := by decide +kernel
theorem dX12_partyOf_26 : decode cX12_partyOf 26 = .ok (.invokevirtual 312, 3) := by decide +kernel
theorem dX12_partyOf_29 : decode cX12_partyOf 29 = .ok (.ifCond .eq 15, 3) := by decide +kernel
theorem dX12_partyOf_32 : decode cX12_partyOf 32 = .ok (.aload_n 0, 1) := by decide +kernel
theorem dX12_partyOf_33 : decode cX12_partyOf 33 = .ok (.getfield 43, 3) := by decide +kernel
theorem dX12_partyOf_36 : decode cX12_partyOf 36 = .ok (.iconst 4, 1) := by decide +kernel
theorem dX12_partyOf_37 : decode cX12_partyOf 37 = .ok (.iload 4, 2) := by decide +kernel
theorem dX12_partyOf_39 : decode cX12_partyOf 39 = .ok (.imul, 1) := by decide +kernel
theorem dX12_partyOf_40 : decode cX12_partyOf 40 = .ok (.iconst 3, 1) := by decide +kernel
theorem dX12_partyOf_41 : decode cX12_partyOf 41 = .ok (.iadd, 1) := by decide +kernel
theorem dX12_partyOf_42 : decode cX12_partyOf 42 = .ok (.iaload, 1) := by decide +kernel
theorem dX12_partyOf_43 : decode cX12_partyOf 43 = .ok (.ireturn, 1) := by decide +kernel
theorem dX12_goes_0 : decode cX12_goes 0 = .ok (.aload_n 0, 1) := by decide +kernel
theorem dX12_goes_1 : decode cX12_goes 1 = .ok (.aload_n 0, 1) := by decide +kernel
theorem dX12_goes_2 : decode cX12_goes 2 = .ok (.getfield 40, 3) := by decide +kernel
theorem dX12_goes_5 : decode cX12_goes 5 = .ok (.iconst 3, 1) := by decide +kernel
theorem dX12_goes_6 : decode cX12_goes 6 = .ok (.iload_n 1, 1) := by decide +kernel
theorem dX12_goes_7 : decode cX12_goes 7 = .ok (.imul, 1) := by decide +kernel
theorem dX12_goes_8 : decode cX12_goes 8 = .ok (.iconst 1, 1) := by decide +kernel
theorem dX12_goes_9 : decode cX12_goes 9 = .ok (.iadd, 1) := by decide +kernel
theorem dX12_goes_10 : decode cX12_goes 10 = .ok (.iaload, 1) := by decide +kernel
theorem dX12_goes_11 : decode cX12_goes 11 = .ok (.putfield 289, 3) := by decide +kernel
theorem dX12_goes_14 : decode cX12_goes 14 = .ok (.aload_n 0, 1) := by decide +kernel
theorem dX12_goes_15 : decode cX12_goes 15 = .ok (.iconst (-1), 1) := by decide +kernel
theorem dX12_goes_16 : decode cX12_goes 16 = .ok (.putfield 292, 3) := by decide +kernel
theorem dX12_goes_19 : decode cX12_goes 19 = .ok (.lload_n 3, 1) := by decide +kernel
theorem dX12_goes_20 : decode cX12_goes 20 = .ok (.lstore 5, 2) := by decide +kernel
theorem dX12_goes_22 : decode cX12_goes 22 = .ok (.aload_n 0, 1) := by decide +kernel
theorem dX12_goes_23 : decode cX12_goes 23 = .ok (.getfield 40, 3) := by decide +kernel
theorem dX12_goes_26 : decode cX12_goes 26 = .ok (.iconst 3, 1) := by decide +kernel
theorem dX12_goes_27 : decode cX12_goes 27 = .ok (.iload_n 1, 1) := by decide +kernel
theorem dX12_goes_28 : decode cX12_goes 28 = .ok (.imul, 1) := by decide +kernel
theorem dX12_goes_29 : decode cX12_goes 29 = .ok (.iconst 2, 1) := by decide +kernel
theorem dX12_goes_30 : decode cX12_goes 30 = .ok (.iadd, 1) := by decide +kernel
theorem dX12_goes_31 : decode cX12_goes 31 = .ok (.iaload, 1) := by decide +kernel
theorem dX12_goes_32 : decode cX12_goes 32 = .ok (.istore 7, 2) := by decide +kernel
theorem dX12_goes_34 : decode cX12_goes 34 = .ok (.iload 7, 2) := by decide +kernel
theorem dX12_goes_36 : decode cX12_goes 36 = .ok (.iload_n 2, 1) := by decide +kernel
theorem dX12_goes_37 : decode cX12_goes 37 = .ok (.if_icmp .ge 124, 3) := by decide +kernel
theorem dX12_goes_161 : decode cX12_goes 161 = .ok (.return_, 1) := by decide +kernel
theorem dX12_goes_40 : decode cX12_goes 40 = .ok (.aload_n 0, 1) := by decide +kernel
theorem dX12_goes_41 : decode cX12_goes 41 = .ok (.getfield 292, 3) := by decide +kernel
theorem dX12_goes_44 : decode cX12_goes 44 = .ok (.iconst (-1), 1) := by decide +kernel
theorem dX12_goes_45 : decode cX12_goes 45 = .ok (.if_icmp .ne 116, 3) := by decide +kernel
theorem dX12_goes_48 : decode cX12_goes 48 = .ok (.lload_n 3, 1) := by decide +kernel
theorem dX12_goes_49 : decode cX12_goes 49 = .ok (.lconst 0, 1) := by decide +kernel
theorem dX12_goes_50 : decode cX12_goes 50 = .ok (.lcmp, 1) := by decide +kernel
theorem dX12_goes_51 : decode cX12_goes 51 = .ok (.ifCond .lt 54, 3) := by decide +kernel
theorem dX12_goes_105 : decode cX12_goes 105 = .ok (.aload_n 0, 1) := by decide +kernel
theorem dX12_goes_106 : decode cX12_goes 106 = .ok (.aload_n 0, 1) := by decide +kernel
theorem dX12_goes_107 : decode cX12_goes 107 = .ok (.aload_n 0, 1) := by decide +kernel
theorem dX12_goes_108 : decode cX12_goes 108 = .ok (.aload_n 0, 1) := by decide +kernel
theorem dX12_goes_109 : decode cX12_goes 109 = .ok (.getfield 289, 3) := by decide +kernel
theorem dX12_goes_112 : decode cX12_goes 112 = .ok (.aload_n 0, 1) := by decide +kernel
theorem dX12_goes_113 : decode cX12_goes 113 = .ok (.getfield 59, 3) := by decide +kernel
theorem dX12_goes_116 : decode cX12_goes 116 = .ok (.sipush 401, 3) := by decide +kernel
theorem dX12_goes_119 : decode cX12_goes 119 = .ok (.iload_n 1, 1) := by decide +kernel
theorem dX12_goes_120 : decode cX12_goes 120 = .ok (.imul, 1) := by decide +kernel
theorem dX12_goes_121 : decode cX12_goes 121 = .ok (.iload 7, 2) := by decide +kernel
theorem dX12_goes_123 : decode cX12_goes 123 = .ok (.iadd, 1) := by decide +kernel
theorem dX12_goes_124 : decode cX12_goes 124 = .ok (.iaload, 1) := by decide +kernel
theorem dX12_goes_125 : decode cX12_goes 125 = .ok (.invokevirtual 305, 3) := by decide +kernel
theorem dX12_goes_128 : decode cX12_goes 128 = .ok (.iload 7, 2) := by decide +kernel
theorem dX12_goes_130 : decode cX12_goes 130 = .ok (.invokevirtual 286, 3) := by decide +kernel
theorem dX12_goes_133 : decode cX12_goes 133 = .ok (.putfield 289, 3) := by decide +kernel
theorem dX12_goes_136 : decode cX12_goes 136 = .ok (.aload_n 0, 1) := by decide +kernel
theorem dX12_goes_137 : decode cX12_goes 137 = .ok (.aload_n 0, 1) := by decide +kernel
theorem dX12_goes_138 : decode cX12_goes 138 = .ok (.getfield 289, 3) := by decide +kernel
theorem dX12_goes_141 : decode cX12_goes 141 = .ok (.invokevirtual 273, 3) := by decide +kernel
theorem dX12_goes_144 : decode cX12_goes 144 = .ok (.ifCond .eq 11, 3) := by decide +kernel
theorem dX12_goes_155 : decode cX12_goes 155 = .ok (.iinc 7 1, 3) := by decide +kernel
theorem dX12_goes_158 : decode cX12_goes 158 = .ok (.goto (-124), 3) := by decide +kernel
theorem dX12_goes_147 : decode cX12_goes 147 = .ok (.aload_n 0, 1) := by decide +kernel
theorem dX12_goes_148 : decode cX12_goes 148 = .ok (.iload 7, 2) := by decide +kernel
theorem dX12_goes_150 : decode cX12_goes 150 = .ok (.iconst 1, 1) := by decide +kernel
theorem dX12_goes_151 : decode cX12_goes 151 = .ok (.iadd, 1) := by decide +kernel
theorem dX12_goes_152 : decode cX12_goes 152 = .ok (.putfield 292, 3) := by decide +kernel
theorem dX12_goes_54 : decode cX12_goes 54 = .ok (.ldc2_w 295, 3) := by decide +kernel
theorem dX12_goes_57 : decode cX12_goes 57 = .ok (.lload 5, 2) := by decide +kernel
theorem dX12_goes_59 : decode cX12_goes 59 = .ok (.lmul, 1) := by decide +kernel
theorem dX12_goes_60 : decode cX12_goes 60 = .ok (.ldc2_w 297, 3) := by decide +kernel
theorem dX12_goes_63 : decode cX12_goes 63 = .ok (.ladd, 1) := by decide +kernel
theorem dX12_goes_64 : decode cX12_goes 64 = .ok (.ldc2_w 299, 3) := by decide +kernel
theorem dX12_goes_67 : decode cX12_goes 67 = .ok (.lrem, 1) := by decide +kernel
theorem dX12_goes_68 : decode cX12_goes 68 = .ok (.lstore 5, 2) := by decide +kernel
theorem dX12_goes_70 : decode cX12_goes 70 = .ok (.lload 5, 2) := by decide +kernel
theorem dX12_goes_72 : decode cX12_goes 72 = .ok (.ldc2_w 301, 3) := by decide +kernel
theorem dX12_goes_75 : decode cX12_goes 75 = .ok (.ldiv, 1) := by decide +kernel
theorem dX12_goes_76 : decode cX12_goes 76 = .ok (.ldc2_w 303, 3) := by decide +kernel
theorem dX12_goes_79 : decode cX12_goes 79 = .ok (.lrem, 1) := by decide +kernel
theorem dX12_goes_80 : decode cX12_goes 80 = .ok (.aload_n 0, 1) := by decide +kernel
theorem dX12_goes_81 : decode cX12_goes 81 = .ok (.getfield 34, 3) := by decide +kernel
theorem dX12_goes_84 : decode cX12_goes 84 = .ok (.iconst 4, 1) := by decide +kernel
theorem dX12_goes_85 : decode cX12_goes 85 = .ok (.iaload, 1) := by decide +kernel
theorem dX12_goes_86 : decode cX12_goes 86 = .ok (.i2l, 1) := by decide +kernel
theorem dX12_goes_87 : decode cX12_goes 87 = .ok (.lcmp, 1) := by decide +kernel
theorem dX12_goes_88 : decode cX12_goes 88 = .ok (.ifCond .ge 17, 3) := by decide +kernel
theorem dX12_goes_91 : decode cX12_goes 91 = .ok (.aload_n 0, 1) := by decide +kernel
theorem dX12_goes_92 : decode cX12_goes 92 = .ok (.aload_n 0, 1) := by decide +kernel
theorem dX12_goes_93 : decode cX12_goes 93 = .ok (.aload_n 0, 1) := by decide +kernel
theorem dX12_goes_94 : decode cX12_goes 94 = .ok (.getfield 289, 3) := by decide +kernel
theorem dX12_goes_97 : decode cX12_goes 97 = .ok (.iconst 1, 1) := by decide +kernel
theorem dX12_goes_98 : decode cX12_goes 98 = .ok (.iadd, 1) := by decide +kernel
theorem dX12_goes_99 : decode cX12_goes 99 = .ok (.invokevirtual 265, 3) := by decide +kernel
theorem dX12_goes_102 : decode cX12_goes 102 = .ok (.putfield 289, 3) := by decide +kernel
theorem dX12_comesUp_0 : decode cX12_comesUp 0 = .ok (.aload_n 0, 1) := by decide +kernel
theorem dX12_comesUp_1 : decode cX12_comesUp 1 = .ok (.iload_n 1, 1) := by decide +kernel
theorem dX12_comesUp_2 : decode cX12_comesUp 2 = .ok (.sipush 400, 3) := by decide +kernel
theorem dX12_comesUp_5 : decode cX12_comesUp 5 = .ok (.ldc2_w 118, 3) := by decide +kernel
theorem dX12_comesUp_8 : decode cX12_comesUp 8 = .ok (.invokevirtual 308, 3) := by decide +kernel
theorem dX12_comesUp_11 : decode cX12_comesUp 11 = .ok (.return_, 1) := by decide +kernel
theorem dX12_whoseNow_0 : decode cX12_whoseNow 0 = .ok (.aload_n 0, 1) := by decide +kernel
theorem dX12_whoseNow_1 : decode cX12_whoseNow 1 = .ok (.getfield 292, 3) := by decide +kernel
theorem dX12_whoseNow_4 : decode cX12_whoseNow 4 = .ok (.iconst (-1), 1) := by decide +kernel
theorem dX12_whoseNow_5 : decode cX12_whoseNow 5 = .ok (.if_icmp .ne 7, 3) := by decide +kernel
theorem dX12_whoseNow_12 : decode cX12_whoseNow 12 = .ok (.aload_n 0, 1) := by decide +kernel
theorem dX12_whoseNow_13 : decode cX12_whoseNow 13 = .ok (.aload_n 0, 1) := by decide +kernel
theorem dX12_whoseNow_14 : decode cX12_whoseNow 14 = .ok (.getfield 289, 3) := by decide +kernel
theorem dX12_whoseNow_17 : decode cX12_whoseNow 17 = .ok (.aload_n 0, 1) := by decide +kernel
theorem dX12_whoseNow_18 : decode cX12_whoseNow 18 = .ok (.aload_n 0, 1) := by decide +kernel
theorem dX12_whoseNow_19 : decode cX12_whoseNow 19 = .ok (.getfield 292, 3) := by decide +kernel
theorem dX12_whoseNow_22 : decode cX12_whoseNow 22 = .ok (.iload_n 2, 1) := by decide +kernel
theorem dX12_whoseNow_23 : decode cX12_whoseNow 23 = .ok (.iadd, 1) := by decide +kernel
theorem dX12_whoseNow_24 : decode cX12_whoseNow 24 = .ok (.invokevirtual 262, 3) := by decide +kernel
theorem dX12_whoseNow_27 : decode cX12_whoseNow 27 = .ok (.iload_n 1, 1) := by decide +kernel
theorem dX12_whoseNow_28 : decode cX12_whoseNow 28 = .ok (.invokevirtual 315, 3) := by decide +kernel
theorem dX12_whoseNow_31 : decode cX12_whoseNow 31 = .ok (.ireturn, 1) := by decide +kernel
theorem dX12_whoseNow_8 : decode cX12_whoseNow 8 = .ok (.iconst (-1), 1) := by decide +kernel
theorem dX12_whoseNow_9 : decode cX12_whoseNow 9 = .ok (.goto 22, 3) := by decide +kernel
theorem dX12_hasOf_0 : decode cX12_hasOf 0 = .ok (.iconst 0, 1) := by decide +kernel
theorem dX12_hasOf_1 : decode cX12_hasOf 1 = .ok (.istore 4, 2) := by decide +kernel
theorem dX12_hasOf_3 : decode cX12_hasOf 3 = .ok (.iconst 0, 1) := by decide +kernel
theorem dX12_hasOf_4 : decode cX12_hasOf 4 = .ok (.istore 5, 2) := by decide +kernel
theorem dX12_hasOf_6 : decode cX12_hasOf 6 = .ok (.iload 5, 2) := by decide +kernel
theorem dX12_hasOf_8 : decode cX12_hasOf 8 = .ok (.aload_n 0, 1) := by decide +kernel
theorem dX12_hasOf_9 : decode cX12_hasOf 9 = .ok (.getfield 34, 3) := by decide +kernel
theorem dX12_hasOf_12 : decode cX12_hasOf 12 = .ok (.bipush 6, 2) := by decide +kernel
theorem dX12_hasOf_14 : decode cX12_hasOf 14 = .ok (.iaload, 1) := by decide +kernel
theorem dX12_hasOf_15 : decode cX12_hasOf 15 = .ok (.if_icmp .ge 40, 3) := by decide +kernel
theorem dX12_hasOf_55 : decode cX12_hasOf 55 = .ok (.iload 4, 2) := by decide +kernel
theorem dX12_hasOf_57 : decode cX12_hasOf 57 = .ok (.ireturn, 1) := by decide +kernel
theorem dX12_hasOf_18 : decode cX12_hasOf 18 = .ok (.aload_n 0, 1) := by decide +kernel
theorem dX12_hasOf_19 : decode cX12_hasOf 19 = .ok (.iload 5, 2) := by decide +kernel
theorem dX12_hasOf_21 : decode cX12_hasOf 21 = .ok (.invokevirtual 327, 3) := by decide +kernel
theorem dX12_hasOf_24 : decode cX12_hasOf 24 = .ok (.iload 4, 2) := by decide +kernel
theorem dX12_hasOf_26 : decode cX12_hasOf 26 = .ok (.aload_n 0, 1) := by decide +kernel
theorem dX12_hasOf_27 : decode cX12_hasOf 27 = .ok (.iload_n 2, 1) := by decide +kernel
theorem dX12_hasOf_28 : decode cX12_hasOf 28 = .ok (.iload_n 3, 1) := by decide +kernel
theorem dX12_hasOf_29 : decode cX12_hasOf 29 = .ok (.invokevirtual 330, 3) := by decide +kernel
theorem dX12_hasOf_32 : decode cX12_hasOf 32 = .ok (.iload_n 1, 1) := by decide +kernel
theorem dX12_hasOf_33 : decode cX12_hasOf 33 = .ok (.if_icmp .ne 12, 3) := by decide +kernel
theorem dX12_hasOf_45 : decode cX12_hasOf 45 = .ok (.iconst 0, 1) := by decide +kernel
theorem dX12_hasOf_46 : decode cX12_hasOf 46 = .ok (.iadd, 1) := by decide +kernel
theorem dX12_hasOf_47 : decode cX12_hasOf 47 = .ok (.istore 4, 2) := by decide +kernel
theorem dX12_hasOf_49 : decode cX12_hasOf 49 = .ok (.iinc 5 1, 3) := by decide +kernel
theorem dX12_hasOf_52 : decode cX12_hasOf 52 = .ok (.goto (-46), 3) := by decide +kernel
theorem dX12_hasOf_36 : decode cX12_hasOf 36 = .ok (.aload_n 0, 1) := by decide +kernel
theorem dX12_hasOf_37 : decode cX12_hasOf 37 = .ok (.iload 5, 2) := by decide +kernel
theorem dX12_hasOf_39 : decode cX12_hasOf 39 = .ok (.invokevirtual 333, 3) := by decide +kernel
theorem dX12_hasOf_42 : decode cX12_hasOf 42 = .ok (.goto 4, 3) := by decide +kernel
theorem dX12_pushBy_0 : decode cX12_pushBy 0 = .ok (.aload_n 0, 1) := by decide +kernel
theorem dX12_pushBy_1 : decode cX12_pushBy 1 = .ok (.aload_n 0, 1) := by decide +kernel
theorem dX12_pushBy_2 : decode cX12_pushBy 2 = .ok (.iload_n 2, 1) := by decide +kernel
theorem dX12_pushBy_3 : decode cX12_pushBy 3 = .ok (.iload_n 3, 1) := by decide +kernel
theorem dX12_pushBy_4 : decode cX12_pushBy 4 = .ok (.invokevirtual 305, 3) := by decide +kernel
theorem dX12_pushBy_7 : decode cX12_pushBy 7 = .ok (.iload_n 1, 1) := by decide +kernel
theorem dX12_pushBy_8 : decode cX12_pushBy 8 = .ok (.invokevirtual 286, 3) := by decide +kernel
theorem dX12_pushBy_11 : decode cX12_pushBy 11 = .ok (.istore 5, 2) := by decide +kernel
theorem dX12_pushBy_13 : decode cX12_pushBy 13 = .ok (.iload_n 3, 1) := by decide +kernel
theorem dX12_pushBy_14 : decode cX12_pushBy 14 = .ok (.ifCond .ne 7, 3) := by decide +kernel
theorem dX12_pushBy_21 : decode cX12_pushBy 21 = .ok (.iconst 1, 1) := by decide +kernel
theorem dX12_pushBy_22 : decode cX12_pushBy 22 = .ok (.istore 6, 2) := by decide +kernel
theorem dX12_pushBy_24 : decode cX12_pushBy 24 = .ok (.aload_n 0, 1) := by decide +kernel
theorem dX12_pushBy_25 : decode cX12_pushBy 25 = .ok (.iload 5, 2) := by decide +kernel
theorem dX12_pushBy_27 : decode cX12_pushBy 27 = .ok (.invokevirtual 273, 3) := by decide +kernel
theorem dX12_pushBy_30 : decode cX12_pushBy 30 = .ok (.ifCond .eq 30, 3) := by decide +kernel
theorem dX12_pushBy_60 : decode cX12_pushBy 60 = .ok (.iload 6, 2) := by decide +kernel
theorem dX12_pushBy_62 : decode cX12_pushBy 62 = .ok (.aload_n 0, 1) := by decide +kernel
theorem dX12_pushBy_63 : decode cX12_pushBy 63 = .ok (.getfield 62, 3) := by decide +kernel
theorem dX12_pushBy_66 : decode cX12_pushBy 66 = .ok (.bipush 12, 2) := by decide +kernel
theorem dX12_pushBy_68 : decode cX12_pushBy 68 = .ok (.iload_n 1, 1) := by decide +kernel
theorem dX12_pushBy_69 : decode cX12_pushBy 69 = .ok (.iconst 1, 1) := by decide +kernel
theorem dX12_pushBy_70 : decode cX12_pushBy 70 = .ok (.iadd, 1) := by decide +kernel
theorem dX12_pushBy_71 : decode cX12_pushBy 71 = .ok (.imul, 1) := by decide +kernel
theorem dX12_pushBy_72 : decode cX12_pushBy 72 = .ok (.iload 5, 2) := by decide +kernel
theorem dX12_pushBy_74 : decode cX12_pushBy 74 = .ok (.iadd, 1) := by decide +kernel
theorem dX12_pushBy_75 : decode cX12_pushBy 75 = .ok (.iaload, 1) := by decide +kernel
theorem dX12_pushBy_76 : decode cX12_pushBy 76 = .ok (.iadd, 1) := by decide +kernel
theorem dX12_pushBy_77 : decode cX12_pushBy 77 = .ok (.ireturn, 1) := by decide +kernel
theorem dX12_pushBy_33 : decode cX12_pushBy 33 = .ok (.aload_n 0, 1) := by decide +kernel
theorem dX12_pushBy_34 : decode cX12_pushBy 34 = .ok (.iload 5, 2) := by decide +kernel
theorem dX12_pushBy_36 : decode cX12_pushBy 36 = .ok (.aload_n 0, 1) := by decide +kernel
theorem dX12_pushBy_37 : decode cX12_pushBy 37 = .ok (.iload_n 1, 1) := by decide +kernel
theorem dX12_pushBy_38 : decode cX12_pushBy 38 = .ok (.iconst 1, 1) := by decide +kernel
theorem dX12_pushBy_39 : decode cX12_pushBy 39 = .ok (.iadd, 1) := by decide +kernel
theorem dX12_pushBy_40 : decode cX12_pushBy 40 = .ok (.invokevirtual 262, 3) := by decide +kernel
theorem dX12_pushBy_43 : decode cX12_pushBy 43 = .ok (.iconst (-1), 1) := by decide +kernel
theorem dX12_pushBy_44 : decode cX12_pushBy 44 = .ok (.invokevirtual 315, 3) := by decide +kernel
theorem dX12_pushBy_47 : decode cX12_pushBy 47 = .ok (.iload 4, 2) := by decide +kernel
theorem dX12_pushBy_49 : decode cX12_pushBy 49 = .ok (.if_icmp .ne 8, 3) := by decide +kernel
theorem dX12_pushBy_57 : decode cX12_pushBy 57 = .ok (.ldc 124, 2) := by decide +kernel
theorem dX12_pushBy_59 : decode cX12_pushBy 59 = .ok (.ireturn, 1) := by decide +kernel
theorem dX12_pushBy_52 : decode cX12_pushBy 52 = .ok (.iload 6, 2) := by decide +kernel
theorem dX12_pushBy_54 : decode cX12_pushBy 54 = .ok (.goto 5, 3) := by decide +kernel
theorem dX12_pushBy_17 : decode cX12_pushBy 17 = .ok (.iconst 0, 1) := by decide +kernel
theorem dX12_pushBy_18 : decode cX12_pushBy 18 = .ok (.goto 4, 3) := by decide +kernel
theorem dX12_first_0 : decode cX12_first 0 = .ok (.bipush 12, 2) := by decide +kernel
theorem dX12_first_2 : decode cX12_first 2 = .ok (.aload_n 0, 1) := by decide +kernel
theorem dX12_first_3 : decode cX12_first 3 = .ok (.getfield 40, 3) := by decide +kernel
theorem dX12_first_6 : decode cX12_first 6 = .ok (.iconst 3, 1) := by decide +kernel
theorem dX12_first_7 : decode cX12_first 7 = .ok (.iload_n 1, 1) := by decide +kernel
theorem dX12_first_8 : decode cX12_first 8 = .ok (.imul, 1) := by decide +kernel
theorem dX12_first_9 : decode cX12_first 9 = .ok (.iconst 2, 1) := by decide +kernel
theorem dX12_first_10 : decode cX12_first 10 = .ok (.iadd, 1) := by decide +kernel
theorem dX12_first_11 : decode cX12_first 11 = .ok (.iaload, 1) := by decide +kernel
theorem dX12_first_12 : decode cX12_first 12 = .ok (.imul, 1) := by decide +kernel
theorem dX12_first_13 : decode cX12_first 13 = .ok (.aload_n 0, 1) := by decide +kernel
theorem dX12_first_14 : decode cX12_first 14 = .ok (.getfield 40, 3) := by decide +kernel
theorem dX12_first_17 : decode cX12_first 17 = .ok (.iconst 3, 1) := by decide +kernel
theorem dX12_first_18 : decode cX12_first 18 = .ok (.iload_n 1, 1) := by decide +kernel
theorem dX12_first_19 : decode cX12_first 19 = .ok (.imul, 1) := by decide +kernel
theorem dX12_first_20 : decode cX12_first 20 = .ok (.iconst 1, 1) := by decide +kernel
theorem dX12_first_21 : decode cX12_first 21 = .ok (.iadd, 1) := by decide +kernel
theorem dX12_first_22 : decode cX12_first 22 = .ok (.iaload, 1) := by decide +kernel
theorem dX12_first_23 : decode cX12_first 23 = .ok (.iadd, 1) := by decide +kernel
theorem dX12_first_24 : decode cX12_first 24 = .ok (.ireturn, 1) := by decide +kernel
theorem dX12_isPush_0 : decode cX12_isPush 0 = .ok (.aload_n 0, 1) := by decide +kernel
theorem dX12_isPush_1 : decode cX12_isPush 1 = .ok (.iload_n 1, 1) := by decide +kernel
theorem dX12_isPush_2 : decode cX12_isPush 2 = .ok (.invokevirtual 276, 3) := by decide +kernel
theorem dX12_isPush_5 : decode cX12_isPush 5 = .ok (.ifCond .eq 15, 3) := by decide +kernel
theorem dX12_isPush_20 : decode cX12_isPush 20 = .ok (.iconst 0, 1) := by decide +kernel
theorem dX12_isPush_21 : decode cX12_isPush 21 = .ok (.ireturn, 1) := by decide +kernel
theorem dX12_isPush_8 : decode cX12_isPush 8 = .ok (.aload_n 0, 1) := by decide +kernel
theorem dX12_isPush_9 : decode cX12_isPush 9 = .ok (.iload_n 2, 1) := by decide +kernel
theorem dX12_isPush_10 : decode cX12_isPush 10 = .ok (.invokevirtual 336, 3) := by decide +kernel
theorem dX12_isPush_13 : decode cX12_isPush 13 = .ok (.ifCond .eq 7, 3) := by decide +kernel
theorem dX12_isPush_16 : decode cX12_isPush 16 = .ok (.iconst 1, 1) := by decide +kernel
theorem dX12_isPush_17 : decode cX12_isPush 17 = .ok (.goto 4, 3) := by decide +kernel
theorem dX12_wardBy_0 : decode cX12_wardBy 0 = .ok (.aload_n 0, 1) := by decide +kernel
theorem dX12_wardBy_1 : decode cX12_wardBy 1 = .ok (.aload_n 0, 1) := by decide +kernel
theorem dX12_wardBy_2 : decode cX12_wardBy 2 = .ok (.iload_n 2, 1) := by decide +kernel
theorem dX12_wardBy_3 : decode cX12_wardBy 3 = .ok (.iload_n 3, 1) := by decide +kernel
theorem dX12_wardBy_4 : decode cX12_wardBy 4 = .ok (.invokevirtual 305, 3) := by decide +kernel
theorem dX12_wardBy_7 : decode cX12_wardBy 7 = .ok (.iload_n 1, 1) := by decide +kernel
theorem dX12_wardBy_8 : decode cX12_wardBy 8 = .ok (.invokevirtual 286, 3) := by decide +kernel
theorem dX12_wardBy_11 : decode cX12_wardBy 11 = .ok (.istore 5, 2) := by decide +kernel
theorem dX12_wardBy_13 : decode cX12_wardBy 13 = .ok (.iload_n 3, 1) := by decide +kernel
theorem dX12_wardBy_14 : decode cX12_wardBy 14 = .ok (.ifCond .ne 7, 3) := by decide +kernel
theorem dX12_wardBy_21 : decode cX12_wardBy 21 = .ok (.iconst 1, 1) := by decide +kernel
theorem dX12_wardBy_22 : decode cX12_wardBy 22 = .ok (.istore 6, 2) := by decide +kernel
theorem dX12_wardBy_24 : decode cX12_wardBy 24 = .ok (.aload_n 0, 1) := by decide +kernel
theorem dX12_wardBy_25 : decode cX12_wardBy 25 = .ok (.iload 5, 2) := by decide +kernel
theorem dX12_wardBy_27 : decode cX12_wardBy 27 = .ok (.invokevirtual 273, 3) := by decide +kernel
theorem dX12_wardBy_30 : decode cX12_wardBy 30 = .ok (.ifCond .eq 30, 3) := by decide +kernel
theorem dX12_wardBy_60 : decode cX12_wardBy 60 = .ok (.iload 6, 2) := by decide +kernel
theorem dX12_wardBy_62 : decode cX12_wardBy 62 = .ok (.aload_n 0, 1) := by decide +kernel
theorem dX12_wardBy_63 : decode cX12_wardBy 63 = .ok (.getfield 62, 3) := by decide +kernel
theorem dX12_wardBy_66 : decode cX12_wardBy 66 = .ok (.bipush 12, 2) := by decide +kernel
theorem dX12_wardBy_68 : decode cX12_wardBy 68 = .ok (.iload_n 1, 1) := by decide +kernel
theorem dX12_wardBy_69 : decode cX12_wardBy 69 = .ok (.iconst 1, 1) := by decide +kernel
theorem dX12_wardBy_70 : decode cX12_wardBy 70 = .ok (.iadd, 1) := by decide +kernel
theorem dX12_wardBy_71 : decode cX12_wardBy 71 = .ok (.imul, 1) := by decide +kernel
theorem dX12_wardBy_72 : decode cX12_wardBy 72 = .ok (.iload 5, 2) := by decide +kernel
theorem dX12_wardBy_74 : decode cX12_wardBy 74 = .ok (.iadd, 1) := by decide +kernel
theorem dX12_wardBy_75 : decode cX12_wardBy 75 = .ok (.iaload, 1) := by decide +kernel
theorem dX12_wardBy_76 : decode cX12_wardBy 76 = .ok (.iadd, 1) := by decide +kernel
theorem dX12_wardBy_77 : decode cX12_wardBy 77 = .ok (.ireturn, 1) := by decide +kernel
theorem dX12_wardBy_33 : decode cX12_wardBy 33 = .ok (.aload_n 0, 1) := by decide +kernel
theorem dX12_wardBy_34 : decode cX12_wardBy 34 = .ok (.iload 5, 2) := by decide +kernel
theorem dX12_wardBy_36 : decode cX12_wardBy 36 = .ok (.aload_n 0, 1) := by decide +kernel
theorem dX12_wardBy_37 : decode cX12_wardBy 37 = .ok (.iload_n 1, 1) := by decide +kernel
theorem dX12_wardBy_38 : decode cX12_wardBy 38 = .ok (.iconst 1, 1) := by decide +kernel
theorem dX12_wardBy_39 : decode cX12_wardBy 39 = .ok (.iadd, 1) := by decide +kernel
theorem dX12_wardBy_40 : decode cX12_wardBy 40 = .ok (.invokevirtual 262, 3) := by decide +kernel
theorem dX12_wardBy_43 : decode cX12_wardBy 43 = .ok (.iconst (-1), 1) := by decide +kernel
theorem dX12_wardBy_44 : decode cX12_wardBy 44 = .ok (.invokevirtual 315, 3) := by decide +kernel
theorem dX12_wardBy_47 : decode cX12_wardBy 47 = .ok (.iload 4, 2) := by decide +kernel
theorem dX12_wardBy_49 : decode cX12_wardBy 49 = .ok (.if_icmp .ne 8, 3) := by decide +kernel
theorem dX12_wardBy_57 : decode cX12_wardBy 57 = .ok (.iload 6, 2) := by decide +kernel
theorem dX12_wardBy_59 : decode cX12_wardBy 59 = .ok (.ireturn, 1) := by decide +kernel
theorem dX12_wardBy_52 : decode cX12_wardBy 52 = .ok (.ldc 124, 2) := by decide +kernel
theorem dX12_wardBy_54 : decode cX12_wardBy 54 = .ok (.goto 5, 3) := by decide +kernel
theorem dX12_wardBy_17 : decode cX12_wardBy 17 = .ok (.iconst 0, 1) := by decide +kernel
theorem dX12_wardBy_18 : decode cX12_wardBy 18 = .ok (.goto 4, 3) := by decide +kernel
theorem dX12_laysPushes_0 : decode cX12_laysPushes 0 = .ok (.iconst 0, 1) := by decide +kernel
theorem dX12_laysPushes_1 : decode cX12_laysPushes 1 = .ok (.istore_n 2, 1) := by decide +kernel
theorem dX12_laysPushes_2 : decode cX12_laysPushes 2 = .ok (.iload_n 2, 1) := by decide +kernel
theorem dX12_laysPushes_3 : decode cX12_laysPushes 3 = .ok (.aload_n 0, 1) := by decide +kernel
theorem dX12_laysPushes_4 : decode cX12_laysPushes 4 = .ok (.getfield 34, 3) := by decide +kernel
theorem dX12_laysPushes_7 : decode cX12_laysPushes 7 = .ok (.iconst 0, 1) := by decide +kernel
theorem dX12_laysPushes_8 : decode cX12_laysPushes 8 = .ok (.iaload, 1) := by decide +kernel
theorem dX12_laysPushes_9 : decode cX12_laysPushes 9 = .ok (.if_icmp .ge 21, 3) := by decide +kernel
theorem dX12_laysPushes_12 : decode cX12_laysPushes 12 = .ok (.aload_n 0, 1) := by decide +kernel
theorem dX12_laysPushes_13 : decode cX12_laysPushes 13 = .ok (.getfield 62, 3) := by decide +kernel
theorem dX12_laysPushes_16 : decode cX12_laysPushes 16 = .ok (.sipush 1200, 3) := by decide +kernel
theorem dX12_laysPushes_19 : decode cX12_laysPushes 19 = .ok (.iload_n 2, 1) := by decide +kernel
theorem dX12_laysPushes_20 : decode cX12_laysPushes 20 = .ok (.iadd, 1) := by decide +kernel
theorem dX12_laysPushes_21 : decode cX12_laysPushes 21 = .ok (.ldc 124, 2) := by decide +kernel
theorem dX12_laysPushes_23 : decode cX12_laysPushes 23 = .ok (.iastore, 1) := by decide +kernel
theorem dX12_laysPushes_24 : decode cX12_laysPushes 24 = .ok (.iinc 2 1, 3) := by decide +kernel
theorem dX12_laysPushes_27 : decode cX12_laysPushes 27 = .ok (.goto (-25), 3) := by decide +kernel
theorem dX12_laysPushes_30 : decode cX12_laysPushes 30 = .ok (.bipush 99, 2) := by decide +kernel
theorem dX12_laysPushes_32 : decode cX12_laysPushes 32 = .ok (.istore_n 2, 1) := by decide +kernel
theorem dX12_laysPushes_33 : decode cX12_laysPushes 33 = .ok (.iload_n 2, 1) := by decide +kernel
theorem dX12_laysPushes_34 : decode cX12_laysPushes 34 = .ok (.ifCond .lt 84, 3) := by decide +kernel
theorem dX12_laysPushes_37 : decode cX12_laysPushes 37 = .ok (.iconst 0, 1) := by decide +kernel
theorem dX12_laysPushes_38 : decode cX12_laysPushes 38 = .ok (.istore_n 3, 1) := by decide +kernel
theorem dX12_laysPushes_39 : decode cX12_laysPushes 39 = .ok (.iload_n 3, 1) := by decide +kernel
theorem dX12_laysPushes_40 : decode cX12_laysPushes 40 = .ok (.aload_n 0, 1) := by decide +kernel
theorem dX12_laysPushes_41 : decode cX12_laysPushes 41 = .ok (.getfield 34, 3) := by decide +kernel
theorem dX12_laysPushes_44 : decode cX12_laysPushes 44 = .ok (.iconst 0, 1) := by decide +kernel
theorem dX12_laysPushes_45 : decode cX12_laysPushes 45 = .ok (.iaload, 1) := by decide +kernel
theorem dX12_laysPushes_46 : decode cX12_laysPushes 46 = .ok (.if_icmp .ge 66, 3) := by decide +kernel
theorem dX12_laysPushes_49 : decode cX12_laysPushes 49 = .ok (.ldc 124, 2) := by decide +kernel
theorem dX12_laysPushes_51 : decode cX12_laysPushes 51 = .ok (.istore 4, 2) := by decide +kernel
theorem dX12_laysPushes_53 : decode cX12_laysPushes 53 = .ok (.iconst 0, 1) := by decide +kernel
theorem dX12_laysPushes_54 : decode cX12_laysPushes 54 = .ok (.istore 5, 2) := by decide +kernel
theorem dX12_laysPushes_56 : decode cX12_laysPushes 56 = .ok (.iload 5, 2) := by decide +kernel
theorem dX12_laysPushes_58 : decode cX12_laysPushes 58 = .ok (.iconst 3, 1) := by decide +kernel
theorem dX12_laysPushes_59 : decode cX12_laysPushes 59 = .ok (.if_icmp .ge 34, 3) := by decide +kernel
theorem dX12_laysPushes_62 : decode cX12_laysPushes 62 = .ok (.aload_n 0, 1) := by decide +kernel
theorem dX12_laysPushes_63 : decode cX12_laysPushes 63 = .ok (.iload_n 2, 1) := by decide +kernel
theorem dX12_laysPushes_64 : decode cX12_laysPushes 64 = .ok (.iload_n 3, 1) := by decide +kernel
theorem dX12_laysPushes_65 : decode cX12_laysPushes 65 = .ok (.iload 5, 2) := by decide +kernel
theorem dX12_laysPushes_67 : decode cX12_laysPushes 67 = .ok (.iload_n 1, 1) := by decide +kernel
theorem dX12_laysPushes_68 : decode cX12_laysPushes 68 = .ok (.invokevirtual 348, 3) := by decide +kernel
theorem dX12_laysPushes_71 : decode cX12_laysPushes 71 = .ok (.iload 4, 2) := by decide +kernel
theorem dX12_laysPushes_73 : decode cX12_laysPushes 73 = .ok (.if_icmp .ge 14, 3) := by decide +kernel
theorem dX12_laysPushes_87 : decode cX12_laysPushes 87 = .ok (.iinc 5 1, 3) := by decide +kernel
theorem dX12_laysPushes_90 : decode cX12_laysPushes 90 = .ok (.goto (-34), 3) := by decide +kernel
theorem dX12_laysPushes_76 : decode cX12_laysPushes 76 = .ok (.aload_n 0, 1) := by decide +kernel
theorem dX12_laysPushes_77 : decode cX12_laysPushes 77 = .ok (.iload_n 2, 1) := by decide +kernel
theorem dX12_laysPushes_78 : decode cX12_laysPushes 78 = .ok (.iload_n 3, 1) := by decide +kernel
theorem dX12_laysPushes_79 : decode cX12_laysPushes 79 = .ok (.iload 5, 2) := by decide +kernel
theorem dX12_laysPushes_81 : decode cX12_laysPushes 81 = .ok (.iload_n 1, 1) := by decide +kernel
theorem dX12_laysPushes_82 : decode cX12_laysPushes 82 = .ok (.invokevirtual 348, 3) := by decide +kernel
theorem dX12_laysPushes_85 : decode cX12_laysPushes 85 = .ok (.istore 4, 2) := by decide +kernel
theorem dX12_laysPushes_93 : decode cX12_laysPushes 93 = .ok (.aload_n 0, 1) := by decide +kernel
theorem dX12_laysPushes_94 : decode cX12_laysPushes 94 = .ok (.getfield 62, 3) := by decide +kernel
theorem dX12_laysPushes_97 : decode cX12_laysPushes 97 = .ok (.bipush 12, 2) := by decide +kernel
theorem dX12_laysPushes_99 : decode cX12_laysPushes 99 = .ok (.iload_n 2, 1) := by decide +kernel
theorem dX12_laysPushes_100 : decode cX12_laysPushes 100 = .ok (.imul, 1) := by decide +kernel
theorem dX12_laysPushes_101 : decode cX12_laysPushes 101 = .ok (.iload_n 3, 1) := by decide +kernel
theorem dX12_laysPushes_102 : decode cX12_laysPushes 102 = .ok (.iadd, 1) := by decide +kernel
theorem dX12_laysPushes_103 : decode cX12_laysPushes 103 = .ok (.iload 4, 2) := by decide +kernel
theorem dX12_laysPushes_105 : decode cX12_laysPushes 105 = .ok (.iastore, 1) := by decide +kernel
theorem dX12_laysPushes_106 : decode cX12_laysPushes 106 = .ok (.iinc 3 1, 3) := by decide +kernel
theorem dX12_laysPushes_109 : decode cX12_laysPushes 109 = .ok (.goto (-70), 3) := by decide +kernel
theorem dX12_laysPushes_112 : decode cX12_laysPushes 112 = .ok (.iinc 2 (-1), 3) := by decide +kernel
theorem dX12_laysPushes_115 : decode cX12_laysPushes 115 = .ok (.goto (-82), 3) := by decide +kernel
theorem dX12_laysPushes_118 : decode cX12_laysPushes 118 = .ok (.return_, 1) := by decide +kernel
theorem dX12_floatsFrom_0 : decode cX12_floatsFrom 0 = .ok (.aload_n 0, 1) := by decide +kernel
theorem dX12_floatsFrom_1 : decode cX12_floatsFrom 1 = .ok (.iload_n 1, 1) := by decide +kernel
theorem dX12_floatsFrom_2 : decode cX12_floatsFrom 2 = .ok (.putfield 377, 3) := by decide +kernel
theorem dX12_floatsFrom_5 : decode cX12_floatsFrom 5 = .ok (.aload_n 0, 1) := by decide +kernel
theorem dX12_floatsFrom_6 : decode cX12_floatsFrom 6 = .ok (.iconst (-1), 1) := by decide +kernel
theorem dX12_floatsFrom_7 : decode cX12_floatsFrom 7 = .ok (.putfield 374, 3) := by decide +kernel
theorem dX12_floatsFrom_10 : decode cX12_floatsFrom 10 = .ok (.iload_n 2, 1) := by decide +kernel
theorem dX12_floatsFrom_11 : decode cX12_floatsFrom 11 = .ok (.istore 4, 2) := by decide +kernel
theorem dX12_floatsFrom_13 : decode cX12_floatsFrom 13 = .ok (.iload 4, 2) := by decide +kernel
theorem dX12_floatsFrom_15 : decode cX12_floatsFrom 15 = .ok (.iload_n 3, 1) := by decide +kernel
theorem dX12_floatsFrom_16 : decode cX12_floatsFrom 16 = .ok (.if_icmp .ge 50, 3) := by decide +kernel
theorem dX12_floatsFrom_66 : decode cX12_floatsFrom 66 = .ok (.return_, 1) := by decide +kernel
theorem dX12_floatsFrom_19 : decode cX12_floatsFrom 19 = .ok (.aload_n 0, 1) := by decide +kernel
theorem dX12_floatsFrom_20 : decode cX12_floatsFrom 20 = .ok (.getfield 374, 3) := by decide +kernel
theorem dX12_floatsFrom_23 : decode cX12_floatsFrom 23 = .ok (.iconst (-1), 1) := by decide +kernel
theorem dX12_floatsFrom_24 : decode cX12_floatsFrom 24 = .ok (.if_icmp .ne 42, 3) := by decide +kernel
theorem dX12_floatsFrom_27 : decode cX12_floatsFrom 27 = .ok (.aload_n 0, 1) := by decide +kernel
theorem dX12_floatsFrom_28 : decode cX12_floatsFrom 28 = .ok (.aload_n 0, 1) := by decide +kernel
theorem dX12_floatsFrom_29 : decode cX12_floatsFrom 29 = .ok (.aload_n 0, 1) := by decide +kernel
theorem dX12_floatsFrom_30 : decode cX12_floatsFrom 30 = .ok (.getfield 377, 3) := by decide +kernel
theorem dX12_floatsFrom_33 : decode cX12_floatsFrom 33 = .ok (.iload 4, 2) := by decide +kernel
theorem dX12_floatsFrom_35 : decode cX12_floatsFrom 35 = .ok (.invokevirtual 286, 3) := by decide +kernel
theorem dX12_floatsFrom_38 : decode cX12_floatsFrom 38 = .ok (.putfield 377, 3) := by decide +kernel
theorem dX12_floatsFrom_41 : decode cX12_floatsFrom 41 = .ok (.aload_n 0, 1) := by decide +kernel
theorem dX12_floatsFrom_42 : decode cX12_floatsFrom 42 = .ok (.aload_n 0, 1) := by decide +kernel
theorem dX12_floatsFrom_43 : decode cX12_floatsFrom 43 = .ok (.getfield 377, 3) := by decide +kernel
theorem dX12_floatsFrom_46 : decode cX12_floatsFrom 46 = .ok (.invokevirtual 273, 3) := by decide +kernel
theorem dX12_floatsFrom_49 : decode cX12_floatsFrom 49 = .ok (.ifCond .eq 11, 3) := by decide +kernel
theorem dX12_floatsFrom_60 : decode cX12_floatsFrom 60 = .ok (.iinc 4 1, 3) := by decide +kernel
theorem dX12_floatsFrom_63 : decode cX12_floatsFrom 63 = .ok (.goto (-50), 3) := by decide +kernel
theorem dX12_floatsFrom_52 : decode cX12_floatsFrom 52 = .ok (.aload_n 0, 1) := by decide +kernel
theorem dX12_floatsFrom_53 : decode cX12_floatsFrom 53 = .ok (.iload 4, 2) := by decide +kernel
theorem dX12_floatsFrom_55 : decode cX12_floatsFrom 55 = .ok (.iconst 1, 1) := by decide +kernel
theorem dX12_floatsFrom_56 : decode cX12_floatsFrom 56 = .ok (.iadd, 1) := by decide +kernel
theorem dX12_floatsFrom_57 : decode cX12_floatsFrom 57 = .ok (.putfield 374, 3) := by decide +kernel
theorem dX12_isIdle_0 : decode cX12_isIdle 0 = .ok (.iconst 0, 1) := by decide +kernel
theorem dX12_isIdle_1 : decode cX12_isIdle 1 = .ok (.istore_n 2, 1) := by decide +kernel
theorem dX12_isIdle_2 : decode cX12_isIdle 2 = .ok (.iload_n 2, 1) := by decide +kernel
theorem dX12_isIdle_3 : decode cX12_isIdle 3 = .ok (.aload_n 0, 1) := by decide +kernel
theorem dX12_isIdle_4 : decode cX12_isIdle 4 = .ok (.getfield 34, 3) := by decide +kernel
theorem dX12_isIdle_7 : decode cX12_isIdle 7 = .ok (.iconst 0, 1) := by decide +kernel
theorem dX12_isIdle_8 : decode cX12_isIdle 8 = .ok (.iaload, 1) := by decide +kernel
theorem dX12_isIdle_9 : decode cX12_isIdle 9 = .ok (.if_icmp .ge 89, 3) := by decide +kernel
theorem dX12_isIdle_98 : decode cX12_isIdle 98 = .ok (.iconst 1, 1) := by decide +kernel
theorem dX12_isIdle_99 : decode cX12_isIdle 99 = .ok (.ireturn, 1) := by decide +kernel
theorem dX12_isIdle_12 : decode cX12_isIdle 12 = .ok (.iconst 0, 1) := by decide +kernel
theorem dX12_isIdle_13 : decode cX12_isIdle 13 = .ok (.istore_n 3, 1) := by decide +kernel
theorem dX12_isIdle_14 : decode cX12_isIdle 14 = .ok (.iload_n 3, 1) := by decide +kernel
theorem dX12_isIdle_15 : decode cX12_isIdle 15 = .ok (.iconst 3, 1) := by decide +kernel
theorem dX12_isIdle_16 : decode cX12_isIdle 16 = .ok (.if_icmp .ge 76, 3) := by decide +kernel
theorem dX12_isIdle_19 : decode cX12_isIdle 19 = .ok (.aload_n 0, 1) := by decide +kernel
theorem dX12_isIdle_20 : decode cX12_isIdle 20 = .ok (.iload_n 2, 1) := by decide +kernel
theorem dX12_isIdle_21 : decode cX12_isIdle 21 = .ok (.invokevirtual 273, 3) := by decide +kernel
theorem dX12_isIdle_24 : decode cX12_isIdle 24 = .ok (.ifCond .eq 62, 3) := by decide +kernel
theorem dX12_isIdle_86 : decode cX12_isIdle 86 = .ok (.iinc 3 1, 3) := by decide +kernel
theorem dX12_isIdle_89 : decode cX12_isIdle 89 = .ok (.goto (-75), 3) := by decide +kernel
theorem dX12_isIdle_27 : decode cX12_isIdle 27 = .ok (.aload_n 0, 1) := by decide +kernel
theorem dX12_isIdle_28 : decode cX12_isIdle 28 = .ok (.iload_n 1, 1) := by decide +kernel
theorem dX12_isIdle_29 : decode cX12_isIdle 29 = .ok (.iload_n 2, 1) := by decide +kernel
theorem dX12_isIdle_30 : decode cX12_isIdle 30 = .ok (.iload_n 3, 1) := by decide +kernel
theorem dX12_isIdle_31 : decode cX12_isIdle 31 = .ok (.invokevirtual 312, 3) := by decide +kernel
theorem dX12_isIdle_34 : decode cX12_isIdle 34 = .ok (.ifCond .ne 6, 3) := by decide +kernel
theorem dX12_isIdle_40 : decode cX12_isIdle 40 = .ok (.iconst 1, 1) := by decide +kernel
theorem dX12_isIdle_41 : decode cX12_isIdle 41 = .ok (.istore 4, 2) := by decide +kernel
theorem dX12_isIdle_43 : decode cX12_isIdle 43 = .ok (.iconst 0, 1) := by decide +kernel
theorem dX12_isIdle_44 : decode cX12_isIdle 44 = .ok (.istore 5, 2) := by decide +kernel
theorem dX12_isIdle_46 : decode cX12_isIdle 46 = .ok (.iload 5, 2) := by decide +kernel
theorem dX12_isIdle_48 : decode cX12_isIdle 48 = .ok (.iload_n 1, 1) := by decide +kernel
theorem dX12_isIdle_49 : decode cX12_isIdle 49 = .ok (.if_icmp .ge 30, 3) := by decide +kernel
theorem dX12_isIdle_79 : decode cX12_isIdle 79 = .ok (.iload 4, 2) := by decide +kernel
theorem dX12_isIdle_81 : decode cX12_isIdle 81 = .ok (.ifCond .eq 5, 3) := by decide +kernel
theorem dX12_isIdle_84 : decode cX12_isIdle 84 = .ok (.iconst 0, 1) := by decide +kernel
theorem dX12_isIdle_85 : decode cX12_isIdle 85 = .ok (.ireturn, 1) := by decide +kernel
theorem dX12_isIdle_52 : decode cX12_isIdle 52 = .ok (.iload 4, 2) := by decide +kernel
theorem dX12_isIdle_54 : decode cX12_isIdle 54 = .ok (.aload_n 0, 1) := by decide +kernel
theorem dX12_isIdle_55 : decode cX12_isIdle 55 = .ok (.iload 5, 2) := by decide +kernel
theorem dX12_isIdle_57 : decode cX12_isIdle 57 = .ok (.iload_n 2, 1) := by decide +kernel
theorem dX12_isIdle_58 : decode cX12_isIdle 58 = .ok (.iload_n 3, 1) := by decide +kernel
theorem dX12_isIdle_59 : decode cX12_isIdle 59 = .ok (.invokevirtual 312, 3) := by decide +kernel
theorem dX12_isIdle_62 : decode cX12_isIdle 62 = .ok (.ifCond .ne 7, 3) := by decide +kernel
theorem dX12_isIdle_69 : decode cX12_isIdle 69 = .ok (.iconst 0, 1) := by decide +kernel
theorem dX12_isIdle_70 : decode cX12_isIdle 70 = .ok (.iand, 1) := by decide +kernel
theorem dX12_isIdle_71 : decode cX12_isIdle 71 = .ok (.istore 4, 2) := by decide +kernel
theorem dX12_isIdle_73 : decode cX12_isIdle 73 = .ok (.iinc 5 1, 3) := by decide +kernel
theorem dX12_isIdle_76 : decode cX12_isIdle 76 = .ok (.goto (-30), 3) := by decide +kernel
theorem dX12_isIdle_65 : decode cX12_isIdle 65 = .ok (.iconst 1, 1) := by decide +kernel
theorem dX12_isIdle_66 : decode cX12_isIdle 66 = .ok (.goto 4, 3) := by decide +kernel
theorem dX12_isIdle_37 : decode cX12_isIdle 37 = .ok (.goto 49, 3) := by decide +kernel
theorem dX12_isIdle_92 : decode cX12_isIdle 92 = .ok (.iinc 2 1, 3) := by decide +kernel
theorem dX12_isIdle_95 : decode cX12_isIdle 95 = .ok (.goto (-93), 3) := by decide +kernel
theorem dX12_dropOf_0 : decode cX12_dropOf 0 = .ok (.iconst 0, 1) := by decide +kernel
theorem dX12_dropOf_1 : decode cX12_dropOf 1 = .ok (.istore_n 3, 1) := by decide +kernel
theorem dX12_dropOf_2 : decode cX12_dropOf 2 = .ok (.iconst 0, 1) := by decide +kernel
theorem dX12_dropOf_3 : decode cX12_dropOf 3 = .ok (.istore 4, 2) := by decide +kernel
theorem dX12_dropOf_5 : decode cX12_dropOf 5 = .ok (.iload 4, 2) := by decide +kernel
theorem dX12_dropOf_7 : decode cX12_dropOf 7 = .ok (.aload_n 0, 1) := by decide +kernel
theorem dX12_dropOf_8 : decode cX12_dropOf 8 = .ok (.getfield 34, 3) := by decide +kernel
theorem dX12_dropOf_11 : decode cX12_dropOf 11 = .ok (.iconst 0, 1) := by decide +kernel
theorem dX12_dropOf_12 : decode cX12_dropOf 12 = .ok (.iaload, 1) := by decide +kernel
theorem dX12_dropOf_13 : decode cX12_dropOf 13 = .ok (.if_icmp .ge 59, 3) := by decide +kernel
theorem dX12_dropOf_16 : decode cX12_dropOf 16 = .ok (.aload_n 0, 1) := by decide +kernel
theorem dX12_dropOf_17 : decode cX12_dropOf 17 = .ok (.iload 4, 2) := by decide +kernel
theorem dX12_dropOf_19 : decode cX12_dropOf 19 = .ok (.iload_n 2, 1) := by decide +kernel
theorem dX12_dropOf_20 : decode cX12_dropOf 20 = .ok (.sipush 400, 3) := by decide +kernel
theorem dX12_dropOf_23 : decode cX12_dropOf 23 = .ok (.invokevirtual 370, 3) := by decide +kernel
theorem dX12_dropOf_26 : decode cX12_dropOf 26 = .ok (.iload_n 3, 1) := by decide +kernel
theorem dX12_dropOf_27 : decode cX12_dropOf 27 = .ok (.aload_n 0, 1) := by decide +kernel
theorem dX12_dropOf_28 : decode cX12_dropOf 28 = .ok (.getfield 374, 3) := by decide +kernel
theorem dX12_dropOf_31 : decode cX12_dropOf 31 = .ok (.iconst (-1), 1) := by decide +kernel
theorem dX12_dropOf_32 : decode cX12_dropOf 32 = .ok (.if_icmp .eq 31, 3) := by decide +kernel
theorem dX12_dropOf_63 : decode cX12_dropOf 63 = .ok (.iconst 0, 1) := by decide +kernel
theorem dX12_dropOf_64 : decode cX12_dropOf 64 = .ok (.ior, 1) := by decide +kernel
theorem dX12_dropOf_65 : decode cX12_dropOf 65 = .ok (.istore_n 3, 1) := by decide +kernel
theorem dX12_dropOf_66 : decode cX12_dropOf 66 = .ok (.iinc 4 1, 3) := by decide +kernel
theorem dX12_dropOf_69 : decode cX12_dropOf 69 = .ok (.goto (-64), 3) := by decide +kernel
theorem dX12_dropOf_35 : decode cX12_dropOf 35 = .ok (.aload_n 0, 1) := by decide +kernel
theorem dX12_dropOf_36 : decode cX12_dropOf 36 = .ok (.aload_n 0, 1) := by decide +kernel
theorem dX12_dropOf_37 : decode cX12_dropOf 37 = .ok (.getfield 377, 3) := by decide +kernel
theorem dX12_dropOf_40 : decode cX12_dropOf 40 = .ok (.aload_n 0, 1) := by decide +kernel
theorem dX12_dropOf_41 : decode cX12_dropOf 41 = .ok (.aload_n 0, 1) := by decide +kernel
theorem dX12_dropOf_42 : decode cX12_dropOf 42 = .ok (.getfield 374, 3) := by decide +kernel
theorem dX12_dropOf_45 : decode cX12_dropOf 45 = .ok (.invokevirtual 262, 3) := by decide +kernel
theorem dX12_dropOf_48 : decode cX12_dropOf 48 = .ok (.iconst (-1), 1) := by decide +kernel
theorem dX12_dropOf_49 : decode cX12_dropOf 49 = .ok (.invokevirtual 315, 3) := by decide +kernel
theorem dX12_dropOf_52 : decode cX12_dropOf 52 = .ok (.iload_n 1, 1) := by decide +kernel
theorem dX12_dropOf_53 : decode cX12_dropOf 53 = .ok (.if_icmp .ne 10, 3) := by decide +kernel
theorem dX12_dropOf_56 : decode cX12_dropOf 56 = .ok (.iconst 1, 1) := by decide +kernel
theorem dX12_dropOf_57 : decode cX12_dropOf 57 = .ok (.iload 4, 2) := by decide +kernel
theorem dX12_dropOf_59 : decode cX12_dropOf 59 = .ok (.ishl, 1) := by decide +kernel
theorem dX12_dropOf_60 : decode cX12_dropOf 60 = .ok (.goto 4, 3) := by decide +kernel
theorem dX12_dropOf_72 : decode cX12_dropOf 72 = .ok (.iload_n 3, 1) := by decide +kernel
theorem dX12_dropOf_73 : decode cX12_dropOf 73 = .ok (.ireturn, 1) := by decide +kernel
theorem dX12_carried_0 : decode cX12_carried 0 = .ok (.iload_n 1, 1) := by decide +kernel
theorem dX12_carried_1 : decode cX12_carried 1 = .ok (.istore 6, 2) := by decide +kernel
theorem dX12_carried_3 : decode cX12_carried 3 = .ok (.iload_n 2, 1) := by decide +kernel
theorem dX12_carried_4 : decode cX12_carried 4 = .ok (.istore 7, 2) := by decide +kernel
theorem dX12_carried_6 : decode cX12_carried 6 = .ok (.iload 7, 2) := by decide +kernel
theorem dX12_carried_8 : decode cX12_carried 8 = .ok (.iload_n 3, 1) := by decide +kernel
theorem dX12_carried_9 : decode cX12_carried 9 = .ok (.if_icmp .ge 48, 3) := by decide +kernel
theorem dX12_carried_57 : decode cX12_carried 57 = .ok (.iload 6, 2) := by decide +kernel
theorem dX12_carried_59 : decode cX12_carried 59 = .ok (.ireturn, 1) := by decide +kernel
theorem dX12_carried_12 : decode cX12_carried 12 = .ok (.aload_n 0, 1) := by decide +kernel
theorem dX12_carried_13 : decode cX12_carried 13 = .ok (.iload 7, 2) := by decide +kernel
theorem dX12_carried_15 : decode cX12_carried 15 = .ok (.invokevirtual 262, 3) := by decide +kernel
theorem dX12_carried_18 : decode cX12_carried 18 = .ok (.istore 8, 2) := by decide +kernel
theorem dX12_carried_20 : decode cX12_carried 20 = .ok (.aload_n 0, 1) := by decide +kernel
theorem dX12_carried_21 : decode cX12_carried 21 = .ok (.iload 6, 2) := by decide +kernel
theorem dX12_carried_23 : decode cX12_carried 23 = .ok (.iload 8, 2) := by decide +kernel
theorem dX12_carried_25 : decode cX12_carried 25 = .ok (.ifCond .ne 8, 3) := by decide +kernel
theorem dX12_carried_33 : decode cX12_carried 33 = .ok (.iload 8, 2) := by decide +kernel
theorem dX12_carried_35 : decode cX12_carried 35 = .ok (.iconst 2, 1) := by decide +kernel
theorem dX12_carried_36 : decode cX12_carried 36 = .ok (.if_icmp .ne 8, 3) := by decide +kernel
theorem dX12_carried_44 : decode cX12_carried 44 = .ok (.iconst 0, 1) := by decide +kernel
theorem dX12_carried_45 : decode cX12_carried 45 = .ok (.iadd, 1) := by decide +kernel
theorem dX12_carried_46 : decode cX12_carried 46 = .ok (.invokevirtual 265, 3) := by decide +kernel
theorem dX12_carried_49 : decode cX12_carried 49 = .ok (.istore 6, 2) := by decide +kernel
theorem dX12_carried_51 : decode cX12_carried 51 = .ok (.iinc 7 1, 3) := by decide +kernel
theorem dX12_carried_54 : decode cX12_carried 54 = .ok (.goto (-48), 3) := by decide +kernel
theorem dX12_carried_39 : decode cX12_carried 39 = .ok (.iload 5, 2) := by decide +kernel
theorem dX12_carried_41 : decode cX12_carried 41 = .ok (.goto 4, 3) := by decide +kernel
theorem dX12_carried_28 : decode cX12_carried 28 = .ok (.iload 4, 2) := by decide +kernel
theorem dX12_carried_30 : decode cX12_carried 30 = .ok (.goto 15, 3) := by decide +kernel
theorem dX12_areFit_0 : decode cX12_areFit 0 = .ok (.iconst 0, 1) := by decide +kernel
theorem dX12_areFit_1 : decode cX12_areFit 1 = .ok (.istore 4, 2) := by decide +kernel
theorem dX12_areFit_3 : decode cX12_areFit 3 = .ok (.iload 4, 2) := by decide +kernel
theorem dX12_areFit_5 : decode cX12_areFit 5 = .ok (.aload_n 0, 1) := by decide +kernel
theorem dX12_areFit_6 : decode cX12_areFit 6 = .ok (.getfield 13, 3) := by decide +kernel
theorem dX12_areFit_9 : decode cX12_areFit 9 = .ok (.iload_n 1, 1) := by decide +kernel
theorem dX12_areFit_10 : decode cX12_areFit 10 = .ok (.iaload, 1) := by decide +kernel
theorem dX12_areFit_11 : decode cX12_areFit 11 = .ok (.if_icmp .ge 68, 3) := by decide +kernel
theorem dX12_areFit_79 : decode cX12_areFit 79 = .ok (.iconst 1, 1) := by decide +kernel
theorem dX12_areFit_80 : decode cX12_areFit 80 = .ok (.ireturn, 1) := by decide +kernel
theorem dX12_areFit_14 : decode cX12_areFit 14 = .ok (.bipush 60, 2) := by decide +kernel
theorem dX12_areFit_16 : decode cX12_areFit 16 = .ok (.iload_n 1, 1) := by decide +kernel
theorem dX12_areFit_17 : decode cX12_areFit 17 = .ok (.imul, 1) := by decide +kernel
theorem dX12_areFit_18 : decode cX12_areFit 18 = .ok (.iload 4, 2) := by decide +kernel
theorem dX12_areFit_20 : decode cX12_areFit 20 = .ok (.iadd, 1) := by decide +kernel
theorem dX12_areFit_21 : decode cX12_areFit 21 = .ok (.istore 5, 2) := by decide +kernel
theorem dX12_areFit_23 : decode cX12_areFit 23 = .ok (.aload_n 0, 1) := by decide +kernel
theorem dX12_areFit_24 : decode cX12_areFit 24 = .ok (.aload_n 0, 1) := by decide +kernel
theorem dX12_areFit_25 : decode cX12_areFit 25 = .ok (.getfield 16, 3) := by decide +kernel
theorem dX12_areFit_28 : decode cX12_areFit 28 = .ok (.iload 5, 2) := by decide +kernel
theorem dX12_areFit_30 : decode cX12_areFit 30 = .ok (.laload, 1) := by decide +kernel
theorem dX12_areFit_31 : decode cX12_areFit 31 = .ok (.l2i, 1) := by decide +kernel
theorem dX12_areFit_32 : decode cX12_areFit 32 = .ok (.aload_n 0, 1) := by decide +kernel
theorem dX12_areFit_33 : decode cX12_areFit 33 = .ok (.getfield 16, 3) := by decide +kernel
theorem dX12_areFit_36 : decode cX12_areFit 36 = .ok (.iload 5, 2) := by decide +kernel
theorem dX12_areFit_38 : decode cX12_areFit 38 = .ok (.iconst 1, 1) := by decide +kernel
theorem dX12_areFit_39 : decode cX12_areFit 39 = .ok (.iadd, 1) := by decide +kernel
theorem dX12_areFit_40 : decode cX12_areFit 40 = .ok (.laload, 1) := by decide +kernel
theorem dX12_areFit_41 : decode cX12_areFit 41 = .ok (.l2i, 1) := by decide +kernel
theorem dX12_areFit_42 : decode cX12_areFit 42 = .ok (.aload_n 0, 1) := by decide +kernel
theorem dX12_areFit_43 : decode cX12_areFit 43 = .ok (.getfield 16, 3) := by decide +kernel
theorem dX12_areFit_46 : decode cX12_areFit 46 = .ok (.iload 5, 2) := by decide +kernel
theorem dX12_areFit_48 : decode cX12_areFit 48 = .ok (.iconst 2, 1) := by decide +kernel
theorem dX12_areFit_49 : decode cX12_areFit 49 = .ok (.iadd, 1) := by decide +kernel
theorem dX12_areFit_50 : decode cX12_areFit 50 = .ok (.laload, 1) := by decide +kernel
theorem dX12_areFit_51 : decode cX12_areFit 51 = .ok (.l2i, 1) := by decide +kernel
theorem dX12_areFit_52 : decode cX12_areFit 52 = .ok (.iload_n 2, 1) := by decide +kernel
theorem dX12_areFit_53 : decode cX12_areFit 53 = .ok (.iload_n 3, 1) := by decide +kernel
theorem dX12_areFit_54 : decode cX12_areFit 54 = .ok (.invokevirtual 385, 3) := by decide +kernel
theorem dX12_areFit_57 : decode cX12_areFit 57 = .ok (.i2l, 1) := by decide +kernel
theorem dX12_areFit_58 : decode cX12_areFit 58 = .ok (.aload_n 0, 1) := by decide +kernel
theorem dX12_areFit_59 : decode cX12_areFit 59 = .ok (.getfield 16, 3) := by decide +kernel
theorem dX12_areFit_62 : decode cX12_areFit 62 = .ok (.iload 5, 2) := by decide +kernel
theorem dX12_areFit_64 : decode cX12_areFit 64 = .ok (.iconst 3, 1) := by decide +kernel
theorem dX12_areFit_65 : decode cX12_areFit 65 = .ok (.iadd, 1) := by decide +kernel
theorem dX12_areFit_66 : decode cX12_areFit 66 = .ok (.laload, 1) := by decide +kernel
theorem dX12_areFit_67 : decode cX12_areFit 67 = .ok (.lcmp, 1) := by decide +kernel
theorem dX12_areFit_68 : decode cX12_areFit 68 = .ok (.ifCond .eq 5, 3) := by decide +kernel
theorem dX12_areFit_73 : decode cX12_areFit 73 = .ok (.iinc 4 4, 3) := by decide +kernel
theorem dX12_areFit_76 : decode cX12_areFit 76 = .ok (.goto (-73), 3) := by decide +kernel
theorem dX12_areFit_71 : decode cX12_areFit 71 = .ok (.iconst 0, 1) := by decide +kernel
theorem dX12_areFit_72 : decode cX12_areFit 72 = .ok (.ireturn, 1) := by decide +kernel
theorem dX12_fitsOf_0 : decode cX12_fitsOf 0 = .ok (.iconst 0, 1) := by decide +kernel
theorem dX12_fitsOf_1 : decode cX12_fitsOf 1 = .ok (.istore_n 2, 1) := by decide +kernel
theorem dX12_fitsOf_2 : decode cX12_fitsOf 2 = .ok (.bipush (-3), 2) := by decide +kernel
theorem dX12_fitsOf_4 : decode cX12_fitsOf 4 = .ok (.istore_n 3, 1) := by decide +kernel
theorem dX12_fitsOf_5 : decode cX12_fitsOf 5 = .ok (.iload_n 3, 1) := by decide +kernel
theorem dX12_fitsOf_6 : decode cX12_fitsOf 6 = .ok (.iconst 3, 1) := by decide +kernel
theorem dX12_fitsOf_7 : decode cX12_fitsOf 7 = .ok (.if_icmp .gt 44, 3) := by decide +kernel
theorem dX12_fitsOf_10 : decode cX12_fitsOf 10 = .ok (.bipush (-3), 2) := by decide +kernel
theorem dX12_fitsOf_12 : decode cX12_fitsOf 12 = .ok (.istore 4, 2) := by decide +kernel
theorem dX12_fitsOf_14 : decode cX12_fitsOf 14 = .ok (.iload 4, 2) := by decide +kernel
theorem dX12_fitsOf_16 : decode cX12_fitsOf 16 = .ok (.iconst 3, 1) := by decide +kernel
theorem dX12_fitsOf_17 : decode cX12_fitsOf 17 = .ok (.if_icmp .gt 28, 3) := by decide +kernel
theorem dX12_fitsOf_20 : decode cX12_fitsOf 20 = .ok (.iload_n 2, 1) := by decide +kernel
theorem dX12_fitsOf_21 : decode cX12_fitsOf 21 = .ok (.aload_n 0, 1) := by decide +kernel
theorem dX12_fitsOf_22 : decode cX12_fitsOf 22 = .ok (.iload_n 1, 1) := by decide +kernel
theorem dX12_fitsOf_23 : decode cX12_fitsOf 23 = .ok (.iload_n 3, 1) := by decide +kernel
theorem dX12_fitsOf_24 : decode cX12_fitsOf 24 = .ok (.iload 4, 2) := by decide +kernel
theorem dX12_fitsOf_26 : decode cX12_fitsOf 26 = .ok (.invokevirtual 389, 3) := by decide +kernel
theorem dX12_fitsOf_29 : decode cX12_fitsOf 29 = .ok (.ifCond .eq 7, 3) := by decide +kernel
theorem dX12_fitsOf_36 : decode cX12_fitsOf 36 = .ok (.iconst 0, 1) := by decide +kernel
theorem dX12_fitsOf_37 : decode cX12_fitsOf 37 = .ok (.iadd, 1) := by decide +kernel
theorem dX12_fitsOf_38 : decode cX12_fitsOf 38 = .ok (.istore_n 2, 1) := by decide +kernel
theorem dX12_fitsOf_39 : decode cX12_fitsOf 39 = .ok (.iinc 4 1, 3) := by decide +kernel
theorem dX12_fitsOf_42 : decode cX12_fitsOf 42 = .ok (.goto (-28), 3) := by decide +kernel
theorem dX12_fitsOf_32 : decode cX12_fitsOf 32 = .ok (.iconst 1, 1) := by decide +kernel
theorem dX12_fitsOf_33 : decode cX12_fitsOf 33 = .ok (.goto 4, 3) := by decide +kernel
theorem dX12_fitsOf_45 : decode cX12_fitsOf 45 = .ok (.iinc 3 1, 3) := by decide +kernel
theorem dX12_fitsOf_48 : decode cX12_fitsOf 48 = .ok (.goto (-43), 3) := by decide +kernel
theorem dX12_fitsOf_51 : decode cX12_fitsOf 51 = .ok (.iload_n 2, 1) := by decide +kernel
theorem dX12_fitsOf_52 : decode cX12_fitsOf 52 = .ok (.ireturn, 1) := by decide +kernel
theorem dX12_whyNot_0 : decode cX12_whyNot 0 = .ok (.iload_n 1, 1) := by decide +kernel
theorem dX12_whyNot_1 : decode cX12_whyNot 1 = .ok (.invokestatic 83, 3) := by decide +kernel
theorem dX12_whyNot_4 : decode cX12_whyNot 4 = .ok (.ifCond .eq 10, 3) := by decide +kernel
theorem dX12_whyNot_14 : decode cX12_whyNot 14 = .ok (.bipush (-2), 2) := by decide +kernel
theorem dX12_whyNot_16 : decode cX12_whyNot 16 = .ok (.ireturn, 1) := by decide +kernel
theorem dX12_whyNot_7 : decode cX12_whyNot 7 = .ok (.aload_n 0, 1) := by decide +kernel
theorem dX12_whyNot_8 : decode cX12_whyNot 8 = .ok (.invokevirtual 250, 3) := by decide +kernel
theorem dX12_whyNot_11 : decode cX12_whyNot 11 = .ok (.ifCond .ne 6, 3) := by decide +kernel
theorem dX12_whyNot_17 : decode cX12_whyNot 17 = .ok (.aload_n 0, 1) := by decide +kernel
theorem dX12_whyNot_18 : decode cX12_whyNot 18 = .ok (.getfield 7, 3) := by decide +kernel
theorem dX12_whyNot_21 : decode cX12_whyNot 21 = .ok (.iload_n 1, 1) := by decide +kernel
theorem dX12_whyNot_22 : decode cX12_whyNot 22 = .ok (.iaload, 1) := by decide +kernel
theorem dX12_whyNot_23 : decode cX12_whyNot 23 = .ok (.iconst (-1), 1) := by decide +kernel
theorem dX12_whyNot_24 : decode cX12_whyNot 24 = .ok (.if_icmp .ne 6, 3) := by decide +kernel
theorem dX12_whyNot_30 : decode cX12_whyNot 30 = .ok (.aload_n 0, 1) := by decide +kernel
theorem dX12_whyNot_31 : decode cX12_whyNot 31 = .ok (.getfield 13, 3) := by decide +kernel
theorem dX12_whyNot_34 : decode cX12_whyNot 34 = .ok (.iload_n 1, 1) := by decide +kernel
theorem dX12_whyNot_35 : decode cX12_whyNot 35 = .ok (.iaload, 1) := by decide +kernel
theorem dX12_whyNot_36 : decode cX12_whyNot 36 = .ok (.iconst 4, 1) := by decide +kernel
theorem dX12_whyNot_37 : decode cX12_whyNot 37 = .ok (.irem, 1) := by decide +kernel
theorem dX12_whyNot_38 : decode cX12_whyNot 38 = .ok (.ifCond .eq 6, 3) := by decide +kernel
theorem dX12_whyNot_44 : decode cX12_whyNot 44 = .ok (.iconst 0, 1) := by decide +kernel
theorem dX12_whyNot_45 : decode cX12_whyNot 45 = .ok (.istore_n 2, 1) := by decide +kernel
theorem dX12_whyNot_46 : decode cX12_whyNot 46 = .ok (.iload_n 2, 1) := by decide +kernel
theorem dX12_whyNot_47 : decode cX12_whyNot 47 = .ok (.aload_n 0, 1) := by decide +kernel
theorem dX12_whyNot_48 : decode cX12_whyNot 48 = .ok (.getfield 13, 3) := by decide +kernel
theorem dX12_whyNot_51 : decode cX12_whyNot 51 = .ok (.iload_n 1, 1) := by decide +kernel
theorem dX12_whyNot_52 : decode cX12_whyNot 52 = .ok (.iaload, 1) := by decide +kernel
theorem dX12_whyNot_53 : decode cX12_whyNot 53 = .ok (.if_icmp .ge 90, 3) := by decide +kernel
theorem dX12_whyNot_143 : decode cX12_whyNot 143 = .ok (.iconst 0, 1) := by decide +kernel
theorem dX12_whyNot_144 : decode cX12_whyNot 144 = .ok (.ireturn, 1) := by decide +kernel
theorem dX12_whyNot_56 : decode cX12_whyNot 56 = .ok (.bipush 60, 2) := by decide +kernel
theorem dX12_whyNot_58 : decode cX12_whyNot 58 = .ok (.iload_n 1, 1) := by decide +kernel
theorem dX12_whyNot_59 : decode cX12_whyNot 59 = .ok (.imul, 1) := by decide +kernel
theorem dX12_whyNot_60 : decode cX12_whyNot 60 = .ok (.iload_n 2, 1) := by decide +kernel
theorem dX12_whyNot_61 : decode cX12_whyNot 61 = .ok (.iadd, 1) := by decide +kernel
theorem dX12_whyNot_62 : decode cX12_whyNot 62 = .ok (.istore_n 3, 1) := by decide +kernel
theorem dX12_whyNot_63 : decode cX12_whyNot 63 = .ok (.aload_n 0, 1) := by decide +kernel
theorem dX12_whyNot_64 : decode cX12_whyNot 64 = .ok (.aload_n 0, 1) := by decide +kernel
theorem dX12_whyNot_65 : decode cX12_whyNot 65 = .ok (.getfield 16, 3) := by decide +kernel
theorem dX12_whyNot_68 : decode cX12_whyNot 68 = .ok (.iload_n 3, 1) := by decide +kernel
theorem dX12_whyNot_69 : decode cX12_whyNot 69 = .ok (.laload, 1) := by decide +kernel
theorem dX12_whyNot_70 : decode cX12_whyNot 70 = .ok (.invokevirtual 268, 3) := by decide +kernel
theorem dX12_whyNot_73 : decode cX12_whyNot 73 = .ok (.ifCond .eq 61, 3) := by decide +kernel
theorem dX12_whyNot_134 : decode cX12_whyNot 134 = .ok (.bipush (-2), 2) := by decide +kernel
theorem dX12_whyNot_136 : decode cX12_whyNot 136 = .ok (.ireturn, 1) := by decide +kernel
theorem dX12_whyNot_76 : decode cX12_whyNot 76 = .ok (.aload_n 0, 1) := by decide +kernel
theorem dX12_whyNot_77 : decode cX12_whyNot 77 = .ok (.getfield 16, 3) := by decide +kernel
theorem dX12_whyNot_80 : decode cX12_whyNot 80 = .ok (.iload_n 3, 1) := by decide +kernel
theorem dX12_whyNot_81 : decode cX12_whyNot 81 = .ok (.iconst 1, 1) := by decide +kernel
theorem dX12_whyNot_82 : decode cX12_whyNot 82 = .ok (.iadd, 1) := by decide +kernel
theorem dX12_whyNot_83 : decode cX12_whyNot 83 = .ok (.laload, 1) := by decide +kernel
theorem dX12_whyNot_84 : decode cX12_whyNot 84 = .ok (.lconst 0, 1) := by decide +kernel
theorem dX12_whyNot_85 : decode cX12_whyNot 85 = .ok (.ldc2_w 325, 3) := by decide +kernel
theorem dX12_whyNot_88 : decode cX12_whyNot 88 = .ok (.invokestatic 79, 3) := by decide +kernel
theorem dX12_whyNot_91 : decode cX12_whyNot 91 = .ok (.ifCond .eq 43, 3) := by decide +kernel
theorem dX12_whyNot_94 : decode cX12_whyNot 94 = .ok (.aload_n 0, 1) := by decide +kernel
theorem dX12_whyNot_95 : decode cX12_whyNot 95 = .ok (.getfield 16, 3) := by decide +kernel
theorem dX12_whyNot_98 : decode cX12_whyNot 98 = .ok (.iload_n 3, 1) := by decide +kernel
theorem dX12_whyNot_99 : decode cX12_whyNot 99 = .ok (.iconst 2, 1) := by decide +kernel
theorem dX12_whyNot_100 : decode cX12_whyNot 100 = .ok (.iadd, 1) := by decide +kernel
theorem dX12_whyNot_101 : decode cX12_whyNot 101 = .ok (.laload, 1) := by decide +kernel
theorem dX12_whyNot_102 : decode cX12_whyNot 102 = .ok (.aload_n 0, 1) := by decide +kernel
theorem dX12_whyNot_103 : decode cX12_whyNot 103 = .ok (.getfield 16, 3) := by decide +kernel
theorem dX12_whyNot_106 : decode cX12_whyNot 106 = .ok (.iload_n 3, 1) := by decide +kernel
theorem dX12_whyNot_107 : decode cX12_whyNot 107 = .ok (.iconst 1, 1) := by decide +kernel
theorem dX12_whyNot_108 : decode cX12_whyNot 108 = .ok (.iadd, 1) := by decide +kernel
theorem dX12_whyNot_109 : decode cX12_whyNot 109 = .ok (.laload, 1) := by decide +kernel
theorem dX12_whyNot_110 : decode cX12_whyNot 110 = .ok (.ldc2_w 325, 3) := by decide +kernel
theorem dX12_whyNot_113 : decode cX12_whyNot 113 = .ok (.invokestatic 79, 3) := by decide +kernel
theorem dX12_whyNot_116 : decode cX12_whyNot 116 = .ok (.ifCond .eq 18, 3) := by decide +kernel
theorem dX12_whyNot_119 : decode cX12_whyNot 119 = .ok (.aload_n 0, 1) := by decide +kernel
theorem dX12_whyNot_120 : decode cX12_whyNot 120 = .ok (.aload_n 0, 1) := by decide +kernel
theorem dX12_whyNot_121 : decode cX12_whyNot 121 = .ok (.getfield 16, 3) := by decide +kernel
theorem dX12_whyNot_124 : decode cX12_whyNot 124 = .ok (.iload_n 3, 1) := by decide +kernel
theorem dX12_whyNot_125 : decode cX12_whyNot 125 = .ok (.iconst 3, 1) := by decide +kernel
theorem dX12_whyNot_126 : decode cX12_whyNot 126 = .ok (.iadd, 1) := by decide +kernel
theorem dX12_whyNot_127 : decode cX12_whyNot 127 = .ok (.laload, 1) := by decide +kernel
theorem dX12_whyNot_128 : decode cX12_whyNot 128 = .ok (.invokevirtual 268, 3) := by decide +kernel
theorem dX12_whyNot_131 : decode cX12_whyNot 131 = .ok (.ifCond .ne 6, 3) := by decide +kernel
theorem dX12_whyNot_137 : decode cX12_whyNot 137 = .ok (.iinc 2 4, 3) := by decide +kernel
theorem dX12_whyNot_140 : decode cX12_whyNot 140 = .ok (.goto (-94), 3) := by decide +kernel
theorem dX12_whyNot_41 : decode cX12_whyNot 41 = .ok (.bipush (-2), 2) := by decide +kernel
theorem dX12_whyNot_43 : decode cX12_whyNot 43 = .ok (.ireturn, 1) := by decide +kernel
theorem dX12_whyNot_27 : decode cX12_whyNot 27 = .ok (.bipush (-6), 2) := by decide +kernel
theorem dX12_whyNot_29 : decode cX12_whyNot 29 = .ok (.ireturn, 1) := by decide +kernel
theorem dX12_laysAsk_0 : decode cX12_laysAsk 0 = .ok (.aload_n 0, 1) := by decide +kernel
theorem dX12_laysAsk_1 : decode cX12_laysAsk 1 = .ok (.aload_n 0, 1) := by decide +kernel
theorem dX12_laysAsk_2 : decode cX12_laysAsk 2 = .ok (.iload_n 1, 1) := by decide +kernel
theorem dX12_laysAsk_3 : decode cX12_laysAsk 3 = .ok (.invokevirtual 395, 3) := by decide +kernel
theorem dX12_laysAsk_6 : decode cX12_laysAsk 6 = .ok (.putfield 401, 3) := by decide +kernel
theorem dX12_laysAsk_9 : decode cX12_laysAsk 9 = .ok (.aload_n 0, 1) := by decide +kernel
theorem dX12_laysAsk_10 : decode cX12_laysAsk 10 = .ok (.iconst (-1), 1) := by decide +kernel
theorem dX12_laysAsk_11 : decode cX12_laysAsk 11 = .ok (.putfield 404, 3) := by decide +kernel
theorem dX12_laysAsk_14 : decode cX12_laysAsk 14 = .ok (.iconst 0, 1) := by decide +kernel
theorem dX12_laysAsk_15 : decode cX12_laysAsk 15 = .ok (.istore_n 2, 1) := by decide +kernel
theorem dX12_laysAsk_16 : decode cX12_laysAsk 16 = .ok (.iload_n 2, 1) := by decide +kernel
theorem dX12_laysAsk_17 : decode cX12_laysAsk 17 = .ok (.aload_n 0, 1) := by decide +kernel
theorem dX12_laysAsk_18 : decode cX12_laysAsk 18 = .ok (.getfield 34, 3) := by decide +kernel
theorem dX12_laysAsk_21 : decode cX12_laysAsk 21 = .ok (.iconst 0, 1) := by decide +kernel
theorem dX12_laysAsk_22 : decode cX12_laysAsk 22 = .ok (.iaload, 1) := by decide +kernel
theorem dX12_laysAsk_23 : decode cX12_laysAsk 23 = .ok (.if_icmp .ge 139, 3) := by decide +kernel
theorem dX12_laysAsk_26 : decode cX12_laysAsk 26 = .ok (.iconst 0, 1) := by decide +kernel
theorem dX12_laysAsk_27 : decode cX12_laysAsk 27 = .ok (.istore_n 3, 1) := by decide +kernel
theorem dX12_laysAsk_28 : decode cX12_laysAsk 28 = .ok (.iconst 0, 1) := by decide +kernel
theorem dX12_laysAsk_29 : decode cX12_laysAsk 29 = .ok (.istore 4, 2) := by decide +kernel
theorem dX12_laysAsk_31 : decode cX12_laysAsk 31 = .ok (.iload 4, 2) := by decide +kernel
theorem dX12_laysAsk_33 : decode cX12_laysAsk 33 = .ok (.aload_n 0, 1) := by decide +kernel
theorem dX12_laysAsk_34 : decode cX12_laysAsk 34 = .ok (.getfield 34, 3) := by decide +kernel
theorem dX12_laysAsk_37 : decode cX12_laysAsk 37 = .ok (.iconst 0, 1) := by decide +kernel
theorem dX12_laysAsk_38 : decode cX12_laysAsk 38 = .ok (.iaload, 1) := by decide +kernel
theorem dX12_laysAsk_39 : decode cX12_laysAsk 39 = .ok (.if_icmp .ge 96, 3) := by decide +kernel
theorem dX12_laysAsk_42 : decode cX12_laysAsk 42 = .ok (.iconst 0, 1) := by decide +kernel
theorem dX12_laysAsk_43 : decode cX12_laysAsk 43 = .ok (.istore 5, 2) := by decide +kernel
theorem dX12_laysAsk_45 : decode cX12_laysAsk 45 = .ok (.bipush (-3), 2) := by decide +kernel
theorem dX12_laysAsk_47 : decode cX12_laysAsk 47 = .ok (.istore 6, 2) := by decide +kernel
theorem dX12_laysAsk_49 : decode cX12_laysAsk 49 = .ok (.iload 6, 2) := by decide +kernel
theorem dX12_laysAsk_51 : decode cX12_laysAsk 51 = .ok (.iconst 3, 1) := by decide +kernel
theorem dX12_laysAsk_52 : decode cX12_laysAsk 52 = .ok (.if_icmp .gt 64, 3) := by decide +kernel
theorem dX12_laysAsk_55 : decode cX12_laysAsk 55 = .ok (.bipush (-3), 2) := by decide +kernel
theorem dX12_laysAsk_57 : decode cX12_laysAsk 57 = .ok (.istore 7, 2) := by decide +kernel
theorem dX12_laysAsk_59 : decode cX12_laysAsk 59 = .ok (.iload 7, 2) := by decide +kernel
theorem dX12_laysAsk_61 : decode cX12_laysAsk 61 = .ok (.iconst 3, 1) := by decide +kernel
theorem dX12_laysAsk_62 : decode cX12_laysAsk 62 = .ok (.if_icmp .gt 48, 3) := by decide +kernel
theorem dX12_laysAsk_65 : decode cX12_laysAsk 65 = .ok (.iload 5, 2) := by decide +kernel
theorem dX12_laysAsk_67 : decode cX12_laysAsk 67 = .ok (.aload_n 0, 1) := by decide +kernel
theorem dX12_laysAsk_68 : decode cX12_laysAsk 68 = .ok (.iload_n 1, 1) := by decide +kernel
theorem dX12_laysAsk_69 : decode cX12_laysAsk 69 = .ok (.iload 6, 2) := by decide +kernel
theorem dX12_laysAsk_71 : decode cX12_laysAsk 71 = .ok (.iload 7, 2) := by decide +kernel
theorem dX12_laysAsk_73 : decode cX12_laysAsk 73 = .ok (.invokevirtual 389, 3) := by decide +kernel
theorem dX12_laysAsk_76 : decode cX12_laysAsk 76 = .ok (.ifCond .eq 24, 3) := by decide +kernel
theorem dX12_laysAsk_100 : decode cX12_laysAsk 100 = .ok (.iconst 0, 1) := by decide +kernel
theorem dX12_laysAsk_101 : decode cX12_laysAsk 101 = .ok (.iadd, 1) := by decide +kernel
theorem dX12_laysAsk_102 : decode cX12_laysAsk 102 = .ok (.istore 5, 2) := by decide +kernel
theorem dX12_laysAsk_104 : decode cX12_laysAsk 104 = .ok (.iinc 7 1, 3) := by decide +kernel
theorem dX12_laysAsk_107 : decode cX12_laysAsk 107 = .ok (.goto (-48), 3) := by decide +kernel
theorem dX12_laysAsk_79 : decode cX12_laysAsk 79 = .ok (.aload_n 0, 1) := by decide +kernel
theorem dX12_laysAsk_80 : decode cX12_laysAsk 80 = .ok (.iload_n 2, 1) := by decide +kernel
theorem dX12_laysAsk_81 : decode cX12_laysAsk 81 = .ok (.iconst 0, 1) := by decide +kernel
theorem dX12_laysAsk_82 : decode cX12_laysAsk 82 = .ok (.bipush 12, 2) := by decide +kernel
theorem dX12_laysAsk_84 : decode cX12_laysAsk 84 = .ok (.iload 6, 2) := by decide +kernel
theorem dX12_laysAsk_86 : decode cX12_laysAsk 86 = .ok (.iload 7, 2) := by decide +kernel
theorem dX12_laysAsk_88 : decode cX12_laysAsk 88 = .ok (.invokevirtual 385, 3) := by decide +kernel
theorem dX12_laysAsk_91 : decode cX12_laysAsk 91 = .ok (.iload 4, 2) := by decide +kernel
theorem dX12_laysAsk_93 : decode cX12_laysAsk 93 = .ok (.if_icmp .ne 7, 3) := by decide +kernel
theorem dX12_laysAsk_96 : decode cX12_laysAsk 96 = .ok (.iconst 1, 1) := by decide +kernel
theorem dX12_laysAsk_97 : decode cX12_laysAsk 97 = .ok (.goto 4, 3) := by decide +kernel
theorem dX12_laysAsk_110 : decode cX12_laysAsk 110 = .ok (.iinc 6 1, 3) := by decide +kernel
theorem dX12_laysAsk_113 : decode cX12_laysAsk 113 = .ok (.goto (-64), 3) := by decide +kernel
theorem dX12_laysAsk_116 : decode cX12_laysAsk 116 = .ok (.iload 5, 2) := by decide +kernel
theorem dX12_laysAsk_118 : decode cX12_laysAsk 118 = .ok (.iload_n 3, 1) := by decide +kernel
theorem dX12_laysAsk_119 : decode cX12_laysAsk 119 = .ok (.if_icmp .le 8, 3) := by decide +kernel
theorem dX12_laysAsk_127 : decode cX12_laysAsk 127 = .ok (.iload_n 3, 1) := by decide +kernel
theorem dX12_laysAsk_128 : decode cX12_laysAsk 128 = .ok (.istore_n 3, 1) := by decide +kernel
theorem dX12_laysAsk_129 : decode cX12_laysAsk 129 = .ok (.iinc 4 1, 3) := by decide +kernel
theorem dX12_laysAsk_132 : decode cX12_laysAsk 132 = .ok (.goto (-101), 3) := by decide +kernel
theorem dX12_laysAsk_122 : decode cX12_laysAsk 122 = .ok (.iload 5, 2) := by decide +kernel
theorem dX12_laysAsk_124 : decode cX12_laysAsk 124 = .ok (.goto 4, 3) := by decide +kernel
theorem dX12_laysAsk_135 : decode cX12_laysAsk 135 = .ok (.iload_n 3, 1) := by decide +kernel
theorem dX12_laysAsk_136 : decode cX12_laysAsk 136 = .ok (.aload_n 0, 1) := by decide +kernel
theorem dX12_laysAsk_137 : decode cX12_laysAsk 137 = .ok (.getfield 401, 3) := by decide +kernel
theorem dX12_laysAsk_140 : decode cX12_laysAsk 140 = .ok (.if_icmp .lt 6, 3) := by decide +kernel
theorem dX12_laysAsk_146 : decode cX12_laysAsk 146 = .ok (.aload_n 0, 1) := by decide +kernel
theorem dX12_laysAsk_147 : decode cX12_laysAsk 147 = .ok (.iload_n 2, 1) := by decide +kernel
theorem dX12_laysAsk_148 : decode cX12_laysAsk 148 = .ok (.putfield 404, 3) := by decide +kernel
theorem dX12_laysAsk_151 : decode cX12_laysAsk 151 = .ok (.aload_n 0, 1) := by decide +kernel
theorem dX12_laysAsk_152 : decode cX12_laysAsk 152 = .ok (.iload_n 3, 1) := by decide +kernel
theorem dX12_laysAsk_153 : decode cX12_laysAsk 153 = .ok (.putfield 401, 3) := by decide +kernel
theorem dX12_laysAsk_156 : decode cX12_laysAsk 156 = .ok (.iinc 2 1, 3) := by decide +kernel
theorem dX12_laysAsk_159 : decode cX12_laysAsk 159 = .ok (.goto (-143), 3) := by decide +kernel
theorem dX12_laysAsk_143 : decode cX12_laysAsk 143 = .ok (.goto 13, 3) := by decide +kernel
theorem dX12_laysAsk_162 : decode cX12_laysAsk 162 = .ok (.return_, 1) := by decide +kernel
theorem dX12_isFull_0 : decode cX12_isFull 0 = .ok (.aload_n 0, 1) := by decide +kernel
theorem dX12_isFull_1 : decode cX12_isFull 1 = .ok (.getfield 34, 3) := by decide +kernel
theorem dX12_isFull_4 : decode cX12_isFull 4 = .ok (.bipush 9, 2) := by decide +kernel
theorem dX12_isFull_6 : decode cX12_isFull 6 = .ok (.iaload, 1) := by decide +kernel
theorem dX12_isFull_7 : decode cX12_isFull 7 = .ok (.bipush 40, 2) := by decide +kernel
theorem dX12_isFull_9 : decode cX12_isFull 9 = .ok (.if_icmp .ne 7, 3) := by decide +kernel
theorem dX12_isFull_16 : decode cX12_isFull 16 = .ok (.iconst 0, 1) := by decide +kernel
theorem dX12_isFull_17 : decode cX12_isFull 17 = .ok (.ireturn, 1) := by decide +kernel
theorem dX12_isFull_12 : decode cX12_isFull 12 = .ok (.iconst 1, 1) := by decide +kernel
theorem dX12_isFull_13 : decode cX12_isFull 13 = .ok (.goto 4, 3) := by decide +kernel
theorem dX12_isDraw_0 : decode cX12_isDraw 0 = .ok (.iload_n 1, 1) := by decide +kernel
theorem dX12_isDraw_1 : decode cX12_isDraw 1 = .ok (.i2l, 1) := by decide +kernel
theorem dX12_isDraw_2 : decode cX12_isDraw 2 = .ok (.lconst 0, 1) := by decide +kernel
theorem dX12_isDraw_3 : decode cX12_isDraw 3 = .ok (.ldc2_w 282, 3) := by decide +kernel
theorem dX12_isDraw_6 : decode cX12_isDraw 6 = .ok (.invokestatic 79, 3) := by decide +kernel
theorem dX12_isDraw_9 : decode cX12_isDraw 9 = .ok (.ifCond .eq 15, 3) := by decide +kernel
theorem dX12_isDraw_24 : decode cX12_isDraw 24 = .ok (.iconst 0, 1) := by decide +kernel
theorem dX12_isDraw_25 : decode cX12_isDraw 25 = .ok (.ireturn, 1) := by decide +kernel
theorem dX12_isDraw_12 : decode cX12_isDraw 12 = .ok (.aload_n 0, 1) := by decide +kernel
theorem dX12_isDraw_13 : decode cX12_isDraw 13 = .ok (.iload_n 2, 1) := by decide +kernel
theorem dX12_isDraw_14 : decode cX12_isDraw 14 = .ok (.invokevirtual 276, 3) := by decide +kernel
theorem dX12_isDraw_17 : decode cX12_isDraw 17 = .ok (.ifCond .eq 7, 3) := by decide +kernel
theorem dX12_isDraw_20 : decode cX12_isDraw 20 = .ok (.iconst 1, 1) := by decide +kernel
theorem dX12_isDraw_21 : decode cX12_isDraw 21 = .ok (.goto 4, 3) := by decide +kernel
theorem dX12_sizeOf_0 : decode cX12_sizeOf 0 = .ok (.iconst 0, 1) := by decide +kernel
theorem dX12_sizeOf_1 : decode cX12_sizeOf 1 = .ok (.istore_n 1, 1) := by decide +kernel
theorem dX12_sizeOf_2 : decode cX12_sizeOf 2 = .ok (.iload_n 0, 1) := by decide +kernel
theorem dX12_sizeOf_3 : decode cX12_sizeOf 3 = .ok (.istore_n 2, 1) := by decide +kernel
theorem dX12_sizeOf_4 : decode cX12_sizeOf 4 = .ok (.iload_n 2, 1) := by decide +kernel
theorem dX12_sizeOf_5 : decode cX12_sizeOf 5 = .ok (.ifCond .eq 15, 3) := by decide +kernel
theorem dX12_sizeOf_20 : decode cX12_sizeOf 20 = .ok (.iload_n 1, 1) := by decide +kernel
theorem dX12_sizeOf_21 : decode cX12_sizeOf 21 = .ok (.ireturn, 1) := by decide +kernel
theorem dX12_sizeOf_8 : decode cX12_sizeOf 8 = .ok (.iinc 1 1, 3) := by decide +kernel
theorem dX12_sizeOf_11 : decode cX12_sizeOf 11 = .ok (.iload_n 2, 1) := by decide +kernel
theorem dX12_sizeOf_12 : decode cX12_sizeOf 12 = .ok (.iload_n 2, 1) := by decide +kernel
theorem dX12_sizeOf_13 : decode cX12_sizeOf 13 = .ok (.iconst 1, 1) := by decide +kernel
theorem dX12_sizeOf_14 : decode cX12_sizeOf 14 = .ok (.isub, 1) := by decide +kernel
theorem dX12_sizeOf_15 : decode cX12_sizeOf 15 = .ok (.iand, 1) := by decide +kernel
theorem dX12_sizeOf_16 : decode cX12_sizeOf 16 = .ok (.istore_n 2, 1) := by decide +kernel
theorem dX12_sizeOf_17 : decode cX12_sizeOf 17 = .ok (.goto (-13), 3) := by decide +kernel
theorem dX12_lays_0 : decode cX12_lays 0 = .ok (.iconst 0, 1) := by decide +kernel
theorem dX12_lays_1 : decode cX12_lays 1 = .ok (.istore_n 1, 1) := by decide +kernel
theorem dX12_lays_2 : decode cX12_lays 2 = .ok (.iload_n 1, 1) := by decide +kernel
theorem dX12_lays_3 : decode cX12_lays 3 = .ok (.aload_n 0, 1) := by decide +kernel
theorem dX12_lays_4 : decode cX12_lays 4 = .ok (.getfield 34, 3) := by decide +kernel
theorem dX12_lays_7 : decode cX12_lays 7 = .ok (.bipush 8, 2) := by decide +kernel
theorem dX12_lays_9 : decode cX12_lays 9 = .ok (.iaload, 1) := by decide +kernel
theorem dX12_lays_10 : decode cX12_lays 10 = .ok (.if_icmp .ge 21, 3) := by decide +kernel
theorem dX12_lays_31 : decode cX12_lays 31 = .ok (.iconst 0, 1) := by decide +kernel
theorem dX12_lays_32 : decode cX12_lays 32 = .ok (.istore_n 1, 1) := by decide +kernel
theorem dX12_lays_33 : decode cX12_lays 33 = .ok (.iload_n 1, 1) := by decide +kernel
theorem dX12_lays_34 : decode cX12_lays 34 = .ok (.sipush 3208, 3) := by decide +kernel
theorem dX12_lays_37 : decode cX12_lays 37 = .ok (.if_icmp .ge 16, 3) := by decide +kernel
theorem dX12_lays_40 : decode cX12_lays 40 = .ok (.aload_n 0, 1) := by decide +kernel
theorem dX12_lays_41 : decode cX12_lays 41 = .ok (.getfield 59, 3) := by decide +kernel
theorem dX12_lays_44 : decode cX12_lays 44 = .ok (.iload_n 1, 1) := by decide +kernel
theorem dX12_lays_45 : decode cX12_lays 45 = .ok (.iconst 0, 1) := by decide +kernel
theorem dX12_lays_46 : decode cX12_lays 46 = .ok (.iastore, 1) := by decide +kernel
theorem dX12_lays_47 : decode cX12_lays 47 = .ok (.iinc 1 1, 3) := by decide +kernel
theorem dX12_lays_50 : decode cX12_lays 50 = .ok (.goto (-17), 3) := by decide +kernel
theorem dX12_lays_53 : decode cX12_lays 53 = .ok (.iconst 0, 1) := by decide +kernel
theorem dX12_lays_54 : decode cX12_lays 54 = .ok (.istore_n 1, 1) := by decide +kernel
theorem dX12_lays_55 : decode cX12_lays 55 = .ok (.iload_n 1, 1) := by decide +kernel
theorem dX12_lays_56 : decode cX12_lays 56 = .ok (.aload_n 0, 1) := by decide +kernel
theorem dX12_lays_57 : decode cX12_lays 57 = .ok (.getfield 34, 3) := by decide +kernel
theorem dX12_lays_60 : decode cX12_lays 60 = .ok (.bipush 9, 2) := by decide +kernel
theorem dX12_lays_62 : decode cX12_lays 62 = .ok (.iaload, 1) := by decide +kernel
theorem dX12_lays_63 : decode cX12_lays 63 = .ok (.if_icmp .ge 90, 3) := by decide +kernel
theorem dX12_lays_153 : decode cX12_lays 153 = .ok (.return_, 1) := by decide +kernel
theorem dX12_lays_66 : decode cX12_lays 66 = .ok (.aload_n 0, 1) := by decide +kernel
theorem dX12_lays_67 : decode cX12_lays 67 = .ok (.getfield 49, 3) := by decide +kernel
theorem dX12_lays_70 : decode cX12_lays 70 = .ok (.iconst 4, 1) := by decide +kernel
theorem dX12_lays_71 : decode cX12_lays 71 = .ok (.iload_n 1, 1) := by decide +kernel
theorem dX12_lays_72 : decode cX12_lays 72 = .ok (.imul, 1) := by decide +kernel
theorem dX12_lays_73 : decode cX12_lays 73 = .ok (.iaload, 1) := by decide +kernel
theorem dX12_lays_74 : decode cX12_lays 74 = .ok (.ifCond .ne 31, 3) := by decide +kernel
theorem dX12_lays_105 : decode cX12_lays 105 = .ok (.aload_n 0, 1) := by decide +kernel
theorem dX12_lays_106 : decode cX12_lays 106 = .ok (.getfield 59, 3) := by decide +kernel
theorem dX12_lays_109 : decode cX12_lays 109 = .ok (.sipush 401, 3) := by decide +kernel
theorem dX12_lays_112 : decode cX12_lays 112 = .ok (.aload_n 0, 1) := by decide +kernel
theorem dX12_lays_113 : decode cX12_lays 113 = .ok (.getfield 49, 3) := by decide +kernel
theorem dX12_lays_116 : decode cX12_lays 116 = .ok (.iconst 4, 1) := by decide +kernel
theorem dX12_lays_117 : decode cX12_lays 117 = .ok (.iload_n 1, 1) := by decide +kernel
theorem dX12_lays_118 : decode cX12_lays 118 = .ok (.imul, 1) := by decide +kernel
theorem dX12_lays_119 : decode cX12_lays 119 = .ok (.iconst 1, 1) := by decide +kernel
theorem dX12_lays_120 : decode cX12_lays 120 = .ok (.iadd, 1) := by decide +kernel
theorem dX12_lays_121 : decode cX12_lays 121 = .ok (.iaload, 1) := by decide +kernel
theorem dX12_lays_122 : decode cX12_lays 122 = .ok (.imul, 1) := by decide +kernel
theorem dX12_lays_123 : decode cX12_lays 123 = .ok (.aload_n 0, 1) := by decide +kernel
theorem dX12_lays_124 : decode cX12_lays 124 = .ok (.getfield 49, 3) := by decide +kernel
theorem dX12_lays_127 : decode cX12_lays 127 = .ok (.iconst 4, 1) := by decide +kernel
theorem dX12_lays_128 : decode cX12_lays 128 = .ok (.iload_n 1, 1) := by decide +kernel
theorem dX12_lays_129 : decode cX12_lays 129 = .ok (.imul, 1) := by decide +kernel
theorem dX12_lays_130 : decode cX12_lays 130 = .ok (.iconst 2, 1) := by decide +kernel
theorem dX12_lays_131 : decode cX12_lays 131 = .ok (.iadd, 1) := by decide +kernel
theorem dX12_lays_132 : decode cX12_lays 132 = .ok (.iaload, 1) := by decide +kernel
theorem dX12_lays_133 : decode cX12_lays 133 = .ok (.iadd, 1) := by decide +kernel
theorem dX12_lays_134 : decode cX12_lays 134 = .ok (.iconst 1, 1) := by decide +kernel
theorem dX12_lays_135 : decode cX12_lays 135 = .ok (.aload_n 0, 1) := by decide +kernel
theorem dX12_lays_136 : decode cX12_lays 136 = .ok (.getfield 49, 3) := by decide +kernel
theorem dX12_lays_139 : decode cX12_lays 139 = .ok (.iconst 4, 1) := by decide +kernel
theorem dX12_lays_140 : decode cX12_lays 140 = .ok (.iload_n 1, 1) := by decide +kernel
theorem dX12_lays_141 : decode cX12_lays 141 = .ok (.imul, 1) := by decide +kernel
theorem dX12_lays_142 : decode cX12_lays 142 = .ok (.iconst 3, 1) := by decide +kernel
theorem dX12_lays_143 : decode cX12_lays 143 = .ok (.iadd, 1) := by decide +kernel
theorem dX12_lays_144 : decode cX12_lays 144 = .ok (.iaload, 1) := by decide +kernel
theorem dX12_lays_145 : decode cX12_lays 145 = .ok (.iadd, 1) := by decide +kernel
theorem dX12_lays_146 : decode cX12_lays 146 = .ok (.iastore, 1) := by decide +kernel
theorem dX12_lays_147 : decode cX12_lays 147 = .ok (.iinc 1 1, 3) := by decide +kernel
theorem dX12_lays_150 : decode cX12_lays 150 = .ok (.goto (-95), 3) := by decide +kernel
theorem dX12_lays_77 : decode cX12_lays 77 = .ok (.aload_n 0, 1) := by decide +kernel
theorem dX12_lays_78 : decode cX12_lays 78 = .ok (.getfield 56, 3) := by decide +kernel
theorem dX12_lays_81 : decode cX12_lays 81 = .ok (.aload_n 0, 1) := by decide +kernel
theorem dX12_lays_82 : decode cX12_lays 82 = .ok (.getfield 49, 3) := by decide +kernel
theorem dX12_lays_85 : decode cX12_lays 85 = .ok (.iconst 4, 1) := by decide +kernel
theorem dX12_lays_86 : decode cX12_lays 86 = .ok (.iload_n 1, 1) := by decide +kernel
theorem dX12_lays_87 : decode cX12_lays 87 = .ok (.imul, 1) := by decide +kernel
theorem dX12_lays_88 : decode cX12_lays 88 = .ok (.iconst 1, 1) := by decide +kernel
theorem dX12_lays_89 : decode cX12_lays 89 = .ok (.iadd, 1) := by decide +kernel
theorem dX12_lays_90 : decode cX12_lays 90 = .ok (.iaload, 1) := by decide +kernel
theorem dX12_lays_91 : decode cX12_lays 91 = .ok (.aload_n 0, 1) := by decide +kernel
theorem dX12_lays_92 : decode cX12_lays 92 = .ok (.getfield 49, 3) := by decide +kernel
theorem dX12_lays_95 : decode cX12_lays 95 = .ok (.iconst 4, 1) := by decide +kernel
theorem dX12_lays_96 : decode cX12_lays 96 = .ok (.iload_n 1, 1) := by decide +kernel
theorem dX12_lays_97 : decode cX12_lays 97 = .ok (.imul, 1) := by decide +kernel
theorem dX12_lays_98 : decode cX12_lays 98 = .ok (.iconst 2, 1) := by decide +kernel
theorem dX12_lays_99 : decode cX12_lays 99 = .ok (.iadd, 1) := by decide +kernel
theorem dX12_lays_100 : decode cX12_lays 100 = .ok (.iaload, 1) := by decide +kernel
theorem dX12_lays_101 : decode cX12_lays 101 = .ok (.iastore, 1) := by decide +kernel
theorem dX12_lays_102 : decode cX12_lays 102 = .ok (.goto 45, 3) := by decide +kernel
theorem dX12_lays_13 : decode cX12_lays 13 = .ok (.aload_n 0, 1) := by decide +kernel
theorem dX12_lays_14 : decode cX12_lays 14 = .ok (.getfield 56, 3) := by decide +kernel
theorem dX12_lays_17 : decode cX12_lays 17 = .ok (.iload_n 1, 1) := by decide +kernel
theorem dX12_lays_18 : decode cX12_lays 18 = .ok (.aload_n 0, 1) := by decide +kernel
theorem dX12_lays_19 : decode cX12_lays 19 = .ok (.getfield 46, 3) := by decide +kernel
theorem dX12_lays_22 : decode cX12_lays 22 = .ok (.iload_n 1, 1) := by decide +kernel
theorem dX12_lays_23 : decode cX12_lays 23 = .ok (.iaload, 1) := by decide +kernel
theorem dX12_lays_24 : decode cX12_lays 24 = .ok (.iastore, 1) := by decide +kernel
theorem dX12_lays_25 : decode cX12_lays 25 = .ok (.iinc 1 1, 3) := by decide +kernel
theorem dX12_lays_28 : decode cX12_lays 28 = .ok (.goto (-26), 3) := by decide +kernel
theorem dX12_laysStrands_0 : decode cX12_laysStrands 0 = .ok (.aload_n 0, 1) := by decide +kernel
theorem dX12_laysStrands_1 : decode cX12_laysStrands 1 = .ok (.invokevirtual 322, 3) := by decide +kernel
theorem dX12_laysStrands_4 : decode cX12_laysStrands 4 = .ok (.iconst 0, 1) := by decide +kernel
theorem dX12_laysStrands_5 : decode cX12_laysStrands 5 = .ok (.istore_n 1, 1) := by decide +kernel
theorem dX12_laysStrands_6 : decode cX12_laysStrands 6 = .ok (.iload_n 1, 1) := by decide +kernel
theorem dX12_laysStrands_7 : decode cX12_laysStrands 7 = .ok (.aload_n 0, 1) := by decide +kernel
theorem dX12_laysStrands_8 : decode cX12_laysStrands 8 = .ok (.getfield 34, 3) := by decide +kernel
theorem dX12_laysStrands_11 : decode cX12_laysStrands 11 = .ok (.iconst 0, 1) := by decide +kernel
theorem dX12_laysStrands_12 : decode cX12_laysStrands 12 = .ok (.iaload, 1) := by decide +kernel
theorem dX12_laysStrands_13 : decode cX12_laysStrands 13 = .ok (.if_icmp .ge 16, 3) := by decide +kernel
theorem dX12_laysStrands_29 : decode cX12_laysStrands 29 = .ok (.iconst 0, 1) := by decide +kernel
theorem dX12_laysStrands_30 : decode cX12_laysStrands 30 = .ok (.istore_n 1, 1) := by decide +kernel
theorem dX12_laysStrands_31 : decode cX12_laysStrands 31 = .ok (.iload_n 1, 1) := by decide +kernel
theorem dX12_laysStrands_32 : decode cX12_laysStrands 32 = .ok (.aload_n 0, 1) := by decide +kernel
theorem dX12_laysStrands_33 : decode cX12_laysStrands 33 = .ok (.getfield 34, 3) := by decide +kernel
theorem dX12_laysStrands_36 : decode cX12_laysStrands 36 = .ok (.bipush 6, 2) := by decide +kernel
theorem dX12_laysStrands_38 : decode cX12_laysStrands 38 = .ok (.iaload, 1) := by decide +kernel
theorem dX12_laysStrands_39 : decode cX12_laysStrands 39 = .ok (.if_icmp .ge 59, 3) := by decide +kernel
theorem dX12_laysStrands_98 : decode cX12_laysStrands 98 = .ok (.return_, 1) := by decide +kernel
theorem dX12_laysStrands_42 : decode cX12_laysStrands 42 = .ok (.aload_n 0, 1) := by decide +kernel
theorem dX12_laysStrands_43 : decode cX12_laysStrands 43 = .ok (.iload_n 1, 1) := by decide +kernel
theorem dX12_laysStrands_44 : decode cX12_laysStrands 44 = .ok (.invokevirtual 327, 3) := by decide +kernel
theorem dX12_laysStrands_47 : decode cX12_laysStrands 47 = .ok (.aload_n 0, 1) := by decide +kernel
theorem dX12_laysStrands_48 : decode cX12_laysStrands 48 = .ok (.getfield 292, 3) := by decide +kernel
theorem dX12_laysStrands_51 : decode cX12_laysStrands 51 = .ok (.iconst (-1), 1) := by decide +kernel
theorem dX12_laysStrands_52 : decode cX12_laysStrands 52 = .ok (.if_icmp .eq 40, 3) := by decide +kernel
theorem dX12_laysStrands_92 : decode cX12_laysStrands 92 = .ok (.iinc 1 1, 3) := by decide +kernel
theorem dX12_laysStrands_95 : decode cX12_laysStrands 95 = .ok (.goto (-64), 3) := by decide +kernel
theorem dX12_laysStrands_55 : decode cX12_laysStrands 55 = .ok (.aload_n 0, 1) := by decide +kernel
theorem dX12_laysStrands_56 : decode cX12_laysStrands 56 = .ok (.aload_n 0, 1) := by decide +kernel
theorem dX12_laysStrands_57 : decode cX12_laysStrands 57 = .ok (.getfield 292, 3) := by decide +kernel
theorem dX12_laysStrands_60 : decode cX12_laysStrands 60 = .ok (.invokevirtual 262, 3) := by decide +kernel
theorem dX12_laysStrands_63 : decode cX12_laysStrands 63 = .ok (.iconst 1, 1) := by decide +kernel
theorem dX12_laysStrands_64 : decode cX12_laysStrands 64 = .ok (.if_icmp .ne 28, 3) := by decide +kernel
theorem dX12_laysStrands_67 : decode cX12_laysStrands 67 = .ok (.aload_n 0, 1) := by decide +kernel
theorem dX12_laysStrands_68 : decode cX12_laysStrands 68 = .ok (.iconst (-1), 1) := by decide +kernel
theorem dX12_laysStrands_69 : decode cX12_laysStrands 69 = .ok (.iconst 0, 1) := by decide +kernel
theorem dX12_laysStrands_70 : decode cX12_laysStrands 70 = .ok (.invokevirtual 330, 3) := by decide +kernel
theorem dX12_laysStrands_73 : decode cX12_laysStrands 73 = .ok (.iconst (-1), 1) := by decide +kernel
theorem dX12_laysStrands_74 : decode cX12_laysStrands 74 = .ok (.if_icmp .ne 18, 3) := by decide +kernel
theorem dX12_laysStrands_77 : decode cX12_laysStrands 77 = .ok (.aload_n 0, 1) := by decide +kernel
theorem dX12_laysStrands_78 : decode cX12_laysStrands 78 = .ok (.getfield 65, 3) := by decide +kernel
theorem dX12_laysStrands_81 : decode cX12_laysStrands 81 = .ok (.aload_n 0, 1) := by decide +kernel
theorem dX12_laysStrands_82 : decode cX12_laysStrands 82 = .ok (.getfield 289, 3) := by decide +kernel
theorem dX12_laysStrands_85 : decode cX12_laysStrands 85 = .ok (.dup2, 1) := by decide +kernel
theorem dX12_laysStrands_86 : decode cX12_laysStrands 86 = .ok (.iaload, 1) := by decide +kernel
theorem dX12_laysStrands_87 : decode cX12_laysStrands 87 = .ok (.iconst 1, 1) := by decide +kernel
theorem dX12_laysStrands_88 : decode cX12_laysStrands 88 = .ok (.iload_n 1, 1) := by decide +kernel
theorem dX12_laysStrands_89 : decode cX12_laysStrands 89 = .ok (.ishl, 1) := by decide +kernel
theorem dX12_laysStrands_90 : decode cX12_laysStrands 90 = .ok (.ior, 1) := by decide +kernel
theorem dX12_laysStrands_91 : decode cX12_laysStrands 91 = .ok (.iastore, 1) := by decide +kernel
theorem dX12_laysStrands_16 : decode cX12_laysStrands 16 = .ok (.aload_n 0, 1) := by decide +kernel
theorem dX12_laysStrands_17 : decode cX12_laysStrands 17 = .ok (.getfield 65, 3) := by decide +kernel
theorem dX12_laysStrands_20 : decode cX12_laysStrands 20 = .ok (.iload_n 1, 1) := by decide +kernel
theorem dX12_laysStrands_21 : decode cX12_laysStrands 21 = .ok (.iconst 0, 1) := by decide +kernel
theorem dX12_laysStrands_22 : decode cX12_laysStrands 22 = .ok (.iastore, 1) := by decide +kernel
theorem dX12_laysStrands_23 : decode cX12_laysStrands 23 = .ok (.iinc 1 1, 3) := by decide +kernel
theorem dX12_laysStrands_26 : decode cX12_laysStrands 26 = .ok (.goto (-20), 3) := by decide +kernel
theorem dX12_seatOf_0 : decode cX12_seatOf 0 = .ok (.iconst 1, 1) := by decide +kernel
theorem dX12_seatOf_1 : decode cX12_seatOf 1 = .ok (.istore_n 3, 1) := by decide +kernel
theorem dX12_seatOf_2 : decode cX12_seatOf 2 = .ok (.iconst 0, 1) := by decide +kernel
theorem dX12_seatOf_3 : decode cX12_seatOf 3 = .ok (.istore 4, 2) := by decide +kernel
theorem dX12_seatOf_5 : decode cX12_seatOf 5 = .ok (.iload 4, 2) := by decide +kernel
theorem dX12_seatOf_7 : decode cX12_seatOf 7 = .ok (.aload_n 0, 1) := by decide +kernel
theorem dX12_seatOf_8 : decode cX12_seatOf 8 = .ok (.getfield 34, 3) := by decide +kernel
theorem dX12_seatOf_11 : decode cX12_seatOf 11 = .ok (.bipush 8, 2) := by decide +kernel
theorem dX12_seatOf_13 : decode cX12_seatOf 13 = .ok (.iaload, 1) := by decide +kernel
theorem dX12_seatOf_14 : decode cX12_seatOf 14 = .ok (.if_icmp .ge 34, 3) := by decide +kernel
theorem dX12_seatOf_48 : decode cX12_seatOf 48 = .ok (.iconst 0, 1) := by decide +kernel
theorem dX12_seatOf_49 : decode cX12_seatOf 49 = .ok (.istore 4, 2) := by decide +kernel
theorem dX12_seatOf_51 : decode cX12_seatOf 51 = .ok (.iconst 0, 1) := by decide +kernel
theorem dX12_seatOf_52 : decode cX12_seatOf 52 = .ok (.istore 5, 2) := by decide +kernel
theorem dX12_seatOf_54 : decode cX12_seatOf 54 = .ok (.iload 5, 2) := by decide +kernel
theorem dX12_seatOf_56 : decode cX12_seatOf 56 = .ok (.aload_n 0, 1) := by decide +kernel
theorem dX12_seatOf_57 : decode cX12_seatOf 57 = .ok (.getfield 34, 3) := by decide +kernel
theorem dX12_seatOf_60 : decode cX12_seatOf 60 = .ok (.bipush 6, 2) := by decide +kernel
theorem dX12_seatOf_62 : decode cX12_seatOf 62 = .ok (.iaload, 1) := by decide +kernel
theorem dX12_seatOf_63 : decode cX12_seatOf 63 = .ok (.if_icmp .ge 40, 3) := by decide +kernel
theorem dX12_seatOf_103 : decode cX12_seatOf 103 = .ok (.iload 4, 2) := by decide +kernel
theorem dX12_seatOf_105 : decode cX12_seatOf 105 = .ok (.ireturn, 1) := by decide +kernel
theorem dX12_seatOf_66 : decode cX12_seatOf 66 = .ok (.iload 4, 2) := by decide +kernel
theorem dX12_seatOf_68 : decode cX12_seatOf 68 = .ok (.aload_n 0, 1) := by decide +kernel
theorem dX12_seatOf_69 : decode cX12_seatOf 69 = .ok (.getfield 65, 3) := by decide +kernel
theorem dX12_seatOf_72 : decode cX12_seatOf 72 = .ok (.iload_n 2, 1) := by decide +kernel
theorem dX12_seatOf_73 : decode cX12_seatOf 73 = .ok (.iaload, 1) := by decide +kernel
theorem dX12_seatOf_74 : decode cX12_seatOf 74 = .ok (.iload 5, 2) := by decide +kernel
theorem dX12_seatOf_76 : decode cX12_seatOf 76 = .ok (.invokestatic 255, 3) := by decide +kernel
theorem dX12_seatOf_79 : decode cX12_seatOf 79 = .ok (.ifCond .eq 14, 3) := by decide +kernel
theorem dX12_seatOf_93 : decode cX12_seatOf 93 = .ok (.iconst 0, 1) := by decide +kernel
theorem dX12_seatOf_94 : decode cX12_seatOf 94 = .ok (.iadd, 1) := by decide +kernel
theorem dX12_seatOf_95 : decode cX12_seatOf 95 = .ok (.istore 4, 2) := by decide +kernel
theorem dX12_seatOf_97 : decode cX12_seatOf 97 = .ok (.iinc 5 1, 3) := by decide +kernel
theorem dX12_seatOf_100 : decode cX12_seatOf 100 = .ok (.goto (-46), 3) := by decide +kernel
theorem dX12_seatOf_82 : decode cX12_seatOf 82 = .ok (.aload_n 0, 1) := by decide +kernel
theorem dX12_seatOf_83 : decode cX12_seatOf 83 = .ok (.iload 5, 2) := by decide +kernel
theorem dX12_seatOf_85 : decode cX12_seatOf 85 = .ok (.invokevirtual 333, 3) := by decide +kernel
theorem dX12_seatOf_88 : decode cX12_seatOf 88 = .ok (.iload_n 3, 1) := by decide +kernel
theorem dX12_seatOf_89 : decode cX12_seatOf 89 = .ok (.idiv, 1) := by decide +kernel
theorem dX12_seatOf_90 : decode cX12_seatOf 90 = .ok (.goto 4, 3) := by decide +kernel
theorem dX12_seatOf_17 : decode cX12_seatOf 17 = .ok (.iload_n 3, 1) := by decide +kernel
theorem dX12_seatOf_18 : decode cX12_seatOf 18 = .ok (.iload 4, 2) := by decide +kernel
theorem dX12_seatOf_20 : decode cX12_seatOf 20 = .ok (.iload_n 1, 1) := by decide +kernel
theorem dX12_seatOf_21 : decode cX12_seatOf 21 = .ok (.if_icmp .eq 18, 3) := by decide +kernel
theorem dX12_seatOf_39 : decode cX12_seatOf 39 = .ok (.iconst 0, 1) := by decide +kernel
theorem dX12_seatOf_40 : decode cX12_seatOf 40 = .ok (.iadd, 1) := by decide +kernel
theorem dX12_seatOf_41 : decode cX12_seatOf 41 = .ok (.istore_n 3, 1) := by decide +kernel
theorem dX12_seatOf_42 : decode cX12_seatOf 42 = .ok (.iinc 4 1, 3) := by decide +kernel
theorem dX12_seatOf_45 : decode cX12_seatOf 45 = .ok (.goto (-40), 3) := by decide +kernel
theorem dX12_seatOf_24 : decode cX12_seatOf 24 = .ok (.aload_n 0, 1) := by decide +kernel
theorem dX12_seatOf_25 : decode cX12_seatOf 25 = .ok (.getfield 56, 3) := by decide +kernel
theorem dX12_seatOf_28 : decode cX12_seatOf 28 = .ok (.iload 4, 2) := by decide +kernel
theorem dX12_seatOf_30 : decode cX12_seatOf 30 = .ok (.iaload, 1) := by decide +kernel
theorem dX12_seatOf_31 : decode cX12_seatOf 31 = .ok (.iload_n 2, 1) := by decide +kernel
theorem dX12_seatOf_32 : decode cX12_seatOf 32 = .ok (.if_icmp .ne 7, 3) := by decide +kernel
theorem dX12_seatOf_35 : decode cX12_seatOf 35 = .ok (.iconst 1, 1) := by decide +kernel
theorem dX12_seatOf_36 : decode cX12_seatOf 36 = .ok (.goto 4, 3) := by decide +kernel
theorem dX12_rests_0 : decode cX12_rests 0 = .ok (.iload_n 1, 1) := by decide +kernel
theorem dX12_rests_1 : decode cX12_rests 1 = .ok (.aload_n 0, 1) := by decide +kernel
theorem dX12_rests_2 : decode cX12_rests 2 = .ok (.getfield 34, 3) := by decide +kernel
theorem dX12_rests_5 : decode cX12_rests 5 = .ok (.bipush 8, 2) := by decide +kernel
theorem dX12_rests_7 : decode cX12_rests 7 = .ok (.iaload, 1) := by decide +kernel
theorem dX12_rests_8 : decode cX12_rests 8 = .ok (.if_icmp .ge 47, 3) := by decide +kernel
theorem dX12_rests_55 : decode cX12_rests 55 = .ok (.iconst 0, 1) := by decide +kernel
theorem dX12_rests_56 : decode cX12_rests 56 = .ok (.istore_n 2, 1) := by decide +kernel
theorem dX12_rests_57 : decode cX12_rests 57 = .ok (.iload_n 2, 1) := by decide +kernel
theorem dX12_rests_58 : decode cX12_rests 58 = .ok (.aload_n 0, 1) := by decide +kernel
theorem dX12_rests_59 : decode cX12_rests 59 = .ok (.getfield 34, 3) := by decide +kernel
theorem dX12_rests_62 : decode cX12_rests 62 = .ok (.bipush 8, 2) := by decide +kernel
theorem dX12_rests_64 : decode cX12_rests 64 = .ok (.iaload, 1) := by decide +kernel
theorem dX12_rests_65 : decode cX12_rests 65 = .ok (.if_icmp .ge 56, 3) := by decide +kernel
theorem dX12_rests_121 : decode cX12_rests 121 = .ok (.aload_n 0, 1) := by decide +kernel
theorem dX12_rests_122 : decode cX12_rests 122 = .ok (.getfield 419, 3) := by decide +kernel
theorem dX12_rests_125 : decode cX12_rests 125 = .ok (.ifCond .ne 34, 3) := by decide +kernel
theorem dX12_rests_159 : decode cX12_rests 159 = .ok (.aload_n 0, 1) := by decide +kernel
theorem dX12_rests_160 : decode cX12_rests 160 = .ok (.dup, 1) := by decide +kernel
theorem dX12_rests_161 : decode cX12_rests 161 = .ok (.getfield 419, 3) := by decide +kernel
theorem dX12_rests_164 : decode cX12_rests 164 = .ok (.iconst 1, 1) := by decide +kernel
theorem dX12_rests_165 : decode cX12_rests 165 = .ok (.iadd, 1) := by decide +kernel
theorem dX12_rests_166 : decode cX12_rests 166 = .ok (.putfield 419, 3) := by decide +kernel
theorem dX12_rests_169 : decode cX12_rests 169 = .ok (.return_, 1) := by decide +kernel
theorem dX12_rests_128 : decode cX12_rests 128 = .ok (.iconst 0, 1) := by decide +kernel
theorem dX12_rests_129 : decode cX12_rests 129 = .ok (.istore_n 2, 1) := by decide +kernel
theorem dX12_rests_130 : decode cX12_rests 130 = .ok (.iload_n 2, 1) := by decide +kernel
theorem dX12_rests_131 : decode cX12_rests 131 = .ok (.aload_n 0, 1) := by decide +kernel
theorem dX12_rests_132 : decode cX12_rests 132 = .ok (.getfield 34, 3) := by decide +kernel
theorem dX12_rests_135 : decode cX12_rests 135 = .ok (.bipush 8, 2) := by decide +kernel
theorem dX12_rests_137 : decode cX12_rests 137 = .ok (.iaload, 1) := by decide +kernel
theorem dX12_rests_138 : decode cX12_rests 138 = .ok (.if_icmp .ge 21, 3) := by decide +kernel
theorem dX12_rests_68 : decode cX12_rests 68 = .ok (.iconst 0, 1) := by decide +kernel
theorem dX12_rests_69 : decode cX12_rests 69 = .ok (.istore_n 3, 1) := by decide +kernel
theorem dX12_rests_70 : decode cX12_rests 70 = .ok (.iload_n 3, 1) := by decide +kernel
theorem dX12_rests_71 : decode cX12_rests 71 = .ok (.aload_n 0, 1) := by decide +kernel
theorem dX12_rests_72 : decode cX12_rests 72 = .ok (.getfield 34, 3) := by decide +kernel
theorem dX12_rests_75 : decode cX12_rests 75 = .ok (.iconst 0, 1) := by decide +kernel
theorem dX12_rests_76 : decode cX12_rests 76 = .ok (.iaload, 1) := by decide +kernel
theorem dX12_rests_77 : decode cX12_rests 77 = .ok (.if_icmp .ge 38, 3) := by decide +kernel
theorem dX12_rests_115 : decode cX12_rests 115 = .ok (.iinc 2 1, 3) := by decide +kernel
theorem dX12_rests_118 : decode cX12_rests 118 = .ok (.goto (-61), 3) := by decide +kernel
theorem dX12_rests_80 : decode cX12_rests 80 = .ok (.aload_n 0, 1) := by decide +kernel
theorem dX12_rests_81 : decode cX12_rests 81 = .ok (.iload_n 3, 1) := by decide +kernel
theorem dX12_rests_82 : decode cX12_rests 82 = .ok (.invokevirtual 273, 3) := by decide +kernel
theorem dX12_rests_85 : decode cX12_rests 85 = .ok (.ifCond .eq 24, 3) := by decide +kernel
theorem dX12_rests_109 : decode cX12_rests 109 = .ok (.iinc 3 1, 3) := by decide +kernel
theorem dX12_rests_112 : decode cX12_rests 112 = .ok (.goto (-42), 3) := by decide +kernel
theorem dX12_rests_88 : decode cX12_rests 88 = .ok (.aload_n 0, 1) := by decide +kernel
theorem dX12_rests_89 : decode cX12_rests 89 = .ok (.iload_n 2, 1) := by decide +kernel
theorem dX12_rests_90 : decode cX12_rests 90 = .ok (.iload_n 3, 1) := by decide +kernel
theorem dX12_rests_91 : decode cX12_rests 91 = .ok (.invokevirtual 413, 3) := by decide +kernel
theorem dX12_rests_94 : decode cX12_rests 94 = .ok (.aload_n 0, 1) := by decide +kernel
theorem dX12_rests_95 : decode cX12_rests 95 = .ok (.iload_n 2, 1) := by decide +kernel
theorem dX12_rests_96 : decode cX12_rests 96 = .ok (.aload_n 0, 1) := by decide +kernel
theorem dX12_rests_97 : decode cX12_rests 97 = .ok (.getfield 56, 3) := by decide +kernel
theorem dX12_rests_100 : decode cX12_rests 100 = .ok (.iload_n 2, 1) := by decide +kernel
theorem dX12_rests_101 : decode cX12_rests 101 = .ok (.iaload, 1) := by decide +kernel
theorem dX12_rests_102 : decode cX12_rests 102 = .ok (.invokevirtual 413, 3) := by decide +kernel
theorem dX12_rests_105 : decode cX12_rests 105 = .ok (.if_icmp .le 4, 3) := by decide +kernel
theorem dX12_rests_108 : decode cX12_rests 108 = .ok (.return_, 1) := by decide +kernel
theorem dX12_rests_141 : decode cX12_rests 141 = .ok (.aload_n 0, 1) := by decide +kernel
theorem dX12_rests_142 : decode cX12_rests 142 = .ok (.getfield 68, 3) := by decide +kernel
theorem dX12_rests_145 : decode cX12_rests 145 = .ok (.iload_n 2, 1) := by decide +kernel
theorem dX12_rests_146 : decode cX12_rests 146 = .ok (.aload_n 0, 1) := by decide +kernel
theorem dX12_rests_147 : decode cX12_rests 147 = .ok (.getfield 56, 3) := by decide +kernel
theorem dX12_rests_150 : decode cX12_rests 150 = .ok (.iload_n 2, 1) := by decide +kernel
theorem dX12_rests_151 : decode cX12_rests 151 = .ok (.iaload, 1) := by decide +kernel
theorem dX12_rests_152 : decode cX12_rests 152 = .ok (.iastore, 1) := by decide +kernel
theorem dX12_rests_153 : decode cX12_rests 153 = .ok (.iinc 2 1, 3) := by decide +kernel
theorem dX12_rests_156 : decode cX12_rests 156 = .ok (.goto (-26), 3) := by decide +kernel
theorem dX12_rests_11 : decode cX12_rests 11 = .ok (.iconst 0, 1) := by decide +kernel
theorem dX12_rests_12 : decode cX12_rests 12 = .ok (.istore_n 2, 1) := by decide +kernel
theorem dX12_rests_13 : decode cX12_rests 13 = .ok (.iload_n 2, 1) := by decide +kernel
theorem dX12_rests_14 : decode cX12_rests 14 = .ok (.aload_n 0, 1) := by decide +kernel
theorem dX12_rests_15 : decode cX12_rests 15 = .ok (.getfield 34, 3) := by decide +kernel
theorem dX12_rests_18 : decode cX12_rests 18 = .ok (.iconst 0, 1) := by decide +kernel
theorem dX12_rests_19 : decode cX12_rests 19 = .ok (.iaload, 1) := by decide +kernel
theorem dX12_rests_20 : decode cX12_rests 20 = .ok (.if_icmp .ge 34, 3) := by decide +kernel
theorem dX12_rests_54 : decode cX12_rests 54 = .ok (.return_, 1) := by decide +kernel
theorem dX12_rests_23 : decode cX12_rests 23 = .ok (.aload_n 0, 1) := by decide +kernel
theorem dX12_rests_24 : decode cX12_rests 24 = .ok (.iload_n 2, 1) := by decide +kernel
theorem dX12_rests_25 : decode cX12_rests 25 = .ok (.invokevirtual 273, 3) := by decide +kernel
theorem dX12_rests_28 : decode cX12_rests 28 = .ok (.ifCond .ne 6, 3) := by decide +kernel
theorem dX12_rests_34 : decode cX12_rests 34 = .ok (.aload_n 0, 1) := by decide +kernel
theorem dX12_rests_35 : decode cX12_rests 35 = .ok (.getfield 56, 3) := by decide +kernel
theorem dX12_rests_38 : decode cX12_rests 38 = .ok (.iload_n 1, 1) := by decide +kernel
theorem dX12_rests_39 : decode cX12_rests 39 = .ok (.iload_n 2, 1) := by decide +kernel
theorem dX12_rests_40 : decode cX12_rests 40 = .ok (.iastore, 1) := by decide +kernel
theorem dX12_rests_41 : decode cX12_rests 41 = .ok (.aload_n 0, 1) := by decide +kernel
theorem dX12_rests_42 : decode cX12_rests 42 = .ok (.iload_n 1, 1) := by decide +kernel
theorem dX12_rests_43 : decode cX12_rests 43 = .ok (.iconst 1, 1) := by decide +kernel
theorem dX12_rests_44 : decode cX12_rests 44 = .ok (.iadd, 1) := by decide +kernel
theorem dX12_rests_45 : decode cX12_rests 45 = .ok (.invokevirtual 416, 3) := by decide +kernel
theorem dX12_rests_48 : decode cX12_rests 48 = .ok (.iinc 2 1, 3) := by decide +kernel
theorem dX12_rests_51 : decode cX12_rests 51 = .ok (.goto (-38), 3) := by decide +kernel
theorem dX12_rests_31 : decode cX12_rests 31 = .ok (.goto 17, 3) := by decide +kernel
theorem dX12_restsNow_0 : decode cX12_restsNow 0 = .ok (.aload_n 0, 1) := by decide +kernel
theorem dX12_restsNow_1 : decode cX12_restsNow 1 = .ok (.invokevirtual 410, 3) := by decide +kernel
theorem dX12_restsNow_4 : decode cX12_restsNow 4 = .ok (.aload_n 0, 1) := by decide +kernel
theorem dX12_restsNow_5 : decode cX12_restsNow 5 = .ok (.iconst 0, 1) := by decide +kernel
theorem dX12_restsNow_6 : decode cX12_restsNow 6 = .ok (.putfield 419, 3) := by decide +kernel
theorem dX12_restsNow_9 : decode cX12_restsNow 9 = .ok (.aload_n 0, 1) := by decide +kernel
theorem dX12_restsNow_10 : decode cX12_restsNow 10 = .ok (.iconst 0, 1) := by decide +kernel
theorem dX12_restsNow_11 : decode cX12_restsNow 11 = .ok (.invokevirtual 416, 3) := by decide +kernel
theorem dX12_restsNow_14 : decode cX12_restsNow 14 = .ok (.aload_n 0, 1) := by decide +kernel
theorem dX12_restsNow_15 : decode cX12_restsNow 15 = .ok (.getfield 419, 3) := by decide +kernel
theorem dX12_restsNow_18 : decode cX12_restsNow 18 = .ok (.ireturn, 1) := by decide +kernel
theorem dX12_cell_0 : decode cX12_cell 0 = .ok (.aload_n 0, 1) := by decide +kernel
theorem dX12_cell_1 : decode cX12_cell 1 = .ok (.iconst 0, 1) := by decide +kernel
theorem dX12_cell_2 : decode cX12_cell 2 = .ok (.putfield 74, 3) := by decide +kernel
theorem dX12_cell_5 : decode cX12_cell 5 = .ok (.aload_n 0, 1) := by decide +kernel
theorem dX12_cell_6 : decode cX12_cell 6 = .ok (.iload_n 1, 1) := by decide +kernel
theorem dX12_cell_7 : decode cX12_cell 7 = .ok (.i2l, 1) := by decide +kernel
theorem dX12_cell_8 : decode cX12_cell 8 = .ok (.invokevirtual 268, 3) := by decide +kernel
theorem dX12_cell_11 : decode cX12_cell 11 = .ok (.ifCond .eq 15, 3) := by decide +kernel
theorem dX12_cell_26 : decode cX12_cell 26 = .ok (.sipush (-1000), 3) := by decide +kernel
theorem dX12_cell_29 : decode cX12_cell 29 = .ok (.ireturn, 1) := by decide +kernel
theorem dX12_cell_14 : decode cX12_cell 14 = .ok (.iload_n 2, 1) := by decide +kernel
theorem dX12_cell_15 : decode cX12_cell 15 = .ok (.i2l, 1) := by decide +kernel
theorem dX12_cell_16 : decode cX12_cell 16 = .ok (.lconst 0, 1) := by decide +kernel
theorem dX12_cell_17 : decode cX12_cell 17 = .ok (.ldc2_w 271, 3) := by decide +kernel
theorem dX12_cell_20 : decode cX12_cell 20 = .ok (.invokestatic 79, 3) := by decide +kernel
theorem dX12_cell_23 : decode cX12_cell 23 = .ok (.ifCond .ne 7, 3) := by decide +kernel
theorem dX12_cell_30 : decode cX12_cell 30 = .ok (.iload_n 2, 1) := by decide +kernel
theorem dX12_cell_31 : decode cX12_cell 31 = .ok (.iconst 2, 1) := by decide +kernel
theorem dX12_cell_32 : decode cX12_cell 32 = .ok (.if_icmp .ge 16, 3) := by decide +kernel
theorem dX12_cell_48 : decode cX12_cell 48 = .ok (.aload_n 0, 1) := by decide +kernel
theorem dX12_cell_49 : decode cX12_cell 49 = .ok (.iload_n 1, 1) := by decide +kernel
theorem dX12_cell_50 : decode cX12_cell 50 = .ok (.invokevirtual 273, 3) := by decide +kernel
theorem dX12_cell_53 : decode cX12_cell 53 = .ok (.ifCond .eq 7, 3) := by decide +kernel
theorem dX12_cell_60 : decode cX12_cell 60 = .ok (.iconst 0, 1) := by decide +kernel
theorem dX12_cell_61 : decode cX12_cell 61 = .ok (.ireturn, 1) := by decide +kernel
theorem dX12_cell_56 : decode cX12_cell 56 = .ok (.iconst 1, 1) := by decide +kernel
theorem dX12_cell_57 : decode cX12_cell 57 = .ok (.goto 4, 3) := by decide +kernel
theorem dX12_cell_35 : decode cX12_cell 35 = .ok (.aload_n 0, 1) := by decide +kernel
theorem dX12_cell_36 : decode cX12_cell 36 = .ok (.getfield 37, 3) := by decide +kernel
theorem dX12_cell_39 : decode cX12_cell 39 = .ok (.iconst 2, 1) := by decide +kernel
theorem dX12_cell_40 : decode cX12_cell 40 = .ok (.iload_n 1, 1) := by decide +kernel
theorem dX12_cell_41 : decode cX12_cell 41 = .ok (.imul, 1) := by decide +kernel
theorem dX12_cell_42 : decode cX12_cell 42 = .ok (.iload_n 2, 1) := by decide +kernel
theorem dX12_cell_43 : decode cX12_cell 43 = .ok (.iadd, 1) := by decide +kernel
theorem dX12_cell_44 : decode cX12_cell 44 = .ok (.iaload, 1) := by decide +kernel
theorem dX12_cell_45 : decode cX12_cell 45 = .ok (.goto 16, 3) := by decide +kernel
theorem dX12_thing_0 : decode cX12_thing 0 = .ok (.aload_n 0, 1) := by decide +kernel
theorem dX12_thing_1 : decode cX12_thing 1 = .ok (.iconst 0, 1) := by decide +kernel
theorem dX12_thing_2 : decode cX12_thing 2 = .ok (.putfield 74, 3) := by decide +kernel
theorem dX12_thing_5 : decode cX12_thing 5 = .ok (.aload_n 0, 1) := by decide +kernel
theorem dX12_thing_6 : decode cX12_thing 6 = .ok (.iload_n 1, 1) := by decide +kernel
theorem dX12_thing_7 : decode cX12_thing 7 = .ok (.invokevirtual 276, 3) := by decide +kernel
theorem dX12_thing_10 : decode cX12_thing 10 = .ok (.ifCond .eq 28, 3) := by decide +kernel
theorem dX12_thing_38 : decode cX12_thing 38 = .ok (.bipush (-2), 2) := by decide +kernel
theorem dX12_thing_40 : decode cX12_thing 40 = .ok (.ireturn, 1) := by decide +kernel
theorem dX12_thing_13 : decode cX12_thing 13 = .ok (.iload_n 2, 1) := by decide +kernel
theorem dX12_thing_14 : decode cX12_thing 14 = .ok (.i2l, 1) := by decide +kernel
theorem dX12_thing_15 : decode cX12_thing 15 = .ok (.lconst 0, 1) := by decide +kernel
theorem dX12_thing_16 : decode cX12_thing 16 = .ok (.ldc2_w 271, 3) := by decide +kernel
theorem dX12_thing_19 : decode cX12_thing 19 = .ok (.invokestatic 79, 3) := by decide +kernel
theorem dX12_thing_22 : decode cX12_thing 22 = .ok (.ifCond .eq 16, 3) := by decide +kernel
theorem dX12_thing_25 : decode cX12_thing 25 = .ok (.aload_n 0, 1) := by decide +kernel
theorem dX12_thing_26 : decode cX12_thing 26 = .ok (.getfield 40, 3) := by decide +kernel
theorem dX12_thing_29 : decode cX12_thing 29 = .ok (.iconst 3, 1) := by decide +kernel
theorem dX12_thing_30 : decode cX12_thing 30 = .ok (.iload_n 1, 1) := by decide +kernel
theorem dX12_thing_31 : decode cX12_thing 31 = .ok (.imul, 1) := by decide +kernel
theorem dX12_thing_32 : decode cX12_thing 32 = .ok (.iload_n 2, 1) := by decide +kernel
theorem dX12_thing_33 : decode cX12_thing 33 = .ok (.iadd, 1) := by decide +kernel
theorem dX12_thing_34 : decode cX12_thing 34 = .ok (.iaload, 1) := by decide +kernel
theorem dX12_thing_35 : decode cX12_thing 35 = .ok (.goto 5, 3) := by decide +kernel
theorem dX12_rule_0 : decode cX12_rule 0 = .ok (.aload_n 0, 1) := by decide +kernel
theorem dX12_rule_1 : decode cX12_rule 1 = .ok (.iconst 0, 1) := by decide +kernel
theorem dX12_rule_2 : decode cX12_rule 2 = .ok (.putfield 74, 3) := by decide +kernel
theorem dX12_rule_5 : decode cX12_rule 5 = .ok (.aload_n 0, 1) := by decide +kernel
theorem dX12_rule_6 : decode cX12_rule 6 = .ok (.iload_n 1, 1) := by decide +kernel
theorem dX12_rule_7 : decode cX12_rule 7 = .ok (.invokevirtual 279, 3) := by decide +kernel
theorem dX12_rule_10 : decode cX12_rule 10 = .ok (.ifCond .eq 28, 3) := by decide +kernel
theorem dX12_rule_38 : decode cX12_rule 38 = .ok (.bipush (-2), 2) := by decide +kernel
theorem dX12_rule_40 : decode cX12_rule 40 = .ok (.ireturn, 1) := by decide +kernel
theorem dX12_rule_13 : decode cX12_rule 13 = .ok (.iload_n 2, 1) := by decide +kernel
theorem dX12_rule_14 : decode cX12_rule 14 = .ok (.i2l, 1) := by decide +kernel
theorem dX12_rule_15 : decode cX12_rule 15 = .ok (.lconst 0, 1) := by decide +kernel
theorem dX12_rule_16 : decode cX12_rule 16 = .ok (.ldc2_w 77, 3) := by decide +kernel
theorem dX12_rule_19 : decode cX12_rule 19 = .ok (.invokestatic 79, 3) := by decide +kernel
theorem dX12_rule_22 : decode cX12_rule 22 = .ok (.ifCond .eq 16, 3) := by decide +kernel
theorem dX12_rule_25 : decode cX12_rule 25 = .ok (.aload_n 0, 1) := by decide +kernel
theorem dX12_rule_26 : decode cX12_rule 26 = .ok (.getfield 43, 3) := by decide +kernel
theorem dX12_rule_29 : decode cX12_rule 29 = .ok (.iconst 4, 1) := by decide +kernel
theorem dX12_rule_30 : decode cX12_rule 30 = .ok (.iload_n 1, 1) := by decide +kernel
theorem dX12_rule_31 : decode cX12_rule 31 = .ok (.imul, 1) := by decide +kernel
theorem dX12_rule_32 : decode cX12_rule 32 = .ok (.iload_n 2, 1) := by decide +kernel
theorem dX12_rule_33 : decode cX12_rule 33 = .ok (.iadd, 1) := by decide +kernel
theorem dX12_rule_34 : decode cX12_rule 34 = .ok (.iaload, 1) := by decide +kernel
theorem dX12_rule_35 : decode cX12_rule 35 = .ok (.goto 5, 3) := by decide +kernel
theorem dX12_phase_0 : decode cX12_phase 0 = .ok (.aload_n 0, 1) := by decide +kernel
theorem dX12_phase_1 : decode cX12_phase 1 = .ok (.iconst 0, 1) := by decide +kernel
theorem dX12_phase_2 : decode cX12_phase 2 = .ok (.putfield 74, 3) := by decide +kernel
theorem dX12_phase_5 : decode cX12_phase 5 = .ok (.aload_n 0, 1) := by decide +kernel
theorem dX12_phase_6 : decode cX12_phase 6 = .ok (.invokevirtual 250, 3) := by decide +kernel
theorem dX12_phase_9 : decode cX12_phase 9 = .ok (.ifCond .eq 23, 3) := by decide +kernel
theorem dX12_phase_32 : decode cX12_phase 32 = .ok (.bipush (-2), 2) := by decide +kernel
theorem dX12_phase_34 : decode cX12_phase 34 = .ok (.ireturn, 1) := by decide +kernel
theorem dX12_phase_12 : decode cX12_phase 12 = .ok (.iload_n 1, 1) := by decide +kernel
theorem dX12_phase_13 : decode cX12_phase 13 = .ok (.i2l, 1) := by decide +kernel
theorem dX12_phase_14 : decode cX12_phase 14 = .ok (.lconst 0, 1) := by decide +kernel
theorem dX12_phase_15 : decode cX12_phase 15 = .ok (.ldc2_w 282, 3) := by decide +kernel
theorem dX12_phase_18 : decode cX12_phase 18 = .ok (.invokestatic 79, 3) := by decide +kernel
theorem dX12_phase_21 : decode cX12_phase 21 = .ok (.ifCond .eq 11, 3) := by decide +kernel
theorem dX12_phase_24 : decode cX12_phase 24 = .ok (.aload_n 0, 1) := by decide +kernel
theorem dX12_phase_25 : decode cX12_phase 25 = .ok (.iload_n 1, 1) := by decide +kernel
theorem dX12_phase_26 : decode cX12_phase 26 = .ok (.invokevirtual 262, 3) := by decide +kernel
theorem dX12_phase_29 : decode cX12_phase 29 = .ok (.goto 5, 3) := by decide +kernel
theorem dX12_drifts_0 : decode cX12_drifts 0 = .ok (.aload_n 0, 1) := by decide +kernel
theorem dX12_drifts_1 : decode cX12_drifts 1 = .ok (.iconst 0, 1) := by decide +kernel
theorem dX12_drifts_2 : decode cX12_drifts 2 = .ok (.putfield 74, 3) := by decide +kernel
theorem dX12_drifts_5 : decode cX12_drifts 5 = .ok (.aload_n 0, 1) := by decide +kernel
theorem dX12_drifts_6 : decode cX12_drifts 6 = .ok (.iload_n 1, 1) := by decide +kernel
theorem dX12_drifts_7 : decode cX12_drifts 7 = .ok (.i2l, 1) := by decide +kernel
theorem dX12_drifts_8 : decode cX12_drifts 8 = .ok (.invokevirtual 268, 3) := by decide +kernel
theorem dX12_drifts_11 : decode cX12_drifts 11 = .ok (.ifCond .eq 24, 3) := by decide +kernel
theorem dX12_drifts_35 : decode cX12_drifts 35 = .ok (.bipush (-2), 2) := by decide +kernel
theorem dX12_drifts_37 : decode cX12_drifts 37 = .ok (.ireturn, 1) := by decide +kernel
theorem dX12_drifts_14 : decode cX12_drifts 14 = .ok (.iload_n 2, 1) := by decide +kernel
theorem dX12_drifts_15 : decode cX12_drifts 15 = .ok (.i2l, 1) := by decide +kernel
theorem dX12_drifts_16 : decode cX12_drifts 16 = .ok (.lconst 0, 1) := by decide +kernel
theorem dX12_drifts_17 : decode cX12_drifts 17 = .ok (.ldc2_w 282, 3) := by decide +kernel
theorem dX12_drifts_20 : decode cX12_drifts 20 = .ok (.invokestatic 79, 3) := by decide +kernel
theorem dX12_drifts_23 : decode cX12_drifts 23 = .ok (.ifCond .eq 12, 3) := by decide +kernel
theorem dX12_drifts_26 : decode cX12_drifts 26 = .ok (.aload_n 0, 1) := by decide +kernel
theorem dX12_drifts_27 : decode cX12_drifts 27 = .ok (.iload_n 1, 1) := by decide +kernel
theorem dX12_drifts_28 : decode cX12_drifts 28 = .ok (.iload_n 2, 1) := by decide +kernel
theorem dX12_drifts_29 : decode cX12_drifts 29 = .ok (.invokevirtual 286, 3) := by decide +kernel
theorem dX12_drifts_32 : decode cX12_drifts 32 = .ok (.goto 5, 3) := by decide +kernel
theorem dX12_gaps_0 : decode cX12_gaps 0 = .ok (.aload_n 0, 1) := by decide +kernel
theorem dX12_gaps_1 : decode cX12_gaps 1 = .ok (.iconst 0, 1) := by decide +kernel
theorem dX12_gaps_2 : decode cX12_gaps 2 = .ok (.putfield 74, 3) := by decide +kernel
theorem dX12_gaps_5 : decode cX12_gaps 5 = .ok (.aload_n 0, 1) := by decide +kernel
theorem dX12_gaps_6 : decode cX12_gaps 6 = .ok (.invokevirtual 250, 3) := by decide +kernel
theorem dX12_gaps_9 : decode cX12_gaps 9 = .ok (.ifCond .eq 15, 3) := by decide +kernel
theorem dX12_gaps_24 : decode cX12_gaps 24 = .ok (.bipush (-2), 2) := by decide +kernel
theorem dX12_gaps_26 : decode cX12_gaps 26 = .ok (.ireturn, 1) := by decide +kernel
theorem dX12_gaps_12 : decode cX12_gaps 12 = .ok (.iload_n 1, 1) := by decide +kernel
theorem dX12_gaps_13 : decode cX12_gaps 13 = .ok (.i2l, 1) := by decide +kernel
theorem dX12_gaps_14 : decode cX12_gaps 14 = .ok (.lconst 0, 1) := by decide +kernel
theorem dX12_gaps_15 : decode cX12_gaps 15 = .ok (.ldc2_w 271, 3) := by decide +kernel
theorem dX12_gaps_18 : decode cX12_gaps 18 = .ok (.invokestatic 79, 3) := by decide +kernel
theorem dX12_gaps_21 : decode cX12_gaps 21 = .ok (.ifCond .ne 6, 3) := by decide +kernel
theorem dX12_gaps_27 : decode cX12_gaps 27 = .ok (.iconst 0, 1) := by decide +kernel
theorem dX12_gaps_28 : decode cX12_gaps 28 = .ok (.istore_n 2, 1) := by decide +kernel
theorem dX12_gaps_29 : decode cX12_gaps 29 = .ok (.iconst 0, 1) := by decide +kernel
theorem dX12_gaps_30 : decode cX12_gaps 30 = .ok (.istore_n 3, 1) := by decide +kernel
theorem dX12_gaps_31 : decode cX12_gaps 31 = .ok (.iload_n 3, 1) := by decide +kernel
theorem dX12_gaps_32 : decode cX12_gaps 32 = .ok (.aload_n 0, 1) := by decide +kernel
theorem dX12_gaps_33 : decode cX12_gaps 33 = .ok (.getfield 34, 3) := by decide +kernel
theorem dX12_gaps_36 : decode cX12_gaps 36 = .ok (.iconst 0, 1) := by decide +kernel
theorem dX12_gaps_37 : decode cX12_gaps 37 = .ok (.iaload, 1) := by decide +kernel
theorem dX12_gaps_38 : decode cX12_gaps 38 = .ok (.if_icmp .ge 38, 3) := by decide +kernel
theorem dX12_gaps_76 : decode cX12_gaps 76 = .ok (.iload_n 2, 1) := by decide +kernel
theorem dX12_gaps_77 : decode cX12_gaps 77 = .ok (.ireturn, 1) := by decide +kernel
theorem dX12_gaps_41 : decode cX12_gaps 41 = .ok (.iload_n 2, 1) := by decide +kernel
theorem dX12_gaps_42 : decode cX12_gaps 42 = .ok (.aload_n 0, 1) := by decide +kernel
theorem dX12_gaps_43 : decode cX12_gaps 43 = .ok (.iload_n 3, 1) := by decide +kernel
theorem dX12_gaps_44 : decode cX12_gaps 44 = .ok (.invokevirtual 273, 3) := by decide +kernel
theorem dX12_gaps_47 : decode cX12_gaps 47 = .ok (.ifCond .eq 20, 3) := by decide +kernel
theorem dX12_gaps_67 : decode cX12_gaps 67 = .ok (.iconst 0, 1) := by decide +kernel
theorem dX12_gaps_68 : decode cX12_gaps 68 = .ok (.ior, 1) := by decide +kernel
theorem dX12_gaps_69 : decode cX12_gaps 69 = .ok (.istore_n 2, 1) := by decide +kernel
theorem dX12_gaps_70 : decode cX12_gaps 70 = .ok (.iinc 3 1, 3) := by decide +kernel
theorem dX12_gaps_73 : decode cX12_gaps 73 = .ok (.goto (-42), 3) := by decide +kernel
theorem dX12_gaps_50 : decode cX12_gaps 50 = .ok (.aload_n 0, 1) := by decide +kernel
theorem dX12_gaps_51 : decode cX12_gaps 51 = .ok (.iload_n 3, 1) := by decide +kernel
theorem dX12_gaps_52 : decode cX12_gaps 52 = .ok (.iload_n 1, 1) := by decide +kernel
theorem dX12_gaps_53 : decode cX12_gaps 53 = .ok (.iconst (-1), 1) := by decide +kernel
theorem dX12_gaps_54 : decode cX12_gaps 54 = .ok (.invokevirtual 315, 3) := by decide +kernel
theorem dX12_gaps_57 : decode cX12_gaps 57 = .ok (.iconst (-1), 1) := by decide +kernel
theorem dX12_gaps_58 : decode cX12_gaps 58 = .ok (.if_icmp .ne 9, 3) := by decide +kernel
theorem dX12_gaps_61 : decode cX12_gaps 61 = .ok (.iconst 1, 1) := by decide +kernel
theorem dX12_gaps_62 : decode cX12_gaps 62 = .ok (.iload_n 3, 1) := by decide +kernel
theorem dX12_gaps_63 : decode cX12_gaps 63 = .ok (.ishl, 1) := by decide +kernel
theorem dX12_gaps_64 : decode cX12_gaps 64 = .ok (.goto 4, 3) := by decide +kernel
theorem dX12_idle_0 : decode cX12_idle 0 = .ok (.aload_n 0, 1) := by decide +kernel
theorem dX12_idle_1 : decode cX12_idle 1 = .ok (.iconst 0, 1) := by decide +kernel
theorem dX12_idle_2 : decode cX12_idle 2 = .ok (.putfield 74, 3) := by decide +kernel
theorem dX12_idle_5 : decode cX12_idle 5 = .ok (.aload_n 0, 1) := by decide +kernel
theorem dX12_idle_6 : decode cX12_idle 6 = .ok (.invokevirtual 250, 3) := by decide +kernel
theorem dX12_idle_9 : decode cX12_idle 9 = .ok (.ifCond .ne 6, 3) := by decide +kernel
theorem dX12_idle_15 : decode cX12_idle 15 = .ok (.iconst 0, 1) := by decide +kernel
theorem dX12_idle_16 : decode cX12_idle 16 = .ok (.istore_n 1, 1) := by decide +kernel
theorem dX12_idle_17 : decode cX12_idle 17 = .ok (.iconst 0, 1) := by decide +kernel
theorem dX12_idle_18 : decode cX12_idle 18 = .ok (.istore_n 2, 1) := by decide +kernel
theorem dX12_idle_19 : decode cX12_idle 19 = .ok (.iload_n 2, 1) := by decide +kernel
theorem dX12_idle_20 : decode cX12_idle 20 = .ok (.aload_n 0, 1) := by decide +kernel
theorem dX12_idle_21 : decode cX12_idle 21 = .ok (.getfield 34, 3) := by decide +kernel
theorem dX12_idle_24 : decode cX12_idle 24 = .ok (.bipush 7, 2) := by decide +kernel
theorem dX12_idle_26 : decode cX12_idle 26 = .ok (.iaload, 1) := by decide +kernel
theorem dX12_idle_27 : decode cX12_idle 27 = .ok (.if_icmp .ge 27, 3) := by decide +kernel
theorem dX12_idle_54 : decode cX12_idle 54 = .ok (.iload_n 1, 1) := by decide +kernel
theorem dX12_idle_55 : decode cX12_idle 55 = .ok (.ireturn, 1) := by decide +kernel
theorem dX12_idle_30 : decode cX12_idle 30 = .ok (.iload_n 1, 1) := by decide +kernel
theorem dX12_idle_31 : decode cX12_idle 31 = .ok (.aload_n 0, 1) := by decide +kernel
theorem dX12_idle_32 : decode cX12_idle 32 = .ok (.iload_n 2, 1) := by decide +kernel
theorem dX12_idle_33 : decode cX12_idle 33 = .ok (.invokevirtual 345, 3) := by decide +kernel
theorem dX12_idle_36 : decode cX12_idle 36 = .ok (.ifCond .eq 9, 3) := by decide +kernel
theorem dX12_idle_45 : decode cX12_idle 45 = .ok (.iconst 0, 1) := by decide +kernel
theorem dX12_idle_46 : decode cX12_idle 46 = .ok (.ior, 1) := by decide +kernel
theorem dX12_idle_47 : decode cX12_idle 47 = .ok (.istore_n 1, 1) := by decide +kernel
theorem dX12_idle_48 : decode cX12_idle 48 = .ok (.iinc 2 1, 3) := by decide +kernel
theorem dX12_idle_51 : decode cX12_idle 51 = .ok (.goto (-32), 3) := by decide +kernel
theorem dX12_idle_39 : decode cX12_idle 39 = .ok (.iconst 1, 1) := by decide +kernel
theorem dX12_idle_40 : decode cX12_idle 40 = .ok (.iload_n 2, 1) := by decide +kernel
theorem dX12_idle_41 : decode cX12_idle 41 = .ok (.ishl, 1) := by decide +kernel
theorem dX12_idle_42 : decode cX12_idle 42 = .ok (.goto 4, 3) := by decide +kernel
theorem dX12_idle_12 : decode cX12_idle 12 = .ok (.bipush (-2), 2) := by decide +kernel
theorem dX12_idle_14 : decode cX12_idle 14 = .ok (.ireturn, 1) := by decide +kernel
theorem dX12_slacks_0 : decode cX12_slacks 0 = .ok (.aload_n 0, 1) := by decide +kernel
theorem dX12_slacks_1 : decode cX12_slacks 1 = .ok (.iconst 0, 1) := by decide +kernel
theorem dX12_slacks_2 : decode cX12_slacks 2 = .ok (.putfield 74, 3) := by decide +kernel
theorem dX12_slacks_5 : decode cX12_slacks 5 = .ok (.aload_n 0, 1) := by decide +kernel
theorem dX12_slacks_6 : decode cX12_slacks 6 = .ok (.invokevirtual 250, 3) := by decide +kernel
theorem dX12_slacks_9 : decode cX12_slacks 9 = .ok (.ifCond .eq 15, 3) := by decide +kernel
theorem dX12_slacks_24 : decode cX12_slacks 24 = .ok (.bipush (-2), 2) := by decide +kernel
theorem dX12_slacks_26 : decode cX12_slacks 26 = .ok (.ireturn, 1) := by decide +kernel
theorem dX12_slacks_12 : decode cX12_slacks 12 = .ok (.iload_n 1, 1) := by decide +kernel
theorem dX12_slacks_13 : decode cX12_slacks 13 = .ok (.i2l, 1) := by decide +kernel
theorem dX12_slacks_14 : decode cX12_slacks 14 = .ok (.lconst 0, 1) := by decide +kernel
theorem dX12_slacks_15 : decode cX12_slacks 15 = .ok (.ldc2_w 282, 3) := by decide +kernel
theorem dX12_slacks_18 : decode cX12_slacks 18 = .ok (.invokestatic 79, 3) := by decide +kernel
theorem dX12_slacks_21 : decode cX12_slacks 21 = .ok (.ifCond .ne 6, 3) := by decide +kernel
theorem dX12_slacks_27 : decode cX12_slacks 27 = .ok (.iload_n 1, 1) := by decide +kernel
theorem dX12_slacks_28 : decode cX12_slacks 28 = .ok (.aload_n 0, 1) := by decide +kernel
theorem dX12_slacks_29 : decode cX12_slacks 29 = .ok (.invokevirtual 259, 3) := by decide +kernel
theorem dX12_slacks_32 : decode cX12_slacks 32 = .ok (.idiv, 1) := by decide +kernel
theorem dX12_slacks_33 : decode cX12_slacks 33 = .ok (.iconst 2, 1) := by decide +kernel
theorem dX12_slacks_34 : decode cX12_slacks 34 = .ok (.imul, 1) := by decide +kernel
theorem dX12_slacks_35 : decode cX12_slacks 35 = .ok (.aload_n 0, 1) := by decide +kernel
theorem dX12_slacks_36 : decode cX12_slacks 36 = .ok (.getfield 34, 3) := by decide +kernel
theorem dX12_slacks_39 : decode cX12_slacks 39 = .ok (.iconst 2, 1) := by decide +kernel
theorem dX12_slacks_40 : decode cX12_slacks 40 = .ok (.iaload, 1) := by decide +kernel
theorem dX12_slacks_41 : decode cX12_slacks 41 = .ok (.imul, 1) := by decide +kernel
theorem dX12_slacks_42 : decode cX12_slacks 42 = .ok (.istore_n 2, 1) := by decide +kernel
theorem dX12_slacks_43 : decode cX12_slacks 43 = .ok (.iconst 0, 1) := by decide +kernel
theorem dX12_slacks_44 : decode cX12_slacks 44 = .ok (.istore_n 3, 1) := by decide +kernel
theorem dX12_slacks_45 : decode cX12_slacks 45 = .ok (.iload_n 3, 1) := by decide +kernel
theorem dX12_slacks_46 : decode cX12_slacks 46 = .ok (.iload_n 1, 1) := by decide +kernel
theorem dX12_slacks_47 : decode cX12_slacks 47 = .ok (.aload_n 0, 1) := by decide +kernel
theorem dX12_slacks_48 : decode cX12_slacks 48 = .ok (.invokevirtual 259, 3) := by decide +kernel
theorem dX12_slacks_51 : decode cX12_slacks 51 = .ok (.irem, 1) := by decide +kernel
theorem dX12_slacks_52 : decode cX12_slacks 52 = .ok (.if_icmp .ge 26, 3) := by decide +kernel
theorem dX12_slacks_78 : decode cX12_slacks 78 = .ok (.iload_n 2, 1) := by decide +kernel
theorem dX12_slacks_79 : decode cX12_slacks 79 = .ok (.ireturn, 1) := by decide +kernel
theorem dX12_slacks_55 : decode cX12_slacks 55 = .ok (.iload_n 2, 1) := by decide +kernel
theorem dX12_slacks_56 : decode cX12_slacks 56 = .ok (.aload_n 0, 1) := by decide +kernel
theorem dX12_slacks_57 : decode cX12_slacks 57 = .ok (.iload_n 3, 1) := by decide +kernel
theorem dX12_slacks_58 : decode cX12_slacks 58 = .ok (.invokevirtual 262, 3) := by decide +kernel
theorem dX12_slacks_61 : decode cX12_slacks 61 = .ok (.iconst 1, 1) := by decide +kernel
theorem dX12_slacks_62 : decode cX12_slacks 62 = .ok (.if_icmp .ne 7, 3) := by decide +kernel
theorem dX12_slacks_69 : decode cX12_slacks 69 = .ok (.iconst 0, 1) := by decide +kernel
theorem dX12_slacks_70 : decode cX12_slacks 70 = .ok (.iadd, 1) := by decide +kernel
theorem dX12_slacks_71 : decode cX12_slacks 71 = .ok (.istore_n 2, 1) := by decide +kernel
theorem dX12_slacks_72 : decode cX12_slacks 72 = .ok (.iinc 3 1, 3) := by decide +kernel
theorem dX12_slacks_75 : decode cX12_slacks 75 = .ok (.goto (-30), 3) := by decide +kernel
theorem dX12_slacks_65 : decode cX12_slacks 65 = .ok (.iconst 1, 1) := by decide +kernel
theorem dX12_slacks_66 : decode cX12_slacks 66 = .ok (.goto 4, 3) := by decide +kernel
theorem dX12_eddy_0 : decode cX12_eddy 0 = .ok (.aload_n 0, 1) := by decide +kernel
theorem dX12_eddy_1 : decode cX12_eddy 1 = .ok (.iconst 0, 1) := by decide +kernel
theorem dX12_eddy_2 : decode cX12_eddy 2 = .ok (.putfield 74, 3) := by decide +kernel
theorem dX12_eddy_5 : decode cX12_eddy 5 = .ok (.aload_n 0, 1) := by decide +kernel
theorem dX12_eddy_6 : decode cX12_eddy 6 = .ok (.iload_n 1, 1) := by decide +kernel
theorem dX12_eddy_7 : decode cX12_eddy 7 = .ok (.i2l, 1) := by decide +kernel
theorem dX12_eddy_8 : decode cX12_eddy 8 = .ok (.invokevirtual 268, 3) := by decide +kernel
theorem dX12_eddy_11 : decode cX12_eddy 11 = .ok (.ifCond .ne 6, 3) := by decide +kernel
theorem dX12_eddy_17 : decode cX12_eddy 17 = .ok (.iconst 1, 1) := by decide +kernel
theorem dX12_eddy_18 : decode cX12_eddy 18 = .ok (.iload_n 1, 1) := by decide +kernel
theorem dX12_eddy_19 : decode cX12_eddy 19 = .ok (.ishl, 1) := by decide +kernel
theorem dX12_eddy_20 : decode cX12_eddy 20 = .ok (.istore_n 2, 1) := by decide +kernel
theorem dX12_eddy_21 : decode cX12_eddy 21 = .ok (.iconst 1, 1) := by decide +kernel
theorem dX12_eddy_22 : decode cX12_eddy 22 = .ok (.istore_n 3, 1) := by decide +kernel
theorem dX12_eddy_23 : decode cX12_eddy 23 = .ok (.iload_n 3, 1) := by decide +kernel
theorem dX12_eddy_24 : decode cX12_eddy 24 = .ok (.bipush 13, 2) := by decide +kernel
theorem dX12_eddy_26 : decode cX12_eddy 26 = .ok (.if_icmp .gt 53, 3) := by decide +kernel
theorem dX12_eddy_29 : decode cX12_eddy 29 = .ok (.aload_n 0, 1) := by decide +kernel
theorem dX12_eddy_30 : decode cX12_eddy 30 = .ok (.iload_n 1, 1) := by decide +kernel
theorem dX12_eddy_31 : decode cX12_eddy 31 = .ok (.iconst 0, 1) := by decide +kernel
theorem dX12_eddy_32 : decode cX12_eddy 32 = .ok (.iload_n 3, 1) := by decide +kernel
theorem dX12_eddy_33 : decode cX12_eddy 33 = .ok (.aload_n 0, 1) := by decide +kernel
theorem dX12_eddy_34 : decode cX12_eddy 34 = .ok (.invokevirtual 259, 3) := by decide +kernel
theorem dX12_eddy_37 : decode cX12_eddy 37 = .ok (.imul, 1) := by decide +kernel
theorem dX12_eddy_38 : decode cX12_eddy 38 = .ok (.invokevirtual 370, 3) := by decide +kernel
theorem dX12_eddy_41 : decode cX12_eddy 41 = .ok (.aload_n 0, 1) := by decide +kernel
theorem dX12_eddy_42 : decode cX12_eddy 42 = .ok (.getfield 374, 3) := by decide +kernel
theorem dX12_eddy_45 : decode cX12_eddy 45 = .ok (.iconst (-1), 1) := by decide +kernel
theorem dX12_eddy_46 : decode cX12_eddy 46 = .ok (.if_icmp .eq 5, 3) := by decide +kernel
theorem dX12_eddy_51 : decode cX12_eddy 51 = .ok (.iload_n 2, 1) := by decide +kernel
theorem dX12_eddy_52 : decode cX12_eddy 52 = .ok (.aload_n 0, 1) := by decide +kernel
theorem dX12_eddy_53 : decode cX12_eddy 53 = .ok (.getfield 377, 3) := by decide +kernel
theorem dX12_eddy_56 : decode cX12_eddy 56 = .ok (.invokestatic 255, 3) := by decide +kernel
theorem dX12_eddy_59 : decode cX12_eddy 59 = .ok (.ifCond .eq 5, 3) := by decide +kernel
theorem dX12_eddy_64 : decode cX12_eddy 64 = .ok (.iload_n 2, 1) := by decide +kernel
theorem dX12_eddy_65 : decode cX12_eddy 65 = .ok (.iconst 1, 1) := by decide +kernel
theorem dX12_eddy_66 : decode cX12_eddy 66 = .ok (.aload_n 0, 1) := by decide +kernel
theorem dX12_eddy_67 : decode cX12_eddy 67 = .ok (.getfield 377, 3) := by decide +kernel
theorem dX12_eddy_70 : decode cX12_eddy 70 = .ok (.ishl, 1) := by decide +kernel
theorem dX12_eddy_71 : decode cX12_eddy 71 = .ok (.ior, 1) := by decide +kernel
theorem dX12_eddy_72 : decode cX12_eddy 72 = .ok (.istore_n 2, 1) := by decide +kernel
theorem dX12_eddy_73 : decode cX12_eddy 73 = .ok (.iinc 3 1, 3) := by decide +kernel
theorem dX12_eddy_76 : decode cX12_eddy 76 = .ok (.goto (-53), 3) := by decide +kernel
theorem dX12_eddy_62 : decode cX12_eddy 62 = .ok (.iload_n 3, 1) := by decide +kernel
theorem dX12_eddy_63 : decode cX12_eddy 63 = .ok (.ireturn, 1) := by decide +kernel
theorem dX12_eddy_49 : decode cX12_eddy 49 = .ok (.iconst (-1), 1) := by decide +kernel
theorem dX12_eddy_50 : decode cX12_eddy 50 = .ok (.ireturn, 1) := by decide +kernel
theorem dX12_eddy_79 : decode cX12_eddy 79 = .ok (.iconst (-1), 1) := by decide +kernel
theorem dX12_eddy_80 : decode cX12_eddy 80 = .ok (.ireturn, 1) := by decide +kernel
theorem dX12_eddy_14 : decode cX12_eddy 14 = .ok (.bipush (-2), 2) := by decide +kernel
theorem dX12_eddy_16 : decode cX12_eddy 16 = .ok (.ireturn, 1) := by decide +kernel
theorem dX12_stuck_0 : decode cX12_stuck 0 = .ok (.aload_n 0, 1) := by decide +kernel
theorem dX12_stuck_1 : decode cX12_stuck 1 = .ok (.iconst 0, 1) := by decide +kernel
theorem dX12_stuck_2 : decode cX12_stuck 2 = .ok (.putfield 74, 3) := by decide +kernel
theorem dX12_stuck_5 : decode cX12_stuck 5 = .ok (.aload_n 0, 1) := by decide +kernel
theorem dX12_stuck_6 : decode cX12_stuck 6 = .ok (.invokevirtual 250, 3) := by decide +kernel
theorem dX12_stuck_9 : decode cX12_stuck 9 = .ok (.ifCond .ne 6, 3) := by decide +kernel
theorem dX12_stuck_15 : decode cX12_stuck 15 = .ok (.iconst 0, 1) := by decide +kernel
theorem dX12_stuck_16 : decode cX12_stuck 16 = .ok (.istore_n 1, 1) := by decide +kernel
theorem dX12_stuck_17 : decode cX12_stuck 17 = .ok (.iconst 0, 1) := by decide +kernel
theorem dX12_stuck_18 : decode cX12_stuck 18 = .ok (.istore_n 2, 1) := by decide +kernel
theorem dX12_stuck_19 : decode cX12_stuck 19 = .ok (.iload_n 2, 1) := by decide +kernel
theorem dX12_stuck_20 : decode cX12_stuck 20 = .ok (.aload_n 0, 1) := by decide +kernel
theorem dX12_stuck_21 : decode cX12_stuck 21 = .ok (.getfield 34, 3) := by decide +kernel
theorem dX12_stuck_24 : decode cX12_stuck 24 = .ok (.iconst 0, 1) := by decide +kernel
theorem dX12_stuck_25 : decode cX12_stuck 25 = .ok (.iaload, 1) := by decide +kernel
theorem dX12_stuck_26 : decode cX12_stuck 26 = .ok (.if_icmp .ge 36, 3) := by decide +kernel
theorem dX12_stuck_62 : decode cX12_stuck 62 = .ok (.iload_n 1, 1) := by decide +kernel
theorem dX12_stuck_63 : decode cX12_stuck 63 = .ok (.ireturn, 1) := by decide +kernel
theorem dX12_stuck_29 : decode cX12_stuck 29 = .ok (.aload_n 0, 1) := by decide +kernel
theorem dX12_stuck_30 : decode cX12_stuck 30 = .ok (.iload_n 2, 1) := by decide +kernel
theorem dX12_stuck_31 : decode cX12_stuck 31 = .ok (.iconst 0, 1) := by decide +kernel
theorem dX12_stuck_32 : decode cX12_stuck 32 = .ok (.sipush 400, 3) := by decide +kernel
theorem dX12_stuck_35 : decode cX12_stuck 35 = .ok (.invokevirtual 370, 3) := by decide +kernel
theorem dX12_stuck_38 : decode cX12_stuck 38 = .ok (.iload_n 1, 1) := by decide +kernel
theorem dX12_stuck_39 : decode cX12_stuck 39 = .ok (.aload_n 0, 1) := by decide +kernel
theorem dX12_stuck_40 : decode cX12_stuck 40 = .ok (.getfield 374, 3) := by decide +kernel
theorem dX12_stuck_43 : decode cX12_stuck 43 = .ok (.iconst (-1), 1) := by decide +kernel
theorem dX12_stuck_44 : decode cX12_stuck 44 = .ok (.if_icmp .ne 9, 3) := by decide +kernel
theorem dX12_stuck_53 : decode cX12_stuck 53 = .ok (.iconst 0, 1) := by decide +kernel
theorem dX12_stuck_54 : decode cX12_stuck 54 = .ok (.ior, 1) := by decide +kernel
theorem dX12_stuck_55 : decode cX12_stuck 55 = .ok (.istore_n 1, 1) := by decide +kernel
theorem dX12_stuck_56 : decode cX12_stuck 56 = .ok (.iinc 2 1, 3) := by decide +kernel
theorem dX12_stuck_59 : decode cX12_stuck 59 = .ok (.goto (-40), 3) := by decide +kernel
theorem dX12_stuck_47 : decode cX12_stuck 47 = .ok (.iconst 1, 1) := by decide +kernel
theorem dX12_stuck_48 : decode cX12_stuck 48 = .ok (.iload_n 2, 1) := by decide +kernel
theorem dX12_stuck_49 : decode cX12_stuck 49 = .ok (.ishl, 1) := by decide +kernel
theorem dX12_stuck_50 : decode cX12_stuck 50 = .ok (.goto 4, 3) := by decide +kernel
theorem dX12_stuck_12 : decode cX12_stuck 12 = .ok (.bipush (-2), 2) := by decide +kernel
theorem dX12_stuck_14 : decode cX12_stuck 14 = .ok (.ireturn, 1) := by decide +kernel
theorem dX12_drop_0 : decode cX12_drop 0 = .ok (.aload_n 0, 1) := by decide +kernel
theorem dX12_drop_1 : decode cX12_drop 1 = .ok (.iconst 0, 1) := by decide +kernel
theorem dX12_drop_2 : decode cX12_drop 2 = .ok (.putfield 74, 3) := by decide +kernel
theorem dX12_drop_5 : decode cX12_drop 5 = .ok (.aload_n 0, 1) := by decide +kernel
theorem dX12_drop_6 : decode cX12_drop 6 = .ok (.iload_n 1, 1) := by decide +kernel
theorem dX12_drop_7 : decode cX12_drop 7 = .ok (.invokevirtual 336, 3) := by decide +kernel
theorem dX12_drop_10 : decode cX12_drop 10 = .ok (.ifCond .eq 24, 3) := by decide +kernel
theorem dX12_drop_34 : decode cX12_drop 34 = .ok (.bipush (-2), 2) := by decide +kernel
theorem dX12_drop_36 : decode cX12_drop 36 = .ok (.ireturn, 1) := by decide +kernel
theorem dX12_drop_13 : decode cX12_drop 13 = .ok (.iload_n 2, 1) := by decide +kernel
theorem dX12_drop_14 : decode cX12_drop 14 = .ok (.i2l, 1) := by decide +kernel
theorem dX12_drop_15 : decode cX12_drop 15 = .ok (.lconst 0, 1) := by decide +kernel
theorem dX12_drop_16 : decode cX12_drop 16 = .ok (.ldc2_w 380, 3) := by decide +kernel
theorem dX12_drop_19 : decode cX12_drop 19 = .ok (.invokestatic 79, 3) := by decide +kernel
theorem dX12_drop_22 : decode cX12_drop 22 = .ok (.ifCond .eq 12, 3) := by decide +kernel
theorem dX12_drop_25 : decode cX12_drop 25 = .ok (.aload_n 0, 1) := by decide +kernel
theorem dX12_drop_26 : decode cX12_drop 26 = .ok (.iload_n 1, 1) := by decide +kernel
theorem dX12_drop_27 : decode cX12_drop 27 = .ok (.iload_n 2, 1) := by decide +kernel
theorem dX12_drop_28 : decode cX12_drop 28 = .ok (.invokevirtual 382, 3) := by decide +kernel
theorem dX12_drop_31 : decode cX12_drop 31 = .ok (.goto 5, 3) := by decide +kernel
theorem dX12_drops_0 : decode cX12_drops 0 = .ok (.aload_n 0, 1) := by decide +kernel
theorem dX12_drops_1 : decode cX12_drops 1 = .ok (.iconst 0, 1) := by decide +kernel
theorem dX12_drops_2 : decode cX12_drops 2 = .ok (.putfield 74, 3) := by decide +kernel
theorem dX12_drops_5 : decode cX12_drops 5 = .ok (.aload_n 0, 1) := by decide +kernel
theorem dX12_drops_6 : decode cX12_drops 6 = .ok (.iload_n 1, 1) := by decide +kernel
theorem dX12_drops_7 : decode cX12_drops 7 = .ok (.invokevirtual 336, 3) := by decide +kernel
theorem dX12_drops_10 : decode cX12_drops 10 = .ok (.ifCond .ne 6, 3) := by decide +kernel
theorem dX12_drops_16 : decode cX12_drops 16 = .ok (.iconst (-1), 1) := by decide +kernel
theorem dX12_drops_17 : decode cX12_drops 17 = .ok (.istore_n 2, 1) := by decide +kernel
theorem dX12_drops_18 : decode cX12_drops 18 = .ok (.iconst 0, 1) := by decide +kernel
theorem dX12_drops_19 : decode cX12_drops 19 = .ok (.istore_n 3, 1) := by decide +kernel
theorem dX12_drops_20 : decode cX12_drops 20 = .ok (.iconst 0, 1) := by decide +kernel
theorem dX12_drops_21 : decode cX12_drops 21 = .ok (.istore 4, 2) := by decide +kernel
theorem dX12_drops_23 : decode cX12_drops 23 = .ok (.iload 4, 2) := by decide +kernel
theorem dX12_drops_25 : decode cX12_drops 25 = .ok (.bipush 99, 2) := by decide +kernel
theorem dX12_drops_27 : decode cX12_drops 27 = .ok (.if_icmp .gt 36, 3) := by decide +kernel
theorem dX12_drops_30 : decode cX12_drops 30 = .ok (.aload_n 0, 1) := by decide +kernel
theorem dX12_drops_31 : decode cX12_drops 31 = .ok (.iload_n 1, 1) := by decide +kernel
theorem dX12_drops_32 : decode cX12_drops 32 = .ok (.iload 4, 2) := by decide +kernel
theorem dX12_drops_34 : decode cX12_drops 34 = .ok (.invokevirtual 382, 3) := by decide +kernel
theorem dX12_drops_37 : decode cX12_drops 37 = .ok (.invokestatic 342, 3) := by decide +kernel
theorem dX12_drops_40 : decode cX12_drops 40 = .ok (.istore 5, 2) := by decide +kernel
theorem dX12_drops_42 : decode cX12_drops 42 = .ok (.iload 5, 2) := by decide +kernel
theorem dX12_drops_44 : decode cX12_drops 44 = .ok (.iload_n 3, 1) := by decide +kernel
theorem dX12_drops_45 : decode cX12_drops 45 = .ok (.if_icmp .gt 6, 3) := by decide +kernel
theorem dX12_drops_51 : decode cX12_drops 51 = .ok (.iload 4, 2) := by decide +kernel
theorem dX12_drops_53 : decode cX12_drops 53 = .ok (.istore_n 2, 1) := by decide +kernel
theorem dX12_drops_54 : decode cX12_drops 54 = .ok (.iload 5, 2) := by decide +kernel
theorem dX12_drops_56 : decode cX12_drops 56 = .ok (.istore_n 3, 1) := by decide +kernel
theorem dX12_drops_57 : decode cX12_drops 57 = .ok (.iinc 4 1, 3) := by decide +kernel
theorem dX12_drops_60 : decode cX12_drops 60 = .ok (.goto (-37), 3) := by decide +kernel
theorem dX12_drops_48 : decode cX12_drops 48 = .ok (.goto 9, 3) := by decide +kernel
theorem dX12_drops_63 : decode cX12_drops 63 = .ok (.iload_n 2, 1) := by decide +kernel
theorem dX12_drops_64 : decode cX12_drops 64 = .ok (.ireturn, 1) := by decide +kernel
theorem dX12_drops_13 : decode cX12_drops 13 = .ok (.bipush (-2), 2) := by decide +kernel
theorem dX12_drops_15 : decode cX12_drops 15 = .ok (.ireturn, 1) := by decide +kernel
theorem dX12_origins_0 : decode cX12_origins 0 = .ok (.aload_n 0, 1) := by decide +kernel
theorem dX12_origins_1 : decode cX12_origins 1 = .ok (.iconst 0, 1) := by decide +kernel
theorem dX12_origins_2 : decode cX12_origins 2 = .ok (.putfield 74, 3) := by decide +kernel
theorem dX12_origins_5 : decode cX12_origins 5 = .ok (.aload_n 0, 1) := by decide +kernel
theorem dX12_origins_6 : decode cX12_origins 6 = .ok (.iload_n 3, 1) := by decide +kernel
theorem dX12_origins_7 : decode cX12_origins 7 = .ok (.i2l, 1) := by decide +kernel
theorem dX12_origins_8 : decode cX12_origins 8 = .ok (.invokevirtual 268, 3) := by decide +kernel
theorem dX12_origins_11 : decode cX12_origins 11 = .ok (.ifCond .eq 28, 3) := by decide +kernel
theorem dX12_origins_39 : decode cX12_origins 39 = .ok (.bipush (-2), 2) := by decide +kernel
theorem dX12_origins_41 : decode cX12_origins 41 = .ok (.ireturn, 1) := by decide +kernel
theorem dX12_origins_14 : decode cX12_origins 14 = .ok (.iload_n 1, 1) := by decide +kernel
theorem dX12_origins_15 : decode cX12_origins 15 = .ok (.i2l, 1) := by decide +kernel
theorem dX12_origins_16 : decode cX12_origins 16 = .ok (.lconst 0, 1) := by decide +kernel
theorem dX12_origins_17 : decode cX12_origins 17 = .ok (.ldc2_w 325, 3) := by decide +kernel
theorem dX12_origins_20 : decode cX12_origins 20 = .ok (.invokestatic 79, 3) := by decide +kernel
theorem dX12_origins_23 : decode cX12_origins 23 = .ok (.ifCond .eq 16, 3) := by decide +kernel
theorem dX12_origins_26 : decode cX12_origins 26 = .ok (.iload_n 2, 1) := by decide +kernel
theorem dX12_origins_27 : decode cX12_origins 27 = .ok (.i2l, 1) := by decide +kernel
theorem dX12_origins_28 : decode cX12_origins 28 = .ok (.iload_n 1, 1) := by decide +kernel
theorem dX12_origins_29 : decode cX12_origins 29 = .ok (.i2l, 1) := by decide +kernel
theorem dX12_origins_30 : decode cX12_origins 30 = .ok (.ldc2_w 325, 3) := by decide +kernel
theorem dX12_origins_33 : decode cX12_origins 33 = .ok (.invokestatic 79, 3) := by decide +kernel
theorem dX12_origins_36 : decode cX12_origins 36 = .ok (.ifCond .ne 6, 3) := by decide +kernel
theorem dX12_origins_42 : decode cX12_origins 42 = .ok (.iconst 0, 1) := by decide +kernel
theorem dX12_origins_43 : decode cX12_origins 43 = .ok (.istore 4, 2) := by decide +kernel
theorem dX12_origins_45 : decode cX12_origins 45 = .ok (.iconst 0, 1) := by decide +kernel
theorem dX12_origins_46 : decode cX12_origins 46 = .ok (.istore 5, 2) := by decide +kernel
theorem dX12_origins_48 : decode cX12_origins 48 = .ok (.iload 5, 2) := by decide +kernel
theorem dX12_origins_50 : decode cX12_origins 50 = .ok (.aload_n 0, 1) := by decide +kernel
theorem dX12_origins_51 : decode cX12_origins 51 = .ok (.getfield 34, 3) := by decide +kernel
theorem dX12_origins_54 : decode cX12_origins 54 = .ok (.iconst 0, 1) := by decide +kernel
theorem dX12_origins_55 : decode cX12_origins 55 = .ok (.iaload, 1) := by decide +kernel
theorem dX12_origins_56 : decode cX12_origins 56 = .ok (.if_icmp .ge 54, 3) := by decide +kernel
theorem dX12_origins_59 : decode cX12_origins 59 = .ok (.aload_n 0, 1) := by decide +kernel
theorem dX12_origins_60 : decode cX12_origins 60 = .ok (.iload 5, 2) := by decide +kernel
theorem dX12_origins_62 : decode cX12_origins 62 = .ok (.iload_n 1, 1) := by decide +kernel
theorem dX12_origins_63 : decode cX12_origins 63 = .ok (.iload_n 2, 1) := by decide +kernel
theorem dX12_origins_64 : decode cX12_origins 64 = .ok (.invokevirtual 370, 3) := by decide +kernel
theorem dX12_origins_67 : decode cX12_origins 67 = .ok (.iload 4, 2) := by decide +kernel
theorem dX12_origins_69 : decode cX12_origins 69 = .ok (.aload_n 0, 1) := by decide +kernel
theorem dX12_origins_70 : decode cX12_origins 70 = .ok (.getfield 377, 3) := by decide +kernel
theorem dX12_origins_73 : decode cX12_origins 73 = .ok (.iload_n 3, 1) := by decide +kernel
theorem dX12_origins_74 : decode cX12_origins 74 = .ok (.if_icmp .ne 26, 3) := by decide +kernel
theorem dX12_origins_100 : decode cX12_origins 100 = .ok (.iconst 0, 1) := by decide +kernel
theorem dX12_origins_101 : decode cX12_origins 101 = .ok (.ior, 1) := by decide +kernel
theorem dX12_origins_102 : decode cX12_origins 102 = .ok (.istore 4, 2) := by decide +kernel
theorem dX12_origins_104 : decode cX12_origins 104 = .ok (.iinc 5 1, 3) := by decide +kernel
theorem dX12_origins_107 : decode cX12_origins 107 = .ok (.goto (-59), 3) := by decide +kernel
theorem dX12_origins_77 : decode cX12_origins 77 = .ok (.aload_n 0, 1) := by decide +kernel
theorem dX12_origins_78 : decode cX12_origins 78 = .ok (.getfield 374, 3) := by decide +kernel
theorem dX12_origins_81 : decode cX12_origins 81 = .ok (.iconst (-1), 1) := by decide +kernel
theorem dX12_origins_82 : decode cX12_origins 82 = .ok (.if_icmp .eq 11, 3) := by decide +kernel
theorem dX12_origins_93 : decode cX12_origins 93 = .ok (.iconst 1, 1) := by decide +kernel
theorem dX12_origins_94 : decode cX12_origins 94 = .ok (.iload 5, 2) := by decide +kernel
theorem dX12_origins_96 : decode cX12_origins 96 = .ok (.ishl, 1) := by decide +kernel
theorem dX12_origins_97 : decode cX12_origins 97 = .ok (.goto 4, 3) := by decide +kernel
theorem dX12_origins_85 : decode cX12_origins 85 = .ok (.aload_n 0, 1) := by decide +kernel
theorem dX12_origins_86 : decode cX12_origins 86 = .ok (.getfield 374, 3) := by decide +kernel
theorem dX12_origins_89 : decode cX12_origins 89 = .ok (.iload_n 2, 1) := by decide +kernel
theorem dX12_origins_90 : decode cX12_origins 90 = .ok (.if_icmp .ne 10, 3) := by decide +kernel
theorem dX12_origins_110 : decode cX12_origins 110 = .ok (.iload 4, 2) := by decide +kernel
theorem dX12_origins_112 : decode cX12_origins 112 = .ok (.ireturn, 1) := by decide +kernel
theorem dX12_when_0 : decode cX12_when 0 = .ok (.aload_n 0, 1) := by decide +kernel
theorem dX12_when_1 : decode cX12_when 1 = .ok (.iconst 0, 1) := by decide +kernel
theorem dX12_when_2 : decode cX12_when 2 = .ok (.putfield 74, 3) := by decide +kernel
theorem dX12_when_5 : decode cX12_when 5 = .ok (.aload_n 0, 1) := by decide +kernel
theorem dX12_when_6 : decode cX12_when 6 = .ok (.iload_n 1, 1) := by decide +kernel
theorem dX12_when_7 : decode cX12_when 7 = .ok (.i2l, 1) := by decide +kernel
theorem dX12_when_8 : decode cX12_when 8 = .ok (.invokevirtual 268, 3) := by decide +kernel
theorem dX12_when_11 : decode cX12_when 11 = .ok (.ifCond .eq 24, 3) := by decide +kernel
theorem dX12_when_35 : decode cX12_when 35 = .ok (.bipush (-2), 2) := by decide +kernel
theorem dX12_when_37 : decode cX12_when 37 = .ok (.ireturn, 1) := by decide +kernel
theorem dX12_when_14 : decode cX12_when 14 = .ok (.aload_n 0, 1) := by decide +kernel
theorem dX12_when_15 : decode cX12_when 15 = .ok (.iload_n 3, 1) := by decide +kernel
theorem dX12_when_16 : decode cX12_when 16 = .ok (.i2l, 1) := by decide +kernel
theorem dX12_when_17 : decode cX12_when 17 = .ok (.invokevirtual 268, 3) := by decide +kernel
theorem dX12_when_20 : decode cX12_when 20 = .ok (.ifCond .eq 15, 3) := by decide +kernel
theorem dX12_when_23 : decode cX12_when 23 = .ok (.iload_n 2, 1) := by decide +kernel
theorem dX12_when_24 : decode cX12_when 24 = .ok (.i2l, 1) := by decide +kernel
theorem dX12_when_25 : decode cX12_when 25 = .ok (.lconst 0, 1) := by decide +kernel
theorem dX12_when_26 : decode cX12_when 26 = .ok (.ldc2_w 325, 3) := by decide +kernel
theorem dX12_when_29 : decode cX12_when 29 = .ok (.invokestatic 79, 3) := by decide +kernel
theorem dX12_when_32 : decode cX12_when 32 = .ok (.ifCond .ne 6, 3) := by decide +kernel
theorem dX12_when_38 : decode cX12_when 38 = .ok (.iload_n 2, 1) := by decide +kernel
theorem dX12_when_39 : decode cX12_when 39 = .ok (.iconst 1, 1) := by decide +kernel
theorem dX12_when_40 : decode cX12_when 40 = .ok (.isub, 1) := by decide +kernel
theorem dX12_when_41 : decode cX12_when 41 = .ok (.istore 4, 2) := by decide +kernel
theorem dX12_when_43 : decode cX12_when 43 = .ok (.iload 4, 2) := by decide +kernel
theorem dX12_when_45 : decode cX12_when 45 = .ok (.ifCond .lt 36, 3) := by decide +kernel
theorem dX12_when_81 : decode cX12_when 81 = .ok (.iconst (-1), 1) := by decide +kernel
theorem dX12_when_82 : decode cX12_when 82 = .ok (.ireturn, 1) := by decide +kernel
theorem dX12_when_48 : decode cX12_when 48 = .ok (.aload_n 0, 1) := by decide +kernel
theorem dX12_when_49 : decode cX12_when 49 = .ok (.iload_n 1, 1) := by decide +kernel
theorem dX12_when_50 : decode cX12_when 50 = .ok (.iload 4, 2) := by decide +kernel
theorem dX12_when_52 : decode cX12_when 52 = .ok (.iload_n 2, 1) := by decide +kernel
theorem dX12_when_53 : decode cX12_when 53 = .ok (.invokevirtual 370, 3) := by decide +kernel
theorem dX12_when_56 : decode cX12_when 56 = .ok (.aload_n 0, 1) := by decide +kernel
theorem dX12_when_57 : decode cX12_when 57 = .ok (.getfield 374, 3) := by decide +kernel
theorem dX12_when_60 : decode cX12_when 60 = .ok (.iload_n 2, 1) := by decide +kernel
theorem dX12_when_61 : decode cX12_when 61 = .ok (.if_icmp .ne 14, 3) := by decide +kernel
theorem dX12_when_75 : decode cX12_when 75 = .ok (.iinc 4 (-1), 3) := by decide +kernel
theorem dX12_when_78 : decode cX12_when 78 = .ok (.goto (-35), 3) := by decide +kernel
theorem dX12_when_64 : decode cX12_when 64 = .ok (.aload_n 0, 1) := by decide +kernel
theorem dX12_when_65 : decode cX12_when 65 = .ok (.getfield 377, 3) := by decide +kernel
theorem dX12_when_68 : decode cX12_when 68 = .ok (.iload_n 3, 1) := by decide +kernel
theorem dX12_when_69 : decode cX12_when 69 = .ok (.if_icmp .ne 6, 3) := by decide +kernel
theorem dX12_when_72 : decode cX12_when 72 = .ok (.iload 4, 2) := by decide +kernel
theorem dX12_when_74 : decode cX12_when 74 = .ok (.ireturn, 1) := by decide +kernel
theorem dX12_fits_0 : decode cX12_fits 0 = .ok (.aload_n 0, 1) := by decide +kernel
theorem dX12_fits_1 : decode cX12_fits 1 = .ok (.iconst 0, 1) := by decide +kernel
theorem dX12_fits_2 : decode cX12_fits 2 = .ok (.putfield 74, 3) := by decide +kernel
theorem dX12_fits_5 : decode cX12_fits 5 = .ok (.aload_n 0, 1) := by decide +kernel
theorem dX12_fits_6 : decode cX12_fits 6 = .ok (.iload_n 1, 1) := by decide +kernel
theorem dX12_fits_7 : decode cX12_fits 7 = .ok (.invokevirtual 392, 3) := by decide +kernel
theorem dX12_fits_10 : decode cX12_fits 10 = .ok (.istore_n 2, 1) := by decide +kernel
theorem dX12_fits_11 : decode cX12_fits 11 = .ok (.iload_n 2, 1) := by decide +kernel
theorem dX12_fits_12 : decode cX12_fits 12 = .ok (.ifCond .eq 7, 3) := by decide +kernel
theorem dX12_fits_19 : decode cX12_fits 19 = .ok (.aload_n 0, 1) := by decide +kernel
theorem dX12_fits_20 : decode cX12_fits 20 = .ok (.iload_n 1, 1) := by decide +kernel
theorem dX12_fits_21 : decode cX12_fits 21 = .ok (.invokevirtual 395, 3) := by decide +kernel
theorem dX12_fits_24 : decode cX12_fits 24 = .ok (.ireturn, 1) := by decide +kernel
theorem dX12_fits_15 : decode cX12_fits 15 = .ok (.iload_n 2, 1) := by decide +kernel
theorem dX12_fits_16 : decode cX12_fits 16 = .ok (.goto 8, 3) := by decide +kernel
theorem dX12_fit_0 : decode cX12_fit 0 = .ok (.aload_n 0, 1) := by decide +kernel
theorem dX12_fit_1 : decode cX12_fit 1 = .ok (.iconst 0, 1) := by decide +kernel
theorem dX12_fit_2 : decode cX12_fit 2 = .ok (.putfield 74, 3) := by decide +kernel
theorem dX12_fit_5 : decode cX12_fit 5 = .ok (.iload_n 2, 1) := by decide +kernel
theorem dX12_fit_6 : decode cX12_fit 6 = .ok (.i2l, 1) := by decide +kernel
theorem dX12_fit_7 : decode cX12_fit 7 = .ok (.lconst 0, 1) := by decide +kernel
theorem dX12_fit_8 : decode cX12_fit 8 = .ok (.lconst 1, 1) := by decide +kernel
theorem dX12_fit_9 : decode cX12_fit 9 = .ok (.invokestatic 79, 3) := by decide +kernel
theorem dX12_fit_12 : decode cX12_fit 12 = .ok (.ifCond .ne 7, 3) := by decide +kernel
theorem dX12_fit_19 : decode cX12_fit 19 = .ok (.aload_n 0, 1) := by decide +kernel
theorem dX12_fit_20 : decode cX12_fit 20 = .ok (.iload_n 1, 1) := by decide +kernel
theorem dX12_fit_21 : decode cX12_fit 21 = .ok (.invokevirtual 392, 3) := by decide +kernel
theorem dX12_fit_24 : decode cX12_fit 24 = .ok (.ifCond .eq 7, 3) := by decide +kernel
theorem dX12_fit_31 : decode cX12_fit 31 = .ok (.iconst 0, 1) := by decide +kernel
theorem dX12_fit_32 : decode cX12_fit 32 = .ok (.istore_n 3, 1) := by decide +kernel
theorem dX12_fit_33 : decode cX12_fit 33 = .ok (.iload_n 3, 1) := by decide +kernel
theorem dX12_fit_34 : decode cX12_fit 34 = .ok (.bipush 6, 2) := by decide +kernel
theorem dX12_fit_36 : decode cX12_fit 36 = .ok (.if_icmp .gt 80, 3) := by decide +kernel
theorem dX12_fit_39 : decode cX12_fit 39 = .ok (.bipush (-3), 2) := by decide +kernel
theorem dX12_fit_41 : decode cX12_fit 41 = .ok (.istore 4, 2) := by decide +kernel
theorem dX12_fit_43 : decode cX12_fit 43 = .ok (.iload 4, 2) := by decide +kernel
theorem dX12_fit_45 : decode cX12_fit 45 = .ok (.iconst 3, 1) := by decide +kernel
theorem dX12_fit_46 : decode cX12_fit 46 = .ok (.if_icmp .gt 64, 3) := by decide +kernel
theorem dX12_fit_49 : decode cX12_fit 49 = .ok (.bipush (-3), 2) := by decide +kernel
theorem dX12_fit_51 : decode cX12_fit 51 = .ok (.istore 5, 2) := by decide +kernel
theorem dX12_fit_53 : decode cX12_fit 53 = .ok (.iload 5, 2) := by decide +kernel
theorem dX12_fit_55 : decode cX12_fit 55 = .ok (.iconst 3, 1) := by decide +kernel
theorem dX12_fit_56 : decode cX12_fit 56 = .ok (.if_icmp .gt 48, 3) := by decide +kernel
theorem dX12_fit_59 : decode cX12_fit 59 = .ok (.iload 4, 2) := by decide +kernel
theorem dX12_fit_61 : decode cX12_fit 61 = .ok (.invokestatic 398, 3) := by decide +kernel
theorem dX12_fit_64 : decode cX12_fit 64 = .ok (.iload 5, 2) := by decide +kernel
theorem dX12_fit_66 : decode cX12_fit 66 = .ok (.invokestatic 398, 3) := by decide +kernel
theorem dX12_fit_69 : decode cX12_fit 69 = .ok (.iadd, 1) := by decide +kernel
theorem dX12_fit_70 : decode cX12_fit 70 = .ok (.iload_n 3, 1) := by decide +kernel
theorem dX12_fit_71 : decode cX12_fit 71 = .ok (.if_icmp .ne 27, 3) := by decide +kernel
theorem dX12_fit_98 : decode cX12_fit 98 = .ok (.iinc 5 1, 3) := by decide +kernel
theorem dX12_fit_101 : decode cX12_fit 101 = .ok (.goto (-48), 3) := by decide +kernel
theorem dX12_fit_74 : decode cX12_fit 74 = .ok (.aload_n 0, 1) := by decide +kernel
theorem dX12_fit_75 : decode cX12_fit 75 = .ok (.iload_n 1, 1) := by decide +kernel
theorem dX12_fit_76 : decode cX12_fit 76 = .ok (.iload 4, 2) := by decide +kernel
theorem dX12_fit_78 : decode cX12_fit 78 = .ok (.iload 5, 2) := by decide +kernel
theorem dX12_fit_80 : decode cX12_fit 80 = .ok (.invokevirtual 389, 3) := by decide +kernel
theorem dX12_fit_83 : decode cX12_fit 83 = .ok (.ifCond .eq 15, 3) := by decide +kernel
theorem dX12_fit_86 : decode cX12_fit 86 = .ok (.iload_n 2, 1) := by decide +kernel
theorem dX12_fit_87 : decode cX12_fit 87 = .ok (.ifCond .ne 8, 3) := by decide +kernel
theorem dX12_fit_95 : decode cX12_fit 95 = .ok (.iload 5, 2) := by decide +kernel
theorem dX12_fit_97 : decode cX12_fit 97 = .ok (.ireturn, 1) := by decide +kernel
theorem dX12_fit_90 : decode cX12_fit 90 = .ok (.iload 4, 2) := by decide +kernel
theorem dX12_fit_92 : decode cX12_fit 92 = .ok (.goto 5, 3) := by decide +kernel
theorem dX12_fit_104 : decode cX12_fit 104 = .ok (.iinc 4 1, 3) := by decide +kernel
theorem dX12_fit_107 : decode cX12_fit 107 = .ok (.goto (-64), 3) := by decide +kernel
theorem dX12_fit_110 : decode cX12_fit 110 = .ok (.iinc 3 1, 3) := by decide +kernel
theorem dX12_fit_113 : decode cX12_fit 113 = .ok (.goto (-80), 3) := by decide +kernel
theorem dX12_fit_116 : decode cX12_fit 116 = .ok (.sipush (-1000), 3) := by decide +kernel
theorem dX12_fit_119 : decode cX12_fit 119 = .ok (.ireturn, 1) := by decide +kernel
theorem dX12_fit_27 : decode cX12_fit 27 = .ok (.sipush (-1000), 3) := by decide +kernel
theorem dX12_fit_30 : decode cX12_fit 30 = .ok (.ireturn, 1) := by decide +kernel
theorem dX12_fit_15 : decode cX12_fit 15 = .ok (.sipush (-1000), 3) := by decide +kernel
theorem dX12_fit_18 : decode cX12_fit 18 = .ok (.ireturn, 1) := by decide +kernel
theorem dX12_ask_0 : decode cX12_ask 0 = .ok (.aload_n 0, 1) := by decide +kernel
theorem dX12_ask_1 : decode cX12_ask 1 = .ok (.iconst 0, 1) := by decide +kernel
theorem dX12_ask_2 : decode cX12_ask 2 = .ok (.putfield 74, 3) := by decide +kernel
theorem dX12_ask_5 : decode cX12_ask 5 = .ok (.aload_n 0, 1) := by decide +kernel
theorem dX12_ask_6 : decode cX12_ask 6 = .ok (.iload_n 1, 1) := by decide +kernel
theorem dX12_ask_7 : decode cX12_ask 7 = .ok (.invokevirtual 392, 3) := by decide +kernel
theorem dX12_ask_10 : decode cX12_ask 10 = .ok (.istore_n 2, 1) := by decide +kernel
theorem dX12_ask_11 : decode cX12_ask 11 = .ok (.iload_n 2, 1) := by decide +kernel
theorem dX12_ask_12 : decode cX12_ask 12 = .ok (.ifCond .eq 5, 3) := by decide +kernel
theorem dX12_ask_17 : decode cX12_ask 17 = .ok (.aload_n 0, 1) := by decide +kernel
theorem dX12_ask_18 : decode cX12_ask 18 = .ok (.iload_n 1, 1) := by decide +kernel
theorem dX12_ask_19 : decode cX12_ask 19 = .ok (.invokevirtual 407, 3) := by decide +kernel
theorem dX12_ask_22 : decode cX12_ask 22 = .ok (.aload_n 0, 1) := by decide +kernel
theorem dX12_ask_23 : decode cX12_ask 23 = .ok (.getfield 404, 3) := by decide +kernel
theorem dX12_ask_26 : decode cX12_ask 26 = .ok (.ireturn, 1) := by decide +kernel
theorem dX12_ask_15 : decode cX12_ask 15 = .ok (.iload_n 2, 1) := by decide +kernel
theorem dX12_ask_16 : decode cX12_ask 16 = .ok (.ireturn, 1) := by decide +kernel
theorem dX12_leaves_0 : decode cX12_leaves 0 = .ok (.aload_n 0, 1) := by decide +kernel
theorem dX12_leaves_1 : decode cX12_leaves 1 = .ok (.iconst 0, 1) := by decide +kernel
theorem dX12_leaves_2 : decode cX12_leaves 2 = .ok (.putfield 74, 3) := by decide +kernel
theorem dX12_leaves_5 : decode cX12_leaves 5 = .ok (.aload_n 0, 1) := by decide +kernel
theorem dX12_leaves_6 : decode cX12_leaves 6 = .ok (.iload_n 1, 1) := by decide +kernel
theorem dX12_leaves_7 : decode cX12_leaves 7 = .ok (.invokevirtual 392, 3) := by decide +kernel
theorem dX12_leaves_10 : decode cX12_leaves 10 = .ok (.istore_n 2, 1) := by decide +kernel
theorem dX12_leaves_11 : decode cX12_leaves 11 = .ok (.iload_n 2, 1) := by decide +kernel
theorem dX12_leaves_12 : decode cX12_leaves 12 = .ok (.ifCond .eq 5, 3) := by decide +kernel
theorem dX12_leaves_17 : decode cX12_leaves 17 = .ok (.aload_n 0, 1) := by decide +kernel
theorem dX12_leaves_18 : decode cX12_leaves 18 = .ok (.iload_n 1, 1) := by decide +kernel
theorem dX12_leaves_19 : decode cX12_leaves 19 = .ok (.invokevirtual 407, 3) := by decide +kernel
theorem dX12_leaves_22 : decode cX12_leaves 22 = .ok (.aload_n 0, 1) := by decide +kernel
theorem dX12_leaves_23 : decode cX12_leaves 23 = .ok (.getfield 401, 3) := by decide +kernel
theorem dX12_leaves_26 : decode cX12_leaves 26 = .ok (.ireturn, 1) := by decide +kernel
theorem dX12_leaves_15 : decode cX12_leaves 15 = .ok (.iload_n 2, 1) := by decide +kernel
theorem dX12_leaves_16 : decode cX12_leaves 16 = .ok (.ireturn, 1) := by decide +kernel
theorem dX12_fault_0 : decode cX12_fault 0 = .ok (.aload_n 0, 1) := by decide +kernel
theorem dX12_fault_1 : decode cX12_fault 1 = .ok (.iconst 0, 1) := by decide +kernel
theorem dX12_fault_2 : decode cX12_fault 2 = .ok (.putfield 74, 3) := by decide +kernel
theorem dX12_fault_5 : decode cX12_fault 5 = .ok (.iload_n 1, 1) := by decide +kernel
theorem dX12_fault_6 : decode cX12_fault 6 = .ok (.ifCond .ne 10, 3) := by decide +kernel
theorem dX12_fault_16 : decode cX12_fault 16 = .ok (.iload_n 1, 1) := by decide +kernel
theorem dX12_fault_17 : decode cX12_fault 17 = .ok (.iconst 1, 1) := by decide +kernel
theorem dX12_fault_18 : decode cX12_fault 18 = .ok (.if_icmp .ne 10, 3) := by decide +kernel
theorem dX12_fault_28 : decode cX12_fault 28 = .ok (.iconst (-1), 1) := by decide +kernel
theorem dX12_fault_29 : decode cX12_fault 29 = .ok (.ireturn, 1) := by decide +kernel
theorem dX12_fault_21 : decode cX12_fault 21 = .ok (.aload_n 0, 1) := by decide +kernel
theorem dX12_fault_22 : decode cX12_fault 22 = .ok (.getfield 27, 3) := by decide +kernel
theorem dX12_fault_25 : decode cX12_fault 25 = .ok (.goto 4, 3) := by decide +kernel
theorem dX12_fault_9 : decode cX12_fault 9 = .ok (.aload_n 0, 1) := by decide +kernel
theorem dX12_fault_10 : decode cX12_fault 10 = .ok (.getfield 153, 3) := by decide +kernel
theorem dX12_fault_13 : decode cX12_fault 13 = .ok (.goto 16, 3) := by decide +kernel
theorem dX12_end_0 : decode cX12_end 0 = .ok (.aload_n 0, 1) := by decide +kernel
theorem dX12_end_1 : decode cX12_end 1 = .ok (.iconst 0, 1) := by decide +kernel
theorem dX12_end_2 : decode cX12_end 2 = .ok (.putfield 74, 3) := by decide +kernel
theorem dX12_end_5 : decode cX12_end 5 = .ok (.iload_n 1, 1) := by decide +kernel
theorem dX12_end_6 : decode cX12_end 6 = .ok (.i2l, 1) := by decide +kernel
theorem dX12_end_7 : decode cX12_end 7 = .ok (.lconst 0, 1) := by decide +kernel
theorem dX12_end_8 : decode cX12_end 8 = .ok (.aload_n 0, 1) := by decide +kernel
theorem dX12_end_9 : decode cX12_end 9 = .ok (.getfield 91, 3) := by decide +kernel
theorem dX12_end_12 : decode cX12_end 12 = .ok (.i2l, 1) := by decide +kernel
theorem dX12_end_13 : decode cX12_end 13 = .ok (.invokestatic 79, 3) := by decide +kernel
theorem dX12_end_16 : decode cX12_end 16 = .ok (.ifCond .ne 5, 3) := by decide +kernel
theorem dX12_end_21 : decode cX12_end 21 = .ok (.aload_n 0, 1) := by decide +kernel
theorem dX12_end_22 : decode cX12_end 22 = .ok (.iload_n 1, 1) := by decide +kernel
theorem dX12_end_23 : decode cX12_end 23 = .ok (.putfield 91, 3) := by decide +kernel
theorem dX12_end_26 : decode cX12_end 26 = .ok (.iload_n 1, 1) := by decide +kernel
theorem dX12_end_27 : decode cX12_end 27 = .ok (.ireturn, 1) := by decide +kernel
theorem dX12_end_19 : decode cX12_end 19 = .ok (.iconst (-1), 1) := by decide +kernel
theorem dX12_end_20 : decode cX12_end 20 = .ok (.ireturn, 1) := by decide +kernel
theorem dX12_pushes_0 : decode cX12_pushes 0 = .ok (.aload_n 0, 1) := by decide +kernel
theorem dX12_pushes_1 : decode cX12_pushes 1 = .ok (.iconst 0, 1) := by decide +kernel
theorem dX12_pushes_2 : decode cX12_pushes 2 = .ok (.putfield 74, 3) := by decide +kernel
theorem dX12_pushes_5 : decode cX12_pushes 5 = .ok (.aload_n 0, 1) := by decide +kernel
theorem dX12_pushes_6 : decode cX12_pushes 6 = .ok (.iload_n 1, 1) := by decide +kernel
theorem dX12_pushes_7 : decode cX12_pushes 7 = .ok (.iload_n 2, 1) := by decide +kernel
theorem dX12_pushes_8 : decode cX12_pushes 8 = .ok (.invokevirtual 352, 3) := by decide +kernel
theorem dX12_pushes_11 : decode cX12_pushes 11 = .ok (.ifCond .ne 6, 3) := by decide +kernel
theorem dX12_pushes_17 : decode cX12_pushes 17 = .ok (.aload_n 0, 1) := by decide +kernel
theorem dX12_pushes_18 : decode cX12_pushes 18 = .ok (.iload_n 2, 1) := by decide +kernel
theorem dX12_pushes_19 : decode cX12_pushes 19 = .ok (.invokevirtual 355, 3) := by decide +kernel
theorem dX12_pushes_22 : decode cX12_pushes 22 = .ok (.aload_n 0, 1) := by decide +kernel
theorem dX12_pushes_23 : decode cX12_pushes 23 = .ok (.getfield 62, 3) := by decide +kernel
theorem dX12_pushes_26 : decode cX12_pushes 26 = .ok (.aload_n 0, 1) := by decide +kernel
theorem dX12_pushes_27 : decode cX12_pushes 27 = .ok (.iload_n 1, 1) := by decide +kernel
theorem dX12_pushes_28 : decode cX12_pushes 28 = .ok (.invokevirtual 358, 3) := by decide +kernel
theorem dX12_pushes_31 : decode cX12_pushes 31 = .ok (.iaload, 1) := by decide +kernel
theorem dX12_pushes_32 : decode cX12_pushes 32 = .ok (.ldc 124, 2) := by decide +kernel
theorem dX12_pushes_34 : decode cX12_pushes 34 = .ok (.if_icmp .lt 7, 3) := by decide +kernel
theorem dX12_pushes_41 : decode cX12_pushes 41 = .ok (.aload_n 0, 1) := by decide +kernel
theorem dX12_pushes_42 : decode cX12_pushes 42 = .ok (.getfield 62, 3) := by decide +kernel
theorem dX12_pushes_45 : decode cX12_pushes 45 = .ok (.aload_n 0, 1) := by decide +kernel
theorem dX12_pushes_46 : decode cX12_pushes 46 = .ok (.iload_n 1, 1) := by decide +kernel
theorem dX12_pushes_47 : decode cX12_pushes 47 = .ok (.invokevirtual 358, 3) := by decide +kernel
theorem dX12_pushes_50 : decode cX12_pushes 50 = .ok (.iaload, 1) := by decide +kernel
theorem dX12_pushes_51 : decode cX12_pushes 51 = .ok (.ireturn, 1) := by decide +kernel
theorem dX12_pushes_37 : decode cX12_pushes 37 = .ok (.iconst (-1), 1) := by decide +kernel
theorem dX12_pushes_38 : decode cX12_pushes 38 = .ok (.goto 13, 3) := by decide +kernel
theorem dX12_pushes_14 : decode cX12_pushes 14 = .ok (.bipush (-2), 2) := by decide +kernel
theorem dX12_pushes_16 : decode cX12_pushes 16 = .ok (.ireturn, 1) := by decide +kernel
theorem dX12_soonest_0 : decode cX12_soonest 0 = .ok (.aload_n 0, 1) := by decide +kernel
theorem dX12_soonest_1 : decode cX12_soonest 1 = .ok (.iconst 0, 1) := by decide +kernel
theorem dX12_soonest_2 : decode cX12_soonest 2 = .ok (.putfield 74, 3) := by decide +kernel
theorem dX12_soonest_5 : decode cX12_soonest 5 = .ok (.aload_n 0, 1) := by decide +kernel
theorem dX12_soonest_6 : decode cX12_soonest 6 = .ok (.iload_n 1, 1) := by decide +kernel
theorem dX12_soonest_7 : decode cX12_soonest 7 = .ok (.iload_n 2, 1) := by decide +kernel
theorem dX12_soonest_8 : decode cX12_soonest 8 = .ok (.invokevirtual 352, 3) := by decide +kernel
theorem dX12_soonest_11 : decode cX12_soonest 11 = .ok (.ifCond .ne 6, 3) := by decide +kernel
theorem dX12_soonest_17 : decode cX12_soonest 17 = .ok (.iconst 1, 1) := by decide +kernel
theorem dX12_soonest_18 : decode cX12_soonest 18 = .ok (.aload_n 0, 1) := by decide +kernel
theorem dX12_soonest_19 : decode cX12_soonest 19 = .ok (.getfield 40, 3) := by decide +kernel
theorem dX12_soonest_22 : decode cX12_soonest 22 = .ok (.iconst 3, 1) := by decide +kernel
theorem dX12_soonest_23 : decode cX12_soonest 23 = .ok (.iload_n 1, 1) := by decide +kernel
theorem dX12_soonest_24 : decode cX12_soonest 24 = .ok (.imul, 1) := by decide +kernel
theorem dX12_soonest_25 : decode cX12_soonest 25 = .ok (.iconst 1, 1) := by decide +kernel
theorem dX12_soonest_26 : decode cX12_soonest 26 = .ok (.iadd, 1) := by decide +kernel
theorem dX12_soonest_27 : decode cX12_soonest 27 = .ok (.iaload, 1) := by decide +kernel
theorem dX12_soonest_28 : decode cX12_soonest 28 = .ok (.ishl, 1) := by decide +kernel
theorem dX12_soonest_29 : decode cX12_soonest 29 = .ok (.istore_n 3, 1) := by decide +kernel
theorem dX12_soonest_30 : decode cX12_soonest 30 = .ok (.aload_n 0, 1) := by decide +kernel
theorem dX12_soonest_31 : decode cX12_soonest 31 = .ok (.getfield 40, 3) := by decide +kernel
theorem dX12_soonest_34 : decode cX12_soonest 34 = .ok (.iconst 3, 1) := by decide +kernel
theorem dX12_soonest_35 : decode cX12_soonest 35 = .ok (.iload_n 1, 1) := by decide +kernel
theorem dX12_soonest_36 : decode cX12_soonest 36 = .ok (.imul, 1) := by decide +kernel
theorem dX12_soonest_37 : decode cX12_soonest 37 = .ok (.iconst 2, 1) := by decide +kernel
theorem dX12_soonest_38 : decode cX12_soonest 38 = .ok (.iadd, 1) := by decide +kernel
theorem dX12_soonest_39 : decode cX12_soonest 39 = .ok (.iaload, 1) := by decide +kernel
theorem dX12_soonest_40 : decode cX12_soonest 40 = .ok (.istore 4, 2) := by decide +kernel
theorem dX12_soonest_42 : decode cX12_soonest 42 = .ok (.iload 4, 2) := by decide +kernel
theorem dX12_soonest_44 : decode cX12_soonest 44 = .ok (.bipush 100, 2) := by decide +kernel
theorem dX12_soonest_46 : decode cX12_soonest 46 = .ok (.if_icmp .ge 123, 3) := by decide +kernel
theorem dX12_soonest_49 : decode cX12_soonest 49 = .ok (.iconst 0, 1) := by decide +kernel
theorem dX12_soonest_50 : decode cX12_soonest 50 = .ok (.istore 5, 2) := by decide +kernel
theorem dX12_soonest_52 : decode cX12_soonest 52 = .ok (.iconst 0, 1) := by decide +kernel
theorem dX12_soonest_53 : decode cX12_soonest 53 = .ok (.istore 6, 2) := by decide +kernel
theorem dX12_soonest_55 : decode cX12_soonest 55 = .ok (.iload 6, 2) := by decide +kernel
theorem dX12_soonest_57 : decode cX12_soonest 57 = .ok (.aload_n 0, 1) := by decide +kernel
theorem dX12_soonest_58 : decode cX12_soonest 58 = .ok (.getfield 34, 3) := by decide +kernel
theorem dX12_soonest_61 : decode cX12_soonest 61 = .ok (.iconst 0, 1) := by decide +kernel
theorem dX12_soonest_62 : decode cX12_soonest 62 = .ok (.iaload, 1) := by decide +kernel
theorem dX12_soonest_63 : decode cX12_soonest 63 = .ok (.if_icmp .ge 97, 3) := by decide +kernel
theorem dX12_soonest_160 : decode cX12_soonest 160 = .ok (.iload 5, 2) := by decide +kernel
theorem dX12_soonest_162 : decode cX12_soonest 162 = .ok (.istore_n 3, 1) := by decide +kernel
theorem dX12_soonest_163 : decode cX12_soonest 163 = .ok (.iinc 4 1, 3) := by decide +kernel
theorem dX12_soonest_166 : decode cX12_soonest 166 = .ok (.goto (-124), 3) := by decide +kernel
theorem dX12_soonest_66 : decode cX12_soonest 66 = .ok (.iconst 0, 1) := by decide +kernel
theorem dX12_soonest_67 : decode cX12_soonest 67 = .ok (.istore 7, 2) := by decide +kernel
theorem dX12_soonest_69 : decode cX12_soonest 69 = .ok (.iload 7, 2) := by decide +kernel
theorem dX12_soonest_71 : decode cX12_soonest 71 = .ok (.iconst 3, 1) := by decide +kernel
theorem dX12_soonest_72 : decode cX12_soonest 72 = .ok (.if_icmp .ge 82, 3) := by decide +kernel
theorem dX12_soonest_75 : decode cX12_soonest 75 = .ok (.iload_n 3, 1) := by decide +kernel
theorem dX12_soonest_76 : decode cX12_soonest 76 = .ok (.iload 6, 2) := by decide +kernel
theorem dX12_soonest_78 : decode cX12_soonest 78 = .ok (.invokestatic 255, 3) := by decide +kernel
theorem dX12_soonest_81 : decode cX12_soonest 81 = .ok (.ifCond .ne 6, 3) := by decide +kernel
theorem dX12_soonest_87 : decode cX12_soonest 87 = .ok (.aload_n 0, 1) := by decide +kernel
theorem dX12_soonest_88 : decode cX12_soonest 88 = .ok (.aload_n 0, 1) := by decide +kernel
theorem dX12_soonest_89 : decode cX12_soonest 89 = .ok (.iload 6, 2) := by decide +kernel
theorem dX12_soonest_91 : decode cX12_soonest 91 = .ok (.iload 7, 2) := by decide +kernel
theorem dX12_soonest_93 : decode cX12_soonest 93 = .ok (.invokevirtual 305, 3) := by decide +kernel
theorem dX12_soonest_96 : decode cX12_soonest 96 = .ok (.iload 4, 2) := by decide +kernel
theorem dX12_soonest_98 : decode cX12_soonest 98 = .ok (.invokevirtual 286, 3) := by decide +kernel
theorem dX12_soonest_101 : decode cX12_soonest 101 = .ok (.istore 8, 2) := by decide +kernel
theorem dX12_soonest_103 : decode cX12_soonest 103 = .ok (.aload_n 0, 1) := by decide +kernel
theorem dX12_soonest_104 : decode cX12_soonest 104 = .ok (.iload 8, 2) := by decide +kernel
theorem dX12_soonest_106 : decode cX12_soonest 106 = .ok (.invokevirtual 273, 3) := by decide +kernel
theorem dX12_soonest_109 : decode cX12_soonest 109 = .ok (.ifCond .ne 15, 3) := by decide +kernel
theorem dX12_soonest_124 : decode cX12_soonest 124 = .ok (.aload_n 0, 1) := by decide +kernel
theorem dX12_soonest_125 : decode cX12_soonest 125 = .ok (.iload 8, 2) := by decide +kernel
theorem dX12_soonest_127 : decode cX12_soonest 127 = .ok (.aload_n 0, 1) := by decide +kernel
theorem dX12_soonest_128 : decode cX12_soonest 128 = .ok (.iload 4, 2) := by decide +kernel
theorem dX12_soonest_130 : decode cX12_soonest 130 = .ok (.iconst 1, 1) := by decide +kernel
theorem dX12_soonest_131 : decode cX12_soonest 131 = .ok (.iadd, 1) := by decide +kernel
theorem dX12_soonest_132 : decode cX12_soonest 132 = .ok (.invokevirtual 262, 3) := by decide +kernel
theorem dX12_soonest_135 : decode cX12_soonest 135 = .ok (.iconst (-1), 1) := by decide +kernel
theorem dX12_soonest_136 : decode cX12_soonest 136 = .ok (.invokevirtual 315, 3) := by decide +kernel
theorem dX12_soonest_139 : decode cX12_soonest 139 = .ok (.iload_n 2, 1) := by decide +kernel
theorem dX12_soonest_140 : decode cX12_soonest 140 = .ok (.if_icmp .ne 8, 3) := by decide +kernel
theorem dX12_soonest_148 : decode cX12_soonest 148 = .ok (.iinc 7 1, 3) := by decide +kernel
theorem dX12_soonest_151 : decode cX12_soonest 151 = .ok (.goto (-82), 3) := by decide +kernel
theorem dX12_soonest_143 : decode cX12_soonest 143 = .ok (.iload 4, 2) := by decide +kernel
theorem dX12_soonest_145 : decode cX12_soonest 145 = .ok (.iconst 1, 1) := by decide +kernel
theorem dX12_soonest_146 : decode cX12_soonest 146 = .ok (.iadd, 1) := by decide +kernel
theorem dX12_soonest_147 : decode cX12_soonest 147 = .ok (.ireturn, 1) := by decide +kernel
theorem dX12_soonest_112 : decode cX12_soonest 112 = .ok (.iload 5, 2) := by decide +kernel
theorem dX12_soonest_114 : decode cX12_soonest 114 = .ok (.iconst 1, 1) := by decide +kernel
theorem dX12_soonest_115 : decode cX12_soonest 115 = .ok (.iload 8, 2) := by decide +kernel
theorem dX12_soonest_117 : decode cX12_soonest 117 = .ok (.ishl, 1) := by decide +kernel
theorem dX12_soonest_118 : decode cX12_soonest 118 = .ok (.ior, 1) := by decide +kernel
theorem dX12_soonest_119 : decode cX12_soonest 119 = .ok (.istore 5, 2) := by decide +kernel
theorem dX12_soonest_121 : decode cX12_soonest 121 = .ok (.goto 27, 3) := by decide +kernel
theorem dX12_soonest_84 : decode cX12_soonest 84 = .ok (.goto 64, 3) := by decide +kernel
theorem dX12_soonest_154 : decode cX12_soonest 154 = .ok (.iinc 6 1, 3) := by decide +kernel
theorem dX12_soonest_157 : decode cX12_soonest 157 = .ok (.goto (-102), 3) := by decide +kernel
theorem dX12_soonest_169 : decode cX12_soonest 169 = .ok (.iconst (-1), 1) := by decide +kernel
theorem dX12_soonest_170 : decode cX12_soonest 170 = .ok (.ireturn, 1) := by decide +kernel
theorem dX12_soonest_14 : decode cX12_soonest 14 = .ok (.bipush (-2), 2) := by decide +kernel
theorem dX12_soonest_16 : decode cX12_soonest 16 = .ok (.ireturn, 1) := by decide +kernel
theorem dX12_ward_0 : decode cX12_ward 0 = .ok (.aload_n 0, 1) := by decide +kernel
theorem dX12_ward_1 : decode cX12_ward 1 = .ok (.iconst 0, 1) := by decide +kernel
theorem dX12_ward_2 : decode cX12_ward 2 = .ok (.putfield 74, 3) := by decide +kernel
theorem dX12_ward_5 : decode cX12_ward 5 = .ok (.aload_n 0, 1) := by decide +kernel
theorem dX12_ward_6 : decode cX12_ward 6 = .ok (.iload_n 1, 1) := by decide +kernel
theorem dX12_ward_7 : decode cX12_ward 7 = .ok (.iload_n 2, 1) := by decide +kernel
theorem dX12_ward_8 : decode cX12_ward 8 = .ok (.invokevirtual 352, 3) := by decide +kernel
theorem dX12_ward_11 : decode cX12_ward 11 = .ok (.ifCond .ne 6, 3) := by decide +kernel
theorem dX12_ward_17 : decode cX12_ward 17 = .ok (.iconst 0, 1) := by decide +kernel
theorem dX12_ward_18 : decode cX12_ward 18 = .ok (.istore_n 3, 1) := by decide +kernel
theorem dX12_ward_19 : decode cX12_ward 19 = .ok (.iload_n 3, 1) := by decide +kernel
theorem dX12_ward_20 : decode cX12_ward 20 = .ok (.aload_n 0, 1) := by decide +kernel
theorem dX12_ward_21 : decode cX12_ward 21 = .ok (.getfield 34, 3) := by decide +kernel
theorem dX12_ward_24 : decode cX12_ward 24 = .ok (.iconst 0, 1) := by decide +kernel
theorem dX12_ward_25 : decode cX12_ward 25 = .ok (.iaload, 1) := by decide +kernel
theorem dX12_ward_26 : decode cX12_ward 26 = .ok (.if_icmp .ge 20, 3) := by decide +kernel
theorem dX12_ward_46 : decode cX12_ward 46 = .ok (.bipush 99, 2) := by decide +kernel
theorem dX12_ward_48 : decode cX12_ward 48 = .ok (.istore_n 3, 1) := by decide +kernel
theorem dX12_ward_49 : decode cX12_ward 49 = .ok (.iload_n 3, 1) := by decide +kernel
theorem dX12_ward_50 : decode cX12_ward 50 = .ok (.ifCond .lt 89, 3) := by decide +kernel
theorem dX12_ward_53 : decode cX12_ward 53 = .ok (.iconst 0, 1) := by decide +kernel
theorem dX12_ward_54 : decode cX12_ward 54 = .ok (.istore 4, 2) := by decide +kernel
theorem dX12_ward_56 : decode cX12_ward 56 = .ok (.iload 4, 2) := by decide +kernel
theorem dX12_ward_58 : decode cX12_ward 58 = .ok (.aload_n 0, 1) := by decide +kernel
theorem dX12_ward_59 : decode cX12_ward 59 = .ok (.getfield 34, 3) := by decide +kernel
theorem dX12_ward_62 : decode cX12_ward 62 = .ok (.iconst 0, 1) := by decide +kernel
theorem dX12_ward_63 : decode cX12_ward 63 = .ok (.iaload, 1) := by decide +kernel
theorem dX12_ward_64 : decode cX12_ward 64 = .ok (.if_icmp .ge 69, 3) := by decide +kernel
theorem dX12_ward_133 : decode cX12_ward 133 = .ok (.iinc 3 (-1), 3) := by decide +kernel
theorem dX12_ward_136 : decode cX12_ward 136 = .ok (.goto (-87), 3) := by decide +kernel
theorem dX12_ward_139 : decode cX12_ward 139 = .ok (.aload_n 0, 1) := by decide +kernel
theorem dX12_ward_140 : decode cX12_ward 140 = .ok (.getfield 62, 3) := by decide +kernel
theorem dX12_ward_143 : decode cX12_ward 143 = .ok (.aload_n 0, 1) := by decide +kernel
theorem dX12_ward_144 : decode cX12_ward 144 = .ok (.iload_n 1, 1) := by decide +kernel
theorem dX12_ward_145 : decode cX12_ward 145 = .ok (.invokevirtual 358, 3) := by decide +kernel
theorem dX12_ward_148 : decode cX12_ward 148 = .ok (.iaload, 1) := by decide +kernel
theorem dX12_ward_149 : decode cX12_ward 149 = .ok (.ldc 124, 2) := by decide +kernel
theorem dX12_ward_151 : decode cX12_ward 151 = .ok (.if_icmp .lt 7, 3) := by decide +kernel
theorem dX12_ward_158 : decode cX12_ward 158 = .ok (.aload_n 0, 1) := by decide +kernel
theorem dX12_ward_159 : decode cX12_ward 159 = .ok (.getfield 62, 3) := by decide +kernel
theorem dX12_ward_162 : decode cX12_ward 162 = .ok (.aload_n 0, 1) := by decide +kernel
theorem dX12_ward_163 : decode cX12_ward 163 = .ok (.iload_n 1, 1) := by decide +kernel
theorem dX12_ward_164 : decode cX12_ward 164 = .ok (.invokevirtual 358, 3) := by decide +kernel
theorem dX12_ward_167 : decode cX12_ward 167 = .ok (.iaload, 1) := by decide +kernel
theorem dX12_ward_168 : decode cX12_ward 168 = .ok (.ireturn, 1) := by decide +kernel
theorem dX12_ward_154 : decode cX12_ward 154 = .ok (.iconst (-1), 1) := by decide +kernel
theorem dX12_ward_155 : decode cX12_ward 155 = .ok (.goto 13, 3) := by decide +kernel
theorem dX12_ward_29 : decode cX12_ward 29 = .ok (.aload_n 0, 1) := by decide +kernel
theorem dX12_ward_30 : decode cX12_ward 30 = .ok (.getfield 62, 3) := by decide +kernel
theorem dX12_ward_33 : decode cX12_ward 33 = .ok (.sipush 1200, 3) := by decide +kernel
theorem dX12_ward_36 : decode cX12_ward 36 = .ok (.iload_n 3, 1) := by decide +kernel
theorem dX12_ward_37 : decode cX12_ward 37 = .ok (.iadd, 1) := by decide +kernel
theorem dX12_ward_38 : decode cX12_ward 38 = .ok (.iconst 0, 1) := by decide +kernel
theorem dX12_ward_39 : decode cX12_ward 39 = .ok (.iastore, 1) := by decide +kernel
theorem dX12_ward_40 : decode cX12_ward 40 = .ok (.iinc 3 1, 3) := by decide +kernel
theorem dX12_ward_43 : decode cX12_ward 43 = .ok (.goto (-24), 3) := by decide +kernel
theorem dX12_ward_67 : decode cX12_ward 67 = .ok (.ldc 124, 2) := by decide +kernel
theorem dX12_ward_69 : decode cX12_ward 69 = .ok (.istore 5, 2) := by decide +kernel
theorem dX12_ward_71 : decode cX12_ward 71 = .ok (.iconst 0, 1) := by decide +kernel
theorem dX12_ward_72 : decode cX12_ward 72 = .ok (.istore 6, 2) := by decide +kernel
theorem dX12_ward_74 : decode cX12_ward 74 = .ok (.iload 6, 2) := by decide +kernel
theorem dX12_ward_76 : decode cX12_ward 76 = .ok (.iconst 3, 1) := by decide +kernel
theorem dX12_ward_77 : decode cX12_ward 77 = .ok (.if_icmp .ge 36, 3) := by decide +kernel
theorem dX12_ward_80 : decode cX12_ward 80 = .ok (.aload_n 0, 1) := by decide +kernel
theorem dX12_ward_81 : decode cX12_ward 81 = .ok (.iload_n 3, 1) := by decide +kernel
theorem dX12_ward_82 : decode cX12_ward 82 = .ok (.iload 4, 2) := by decide +kernel
theorem dX12_ward_84 : decode cX12_ward 84 = .ok (.iload 6, 2) := by decide +kernel
theorem dX12_ward_86 : decode cX12_ward 86 = .ok (.iload_n 2, 1) := by decide +kernel
theorem dX12_ward_87 : decode cX12_ward 87 = .ok (.invokevirtual 367, 3) := by decide +kernel
theorem dX12_ward_90 : decode cX12_ward 90 = .ok (.iload 5, 2) := by decide +kernel
theorem dX12_ward_92 : decode cX12_ward 92 = .ok (.if_icmp .ge 15, 3) := by decide +kernel
theorem dX12_ward_107 : decode cX12_ward 107 = .ok (.iinc 6 1, 3) := by decide +kernel
theorem dX12_ward_110 : decode cX12_ward 110 = .ok (.goto (-36), 3) := by decide +kernel
theorem dX12_ward_95 : decode cX12_ward 95 = .ok (.aload_n 0, 1) := by decide +kernel
theorem dX12_ward_96 : decode cX12_ward 96 = .ok (.iload_n 3, 1) := by decide +kernel
theorem dX12_ward_97 : decode cX12_ward 97 = .ok (.iload 4, 2) := by decide +kernel
theorem dX12_ward_99 : decode cX12_ward 99 = .ok (.iload 6, 2) := by decide +kernel
theorem dX12_ward_101 : decode cX12_ward 101 = .ok (.iload_n 2, 1) := by decide +kernel
theorem dX12_ward_102 : decode cX12_ward 102 = .ok (.invokevirtual 367, 3) := by decide +kernel
theorem dX12_ward_105 : decode cX12_ward 105 = .ok (.istore 5, 2) := by decide +kernel
theorem dX12_ward_113 : decode cX12_ward 113 = .ok (.aload_n 0, 1) := by decide +kernel
theorem dX12_ward_114 : decode cX12_ward 114 = .ok (.getfield 62, 3) := by decide +kernel
theorem dX12_ward_117 : decode cX12_ward 117 = .ok (.bipush 12, 2) := by decide +kernel
theorem dX12_ward_119 : decode cX12_ward 119 = .ok (.iload_n 3, 1) := by decide +kernel
theorem dX12_ward_120 : decode cX12_ward 120 = .ok (.imul, 1) := by decide +kernel
theorem dX12_ward_121 : decode cX12_ward 121 = .ok (.iload 4, 2) := by decide +kernel
theorem dX12_ward_123 : decode cX12_ward 123 = .ok (.iadd, 1) := by decide +kernel
theorem dX12_ward_124 : decode cX12_ward 124 = .ok (.iload 5, 2) := by decide +kernel
theorem dX12_ward_126 : decode cX12_ward 126 = .ok (.iastore, 1) := by decide +kernel
theorem dX12_ward_127 : decode cX12_ward 127 = .ok (.iinc 4 1, 3) := by decide +kernel
theorem dX12_ward_130 : decode cX12_ward 130 = .ok (.goto (-74), 3) := by decide +kernel
theorem dX12_ward_14 : decode cX12_ward 14 = .ok (.bipush (-2), 2) := by decide +kernel
theorem dX12_ward_16 : decode cX12_ward 16 = .ok (.ireturn, 1) := by decide +kernel
theorem dX12_all_0 : decode cX12_all 0 = .ok (.aload_n 0, 1) := by decide +kernel
theorem dX12_all_1 : decode cX12_all 1 = .ok (.iconst 0, 1) := by decide +kernel
theorem dX12_all_2 : decode cX12_all 2 = .ok (.putfield 74, 3) := by decide +kernel
theorem dX12_all_5 : decode cX12_all 5 = .ok (.aload_n 0, 1) := by decide +kernel
theorem dX12_all_6 : decode cX12_all 6 = .ok (.iload_n 1, 1) := by decide +kernel
theorem dX12_all_7 : decode cX12_all 7 = .ok (.invokevirtual 336, 3) := by decide +kernel
theorem dX12_all_10 : decode cX12_all 10 = .ok (.ifCond .ne 6, 3) := by decide +kernel
theorem dX12_all_16 : decode cX12_all 16 = .ok (.aload_n 0, 1) := by decide +kernel
theorem dX12_all_17 : decode cX12_all 17 = .ok (.iload_n 1, 1) := by decide +kernel
theorem dX12_all_18 : decode cX12_all 18 = .ok (.invokevirtual 355, 3) := by decide +kernel
theorem dX12_all_21 : decode cX12_all 21 = .ok (.iconst 0, 1) := by decide +kernel
theorem dX12_all_22 : decode cX12_all 22 = .ok (.istore_n 2, 1) := by decide +kernel
theorem dX12_all_23 : decode cX12_all 23 = .ok (.iconst 0, 1) := by decide +kernel
theorem dX12_all_24 : decode cX12_all 24 = .ok (.istore_n 3, 1) := by decide +kernel
theorem dX12_all_25 : decode cX12_all 25 = .ok (.iload_n 3, 1) := by decide +kernel
theorem dX12_all_26 : decode cX12_all 26 = .ok (.aload_n 0, 1) := by decide +kernel
theorem dX12_all_27 : decode cX12_all 27 = .ok (.getfield 34, 3) := by decide +kernel
theorem dX12_all_30 : decode cX12_all 30 = .ok (.bipush 6, 2) := by decide +kernel
theorem dX12_all_32 : decode cX12_all 32 = .ok (.iaload, 1) := by decide +kernel
theorem dX12_all_33 : decode cX12_all 33 = .ok (.if_icmp .ge 39, 3) := by decide +kernel
theorem dX12_all_72 : decode cX12_all 72 = .ok (.iload_n 2, 1) := by decide +kernel
theorem dX12_all_73 : decode cX12_all 73 = .ok (.ireturn, 1) := by decide +kernel
theorem dX12_all_36 : decode cX12_all 36 = .ok (.aload_n 0, 1) := by decide +kernel
theorem dX12_all_37 : decode cX12_all 37 = .ok (.getfield 62, 3) := by decide +kernel
theorem dX12_all_40 : decode cX12_all 40 = .ok (.aload_n 0, 1) := by decide +kernel
theorem dX12_all_41 : decode cX12_all 41 = .ok (.iload_n 3, 1) := by decide +kernel
theorem dX12_all_42 : decode cX12_all 42 = .ok (.invokevirtual 358, 3) := by decide +kernel
theorem dX12_all_45 : decode cX12_all 45 = .ok (.iaload, 1) := by decide +kernel
theorem dX12_all_46 : decode cX12_all 46 = .ok (.ldc 124, 2) := by decide +kernel
theorem dX12_all_48 : decode cX12_all 48 = .ok (.if_icmp .lt 5, 3) := by decide +kernel
theorem dX12_all_53 : decode cX12_all 53 = .ok (.iload_n 2, 1) := by decide +kernel
theorem dX12_all_54 : decode cX12_all 54 = .ok (.aload_n 0, 1) := by decide +kernel
theorem dX12_all_55 : decode cX12_all 55 = .ok (.getfield 62, 3) := by decide +kernel
theorem dX12_all_58 : decode cX12_all 58 = .ok (.aload_n 0, 1) := by decide +kernel
theorem dX12_all_59 : decode cX12_all 59 = .ok (.iload_n 3, 1) := by decide +kernel
theorem dX12_all_60 : decode cX12_all 60 = .ok (.invokevirtual 358, 3) := by decide +kernel
theorem dX12_all_63 : decode cX12_all 63 = .ok (.iaload, 1) := by decide +kernel
theorem dX12_all_64 : decode cX12_all 64 = .ok (.iadd, 1) := by decide +kernel
theorem dX12_all_65 : decode cX12_all 65 = .ok (.istore_n 2, 1) := by decide +kernel
theorem dX12_all_66 : decode cX12_all 66 = .ok (.iinc 3 1, 3) := by decide +kernel
theorem dX12_all_69 : decode cX12_all 69 = .ok (.goto (-44), 3) := by decide +kernel
theorem dX12_all_51 : decode cX12_all 51 = .ok (.iconst (-1), 1) := by decide +kernel
theorem dX12_all_52 : decode cX12_all 52 = .ok (.ireturn, 1) := by decide +kernel
theorem dX12_all_13 : decode cX12_all 13 = .ok (.bipush (-2), 2) := by decide +kernel
theorem dX12_all_15 : decode cX12_all 15 = .ok (.ireturn, 1) := by decide +kernel
theorem dX12_next__0 : decode cX12_next_ 0 = .ok (.aload_n 0, 1) := by decide +kernel
theorem dX12_next__1 : decode cX12_next_ 1 = .ok (.iconst 0, 1) := by decide +kernel
theorem dX12_next__2 : decode cX12_next_ 2 = .ok (.putfield 74, 3) := by decide +kernel
theorem dX12_next__5 : decode cX12_next_ 5 = .ok (.aload_n 0, 1) := by decide +kernel
theorem dX12_next__6 : decode cX12_next_ 6 = .ok (.invokevirtual 250, 3) := by decide +kernel
theorem dX12_next__9 : decode cX12_next_ 9 = .ok (.ifCond .eq 27, 3) := by decide +kernel
theorem dX12_next__36 : decode cX12_next_ 36 = .ok (.bipush (-2), 2) := by decide +kernel
theorem dX12_next__38 : decode cX12_next_ 38 = .ok (.ireturn, 1) := by decide +kernel
theorem dX12_next__12 : decode cX12_next_ 12 = .ok (.iload_n 1, 1) := by decide +kernel
theorem dX12_next__13 : decode cX12_next_ 13 = .ok (.i2l, 1) := by decide +kernel
theorem dX12_next__14 : decode cX12_next_ 14 = .ok (.lconst 0, 1) := by decide +kernel
theorem dX12_next__15 : decode cX12_next_ 15 = .ok (.ldc2_w 284, 3) := by decide +kernel
theorem dX12_next__18 : decode cX12_next_ 18 = .ok (.invokestatic 79, 3) := by decide +kernel
theorem dX12_next__21 : decode cX12_next_ 21 = .ok (.ifCond .eq 15, 3) := by decide +kernel
theorem dX12_next__24 : decode cX12_next_ 24 = .ok (.iload_n 2, 1) := by decide +kernel
theorem dX12_next__25 : decode cX12_next_ 25 = .ok (.i2l, 1) := by decide +kernel
theorem dX12_next__26 : decode cX12_next_ 26 = .ok (.lconst 0, 1) := by decide +kernel
theorem dX12_next__27 : decode cX12_next_ 27 = .ok (.ldc2_w 271, 3) := by decide +kernel
theorem dX12_next__30 : decode cX12_next_ 30 = .ok (.invokestatic 79, 3) := by decide +kernel
theorem dX12_next__33 : decode cX12_next_ 33 = .ok (.ifCond .ne 6, 3) := by decide +kernel
theorem dX12_next__39 : decode cX12_next_ 39 = .ok (.iconst 0, 1) := by decide +kernel
theorem dX12_next__40 : decode cX12_next_ 40 = .ok (.istore_n 3, 1) := by decide +kernel
theorem dX12_next__41 : decode cX12_next_ 41 = .ok (.iload_n 3, 1) := by decide +kernel
theorem dX12_next__42 : decode cX12_next_ 42 = .ok (.aload_n 0, 1) := by decide +kernel
theorem dX12_next__43 : decode cX12_next_ 43 = .ok (.invokevirtual 259, 3) := by decide +kernel
theorem dX12_next__46 : decode cX12_next_ 46 = .ok (.if_icmp .ge 24, 3) := by decide +kernel
theorem dX12_next__49 : decode cX12_next_ 49 = .ok (.aload_n 0, 1) := by decide +kernel
theorem dX12_next__50 : decode cX12_next_ 50 = .ok (.iload_n 1, 1) := by decide +kernel
theorem dX12_next__51 : decode cX12_next_ 51 = .ok (.iload_n 3, 1) := by decide +kernel
theorem dX12_next__52 : decode cX12_next_ 52 = .ok (.iadd, 1) := by decide +kernel
theorem dX12_next__53 : decode cX12_next_ 53 = .ok (.invokevirtual 262, 3) := by decide +kernel
theorem dX12_next__56 : decode cX12_next_ 56 = .ok (.iload_n 2, 1) := by decide +kernel
theorem dX12_next__57 : decode cX12_next_ 57 = .ok (.if_icmp .ne 7, 3) := by decide +kernel
theorem dX12_next__64 : decode cX12_next_ 64 = .ok (.iinc 3 1, 3) := by decide +kernel
theorem dX12_next__67 : decode cX12_next_ 67 = .ok (.goto (-26), 3) := by decide +kernel
theorem dX12_next__60 : decode cX12_next_ 60 = .ok (.iload_n 1, 1) := by decide +kernel
theorem dX12_next__61 : decode cX12_next_ 61 = .ok (.iload_n 3, 1) := by decide +kernel
theorem dX12_next__62 : decode cX12_next_ 62 = .ok (.iadd, 1) := by decide +kernel
theorem dX12_next__63 : decode cX12_next_ 63 = .ok (.ireturn, 1) := by decide +kernel
theorem dX12_next__70 : decode cX12_next_ 70 = .ok (.iconst (-1), 1) := by decide +kernel
theorem dX12_next__71 : decode cX12_next_ 71 = .ok (.ireturn, 1) := by decide +kernel
theorem dX12_sitter_0 : decode cX12_sitter 0 = .ok (.aload_n 0, 1) := by decide +kernel
theorem dX12_sitter_1 : decode cX12_sitter 1 = .ok (.iconst 0, 1) := by decide +kernel
theorem dX12_sitter_2 : decode cX12_sitter 2 = .ok (.putfield 74, 3) := by decide +kernel
theorem dX12_sitter_5 : decode cX12_sitter 5 = .ok (.aload_n 0, 1) := by decide +kernel
theorem dX12_sitter_6 : decode cX12_sitter 6 = .ok (.iload_n 1, 1) := by decide +kernel
theorem dX12_sitter_7 : decode cX12_sitter 7 = .ok (.invokevirtual 319, 3) := by decide +kernel
theorem dX12_sitter_10 : decode cX12_sitter 10 = .ok (.ifCond .ne 6, 3) := by decide +kernel
theorem dX12_sitter_16 : decode cX12_sitter 16 = .ok (.aload_n 0, 1) := by decide +kernel
theorem dX12_sitter_17 : decode cX12_sitter 17 = .ok (.invokevirtual 322, 3) := by decide +kernel
theorem dX12_sitter_20 : decode cX12_sitter 20 = .ok (.aload_n 0, 1) := by decide +kernel
theorem dX12_sitter_21 : decode cX12_sitter 21 = .ok (.getfield 56, 3) := by decide +kernel
theorem dX12_sitter_24 : decode cX12_sitter 24 = .ok (.iload_n 1, 1) := by decide +kernel
theorem dX12_sitter_25 : decode cX12_sitter 25 = .ok (.iaload, 1) := by decide +kernel
theorem dX12_sitter_26 : decode cX12_sitter 26 = .ok (.ireturn, 1) := by decide +kernel
theorem dX12_sitter_13 : decode cX12_sitter 13 = .ok (.bipush (-2), 2) := by decide +kernel
theorem dX12_sitter_15 : decode cX12_sitter 15 = .ok (.ireturn, 1) := by decide +kernel
theorem dX12_at_0 : decode cX12_at 0 = .ok (.aload_n 0, 1) := by decide +kernel
theorem dX12_at_1 : decode cX12_at 1 = .ok (.iconst 0, 1) := by decide +kernel
theorem dX12_at_2 : decode cX12_at 2 = .ok (.putfield 74, 3) := by decide +kernel
theorem dX12_at_5 : decode cX12_at 5 = .ok (.aload_n 0, 1) := by decide +kernel
theorem dX12_at_6 : decode cX12_at 6 = .ok (.iload_n 1, 1) := by decide +kernel
theorem dX12_at_7 : decode cX12_at 7 = .ok (.invokevirtual 276, 3) := by decide +kernel
theorem dX12_at_10 : decode cX12_at 10 = .ok (.ifCond .eq 15, 3) := by decide +kernel
theorem dX12_at_25 : decode cX12_at 25 = .ok (.bipush (-2), 2) := by decide +kernel
theorem dX12_at_27 : decode cX12_at 27 = .ok (.ireturn, 1) := by decide +kernel
theorem dX12_at_13 : decode cX12_at 13 = .ok (.iload_n 2, 1) := by decide +kernel
theorem dX12_at_14 : decode cX12_at 14 = .ok (.i2l, 1) := by decide +kernel
theorem dX12_at_15 : decode cX12_at 15 = .ok (.lconst 0, 1) := by decide +kernel
theorem dX12_at_16 : decode cX12_at 16 = .ok (.ldc2_w 325, 3) := by decide +kernel
theorem dX12_at_19 : decode cX12_at 19 = .ok (.invokestatic 79, 3) := by decide +kernel
theorem dX12_at_22 : decode cX12_at 22 = .ok (.ifCond .ne 6, 3) := by decide +kernel
theorem dX12_at_28 : decode cX12_at 28 = .ok (.aload_n 0, 1) := by decide +kernel
theorem dX12_at_29 : decode cX12_at 29 = .ok (.invokevirtual 322, 3) := by decide +kernel
theorem dX12_at_32 : decode cX12_at 32 = .ok (.iload_n 2, 1) := by decide +kernel
theorem dX12_at_33 : decode cX12_at 33 = .ok (.aload_n 0, 1) := by decide +kernel
theorem dX12_at_34 : decode cX12_at 34 = .ok (.getfield 40, 3) := by decide +kernel
theorem dX12_at_37 : decode cX12_at 37 = .ok (.iconst 3, 1) := by decide +kernel
theorem dX12_at_38 : decode cX12_at 38 = .ok (.iload_n 1, 1) := by decide +kernel
theorem dX12_at_39 : decode cX12_at 39 = .ok (.imul, 1) := by decide +kernel
theorem dX12_at_40 : decode cX12_at 40 = .ok (.iconst 2, 1) := by decide +kernel
theorem dX12_at_41 : decode cX12_at 41 = .ok (.iadd, 1) := by decide +kernel
theorem dX12_at_42 : decode cX12_at 42 = .ok (.iaload, 1) := by decide +kernel
theorem dX12_at_43 : decode cX12_at 43 = .ok (.if_icmp .ge 5, 3) := by decide +kernel
theorem dX12_at_48 : decode cX12_at 48 = .ok (.aload_n 0, 1) := by decide +kernel
theorem dX12_at_49 : decode cX12_at 49 = .ok (.iload_n 1, 1) := by decide +kernel
theorem dX12_at_50 : decode cX12_at 50 = .ok (.iload_n 2, 1) := by decide +kernel
theorem dX12_at_51 : decode cX12_at 51 = .ok (.ldc2_w 118, 3) := by decide +kernel
theorem dX12_at_54 : decode cX12_at 54 = .ok (.invokevirtual 308, 3) := by decide +kernel
theorem dX12_at_57 : decode cX12_at 57 = .ok (.aload_n 0, 1) := by decide +kernel
theorem dX12_at_58 : decode cX12_at 58 = .ok (.getfield 289, 3) := by decide +kernel
theorem dX12_at_61 : decode cX12_at 61 = .ok (.ireturn, 1) := by decide +kernel
theorem dX12_at_46 : decode cX12_at 46 = .ok (.iconst (-1), 1) := by decide +kernel
theorem dX12_at_47 : decode cX12_at 47 = .ok (.ireturn, 1) := by decide +kernel
theorem dX12_comes_0 : decode cX12_comes 0 = .ok (.aload_n 0, 1) := by decide +kernel
theorem dX12_comes_1 : decode cX12_comes 1 = .ok (.iconst 0, 1) := by decide +kernel
theorem dX12_comes_2 : decode cX12_comes 2 = .ok (.putfield 74, 3) := by decide +kernel
theorem dX12_comes_5 : decode cX12_comes 5 = .ok (.aload_n 0, 1) := by decide +kernel
theorem dX12_comes_6 : decode cX12_comes 6 = .ok (.iload_n 1, 1) := by decide +kernel
theorem dX12_comes_7 : decode cX12_comes 7 = .ok (.invokevirtual 276, 3) := by decide +kernel
theorem dX12_comes_10 : decode cX12_comes 10 = .ok (.ifCond .ne 6, 3) := by decide +kernel
theorem dX12_comes_16 : decode cX12_comes 16 = .ok (.aload_n 0, 1) := by decide +kernel
theorem dX12_comes_17 : decode cX12_comes 17 = .ok (.invokevirtual 322, 3) := by decide +kernel
theorem dX12_comes_20 : decode cX12_comes 20 = .ok (.aload_n 0, 1) := by decide +kernel
theorem dX12_comes_21 : decode cX12_comes 21 = .ok (.iload_n 1, 1) := by decide +kernel
theorem dX12_comes_22 : decode cX12_comes 22 = .ok (.invokevirtual 327, 3) := by decide +kernel
theorem dX12_comes_25 : decode cX12_comes 25 = .ok (.aload_n 0, 1) := by decide +kernel
theorem dX12_comes_26 : decode cX12_comes 26 = .ok (.getfield 292, 3) := by decide +kernel
theorem dX12_comes_29 : decode cX12_comes 29 = .ok (.ireturn, 1) := by decide +kernel
theorem dX12_comes_13 : decode cX12_comes 13 = .ok (.bipush (-2), 2) := by decide +kernel
theorem dX12_comes_15 : decode cX12_comes 15 = .ok (.ireturn, 1) := by decide +kernel
theorem dX12_beach_0 : decode cX12_beach 0 = .ok (.aload_n 0, 1) := by decide +kernel
theorem dX12_beach_1 : decode cX12_beach 1 = .ok (.iconst 0, 1) := by decide +kernel
theorem dX12_beach_2 : decode cX12_beach 2 = .ok (.putfield 74, 3) := by decide +kernel
theorem dX12_beach_5 : decode cX12_beach 5 = .ok (.aload_n 0, 1) := by decide +kernel
theorem dX12_beach_6 : decode cX12_beach 6 = .ok (.iload_n 1, 1) := by decide +kernel
theorem dX12_beach_7 : decode cX12_beach 7 = .ok (.invokevirtual 276, 3) := by decide +kernel
theorem dX12_beach_10 : decode cX12_beach 10 = .ok (.ifCond .ne 6, 3) := by decide +kernel
theorem dX12_beach_16 : decode cX12_beach 16 = .ok (.aload_n 0, 1) := by decide +kernel
theorem dX12_beach_17 : decode cX12_beach 17 = .ok (.invokevirtual 322, 3) := by decide +kernel
theorem dX12_beach_20 : decode cX12_beach 20 = .ok (.aload_n 0, 1) := by decide +kernel
theorem dX12_beach_21 : decode cX12_beach 21 = .ok (.iload_n 1, 1) := by decide +kernel
theorem dX12_beach_22 : decode cX12_beach 22 = .ok (.invokevirtual 327, 3) := by decide +kernel
theorem dX12_beach_25 : decode cX12_beach 25 = .ok (.aload_n 0, 1) := by decide +kernel
theorem dX12_beach_26 : decode cX12_beach 26 = .ok (.getfield 292, 3) := by decide +kernel
theorem dX12_beach_29 : decode cX12_beach 29 = .ok (.iconst (-1), 1) := by decide +kernel
theorem dX12_beach_30 : decode cX12_beach 30 = .ok (.if_icmp .ne 7, 3) := by decide +kernel
theorem dX12_beach_37 : decode cX12_beach 37 = .ok (.aload_n 0, 1) := by decide +kernel
theorem dX12_beach_38 : decode cX12_beach 38 = .ok (.getfield 289, 3) := by decide +kernel
theorem dX12_beach_41 : decode cX12_beach 41 = .ok (.ireturn, 1) := by decide +kernel
theorem dX12_beach_33 : decode cX12_beach 33 = .ok (.iconst (-1), 1) := by decide +kernel
theorem dX12_beach_34 : decode cX12_beach 34 = .ok (.goto 7, 3) := by decide +kernel
theorem dX12_beach_13 : decode cX12_beach 13 = .ok (.bipush (-2), 2) := by decide +kernel
theorem dX12_beach_15 : decode cX12_beach 15 = .ok (.ireturn, 1) := by decide +kernel
theorem dX12_whose_0 : decode cX12_whose 0 = .ok (.aload_n 0, 1) := by decide +kernel
theorem dX12_whose_1 : decode cX12_whose 1 = .ok (.iconst 0, 1) := by decide +kernel
theorem dX12_whose_2 : decode cX12_whose 2 = .ok (.putfield 74, 3) := by decide +kernel
theorem dX12_whose_5 : decode cX12_whose 5 = .ok (.aload_n 0, 1) := by decide +kernel
theorem dX12_whose_6 : decode cX12_whose 6 = .ok (.iload_n 1, 1) := by decide +kernel
theorem dX12_whose_7 : decode cX12_whose 7 = .ok (.invokevirtual 276, 3) := by decide +kernel
theorem dX12_whose_10 : decode cX12_whose 10 = .ok (.ifCond .ne 6, 3) := by decide +kernel
theorem dX12_whose_16 : decode cX12_whose 16 = .ok (.aload_n 0, 1) := by decide +kernel
theorem dX12_whose_17 : decode cX12_whose 17 = .ok (.invokevirtual 322, 3) := by decide +kernel
theorem dX12_whose_20 : decode cX12_whose 20 = .ok (.aload_n 0, 1) := by decide +kernel
theorem dX12_whose_21 : decode cX12_whose 21 = .ok (.iload_n 1, 1) := by decide +kernel
theorem dX12_whose_22 : decode cX12_whose 22 = .ok (.invokevirtual 327, 3) := by decide +kernel
theorem dX12_whose_25 : decode cX12_whose 25 = .ok (.aload_n 0, 1) := by decide +kernel
theorem dX12_whose_26 : decode cX12_whose 26 = .ok (.iconst (-1), 1) := by decide +kernel
theorem dX12_whose_27 : decode cX12_whose 27 = .ok (.iconst 0, 1) := by decide +kernel
theorem dX12_whose_28 : decode cX12_whose 28 = .ok (.invokevirtual 330, 3) := by decide +kernel
theorem dX12_whose_31 : decode cX12_whose 31 = .ok (.ireturn, 1) := by decide +kernel
theorem dX12_whose_13 : decode cX12_whose 13 = .ok (.bipush (-2), 2) := by decide +kernel
theorem dX12_whose_15 : decode cX12_whose 15 = .ok (.ireturn, 1) := by decide +kernel
theorem dX12_has_0 : decode cX12_has 0 = .ok (.aload_n 0, 1) := by decide +kernel
theorem dX12_has_1 : decode cX12_has 1 = .ok (.iconst 0, 1) := by decide +kernel
theorem dX12_has_2 : decode cX12_has 2 = .ok (.putfield 74, 3) := by decide +kernel
theorem dX12_has_5 : decode cX12_has 5 = .ok (.aload_n 0, 1) := by decide +kernel
theorem dX12_has_6 : decode cX12_has 6 = .ok (.iload_n 1, 1) := by decide +kernel
theorem dX12_has_7 : decode cX12_has 7 = .ok (.invokevirtual 336, 3) := by decide +kernel
theorem dX12_has_10 : decode cX12_has 10 = .ok (.ifCond .ne 6, 3) := by decide +kernel
theorem dX12_has_16 : decode cX12_has 16 = .ok (.aload_n 0, 1) := by decide +kernel
theorem dX12_has_17 : decode cX12_has 17 = .ok (.invokevirtual 322, 3) := by decide +kernel
theorem dX12_has_20 : decode cX12_has 20 = .ok (.aload_n 0, 1) := by decide +kernel
theorem dX12_has_21 : decode cX12_has 21 = .ok (.iload_n 1, 1) := by decide +kernel
theorem dX12_has_22 : decode cX12_has 22 = .ok (.iconst (-1), 1) := by decide +kernel
theorem dX12_has_23 : decode cX12_has 23 = .ok (.iconst 0, 1) := by decide +kernel
theorem dX12_has_24 : decode cX12_has 24 = .ok (.invokevirtual 339, 3) := by decide +kernel
theorem dX12_has_27 : decode cX12_has 27 = .ok (.ireturn, 1) := by decide +kernel
theorem dX12_has_13 : decode cX12_has 13 = .ok (.bipush (-2), 2) := by decide +kernel
theorem dX12_has_15 : decode cX12_has 15 = .ok (.ireturn, 1) := by decide +kernel
theorem dX12_line__0 : decode cX12_line_ 0 = .ok (.aload_n 0, 1) := by decide +kernel
theorem dX12_line__1 : decode cX12_line_ 1 = .ok (.iconst 0, 1) := by decide +kernel
theorem dX12_line__2 : decode cX12_line_ 2 = .ok (.putfield 74, 3) := by decide +kernel
theorem dX12_line__5 : decode cX12_line_ 5 = .ok (.aload_n 0, 1) := by decide +kernel
theorem dX12_line__6 : decode cX12_line_ 6 = .ok (.iload_n 1, 1) := by decide +kernel
theorem dX12_line__7 : decode cX12_line_ 7 = .ok (.i2l, 1) := by decide +kernel
theorem dX12_line__8 : decode cX12_line_ 8 = .ok (.invokevirtual 268, 3) := by decide +kernel
theorem dX12_line__11 : decode cX12_line_ 11 = .ok (.ifCond .ne 6, 3) := by decide +kernel
theorem dX12_line__17 : decode cX12_line_ 17 = .ok (.aload_n 0, 1) := by decide +kernel
theorem dX12_line__18 : decode cX12_line_ 18 = .ok (.invokevirtual 322, 3) := by decide +kernel
theorem dX12_line__21 : decode cX12_line_ 21 = .ok (.iconst 0, 1) := by decide +kernel
theorem dX12_line__22 : decode cX12_line_ 22 = .ok (.istore_n 2, 1) := by decide +kernel
theorem dX12_line__23 : decode cX12_line_ 23 = .ok (.iconst 0, 1) := by decide +kernel
theorem dX12_line__24 : decode cX12_line_ 24 = .ok (.istore_n 3, 1) := by decide +kernel
theorem dX12_line__25 : decode cX12_line_ 25 = .ok (.iload_n 3, 1) := by decide +kernel
theorem dX12_line__26 : decode cX12_line_ 26 = .ok (.aload_n 0, 1) := by decide +kernel
theorem dX12_line__27 : decode cX12_line_ 27 = .ok (.getfield 34, 3) := by decide +kernel
theorem dX12_line__30 : decode cX12_line_ 30 = .ok (.bipush 6, 2) := by decide +kernel
theorem dX12_line__32 : decode cX12_line_ 32 = .ok (.iaload, 1) := by decide +kernel
theorem dX12_line__33 : decode cX12_line_ 33 = .ok (.if_icmp .ge 40, 3) := by decide +kernel
theorem dX12_line__73 : decode cX12_line_ 73 = .ok (.iload_n 2, 1) := by decide +kernel
theorem dX12_line__74 : decode cX12_line_ 74 = .ok (.ireturn, 1) := by decide +kernel
theorem dX12_line__36 : decode cX12_line_ 36 = .ok (.aload_n 0, 1) := by decide +kernel
theorem dX12_line__37 : decode cX12_line_ 37 = .ok (.iload_n 3, 1) := by decide +kernel
theorem dX12_line__38 : decode cX12_line_ 38 = .ok (.invokevirtual 327, 3) := by decide +kernel
theorem dX12_line__41 : decode cX12_line_ 41 = .ok (.iload_n 2, 1) := by decide +kernel
theorem dX12_line__42 : decode cX12_line_ 42 = .ok (.aload_n 0, 1) := by decide +kernel
theorem dX12_line__43 : decode cX12_line_ 43 = .ok (.getfield 292, 3) := by decide +kernel
theorem dX12_line__46 : decode cX12_line_ 46 = .ok (.iconst (-1), 1) := by decide +kernel
theorem dX12_line__47 : decode cX12_line_ 47 = .ok (.if_icmp .eq 17, 3) := by decide +kernel
theorem dX12_line__64 : decode cX12_line_ 64 = .ok (.iconst 0, 1) := by decide +kernel
theorem dX12_line__65 : decode cX12_line_ 65 = .ok (.ior, 1) := by decide +kernel
theorem dX12_line__66 : decode cX12_line_ 66 = .ok (.istore_n 2, 1) := by decide +kernel
theorem dX12_line__67 : decode cX12_line_ 67 = .ok (.iinc 3 1, 3) := by decide +kernel
theorem dX12_line__70 : decode cX12_line_ 70 = .ok (.goto (-45), 3) := by decide +kernel
theorem dX12_line__50 : decode cX12_line_ 50 = .ok (.aload_n 0, 1) := by decide +kernel
theorem dX12_line__51 : decode cX12_line_ 51 = .ok (.getfield 289, 3) := by decide +kernel
theorem dX12_line__54 : decode cX12_line_ 54 = .ok (.iload_n 1, 1) := by decide +kernel
theorem dX12_line__55 : decode cX12_line_ 55 = .ok (.if_icmp .ne 9, 3) := by decide +kernel
theorem dX12_line__58 : decode cX12_line_ 58 = .ok (.iconst 1, 1) := by decide +kernel
theorem dX12_line__59 : decode cX12_line_ 59 = .ok (.iload_n 3, 1) := by decide +kernel
theorem dX12_line__60 : decode cX12_line_ 60 = .ok (.ishl, 1) := by decide +kernel
theorem dX12_line__61 : decode cX12_line_ 61 = .ok (.goto 4, 3) := by decide +kernel
theorem dX12_line__14 : decode cX12_line_ 14 = .ok (.bipush (-2), 2) := by decide +kernel
theorem dX12_line__16 : decode cX12_line_ 16 = .ok (.ireturn, 1) := by decide +kernel
theorem dX12_argued_0 : decode cX12_argued 0 = .ok (.aload_n 0, 1) := by decide +kernel
theorem dX12_argued_1 : decode cX12_argued 1 = .ok (.iconst 0, 1) := by decide +kernel
theorem dX12_argued_2 : decode cX12_argued 2 = .ok (.putfield 74, 3) := by decide +kernel
theorem dX12_argued_5 : decode cX12_argued 5 = .ok (.aload_n 0, 1) := by decide +kernel
theorem dX12_argued_6 : decode cX12_argued 6 = .ok (.invokevirtual 250, 3) := by decide +kernel
theorem dX12_argued_9 : decode cX12_argued 9 = .ok (.ifCond .ne 6, 3) := by decide +kernel
theorem dX12_argued_15 : decode cX12_argued 15 = .ok (.aload_n 0, 1) := by decide +kernel
theorem dX12_argued_16 : decode cX12_argued 16 = .ok (.invokevirtual 322, 3) := by decide +kernel
theorem dX12_argued_19 : decode cX12_argued 19 = .ok (.iconst 0, 1) := by decide +kernel
theorem dX12_argued_20 : decode cX12_argued 20 = .ok (.istore_n 1, 1) := by decide +kernel
theorem dX12_argued_21 : decode cX12_argued 21 = .ok (.iconst 0, 1) := by decide +kernel
theorem dX12_argued_22 : decode cX12_argued 22 = .ok (.istore_n 2, 1) := by decide +kernel
theorem dX12_argued_23 : decode cX12_argued 23 = .ok (.iload_n 2, 1) := by decide +kernel
theorem dX12_argued_24 : decode cX12_argued 24 = .ok (.aload_n 0, 1) := by decide +kernel
theorem dX12_argued_25 : decode cX12_argued 25 = .ok (.getfield 34, 3) := by decide +kernel
theorem dX12_argued_28 : decode cX12_argued 28 = .ok (.bipush 6, 2) := by decide +kernel
theorem dX12_argued_30 : decode cX12_argued 30 = .ok (.iaload, 1) := by decide +kernel
theorem dX12_argued_31 : decode cX12_argued 31 = .ok (.if_icmp .ge 107, 3) := by decide +kernel
theorem dX12_argued_138 : decode cX12_argued 138 = .ok (.iload_n 1, 1) := by decide +kernel
theorem dX12_argued_139 : decode cX12_argued 139 = .ok (.ireturn, 1) := by decide +kernel
theorem dX12_argued_34 : decode cX12_argued 34 = .ok (.aload_n 0, 1) := by decide +kernel
theorem dX12_argued_35 : decode cX12_argued 35 = .ok (.iload_n 2, 1) := by decide +kernel
theorem dX12_argued_36 : decode cX12_argued 36 = .ok (.invokevirtual 327, 3) := by decide +kernel
theorem dX12_argued_39 : decode cX12_argued 39 = .ok (.aload_n 0, 1) := by decide +kernel
theorem dX12_argued_40 : decode cX12_argued 40 = .ok (.getfield 292, 3) := by decide +kernel
theorem dX12_argued_43 : decode cX12_argued 43 = .ok (.iconst (-1), 1) := by decide +kernel
theorem dX12_argued_44 : decode cX12_argued 44 = .ok (.if_icmp .ne 6, 3) := by decide +kernel
theorem dX12_argued_50 : decode cX12_argued 50 = .ok (.iconst 0, 1) := by decide +kernel
theorem dX12_argued_51 : decode cX12_argued 51 = .ok (.istore_n 3, 1) := by decide +kernel
theorem dX12_argued_52 : decode cX12_argued 52 = .ok (.iconst 0, 1) := by decide +kernel
theorem dX12_argued_53 : decode cX12_argued 53 = .ok (.istore 4, 2) := by decide +kernel
theorem dX12_argued_55 : decode cX12_argued 55 = .ok (.iload 4, 2) := by decide +kernel
theorem dX12_argued_57 : decode cX12_argued 57 = .ok (.aload_n 0, 1) := by decide +kernel
theorem dX12_argued_58 : decode cX12_argued 58 = .ok (.getfield 34, 3) := by decide +kernel
theorem dX12_argued_61 : decode cX12_argued 61 = .ok (.bipush 7, 2) := by decide +kernel
theorem dX12_argued_63 : decode cX12_argued 63 = .ok (.iaload, 1) := by decide +kernel
theorem dX12_argued_64 : decode cX12_argued 64 = .ok (.if_icmp .ge 50, 3) := by decide +kernel
theorem dX12_argued_114 : decode cX12_argued 114 = .ok (.iload_n 1, 1) := by decide +kernel
theorem dX12_argued_115 : decode cX12_argued 115 = .ok (.iload_n 3, 1) := by decide +kernel
theorem dX12_argued_116 : decode cX12_argued 116 = .ok (.invokestatic 342, 3) := by decide +kernel
theorem dX12_argued_119 : decode cX12_argued 119 = .ok (.iconst 1, 1) := by decide +kernel
theorem dX12_argued_120 : decode cX12_argued 120 = .ok (.if_icmp .le 9, 3) := by decide +kernel
theorem dX12_argued_129 : decode cX12_argued 129 = .ok (.iconst 0, 1) := by decide +kernel
theorem dX12_argued_130 : decode cX12_argued 130 = .ok (.ior, 1) := by decide +kernel
theorem dX12_argued_131 : decode cX12_argued 131 = .ok (.istore_n 1, 1) := by decide +kernel
theorem dX12_argued_132 : decode cX12_argued 132 = .ok (.iinc 2 1, 3) := by decide +kernel
theorem dX12_argued_135 : decode cX12_argued 135 = .ok (.goto (-112), 3) := by decide +kernel
theorem dX12_argued_123 : decode cX12_argued 123 = .ok (.iconst 1, 1) := by decide +kernel
theorem dX12_argued_124 : decode cX12_argued 124 = .ok (.iload_n 2, 1) := by decide +kernel
theorem dX12_argued_125 : decode cX12_argued 125 = .ok (.ishl, 1) := by decide +kernel
theorem dX12_argued_126 : decode cX12_argued 126 = .ok (.goto 4, 3) := by decide +kernel
theorem dX12_argued_67 : decode cX12_argued 67 = .ok (.iload_n 3, 1) := by decide +kernel
theorem dX12_argued_68 : decode cX12_argued 68 = .ok (.aload_n 0, 1) := by decide +kernel
theorem dX12_argued_69 : decode cX12_argued 69 = .ok (.iload 4, 2) := by decide +kernel
theorem dX12_argued_71 : decode cX12_argued 71 = .ok (.aload_n 0, 1) := by decide +kernel
theorem dX12_argued_72 : decode cX12_argued 72 = .ok (.getfield 289, 3) := by decide +kernel
theorem dX12_argued_75 : decode cX12_argued 75 = .ok (.aload_n 0, 1) := by decide +kernel
theorem dX12_argued_76 : decode cX12_argued 76 = .ok (.aload_n 0, 1) := by decide +kernel
theorem dX12_argued_77 : decode cX12_argued 77 = .ok (.getfield 292, 3) := by decide +kernel
theorem dX12_argued_80 : decode cX12_argued 80 = .ok (.invokevirtual 262, 3) := by decide +kernel
theorem dX12_argued_83 : decode cX12_argued 83 = .ok (.invokevirtual 312, 3) := by decide +kernel
theorem dX12_argued_86 : decode cX12_argued 86 = .ok (.ifCond .eq 19, 3) := by decide +kernel
theorem dX12_argued_105 : decode cX12_argued 105 = .ok (.iconst 0, 1) := by decide +kernel
theorem dX12_argued_106 : decode cX12_argued 106 = .ok (.ior, 1) := by decide +kernel
theorem dX12_argued_107 : decode cX12_argued 107 = .ok (.istore_n 3, 1) := by decide +kernel
theorem dX12_argued_108 : decode cX12_argued 108 = .ok (.iinc 4 1, 3) := by decide +kernel
theorem dX12_argued_111 : decode cX12_argued 111 = .ok (.goto (-56), 3) := by decide +kernel
theorem dX12_argued_89 : decode cX12_argued 89 = .ok (.iconst 1, 1) := by decide +kernel
theorem dX12_argued_90 : decode cX12_argued 90 = .ok (.aload_n 0, 1) := by decide +kernel
theorem dX12_argued_91 : decode cX12_argued 91 = .ok (.getfield 43, 3) := by decide +kernel
theorem dX12_argued_94 : decode cX12_argued 94 = .ok (.iconst 4, 1) := by decide +kernel
theorem dX12_argued_95 : decode cX12_argued 95 = .ok (.iload 4, 2) := by decide +kernel
theorem dX12_argued_97 : decode cX12_argued 97 = .ok (.imul, 1) := by decide +kernel
theorem dX12_argued_98 : decode cX12_argued 98 = .ok (.iconst 3, 1) := by decide +kernel
theorem dX12_argued_99 : decode cX12_argued 99 = .ok (.iadd, 1) := by decide +kernel
theorem dX12_argued_100 : decode cX12_argued 100 = .ok (.iaload, 1) := by decide +kernel
theorem dX12_argued_101 : decode cX12_argued 101 = .ok (.ishl, 1) := by decide +kernel
theorem dX12_argued_102 : decode cX12_argued 102 = .ok (.goto 4, 3) := by decide +kernel
theorem dX12_argued_47 : decode cX12_argued 47 = .ok (.goto 85, 3) := by decide +kernel
theorem dX12_argued_12 : decode cX12_argued 12 = .ok (.bipush (-2), 2) := by decide +kernel
theorem dX12_argued_14 : decode cX12_argued 14 = .ok (.ireturn, 1) := by decide +kernel
theorem dX12_without_0 : decode cX12_without 0 = .ok (.aload_n 0, 1) := by decide +kernel
theorem dX12_without_1 : decode cX12_without 1 = .ok (.iconst 0, 1) := by decide +kernel
theorem dX12_without_2 : decode cX12_without 2 = .ok (.putfield 74, 3) := by decide +kernel
theorem dX12_without_5 : decode cX12_without 5 = .ok (.aload_n 0, 1) := by decide +kernel
theorem dX12_without_6 : decode cX12_without 6 = .ok (.iload_n 1, 1) := by decide +kernel
theorem dX12_without_7 : decode cX12_without 7 = .ok (.invokevirtual 279, 3) := by decide +kernel
theorem dX12_without_10 : decode cX12_without 10 = .ok (.ifCond .eq 11, 3) := by decide +kernel
theorem dX12_without_21 : decode cX12_without 21 = .ok (.bipush (-2), 2) := by decide +kernel
theorem dX12_without_23 : decode cX12_without 23 = .ok (.ireturn, 1) := by decide +kernel
theorem dX12_without_13 : decode cX12_without 13 = .ok (.aload_n 0, 1) := by decide +kernel
theorem dX12_without_14 : decode cX12_without 14 = .ok (.iload_n 2, 1) := by decide +kernel
theorem dX12_without_15 : decode cX12_without 15 = .ok (.invokevirtual 336, 3) := by decide +kernel
theorem dX12_without_18 : decode cX12_without 18 = .ok (.ifCond .ne 6, 3) := by decide +kernel
theorem dX12_without_24 : decode cX12_without 24 = .ok (.aload_n 0, 1) := by decide +kernel
theorem dX12_without_25 : decode cX12_without 25 = .ok (.invokevirtual 322, 3) := by decide +kernel
theorem dX12_without_28 : decode cX12_without 28 = .ok (.aload_n 0, 1) := by decide +kernel
theorem dX12_without_29 : decode cX12_without 29 = .ok (.iload_n 2, 1) := by decide +kernel
theorem dX12_without_30 : decode cX12_without 30 = .ok (.iload_n 1, 1) := by decide +kernel
theorem dX12_without_31 : decode cX12_without 31 = .ok (.iconst 0, 1) := by decide +kernel
theorem dX12_without_32 : decode cX12_without 32 = .ok (.invokevirtual 339, 3) := by decide +kernel
theorem dX12_without_35 : decode cX12_without 35 = .ok (.ireturn, 1) := by decide +kernel
theorem dX12_strike_0 : decode cX12_strike 0 = .ok (.aload_n 0, 1) := by decide +kernel
theorem dX12_strike_1 : decode cX12_strike 1 = .ok (.iconst 0, 1) := by decide +kernel
theorem dX12_strike_2 : decode cX12_strike 2 = .ok (.putfield 74, 3) := by decide +kernel
theorem dX12_strike_5 : decode cX12_strike 5 = .ok (.aload_n 0, 1) := by decide +kernel
theorem dX12_strike_6 : decode cX12_strike 6 = .ok (.iload_n 1, 1) := by decide +kernel
theorem dX12_strike_7 : decode cX12_strike 7 = .ok (.invokevirtual 336, 3) := by decide +kernel
theorem dX12_strike_10 : decode cX12_strike 10 = .ok (.ifCond .ne 6, 3) := by decide +kernel
theorem dX12_strike_16 : decode cX12_strike 16 = .ok (.aload_n 0, 1) := by decide +kernel
theorem dX12_strike_17 : decode cX12_strike 17 = .ok (.invokevirtual 322, 3) := by decide +kernel
theorem dX12_strike_20 : decode cX12_strike 20 = .ok (.iconst (-1), 1) := by decide +kernel
theorem dX12_strike_21 : decode cX12_strike 21 = .ok (.istore_n 2, 1) := by decide +kernel
theorem dX12_strike_22 : decode cX12_strike 22 = .ok (.aload_n 0, 1) := by decide +kernel
theorem dX12_strike_23 : decode cX12_strike 23 = .ok (.iload_n 1, 1) := by decide +kernel
theorem dX12_strike_24 : decode cX12_strike 24 = .ok (.iconst (-1), 1) := by decide +kernel
theorem dX12_strike_25 : decode cX12_strike 25 = .ok (.iconst 0, 1) := by decide +kernel
theorem dX12_strike_26 : decode cX12_strike 26 = .ok (.invokevirtual 339, 3) := by decide +kernel
theorem dX12_strike_29 : decode cX12_strike 29 = .ok (.istore_n 3, 1) := by decide +kernel
theorem dX12_strike_30 : decode cX12_strike 30 = .ok (.iconst 0, 1) := by decide +kernel
theorem dX12_strike_31 : decode cX12_strike 31 = .ok (.istore 4, 2) := by decide +kernel
theorem dX12_strike_33 : decode cX12_strike 33 = .ok (.iload 4, 2) := by decide +kernel
theorem dX12_strike_35 : decode cX12_strike 35 = .ok (.aload_n 0, 1) := by decide +kernel
theorem dX12_strike_36 : decode cX12_strike 36 = .ok (.getfield 34, 3) := by decide +kernel
theorem dX12_strike_39 : decode cX12_strike 39 = .ok (.bipush 7, 2) := by decide +kernel
theorem dX12_strike_41 : decode cX12_strike 41 = .ok (.iaload, 1) := by decide +kernel
theorem dX12_strike_42 : decode cX12_strike 42 = .ok (.if_icmp .ge 34, 3) := by decide +kernel
theorem dX12_strike_76 : decode cX12_strike 76 = .ok (.iload_n 2, 1) := by decide +kernel
theorem dX12_strike_77 : decode cX12_strike 77 = .ok (.ireturn, 1) := by decide +kernel
theorem dX12_strike_45 : decode cX12_strike 45 = .ok (.aload_n 0, 1) := by decide +kernel
theorem dX12_strike_46 : decode cX12_strike 46 = .ok (.iload_n 1, 1) := by decide +kernel
theorem dX12_strike_47 : decode cX12_strike 47 = .ok (.iload 4, 2) := by decide +kernel
theorem dX12_strike_49 : decode cX12_strike 49 = .ok (.iconst 0, 1) := by decide +kernel
theorem dX12_strike_50 : decode cX12_strike 50 = .ok (.invokevirtual 339, 3) := by decide +kernel
theorem dX12_strike_53 : decode cX12_strike 53 = .ok (.istore 5, 2) := by decide +kernel
theorem dX12_strike_55 : decode cX12_strike 55 = .ok (.iload 5, 2) := by decide +kernel
theorem dX12_strike_57 : decode cX12_strike 57 = .ok (.iload_n 3, 1) := by decide +kernel
theorem dX12_strike_58 : decode cX12_strike 58 = .ok (.if_icmp .gt 6, 3) := by decide +kernel
theorem dX12_strike_64 : decode cX12_strike 64 = .ok (.iload 4, 2) := by decide +kernel
theorem dX12_strike_66 : decode cX12_strike 66 = .ok (.istore_n 2, 1) := by decide +kernel
theorem dX12_strike_67 : decode cX12_strike 67 = .ok (.iload 5, 2) := by decide +kernel
theorem dX12_strike_69 : decode cX12_strike 69 = .ok (.istore_n 3, 1) := by decide +kernel
theorem dX12_strike_70 : decode cX12_strike 70 = .ok (.iinc 4 1, 3) := by decide +kernel
theorem dX12_strike_73 : decode cX12_strike 73 = .ok (.goto (-40), 3) := by decide +kernel
theorem dX12_strike_61 : decode cX12_strike 61 = .ok (.goto 9, 3) := by decide +kernel
theorem dX12_strike_13 : decode cX12_strike 13 = .ok (.bipush (-2), 2) := by decide +kernel
theorem dX12_strike_15 : decode cX12_strike 15 = .ok (.ireturn, 1) := by decide +kernel
theorem dX12_richest_0 : decode cX12_richest 0 = .ok (.aload_n 0, 1) := by decide +kernel
theorem dX12_richest_1 : decode cX12_richest 1 = .ok (.iconst 0, 1) := by decide +kernel
theorem dX12_richest_2 : decode cX12_richest 2 = .ok (.putfield 74, 3) := by decide +kernel
theorem dX12_richest_5 : decode cX12_richest 5 = .ok (.aload_n 0, 1) := by decide +kernel
theorem dX12_richest_6 : decode cX12_richest 6 = .ok (.invokevirtual 250, 3) := by decide +kernel
theorem dX12_richest_9 : decode cX12_richest 9 = .ok (.ifCond .ne 6, 3) := by decide +kernel
theorem dX12_richest_15 : decode cX12_richest 15 = .ok (.aload_n 0, 1) := by decide +kernel
theorem dX12_richest_16 : decode cX12_richest 16 = .ok (.invokevirtual 322, 3) := by decide +kernel
theorem dX12_richest_19 : decode cX12_richest 19 = .ok (.iconst 0, 1) := by decide +kernel
theorem dX12_richest_20 : decode cX12_richest 20 = .ok (.istore_n 1, 1) := by decide +kernel
theorem dX12_richest_21 : decode cX12_richest 21 = .ok (.iconst 1, 1) := by decide +kernel
theorem dX12_richest_22 : decode cX12_richest 22 = .ok (.istore_n 2, 1) := by decide +kernel
theorem dX12_richest_23 : decode cX12_richest 23 = .ok (.iload_n 2, 1) := by decide +kernel
theorem dX12_richest_24 : decode cX12_richest 24 = .ok (.bipush 6, 2) := by decide +kernel
theorem dX12_richest_26 : decode cX12_richest 26 = .ok (.if_icmp .ge 28, 3) := by decide +kernel
theorem dX12_richest_29 : decode cX12_richest 29 = .ok (.aload_n 0, 1) := by decide +kernel
theorem dX12_richest_30 : decode cX12_richest 30 = .ok (.iload_n 2, 1) := by decide +kernel
theorem dX12_richest_31 : decode cX12_richest 31 = .ok (.iconst (-1), 1) := by decide +kernel
theorem dX12_richest_32 : decode cX12_richest 32 = .ok (.iconst 0, 1) := by decide +kernel
theorem dX12_richest_33 : decode cX12_richest 33 = .ok (.invokevirtual 339, 3) := by decide +kernel
theorem dX12_richest_36 : decode cX12_richest 36 = .ok (.aload_n 0, 1) := by decide +kernel
theorem dX12_richest_37 : decode cX12_richest 37 = .ok (.iload_n 1, 1) := by decide +kernel
theorem dX12_richest_38 : decode cX12_richest 38 = .ok (.iconst (-1), 1) := by decide +kernel
theorem dX12_richest_39 : decode cX12_richest 39 = .ok (.iconst 0, 1) := by decide +kernel
theorem dX12_richest_40 : decode cX12_richest 40 = .ok (.invokevirtual 339, 3) := by decide +kernel
theorem dX12_richest_43 : decode cX12_richest 43 = .ok (.if_icmp .le 5, 3) := by decide +kernel
theorem dX12_richest_48 : decode cX12_richest 48 = .ok (.iinc 2 1, 3) := by decide +kernel
theorem dX12_richest_51 : decode cX12_richest 51 = .ok (.goto (-28), 3) := by decide +kernel
theorem dX12_richest_46 : decode cX12_richest 46 = .ok (.iload_n 2, 1) := by decide +kernel
theorem dX12_richest_47 : decode cX12_richest 47 = .ok (.istore_n 1, 1) := by decide +kernel
theorem dX12_richest_54 : decode cX12_richest 54 = .ok (.iload_n 1, 1) := by decide +kernel
theorem dX12_richest_55 : decode cX12_richest 55 = .ok (.ireturn, 1) := by decide +kernel
theorem dX12_richest_12 : decode cX12_richest 12 = .ok (.bipush (-2), 2) := by decide +kernel
theorem dX12_richest_14 : decode cX12_richest 14 = .ok (.ireturn, 1) := by decide +kernel
theorem dX12_meet_0 : decode cX12_meet 0 = .ok (.aload_n 0, 1) := by decide +kernel
theorem dX12_meet_1 : decode cX12_meet 1 = .ok (.iconst 0, 1) := by decide +kernel
theorem dX12_meet_2 : decode cX12_meet 2 = .ok (.putfield 74, 3) := by decide +kernel
theorem dX12_meet_5 : decode cX12_meet 5 = .ok (.aload_n 0, 1) := by decide +kernel
theorem dX12_meet_6 : decode cX12_meet 6 = .ok (.iload_n 1, 1) := by decide +kernel
theorem dX12_meet_7 : decode cX12_meet 7 = .ok (.invokevirtual 276, 3) := by decide +kernel
theorem dX12_meet_10 : decode cX12_meet 10 = .ok (.ifCond .eq 16, 3) := by decide +kernel
theorem dX12_meet_26 : decode cX12_meet 26 = .ok (.bipush (-2), 2) := by decide +kernel
theorem dX12_meet_28 : decode cX12_meet 28 = .ok (.ireturn, 1) := by decide +kernel
theorem dX12_meet_13 : decode cX12_meet 13 = .ok (.aload_n 0, 1) := by decide +kernel
theorem dX12_meet_14 : decode cX12_meet 14 = .ok (.iload_n 2, 1) := by decide +kernel
theorem dX12_meet_15 : decode cX12_meet 15 = .ok (.invokevirtual 276, 3) := by decide +kernel
theorem dX12_meet_18 : decode cX12_meet 18 = .ok (.ifCond .eq 8, 3) := by decide +kernel
theorem dX12_meet_21 : decode cX12_meet 21 = .ok (.iload_n 1, 1) := by decide +kernel
theorem dX12_meet_22 : decode cX12_meet 22 = .ok (.iload_n 2, 1) := by decide +kernel
theorem dX12_meet_23 : decode cX12_meet 23 = .ok (.if_icmp .ne 6, 3) := by decide +kernel
theorem dX12_meet_29 : decode cX12_meet 29 = .ok (.aload_n 0, 1) := by decide +kernel
theorem dX12_meet_30 : decode cX12_meet 30 = .ok (.invokevirtual 322, 3) := by decide +kernel
theorem dX12_meet_33 : decode cX12_meet 33 = .ok (.aload_n 0, 1) := by decide +kernel
theorem dX12_meet_34 : decode cX12_meet 34 = .ok (.getfield 40, 3) := by decide +kernel
theorem dX12_meet_37 : decode cX12_meet 37 = .ok (.iconst 3, 1) := by decide +kernel
theorem dX12_meet_38 : decode cX12_meet 38 = .ok (.iload_n 1, 1) := by decide +kernel
theorem dX12_meet_39 : decode cX12_meet 39 = .ok (.imul, 1) := by decide +kernel
theorem dX12_meet_40 : decode cX12_meet 40 = .ok (.iconst 2, 1) := by decide +kernel
theorem dX12_meet_41 : decode cX12_meet 41 = .ok (.iadd, 1) := by decide +kernel
theorem dX12_meet_42 : decode cX12_meet 42 = .ok (.iaload, 1) := by decide +kernel
theorem dX12_meet_43 : decode cX12_meet 43 = .ok (.aload_n 0, 1) := by decide +kernel
theorem dX12_meet_44 : decode cX12_meet 44 = .ok (.getfield 40, 3) := by decide +kernel
theorem dX12_meet_47 : decode cX12_meet 47 = .ok (.iconst 3, 1) := by decide +kernel
theorem dX12_meet_48 : decode cX12_meet 48 = .ok (.iload_n 2, 1) := by decide +kernel
theorem dX12_meet_49 : decode cX12_meet 49 = .ok (.imul, 1) := by decide +kernel
theorem dX12_meet_50 : decode cX12_meet 50 = .ok (.iconst 2, 1) := by decide +kernel
theorem dX12_meet_51 : decode cX12_meet 51 = .ok (.iadd, 1) := by decide +kernel
theorem dX12_meet_52 : decode cX12_meet 52 = .ok (.iaload, 1) := by decide +kernel
theorem dX12_meet_53 : decode cX12_meet 53 = .ok (.if_icmp .le 16, 3) := by decide +kernel
theorem dX12_meet_69 : decode cX12_meet 69 = .ok (.aload_n 0, 1) := by decide +kernel
theorem dX12_meet_70 : decode cX12_meet 70 = .ok (.getfield 40, 3) := by decide +kernel
theorem dX12_meet_73 : decode cX12_meet 73 = .ok (.iconst 3, 1) := by decide +kernel
theorem dX12_meet_74 : decode cX12_meet 74 = .ok (.iload_n 2, 1) := by decide +kernel
theorem dX12_meet_75 : decode cX12_meet 75 = .ok (.imul, 1) := by decide +kernel
theorem dX12_meet_76 : decode cX12_meet 76 = .ok (.iconst 2, 1) := by decide +kernel
theorem dX12_meet_77 : decode cX12_meet 77 = .ok (.iadd, 1) := by decide +kernel
theorem dX12_meet_78 : decode cX12_meet 78 = .ok (.iaload, 1) := by decide +kernel
theorem dX12_meet_79 : decode cX12_meet 79 = .ok (.istore_n 3, 1) := by decide +kernel
theorem dX12_meet_80 : decode cX12_meet 80 = .ok (.iload_n 3, 1) := by decide +kernel
theorem dX12_meet_81 : decode cX12_meet 81 = .ok (.istore 4, 2) := by decide +kernel
theorem dX12_meet_83 : decode cX12_meet 83 = .ok (.iload 4, 2) := by decide +kernel
theorem dX12_meet_85 : decode cX12_meet 85 = .ok (.sipush 400, 3) := by decide +kernel
theorem dX12_meet_88 : decode cX12_meet 88 = .ok (.if_icmp .gt 67, 3) := by decide +kernel
theorem dX12_meet_91 : decode cX12_meet 91 = .ok (.aload_n 0, 1) := by decide +kernel
theorem dX12_meet_92 : decode cX12_meet 92 = .ok (.iload_n 1, 1) := by decide +kernel
theorem dX12_meet_93 : decode cX12_meet 93 = .ok (.iload 4, 2) := by decide +kernel
theorem dX12_meet_95 : decode cX12_meet 95 = .ok (.ldc2_w 118, 3) := by decide +kernel
theorem dX12_meet_98 : decode cX12_meet 98 = .ok (.invokevirtual 308, 3) := by decide +kernel
theorem dX12_meet_101 : decode cX12_meet 101 = .ok (.aload_n 0, 1) := by decide +kernel
theorem dX12_meet_102 : decode cX12_meet 102 = .ok (.getfield 292, 3) := by decide +kernel
theorem dX12_meet_105 : decode cX12_meet 105 = .ok (.iconst (-1), 1) := by decide +kernel
theorem dX12_meet_106 : decode cX12_meet 106 = .ok (.if_icmp .eq 5, 3) := by decide +kernel
theorem dX12_meet_111 : decode cX12_meet 111 = .ok (.aload_n 0, 1) := by decide +kernel
theorem dX12_meet_112 : decode cX12_meet 112 = .ok (.getfield 289, 3) := by decide +kernel
theorem dX12_meet_115 : decode cX12_meet 115 = .ok (.istore 5, 2) := by decide +kernel
theorem dX12_meet_117 : decode cX12_meet 117 = .ok (.aload_n 0, 1) := by decide +kernel
theorem dX12_meet_118 : decode cX12_meet 118 = .ok (.iload_n 2, 1) := by decide +kernel
theorem dX12_meet_119 : decode cX12_meet 119 = .ok (.iload 4, 2) := by decide +kernel
theorem dX12_meet_121 : decode cX12_meet 121 = .ok (.ldc2_w 118, 3) := by decide +kernel
theorem dX12_meet_124 : decode cX12_meet 124 = .ok (.invokevirtual 308, 3) := by decide +kernel
theorem dX12_meet_127 : decode cX12_meet 127 = .ok (.aload_n 0, 1) := by decide +kernel
theorem dX12_meet_128 : decode cX12_meet 128 = .ok (.getfield 292, 3) := by decide +kernel
theorem dX12_meet_131 : decode cX12_meet 131 = .ok (.iconst (-1), 1) := by decide +kernel
theorem dX12_meet_132 : decode cX12_meet 132 = .ok (.if_icmp .eq 5, 3) := by decide +kernel
theorem dX12_meet_137 : decode cX12_meet 137 = .ok (.iload 5, 2) := by decide +kernel
theorem dX12_meet_139 : decode cX12_meet 139 = .ok (.aload_n 0, 1) := by decide +kernel
theorem dX12_meet_140 : decode cX12_meet 140 = .ok (.getfield 289, 3) := by decide +kernel
theorem dX12_meet_143 : decode cX12_meet 143 = .ok (.if_icmp .ne 6, 3) := by decide +kernel
theorem dX12_meet_149 : decode cX12_meet 149 = .ok (.iinc 4 1, 3) := by decide +kernel
theorem dX12_meet_152 : decode cX12_meet 152 = .ok (.goto (-69), 3) := by decide +kernel
theorem dX12_meet_146 : decode cX12_meet 146 = .ok (.iload 4, 2) := by decide +kernel
theorem dX12_meet_148 : decode cX12_meet 148 = .ok (.ireturn, 1) := by decide +kernel
theorem dX12_meet_135 : decode cX12_meet 135 = .ok (.iconst (-1), 1) := by decide +kernel
theorem dX12_meet_136 : decode cX12_meet 136 = .ok (.ireturn, 1) := by decide +kernel
theorem dX12_meet_109 : decode cX12_meet 109 = .ok (.iconst (-1), 1) := by decide +kernel
theorem dX12_meet_110 : decode cX12_meet 110 = .ok (.ireturn, 1) := by decide +kernel
theorem dX12_meet_155 : decode cX12_meet 155 = .ok (.iconst (-1), 1) := by decide +kernel
theorem dX12_meet_156 : decode cX12_meet 156 = .ok (.ireturn, 1) := by decide +kernel
theorem dX12_meet_56 : decode cX12_meet 56 = .ok (.aload_n 0, 1) := by decide +kernel
theorem dX12_meet_57 : decode cX12_meet 57 = .ok (.getfield 40, 3) := by decide +kernel
theorem dX12_meet_60 : decode cX12_meet 60 = .ok (.iconst 3, 1) := by decide +kernel
theorem dX12_meet_61 : decode cX12_meet 61 = .ok (.iload_n 1, 1) := by decide +kernel
theorem dX12_meet_62 : decode cX12_meet 62 = .ok (.imul, 1) := by decide +kernel
theorem dX12_meet_63 : decode cX12_meet 63 = .ok (.iconst 2, 1) := by decide +kernel
theorem dX12_meet_64 : decode cX12_meet 64 = .ok (.iadd, 1) := by decide +kernel
theorem dX12_meet_65 : decode cX12_meet 65 = .ok (.iaload, 1) := by decide +kernel
theorem dX12_meet_66 : decode cX12_meet 66 = .ok (.goto 13, 3) := by decide +kernel
theorem dX12_share_0 : decode cX12_share 0 = .ok (.aload_n 0, 1) := by decide +kernel
theorem dX12_share_1 : decode cX12_share 1 = .ok (.iconst 0, 1) := by decide +kernel
theorem dX12_share_2 : decode cX12_share 2 = .ok (.putfield 74, 3) := by decide +kernel
theorem dX12_share_5 : decode cX12_share 5 = .ok (.aload_n 0, 1) := by decide +kernel
theorem dX12_share_6 : decode cX12_share 6 = .ok (.iload_n 1, 1) := by decide +kernel
theorem dX12_share_7 : decode cX12_share 7 = .ok (.invokevirtual 319, 3) := by decide +kernel
theorem dX12_share_10 : decode cX12_share 10 = .ok (.ifCond .ne 6, 3) := by decide +kernel
theorem dX12_share_16 : decode cX12_share 16 = .ok (.aload_n 0, 1) := by decide +kernel
theorem dX12_share_17 : decode cX12_share 17 = .ok (.invokevirtual 410, 3) := by decide +kernel
theorem dX12_share_20 : decode cX12_share 20 = .ok (.aload_n 0, 1) := by decide +kernel
theorem dX12_share_21 : decode cX12_share 21 = .ok (.iload_n 1, 1) := by decide +kernel
theorem dX12_share_22 : decode cX12_share 22 = .ok (.aload_n 0, 1) := by decide +kernel
theorem dX12_share_23 : decode cX12_share 23 = .ok (.getfield 56, 3) := by decide +kernel
theorem dX12_share_26 : decode cX12_share 26 = .ok (.iload_n 1, 1) := by decide +kernel
theorem dX12_share_27 : decode cX12_share 27 = .ok (.iaload, 1) := by decide +kernel
theorem dX12_share_28 : decode cX12_share 28 = .ok (.invokevirtual 413, 3) := by decide +kernel
theorem dX12_share_31 : decode cX12_share 31 = .ok (.ireturn, 1) := by decide +kernel
theorem dX12_share_13 : decode cX12_share 13 = .ok (.bipush (-2), 2) := by decide +kernel
theorem dX12_share_15 : decode cX12_share 15 = .ok (.ireturn, 1) := by decide +kernel
theorem dX12_seat_0 : decode cX12_seat 0 = .ok (.aload_n 0, 1) := by decide +kernel
theorem dX12_seat_1 : decode cX12_seat 1 = .ok (.iconst 0, 1) := by decide +kernel
theorem dX12_seat_2 : decode cX12_seat 2 = .ok (.putfield 74, 3) := by decide +kernel
theorem dX12_seat_5 : decode cX12_seat 5 = .ok (.aload_n 0, 1) := by decide +kernel
theorem dX12_seat_6 : decode cX12_seat 6 = .ok (.iload_n 1, 1) := by decide +kernel
theorem dX12_seat_7 : decode cX12_seat 7 = .ok (.invokevirtual 319, 3) := by decide +kernel
theorem dX12_seat_10 : decode cX12_seat 10 = .ok (.ifCond .eq 12, 3) := by decide +kernel
theorem dX12_seat_22 : decode cX12_seat 22 = .ok (.bipush (-2), 2) := by decide +kernel
theorem dX12_seat_24 : decode cX12_seat 24 = .ok (.ireturn, 1) := by decide +kernel
theorem dX12_seat_13 : decode cX12_seat 13 = .ok (.aload_n 0, 1) := by decide +kernel
theorem dX12_seat_14 : decode cX12_seat 14 = .ok (.iload_n 2, 1) := by decide +kernel
theorem dX12_seat_15 : decode cX12_seat 15 = .ok (.i2l, 1) := by decide +kernel
theorem dX12_seat_16 : decode cX12_seat 16 = .ok (.invokevirtual 268, 3) := by decide +kernel
theorem dX12_seat_19 : decode cX12_seat 19 = .ok (.ifCond .ne 6, 3) := by decide +kernel
theorem dX12_seat_25 : decode cX12_seat 25 = .ok (.aload_n 0, 1) := by decide +kernel
theorem dX12_seat_26 : decode cX12_seat 26 = .ok (.invokevirtual 410, 3) := by decide +kernel
theorem dX12_seat_29 : decode cX12_seat 29 = .ok (.aload_n 0, 1) := by decide +kernel
theorem dX12_seat_30 : decode cX12_seat 30 = .ok (.iload_n 1, 1) := by decide +kernel
theorem dX12_seat_31 : decode cX12_seat 31 = .ok (.iload_n 2, 1) := by decide +kernel
theorem dX12_seat_32 : decode cX12_seat 32 = .ok (.invokevirtual 413, 3) := by decide +kernel
theorem dX12_seat_35 : decode cX12_seat 35 = .ok (.ireturn, 1) := by decide +kernel
theorem dX12_seats_0 : decode cX12_seats 0 = .ok (.aload_n 0, 1) := by decide +kernel
theorem dX12_seats_1 : decode cX12_seats 1 = .ok (.iconst 0, 1) := by decide +kernel
theorem dX12_seats_2 : decode cX12_seats 2 = .ok (.putfield 74, 3) := by decide +kernel
theorem dX12_seats_5 : decode cX12_seats 5 = .ok (.aload_n 0, 1) := by decide +kernel
theorem dX12_seats_6 : decode cX12_seats 6 = .ok (.iload_n 1, 1) := by decide +kernel
theorem dX12_seats_7 : decode cX12_seats 7 = .ok (.invokevirtual 319, 3) := by decide +kernel
theorem dX12_seats_10 : decode cX12_seats 10 = .ok (.ifCond .ne 6, 3) := by decide +kernel
theorem dX12_seats_16 : decode cX12_seats 16 = .ok (.aload_n 0, 1) := by decide +kernel
theorem dX12_seats_17 : decode cX12_seats 17 = .ok (.invokevirtual 410, 3) := by decide +kernel
theorem dX12_seats_20 : decode cX12_seats 20 = .ok (.iconst 0, 1) := by decide +kernel
theorem dX12_seats_21 : decode cX12_seats 21 = .ok (.istore_n 2, 1) := by decide +kernel
theorem dX12_seats_22 : decode cX12_seats 22 = .ok (.iconst 1, 1) := by decide +kernel
theorem dX12_seats_23 : decode cX12_seats 23 = .ok (.istore_n 3, 1) := by decide +kernel
theorem dX12_seats_24 : decode cX12_seats 24 = .ok (.iload_n 3, 1) := by decide +kernel
theorem dX12_seats_25 : decode cX12_seats 25 = .ok (.aload_n 0, 1) := by decide +kernel
theorem dX12_seats_26 : decode cX12_seats 26 = .ok (.getfield 34, 3) := by decide +kernel
theorem dX12_seats_29 : decode cX12_seats 29 = .ok (.iconst 0, 1) := by decide +kernel
theorem dX12_seats_30 : decode cX12_seats 30 = .ok (.iaload, 1) := by decide +kernel
theorem dX12_seats_31 : decode cX12_seats 31 = .ok (.if_icmp .ge 26, 3) := by decide +kernel
theorem dX12_seats_57 : decode cX12_seats 57 = .ok (.iload_n 2, 1) := by decide +kernel
theorem dX12_seats_58 : decode cX12_seats 58 = .ok (.ireturn, 1) := by decide +kernel
theorem dX12_seats_34 : decode cX12_seats 34 = .ok (.aload_n 0, 1) := by decide +kernel
theorem dX12_seats_35 : decode cX12_seats 35 = .ok (.iload_n 1, 1) := by decide +kernel
theorem dX12_seats_36 : decode cX12_seats 36 = .ok (.iload_n 3, 1) := by decide +kernel
theorem dX12_seats_37 : decode cX12_seats 37 = .ok (.invokevirtual 413, 3) := by decide +kernel
theorem dX12_seats_40 : decode cX12_seats 40 = .ok (.aload_n 0, 1) := by decide +kernel
theorem dX12_seats_41 : decode cX12_seats 41 = .ok (.iload_n 1, 1) := by decide +kernel
theorem dX12_seats_42 : decode cX12_seats 42 = .ok (.iload_n 2, 1) := by decide +kernel
theorem dX12_seats_43 : decode cX12_seats 43 = .ok (.invokevirtual 413, 3) := by decide +kernel
theorem dX12_seats_46 : decode cX12_seats 46 = .ok (.if_icmp .le 5, 3) := by decide +kernel
theorem dX12_seats_51 : decode cX12_seats 51 = .ok (.iinc 3 1, 3) := by decide +kernel
theorem dX12_seats_54 : decode cX12_seats 54 = .ok (.goto (-30), 3) := by decide +kernel
theorem dX12_seats_49 : decode cX12_seats 49 = .ok (.iload_n 3, 1) := by decide +kernel
theorem dX12_seats_50 : decode cX12_seats 50 = .ok (.istore_n 2, 1) := by decide +kernel
theorem dX12_seats_13 : decode cX12_seats 13 = .ok (.bipush (-2), 2) := by decide +kernel
theorem dX12_seats_15 : decode cX12_seats 15 = .ok (.ireturn, 1) := by decide +kernel
theorem dX12_rest_0 : decode cX12_rest 0 = .ok (.aload_n 0, 1) := by decide +kernel
theorem dX12_rest_1 : decode cX12_rest 1 = .ok (.iconst 0, 1) := by decide +kernel
theorem dX12_rest_2 : decode cX12_rest 2 = .ok (.putfield 74, 3) := by decide +kernel
theorem dX12_rest_5 : decode cX12_rest 5 = .ok (.aload_n 0, 1) := by decide +kernel
theorem dX12_rest_6 : decode cX12_rest 6 = .ok (.iload_n 1, 1) := by decide +kernel
theorem dX12_rest_7 : decode cX12_rest 7 = .ok (.invokevirtual 319, 3) := by decide +kernel
theorem dX12_rest_10 : decode cX12_rest 10 = .ok (.ifCond .ne 6, 3) := by decide +kernel
theorem dX12_rest_16 : decode cX12_rest 16 = .ok (.aload_n 0, 1) := by decide +kernel
theorem dX12_rest_17 : decode cX12_rest 17 = .ok (.invokevirtual 422, 3) := by decide +kernel
theorem dX12_rest_20 : decode cX12_rest 20 = .ok (.ifCond .ne 7, 3) := by decide +kernel
theorem dX12_rest_27 : decode cX12_rest 27 = .ok (.aload_n 0, 1) := by decide +kernel
theorem dX12_rest_28 : decode cX12_rest 28 = .ok (.getfield 68, 3) := by decide +kernel
theorem dX12_rest_31 : decode cX12_rest 31 = .ok (.iload_n 1, 1) := by decide +kernel
theorem dX12_rest_32 : decode cX12_rest 32 = .ok (.iaload, 1) := by decide +kernel
theorem dX12_rest_33 : decode cX12_rest 33 = .ok (.ireturn, 1) := by decide +kernel
theorem dX12_rest_23 : decode cX12_rest 23 = .ok (.iconst (-1), 1) := by decide +kernel
theorem dX12_rest_24 : decode cX12_rest 24 = .ok (.goto 9, 3) := by decide +kernel
theorem dX12_rest_13 : decode cX12_rest 13 = .ok (.bipush (-2), 2) := by decide +kernel
theorem dX12_rest_15 : decode cX12_rest 15 = .ok (.ireturn, 1) := by decide +kernel
theorem dX12_clock_0 : decode cX12_clock 0 = .ok (.aload_n 0, 1) := by decide +kernel
theorem dX12_clock_1 : decode cX12_clock 1 = .ok (.iconst 0, 1) := by decide +kernel
theorem dX12_clock_2 : decode cX12_clock 2 = .ok (.putfield 74, 3) := by decide +kernel
theorem dX12_clock_5 : decode cX12_clock 5 = .ok (.aload_n 0, 1) := by decide +kernel
theorem dX12_clock_6 : decode cX12_clock 6 = .ok (.iload_n 1, 1) := by decide +kernel
theorem dX12_clock_7 : decode cX12_clock 7 = .ok (.invokevirtual 336, 3) := by decide +kernel
theorem dX12_clock_10 : decode cX12_clock 10 = .ok (.ifCond .eq 17, 3) := by decide +kernel
theorem dX12_clock_27 : decode cX12_clock 27 = .ok (.bipush (-2), 2) := by decide +kernel
theorem dX12_clock_29 : decode cX12_clock 29 = .ok (.ireturn, 1) := by decide +kernel
theorem dX12_clock_13 : decode cX12_clock 13 = .ok (.iload_n 2, 1) := by decide +kernel
theorem dX12_clock_14 : decode cX12_clock 14 = .ok (.i2l, 1) := by decide +kernel
theorem dX12_clock_15 : decode cX12_clock 15 = .ok (.ldc2_w 425, 3) := by decide +kernel
theorem dX12_clock_18 : decode cX12_clock 18 = .ok (.ldc2_w 427, 3) := by decide +kernel
theorem dX12_clock_21 : decode cX12_clock 21 = .ok (.invokestatic 79, 3) := by decide +kernel
theorem dX12_clock_24 : decode cX12_clock 24 = .ok (.ifCond .ne 6, 3) := by decide +kernel
theorem dX12_clock_30 : decode cX12_clock 30 = .ok (.aload_n 0, 1) := by decide +kernel
theorem dX12_clock_31 : decode cX12_clock 31 = .ok (.invokevirtual 322, 3) := by decide +kernel
theorem dX12_clock_34 : decode cX12_clock 34 = .ok (.aload_n 0, 1) := by decide +kernel
theorem dX12_clock_35 : decode cX12_clock 35 = .ok (.iload_n 1, 1) := by decide +kernel
theorem dX12_clock_36 : decode cX12_clock 36 = .ok (.iconst (-1), 1) := by decide +kernel
theorem dX12_clock_37 : decode cX12_clock 37 = .ok (.iload_n 2, 1) := by decide +kernel
theorem dX12_clock_38 : decode cX12_clock 38 = .ok (.invokevirtual 339, 3) := by decide +kernel
theorem dX12_clock_41 : decode cX12_clock 41 = .ok (.ireturn, 1) := by decide +kernel
theorem dX12_set_0 : decode cX12_set 0 = .ok (.aload_n 0, 1) := by decide +kernel
theorem dX12_set_1 : decode cX12_set 1 = .ok (.iconst 0, 1) := by decide +kernel
theorem dX12_set_2 : decode cX12_set 2 = .ok (.putfield 74, 3) := by decide +kernel
theorem dX12_set_5 : decode cX12_set 5 = .ok (.aload_n 0, 1) := by decide +kernel
theorem dX12_set_6 : decode cX12_set 6 = .ok (.iload_n 1, 1) := by decide +kernel
theorem dX12_set_7 : decode cX12_set 7 = .ok (.invokevirtual 336, 3) := by decide +kernel
theorem dX12_set_10 : decode cX12_set 10 = .ok (.ifCond .ne 7, 3) := by decide +kernel
theorem dX12_set_17 : decode cX12_set 17 = .ok (.aload_n 0, 1) := by decide +kernel
theorem dX12_set_18 : decode cX12_set 18 = .ok (.invokevirtual 322, 3) := by decide +kernel
theorem dX12_set_21 : decode cX12_set 21 = .ok (.iconst 0, 1) := by decide +kernel
theorem dX12_set_22 : decode cX12_set 22 = .ok (.istore_n 2, 1) := by decide +kernel
theorem dX12_set_23 : decode cX12_set 23 = .ok (.iconst 1, 1) := by decide +kernel
theorem dX12_set_24 : decode cX12_set 24 = .ok (.istore_n 3, 1) := by decide +kernel
theorem dX12_set_25 : decode cX12_set 25 = .ok (.iload_n 3, 1) := by decide +kernel
theorem dX12_set_26 : decode cX12_set 26 = .ok (.bipush 20, 2) := by decide +kernel
theorem dX12_set_28 : decode cX12_set 28 = .ok (.if_icmp .gt 49, 3) := by decide +kernel
theorem dX12_set_31 : decode cX12_set 31 = .ok (.aload_n 0, 1) := by decide +kernel
theorem dX12_set_32 : decode cX12_set 32 = .ok (.iload_n 1, 1) := by decide +kernel
theorem dX12_set_33 : decode cX12_set 33 = .ok (.iconst (-1), 1) := by decide +kernel
theorem dX12_set_34 : decode cX12_set 34 = .ok (.iload_n 3, 1) := by decide +kernel
theorem dX12_set_35 : decode cX12_set 35 = .ok (.ineg, 1) := by decide +kernel
theorem dX12_set_36 : decode cX12_set 36 = .ok (.invokevirtual 339, 3) := by decide +kernel
theorem dX12_set_39 : decode cX12_set 39 = .ok (.aload_n 0, 1) := by decide +kernel
theorem dX12_set_40 : decode cX12_set 40 = .ok (.iload_n 1, 1) := by decide +kernel
theorem dX12_set_41 : decode cX12_set 41 = .ok (.iconst (-1), 1) := by decide +kernel
theorem dX12_set_42 : decode cX12_set 42 = .ok (.iload_n 2, 1) := by decide +kernel
theorem dX12_set_43 : decode cX12_set 43 = .ok (.invokevirtual 339, 3) := by decide +kernel
theorem dX12_set_46 : decode cX12_set 46 = .ok (.if_icmp .le 6, 3) := by decide +kernel
theorem dX12_set_52 : decode cX12_set 52 = .ok (.aload_n 0, 1) := by decide +kernel
theorem dX12_set_53 : decode cX12_set 53 = .ok (.iload_n 1, 1) := by decide +kernel
theorem dX12_set_54 : decode cX12_set 54 = .ok (.iconst (-1), 1) := by decide +kernel
theorem dX12_set_55 : decode cX12_set 55 = .ok (.iload_n 3, 1) := by decide +kernel
theorem dX12_set_56 : decode cX12_set 56 = .ok (.invokevirtual 339, 3) := by decide +kernel
theorem dX12_set_59 : decode cX12_set 59 = .ok (.aload_n 0, 1) := by decide +kernel
theorem dX12_set_60 : decode cX12_set 60 = .ok (.iload_n 1, 1) := by decide +kernel
theorem dX12_set_61 : decode cX12_set 61 = .ok (.iconst (-1), 1) := by decide +kernel
theorem dX12_set_62 : decode cX12_set 62 = .ok (.iload_n 2, 1) := by decide +kernel
theorem dX12_set_63 : decode cX12_set 63 = .ok (.invokevirtual 339, 3) := by decide +kernel
theorem dX12_set_66 : decode cX12_set 66 = .ok (.if_icmp .le 5, 3) := by decide +kernel
theorem dX12_set_71 : decode cX12_set 71 = .ok (.iinc 3 1, 3) := by decide +kernel
theorem dX12_set_74 : decode cX12_set 74 = .ok (.goto (-49), 3) := by decide +kernel
theorem dX12_set_69 : decode cX12_set 69 = .ok (.iload_n 3, 1) := by decide +kernel
theorem dX12_set_70 : decode cX12_set 70 = .ok (.istore_n 2, 1) := by decide +kernel
theorem dX12_set_49 : decode cX12_set 49 = .ok (.iload_n 3, 1) := by decide +kernel
theorem dX12_set_50 : decode cX12_set 50 = .ok (.ineg, 1) := by decide +kernel
theorem dX12_set_51 : decode cX12_set 51 = .ok (.istore_n 2, 1) := by decide +kernel
theorem dX12_set_77 : decode cX12_set 77 = .ok (.iload_n 2, 1) := by decide +kernel
theorem dX12_set_78 : decode cX12_set 78 = .ok (.ireturn, 1) := by decide +kernel
theorem dX12_set_13 : decode cX12_set 13 = .ok (.sipush (-1000), 3) := by decide +kernel
theorem dX12_set_16 : decode cX12_set 16 = .ok (.ireturn, 1) := by decide +kernel
theorem dX12_drawn_0 : decode cX12_drawn 0 = .ok (.aload_n 0, 1) := by decide +kernel
theorem dX12_drawn_1 : decode cX12_drawn 1 = .ok (.iconst 0, 1) := by decide +kernel
theorem dX12_drawn_2 : decode cX12_drawn 2 = .ok (.putfield 74, 3) := by decide +kernel
theorem dX12_drawn_5 : decode cX12_drawn 5 = .ok (.aload_n 0, 1) := by decide +kernel
theorem dX12_drawn_6 : decode cX12_drawn 6 = .ok (.iload_n 1, 1) := by decide +kernel
theorem dX12_drawn_7 : decode cX12_drawn 7 = .ok (.iload_n 2, 1) := by decide +kernel
theorem dX12_drawn_8 : decode cX12_drawn 8 = .ok (.invokevirtual 436, 3) := by decide +kernel
theorem dX12_drawn_11 : decode cX12_drawn 11 = .ok (.ifCond .eq 15, 3) := by decide +kernel
theorem dX12_drawn_26 : decode cX12_drawn 26 = .ok (.bipush (-2), 2) := by decide +kernel
theorem dX12_drawn_28 : decode cX12_drawn 28 = .ok (.ireturn, 1) := by decide +kernel
theorem dX12_drawn_14 : decode cX12_drawn 14 = .ok (.iload_n 3, 1) := by decide +kernel
theorem dX12_drawn_15 : decode cX12_drawn 15 = .ok (.i2l, 1) := by decide +kernel
theorem dX12_drawn_16 : decode cX12_drawn 16 = .ok (.lconst 0, 1) := by decide +kernel
theorem dX12_drawn_17 : decode cX12_drawn 17 = .ok (.ldc2_w 271, 3) := by decide +kernel
theorem dX12_drawn_20 : decode cX12_drawn 20 = .ok (.invokestatic 79, 3) := by decide +kernel
theorem dX12_drawn_23 : decode cX12_drawn 23 = .ok (.ifCond .ne 6, 3) := by decide +kernel
theorem dX12_drawn_29 : decode cX12_drawn 29 = .ok (.aload_n 0, 1) := by decide +kernel
theorem dX12_drawn_30 : decode cX12_drawn 30 = .ok (.invokevirtual 322, 3) := by decide +kernel
theorem dX12_drawn_33 : decode cX12_drawn 33 = .ok (.aload_n 0, 1) := by decide +kernel
theorem dX12_drawn_34 : decode cX12_drawn 34 = .ok (.iload_n 2, 1) := by decide +kernel
theorem dX12_drawn_35 : decode cX12_drawn 35 = .ok (.sipush 400, 3) := by decide +kernel
theorem dX12_drawn_38 : decode cX12_drawn 38 = .ok (.iload_n 1, 1) := by decide +kernel
theorem dX12_drawn_39 : decode cX12_drawn 39 = .ok (.i2l, 1) := by decide +kernel
theorem dX12_drawn_40 : decode cX12_drawn 40 = .ok (.invokevirtual 308, 3) := by decide +kernel
theorem dX12_drawn_43 : decode cX12_drawn 43 = .ok (.iload_n 3, 1) := by decide +kernel
theorem dX12_drawn_44 : decode cX12_drawn 44 = .ok (.ifCond .ne 10, 3) := by decide +kernel
theorem dX12_drawn_54 : decode cX12_drawn 54 = .ok (.iload_n 3, 1) := by decide +kernel
theorem dX12_drawn_55 : decode cX12_drawn 55 = .ok (.iconst 2, 1) := by decide +kernel
theorem dX12_drawn_56 : decode cX12_drawn 56 = .ok (.if_icmp .ne 12, 3) := by decide +kernel
theorem dX12_drawn_68 : decode cX12_drawn 68 = .ok (.aload_n 0, 1) := by decide +kernel
theorem dX12_drawn_69 : decode cX12_drawn 69 = .ok (.getfield 292, 3) := by decide +kernel
theorem dX12_drawn_72 : decode cX12_drawn 72 = .ok (.iconst (-1), 1) := by decide +kernel
theorem dX12_drawn_73 : decode cX12_drawn 73 = .ok (.if_icmp .ne 7, 3) := by decide +kernel
theorem dX12_drawn_80 : decode cX12_drawn 80 = .ok (.aload_n 0, 1) := by decide +kernel
theorem dX12_drawn_81 : decode cX12_drawn 81 = .ok (.getfield 289, 3) := by decide +kernel
theorem dX12_drawn_84 : decode cX12_drawn 84 = .ok (.ireturn, 1) := by decide +kernel
theorem dX12_drawn_76 : decode cX12_drawn 76 = .ok (.iconst (-1), 1) := by decide +kernel
theorem dX12_drawn_77 : decode cX12_drawn 77 = .ok (.goto 7, 3) := by decide +kernel
theorem dX12_drawn_59 : decode cX12_drawn 59 = .ok (.aload_n 0, 1) := by decide +kernel
theorem dX12_drawn_60 : decode cX12_drawn 60 = .ok (.iconst (-1), 1) := by decide +kernel
theorem dX12_drawn_61 : decode cX12_drawn 61 = .ok (.iconst 0, 1) := by decide +kernel
theorem dX12_drawn_62 : decode cX12_drawn 62 = .ok (.invokevirtual 330, 3) := by decide +kernel
theorem dX12_drawn_65 : decode cX12_drawn 65 = .ok (.goto 19, 3) := by decide +kernel
theorem dX12_drawn_47 : decode cX12_drawn 47 = .ok (.aload_n 0, 1) := by decide +kernel
theorem dX12_drawn_48 : decode cX12_drawn 48 = .ok (.getfield 292, 3) := by decide +kernel
theorem dX12_drawn_51 : decode cX12_drawn 51 = .ok (.goto 33, 3) := by decide +kernel
theorem dX12_luck_0 : decode cX12_luck 0 = .ok (.aload_n 0, 1) := by decide +kernel
theorem dX12_luck_1 : decode cX12_luck 1 = .ok (.iconst 0, 1) := by decide +kernel
theorem dX12_luck_2 : decode cX12_luck 2 = .ok (.putfield 74, 3) := by decide +kernel
theorem dX12_luck_5 : decode cX12_luck 5 = .ok (.aload_n 0, 1) := by decide +kernel
theorem dX12_luck_6 : decode cX12_luck 6 = .ok (.iload_n 1, 1) := by decide +kernel
theorem dX12_luck_7 : decode cX12_luck 7 = .ok (.iload_n 3, 1) := by decide +kernel
theorem dX12_luck_8 : decode cX12_luck 8 = .ok (.invokevirtual 436, 3) := by decide +kernel
theorem dX12_luck_11 : decode cX12_luck 11 = .ok (.ifCond .eq 24, 3) := by decide +kernel
theorem dX12_luck_35 : decode cX12_luck 35 = .ok (.bipush (-2), 2) := by decide +kernel
theorem dX12_luck_37 : decode cX12_luck 37 = .ok (.ireturn, 1) := by decide +kernel
theorem dX12_luck_14 : decode cX12_luck 14 = .ok (.iload_n 2, 1) := by decide +kernel
theorem dX12_luck_15 : decode cX12_luck 15 = .ok (.i2l, 1) := by decide +kernel
theorem dX12_luck_16 : decode cX12_luck 16 = .ok (.lconst 1, 1) := by decide +kernel
theorem dX12_luck_17 : decode cX12_luck 17 = .ok (.ldc2_w 427, 3) := by decide +kernel
theorem dX12_luck_20 : decode cX12_luck 20 = .ok (.invokestatic 79, 3) := by decide +kernel
theorem dX12_luck_23 : decode cX12_luck 23 = .ok (.ifCond .eq 12, 3) := by decide +kernel
theorem dX12_luck_26 : decode cX12_luck 26 = .ok (.aload_n 0, 1) := by decide +kernel
theorem dX12_luck_27 : decode cX12_luck 27 = .ok (.iload 4, 2) := by decide +kernel
theorem dX12_luck_29 : decode cX12_luck 29 = .ok (.invokevirtual 336, 3) := by decide +kernel
theorem dX12_luck_32 : decode cX12_luck 32 = .ok (.ifCond .ne 6, 3) := by decide +kernel
theorem dX12_luck_38 : decode cX12_luck 38 = .ok (.aload_n 0, 1) := by decide +kernel
theorem dX12_luck_39 : decode cX12_luck 39 = .ok (.invokevirtual 322, 3) := by decide +kernel
theorem dX12_luck_42 : decode cX12_luck 42 = .ok (.iconst 0, 1) := by decide +kernel
theorem dX12_luck_43 : decode cX12_luck 43 = .ok (.istore 5, 2) := by decide +kernel
theorem dX12_luck_45 : decode cX12_luck 45 = .ok (.iconst 0, 1) := by decide +kernel
theorem dX12_luck_46 : decode cX12_luck 46 = .ok (.istore 6, 2) := by decide +kernel
theorem dX12_luck_48 : decode cX12_luck 48 = .ok (.iload 6, 2) := by decide +kernel
theorem dX12_luck_50 : decode cX12_luck 50 = .ok (.iload_n 2, 1) := by decide +kernel
theorem dX12_luck_51 : decode cX12_luck 51 = .ok (.if_icmp .ge 44, 3) := by decide +kernel
theorem dX12_luck_54 : decode cX12_luck 54 = .ok (.aload_n 0, 1) := by decide +kernel
theorem dX12_luck_55 : decode cX12_luck 55 = .ok (.iload_n 3, 1) := by decide +kernel
theorem dX12_luck_56 : decode cX12_luck 56 = .ok (.sipush 400, 3) := by decide +kernel
theorem dX12_luck_59 : decode cX12_luck 59 = .ok (.iload_n 1, 1) := by decide +kernel
theorem dX12_luck_60 : decode cX12_luck 60 = .ok (.i2l, 1) := by decide +kernel
theorem dX12_luck_61 : decode cX12_luck 61 = .ok (.iload 6, 2) := by decide +kernel
theorem dX12_luck_63 : decode cX12_luck 63 = .ok (.i2l, 1) := by decide +kernel
theorem dX12_luck_64 : decode cX12_luck 64 = .ok (.ladd, 1) := by decide +kernel
theorem dX12_luck_65 : decode cX12_luck 65 = .ok (.invokevirtual 308, 3) := by decide +kernel
theorem dX12_luck_68 : decode cX12_luck 68 = .ok (.iload 5, 2) := by decide +kernel
theorem dX12_luck_70 : decode cX12_luck 70 = .ok (.aload_n 0, 1) := by decide +kernel
theorem dX12_luck_71 : decode cX12_luck 71 = .ok (.iconst (-1), 1) := by decide +kernel
theorem dX12_luck_72 : decode cX12_luck 72 = .ok (.iconst 0, 1) := by decide +kernel
theorem dX12_luck_73 : decode cX12_luck 73 = .ok (.invokevirtual 330, 3) := by decide +kernel
theorem dX12_luck_76 : decode cX12_luck 76 = .ok (.iload 4, 2) := by decide +kernel
theorem dX12_luck_78 : decode cX12_luck 78 = .ok (.if_icmp .ne 7, 3) := by decide +kernel
theorem dX12_luck_85 : decode cX12_luck 85 = .ok (.iconst 0, 1) := by decide +kernel
theorem dX12_luck_86 : decode cX12_luck 86 = .ok (.iadd, 1) := by decide +kernel
theorem dX12_luck_87 : decode cX12_luck 87 = .ok (.istore 5, 2) := by decide +kernel
theorem dX12_luck_89 : decode cX12_luck 89 = .ok (.iinc 6 1, 3) := by decide +kernel
theorem dX12_luck_92 : decode cX12_luck 92 = .ok (.goto (-44), 3) := by decide +kernel
theorem dX12_luck_81 : decode cX12_luck 81 = .ok (.iconst 1, 1) := by decide +kernel
theorem dX12_luck_82 : decode cX12_luck 82 = .ok (.goto 4, 3) := by decide +kernel
theorem dX12_luck_95 : decode cX12_luck 95 = .ok (.iload 5, 2) := by decide +kernel
theorem dX12_luck_97 : decode cX12_luck 97 = .ok (.ireturn, 1) := by decide +kernel
theorem dX12_waits_0 : decode cX12_waits 0 = .ok (.aload_n 0, 1) := by decide +kernel
theorem dX12_waits_1 : decode cX12_waits 1 = .ok (.iconst 0, 1) := by decide +kernel
theorem dX12_waits_2 : decode cX12_waits 2 = .ok (.putfield 74, 3) := by decide +kernel
theorem dX12_waits_5 : decode cX12_waits 5 = .ok (.aload_n 0, 1) := by decide +kernel
theorem dX12_waits_6 : decode cX12_waits 6 = .ok (.iload_n 1, 1) := by decide +kernel
theorem dX12_waits_7 : decode cX12_waits 7 = .ok (.iload_n 3, 1) := by decide +kernel
theorem dX12_waits_8 : decode cX12_waits 8 = .ok (.invokevirtual 436, 3) := by decide +kernel
theorem dX12_waits_11 : decode cX12_waits 11 = .ok (.ifCond .eq 15, 3) := by decide +kernel
theorem dX12_waits_26 : decode cX12_waits 26 = .ok (.bipush (-2), 2) := by decide +kernel
theorem dX12_waits_28 : decode cX12_waits 28 = .ok (.ireturn, 1) := by decide +kernel
theorem dX12_waits_14 : decode cX12_waits 14 = .ok (.iload_n 2, 1) := by decide +kernel
theorem dX12_waits_15 : decode cX12_waits 15 = .ok (.i2l, 1) := by decide +kernel
theorem dX12_waits_16 : decode cX12_waits 16 = .ok (.lconst 1, 1) := by decide +kernel
theorem dX12_waits_17 : decode cX12_waits 17 = .ok (.ldc2_w 427, 3) := by decide +kernel
theorem dX12_waits_20 : decode cX12_waits 20 = .ok (.invokestatic 79, 3) := by decide +kernel
theorem dX12_waits_23 : decode cX12_waits 23 = .ok (.ifCond .ne 6, 3) := by decide +kernel
theorem dX12_waits_29 : decode cX12_waits 29 = .ok (.aload_n 0, 1) := by decide +kernel
theorem dX12_waits_30 : decode cX12_waits 30 = .ok (.invokevirtual 322, 3) := by decide +kernel
theorem dX12_waits_33 : decode cX12_waits 33 = .ok (.iconst 0, 1) := by decide +kernel
theorem dX12_waits_34 : decode cX12_waits 34 = .ok (.istore 4, 2) := by decide +kernel
theorem dX12_waits_36 : decode cX12_waits 36 = .ok (.iload 4, 2) := by decide +kernel
theorem dX12_waits_38 : decode cX12_waits 38 = .ok (.bipush 12, 2) := by decide +kernel
theorem dX12_waits_40 : decode cX12_waits 40 = .ok (.if_icmp .ge 17, 3) := by decide +kernel
theorem dX12_waits_43 : decode cX12_waits 43 = .ok (.aload_n 0, 1) := by decide +kernel
theorem dX12_waits_44 : decode cX12_waits 44 = .ok (.getfield 71, 3) := by decide +kernel
theorem dX12_waits_47 : decode cX12_waits 47 = .ok (.iload 4, 2) := by decide +kernel
theorem dX12_waits_49 : decode cX12_waits 49 = .ok (.iconst 0, 1) := by decide +kernel
theorem dX12_waits_50 : decode cX12_waits 50 = .ok (.iastore, 1) := by decide +kernel
theorem dX12_waits_51 : decode cX12_waits 51 = .ok (.iinc 4 1, 3) := by decide +kernel
theorem dX12_waits_54 : decode cX12_waits 54 = .ok (.goto (-18), 3) := by decide +kernel
theorem dX12_waits_57 : decode cX12_waits 57 = .ok (.iconst 0, 1) := by decide +kernel
theorem dX12_waits_58 : decode cX12_waits 58 = .ok (.istore 4, 2) := by decide +kernel
theorem dX12_waits_60 : decode cX12_waits 60 = .ok (.iload 4, 2) := by decide +kernel
theorem dX12_waits_62 : decode cX12_waits 62 = .ok (.iload_n 2, 1) := by decide +kernel
theorem dX12_waits_63 : decode cX12_waits 63 = .ok (.if_icmp .ge 44, 3) := by decide +kernel
theorem dX12_waits_66 : decode cX12_waits 66 = .ok (.aload_n 0, 1) := by decide +kernel
theorem dX12_waits_67 : decode cX12_waits 67 = .ok (.iload_n 3, 1) := by decide +kernel
theorem dX12_waits_68 : decode cX12_waits 68 = .ok (.sipush 400, 3) := by decide +kernel
theorem dX12_waits_71 : decode cX12_waits 71 = .ok (.iload_n 1, 1) := by decide +kernel
theorem dX12_waits_72 : decode cX12_waits 72 = .ok (.i2l, 1) := by decide +kernel
theorem dX12_waits_73 : decode cX12_waits 73 = .ok (.iload 4, 2) := by decide +kernel
theorem dX12_waits_75 : decode cX12_waits 75 = .ok (.i2l, 1) := by decide +kernel
theorem dX12_waits_76 : decode cX12_waits 76 = .ok (.ladd, 1) := by decide +kernel
theorem dX12_waits_77 : decode cX12_waits 77 = .ok (.invokevirtual 308, 3) := by decide +kernel
theorem dX12_waits_80 : decode cX12_waits 80 = .ok (.aload_n 0, 1) := by decide +kernel
theorem dX12_waits_81 : decode cX12_waits 81 = .ok (.getfield 292, 3) := by decide +kernel
theorem dX12_waits_84 : decode cX12_waits 84 = .ok (.iconst (-1), 1) := by decide +kernel
theorem dX12_waits_85 : decode cX12_waits 85 = .ok (.if_icmp .eq 16, 3) := by decide +kernel
theorem dX12_waits_101 : decode cX12_waits 101 = .ok (.iinc 4 1, 3) := by decide +kernel
theorem dX12_waits_104 : decode cX12_waits 104 = .ok (.goto (-44), 3) := by decide +kernel
theorem dX12_waits_88 : decode cX12_waits 88 = .ok (.aload_n 0, 1) := by decide +kernel
theorem dX12_waits_89 : decode cX12_waits 89 = .ok (.getfield 71, 3) := by decide +kernel
theorem dX12_waits_92 : decode cX12_waits 92 = .ok (.aload_n 0, 1) := by decide +kernel
theorem dX12_waits_93 : decode cX12_waits 93 = .ok (.getfield 289, 3) := by decide +kernel
theorem dX12_waits_96 : decode cX12_waits 96 = .ok (.dup2, 1) := by decide +kernel
theorem dX12_waits_97 : decode cX12_waits 97 = .ok (.iaload, 1) := by decide +kernel
theorem dX12_waits_98 : decode cX12_waits 98 = .ok (.iconst 1, 1) := by decide +kernel
theorem dX12_waits_99 : decode cX12_waits 99 = .ok (.iadd, 1) := by decide +kernel
theorem dX12_waits_100 : decode cX12_waits 100 = .ok (.iastore, 1) := by decide +kernel
theorem dX12_waits_107 : decode cX12_waits 107 = .ok (.iconst (-1), 1) := by decide +kernel
theorem dX12_waits_108 : decode cX12_waits 108 = .ok (.istore 4, 2) := by decide +kernel
theorem dX12_waits_110 : decode cX12_waits 110 = .ok (.iconst 0, 1) := by decide +kernel
theorem dX12_waits_111 : decode cX12_waits 111 = .ok (.istore 5, 2) := by decide +kernel
theorem dX12_waits_113 : decode cX12_waits 113 = .ok (.iconst 0, 1) := by decide +kernel
theorem dX12_waits_114 : decode cX12_waits 114 = .ok (.istore 6, 2) := by decide +kernel
theorem dX12_waits_116 : decode cX12_waits 116 = .ok (.iload 6, 2) := by decide +kernel
theorem dX12_waits_118 : decode cX12_waits 118 = .ok (.bipush 12, 2) := by decide +kernel
theorem dX12_waits_120 : decode cX12_waits 120 = .ok (.if_icmp .ge 37, 3) := by decide +kernel
theorem dX12_waits_123 : decode cX12_waits 123 = .ok (.aload_n 0, 1) := by decide +kernel
theorem dX12_waits_124 : decode cX12_waits 124 = .ok (.getfield 71, 3) := by decide +kernel
theorem dX12_waits_127 : decode cX12_waits 127 = .ok (.iload 6, 2) := by decide +kernel
theorem dX12_waits_129 : decode cX12_waits 129 = .ok (.iaload, 1) := by decide +kernel
theorem dX12_waits_130 : decode cX12_waits 130 = .ok (.iload 5, 2) := by decide +kernel
theorem dX12_waits_132 : decode cX12_waits 132 = .ok (.if_icmp .gt 6, 3) := by decide +kernel
theorem dX12_waits_138 : decode cX12_waits 138 = .ok (.iload 6, 2) := by decide +kernel
theorem dX12_waits_140 : decode cX12_waits 140 = .ok (.istore 4, 2) := by decide +kernel
theorem dX12_waits_142 : decode cX12_waits 142 = .ok (.aload_n 0, 1) := by decide +kernel
theorem dX12_waits_143 : decode cX12_waits 143 = .ok (.getfield 71, 3) := by decide +kernel
theorem dX12_waits_146 : decode cX12_waits 146 = .ok (.iload 6, 2) := by decide +kernel
theorem dX12_waits_148 : decode cX12_waits 148 = .ok (.iaload, 1) := by decide +kernel
theorem dX12_waits_149 : decode cX12_waits 149 = .ok (.istore 5, 2) := by decide +kernel
theorem dX12_waits_151 : decode cX12_waits 151 = .ok (.iinc 6 1, 3) := by decide +kernel
theorem dX12_waits_154 : decode cX12_waits 154 = .ok (.goto (-38), 3) := by decide +kernel
theorem dX12_waits_135 : decode cX12_waits 135 = .ok (.goto 16, 3) := by decide +kernel
theorem dX12_waits_157 : decode cX12_waits 157 = .ok (.iload 4, 2) := by decide +kernel
theorem dX12_waits_159 : decode cX12_waits 159 = .ok (.ireturn, 1) := by decide +kernel
theorem dX12_rests__0 : decode cX12_rests_ 0 = .ok (.aload_n 0, 1) := by decide +kernel
theorem dX12_rests__1 : decode cX12_rests_ 1 = .ok (.iconst 0, 1) := by decide +kernel
theorem dX12_rests__2 : decode cX12_rests_ 2 = .ok (.putfield 74, 3) := by decide +kernel
theorem dX12_rests__5 : decode cX12_rests_ 5 = .ok (.aload_n 0, 1) := by decide +kernel
theorem dX12_rests__6 : decode cX12_rests_ 6 = .ok (.invokevirtual 250, 3) := by decide +kernel
theorem dX12_rests__9 : decode cX12_rests_ 9 = .ok (.ifCond .eq 10, 3) := by decide +kernel
theorem dX12_rests__19 : decode cX12_rests_ 19 = .ok (.bipush (-2), 2) := by decide +kernel
theorem dX12_rests__21 : decode cX12_rests_ 21 = .ok (.ireturn, 1) := by decide +kernel
theorem dX12_rests__12 : decode cX12_rests_ 12 = .ok (.aload_n 0, 1) := by decide +kernel
theorem dX12_rests__13 : decode cX12_rests_ 13 = .ok (.invokevirtual 422, 3) := by decide +kernel
theorem dX12_rests__16 : decode cX12_rests_ 16 = .ok (.goto 5, 3) := by decide +kernel
theorem dX12_count_0 : decode cX12_count 0 = .ok (.aload_n 0, 1) := by decide +kernel
theorem dX12_count_1 : decode cX12_count 1 = .ok (.iconst 0, 1) := by decide +kernel
theorem dX12_count_2 : decode cX12_count 2 = .ok (.putfield 74, 3) := by decide +kernel
theorem dX12_count_5 : decode cX12_count 5 = .ok (.iconst 0, 1) := by decide +kernel
theorem dX12_count_6 : decode cX12_count 6 = .ok (.istore_n 2, 1) := by decide +kernel
theorem dX12_count_7 : decode cX12_count 7 = .ok (.iload_n 1, 1) := by decide +kernel
theorem dX12_count_8 : decode cX12_count 8 = .ok (.tableswitch 103 5 12 #[48, 103, 103, 103, 103, 58, 65, 70], 48) := by decide +kernel
theorem dX12_count_111 : decode cX12_count 111 = .ok (.iload_n 1, 1) := by decide +kernel
theorem dX12_count_112 : decode cX12_count 112 = .ok (.i2l, 1) := by decide +kernel
theorem dX12_count_113 : decode cX12_count 113 = .ok (.lconst 0, 1) := by decide +kernel
theorem dX12_count_114 : decode cX12_count 114 = .ok (.ldc2_w 441, 3) := by decide +kernel
theorem dX12_count_117 : decode cX12_count 117 = .ok (.invokestatic 79, 3) := by decide +kernel
theorem dX12_count_120 : decode cX12_count 120 = .ok (.ifCond .eq 12, 3) := by decide +kernel
theorem dX12_count_132 : decode cX12_count 132 = .ok (.iconst (-1), 1) := by decide +kernel
theorem dX12_count_133 : decode cX12_count 133 = .ok (.ireturn, 1) := by decide +kernel
theorem dX12_count_123 : decode cX12_count 123 = .ok (.aload_n 0, 1) := by decide +kernel
theorem dX12_count_124 : decode cX12_count 124 = .ok (.getfield 34, 3) := by decide +kernel
theorem dX12_count_127 : decode cX12_count 127 = .ok (.iload_n 1, 1) := by decide +kernel
theorem dX12_count_128 : decode cX12_count 128 = .ok (.iaload, 1) := by decide +kernel
theorem dX12_count_129 : decode cX12_count 129 = .ok (.goto 4, 3) := by decide +kernel
theorem dX12_count_56 : decode cX12_count 56 = .ok (.aload_n 0, 1) := by decide +kernel
theorem dX12_count_57 : decode cX12_count 57 = .ok (.getfield 34, 3) := by decide +kernel
theorem dX12_count_60 : decode cX12_count 60 = .ok (.iconst 5, 1) := by decide +kernel
theorem dX12_count_61 : decode cX12_count 61 = .ok (.iaload, 1) := by decide +kernel
theorem dX12_count_62 : decode cX12_count 62 = .ok (.invokestatic 342, 3) := by decide +kernel
theorem dX12_count_65 : decode cX12_count 65 = .ok (.ireturn, 1) := by decide +kernel
theorem dX12_count_66 : decode cX12_count 66 = .ok (.aload_n 0, 1) := by decide +kernel
theorem dX12_count_67 : decode cX12_count 67 = .ok (.getfield 31, 3) := by decide +kernel
theorem dX12_count_70 : decode cX12_count 70 = .ok (.iconst 0, 1) := by decide +kernel
theorem dX12_count_71 : decode cX12_count 71 = .ok (.iaload, 1) := by decide +kernel
theorem dX12_count_72 : decode cX12_count 72 = .ok (.ireturn, 1) := by decide +kernel
theorem dX12_count_73 : decode cX12_count 73 = .ok (.aload_n 0, 1) := by decide +kernel
theorem dX12_count_74 : decode cX12_count 74 = .ok (.getfield 91, 3) := by decide +kernel
theorem dX12_count_77 : decode cX12_count 77 = .ok (.ireturn, 1) := by decide +kernel
theorem dX12_count_78 : decode cX12_count 78 = .ok (.iconst 0, 1) := by decide +kernel
theorem dX12_count_79 : decode cX12_count 79 = .ok (.istore_n 3, 1) := by decide +kernel
theorem dX12_count_80 : decode cX12_count 80 = .ok (.iload_n 3, 1) := by decide +kernel
theorem dX12_count_81 : decode cX12_count 81 = .ok (.iconst 4, 1) := by decide +kernel
theorem dX12_count_82 : decode cX12_count 82 = .ok (.if_icmp .ge 27, 3) := by decide +kernel
theorem dX12_count_85 : decode cX12_count 85 = .ok (.iload_n 2, 1) := by decide +kernel
theorem dX12_count_86 : decode cX12_count 86 = .ok (.aload_n 0, 1) := by decide +kernel
theorem dX12_count_87 : decode cX12_count 87 = .ok (.getfield 7, 3) := by decide +kernel
theorem dX12_count_90 : decode cX12_count 90 = .ok (.iload_n 3, 1) := by decide +kernel
theorem dX12_count_91 : decode cX12_count 91 = .ok (.iaload, 1) := by decide +kernel
theorem dX12_count_92 : decode cX12_count 92 = .ok (.iconst (-1), 1) := by decide +kernel
theorem dX12_count_93 : decode cX12_count 93 = .ok (.if_icmp .ne 7, 3) := by decide +kernel
theorem dX12_count_100 : decode cX12_count 100 = .ok (.iconst 1, 1) := by decide +kernel
theorem dX12_count_101 : decode cX12_count 101 = .ok (.iadd, 1) := by decide +kernel
theorem dX12_count_102 : decode cX12_count 102 = .ok (.istore_n 2, 1) := by decide +kernel
theorem dX12_count_103 : decode cX12_count 103 = .ok (.iinc 3 1, 3) := by decide +kernel
theorem dX12_count_106 : decode cX12_count 106 = .ok (.goto (-26), 3) := by decide +kernel
theorem dX12_count_96 : decode cX12_count 96 = .ok (.iconst 0, 1) := by decide +kernel
theorem dX12_count_97 : decode cX12_count 97 = .ok (.goto 4, 3) := by decide +kernel
theorem dX12_count_109 : decode cX12_count 109 = .ok (.iload_n 2, 1) := by decide +kernel
theorem dX12_count_110 : decode cX12_count 110 = .ok (.ireturn, 1) := by decide +kernel
theorem dX12_rate_0 : decode cX12_rate 0 = .ok (.aload_n 0, 1) := by decide +kernel
theorem dX12_rate_1 : decode cX12_rate 1 = .ok (.iconst 0, 1) := by decide +kernel
theorem dX12_rate_2 : decode cX12_rate 2 = .ok (.putfield 74, 3) := by decide +kernel
theorem dX12_rate_5 : decode cX12_rate 5 = .ok (.aload_n 0, 1) := by decide +kernel
theorem dX12_rate_6 : decode cX12_rate 6 = .ok (.iload_n 1, 1) := by decide +kernel
theorem dX12_rate_7 : decode cX12_rate 7 = .ok (.invokevirtual 276, 3) := by decide +kernel
theorem dX12_rate_10 : decode cX12_rate 10 = .ok (.ifCond .eq 15, 3) := by decide +kernel
theorem dX12_rate_25 : decode cX12_rate 25 = .ok (.bipush (-2), 2) := by decide +kernel
theorem dX12_rate_27 : decode cX12_rate 27 = .ok (.ireturn, 1) := by decide +kernel
theorem dX12_rate_13 : decode cX12_rate 13 = .ok (.iload_n 2, 1) := by decide +kernel
theorem dX12_rate_14 : decode cX12_rate 14 = .ok (.i2l, 1) := by decide +kernel
theorem dX12_rate_15 : decode cX12_rate 15 = .ok (.lconst 0, 1) := by decide +kernel
theorem dX12_rate_16 : decode cX12_rate 16 = .ok (.ldc2_w 439, 3) := by decide +kernel
theorem dX12_rate_19 : decode cX12_rate 19 = .ok (.invokestatic 79, 3) := by decide +kernel
theorem dX12_rate_22 : decode cX12_rate 22 = .ok (.ifCond .ne 6, 3) := by decide +kernel
theorem dX12_rate_28 : decode cX12_rate 28 = .ok (.aload_n 0, 1) := by decide +kernel
theorem dX12_rate_29 : decode cX12_rate 29 = .ok (.getfield 34, 3) := by decide +kernel
theorem dX12_rate_32 : decode cX12_rate 32 = .ok (.bipush 9, 2) := by decide +kernel
theorem dX12_rate_34 : decode cX12_rate 34 = .ok (.iaload, 1) := by decide +kernel
theorem dX12_rate_35 : decode cX12_rate 35 = .ok (.ifCond .le 6, 3) := by decide +kernel
theorem dX12_rate_41 : decode cX12_rate 41 = .ok (.aload_n 0, 1) := by decide +kernel
theorem dX12_rate_42 : decode cX12_rate 42 = .ok (.getfield 40, 3) := by decide +kernel
theorem dX12_rate_45 : decode cX12_rate 45 = .ok (.iconst 3, 1) := by decide +kernel
theorem dX12_rate_46 : decode cX12_rate 46 = .ok (.iload_n 1, 1) := by decide +kernel
theorem dX12_rate_47 : decode cX12_rate 47 = .ok (.imul, 1) := by decide +kernel
theorem dX12_rate_48 : decode cX12_rate 48 = .ok (.iaload, 1) := by decide +kernel
theorem dX12_rate_49 : decode cX12_rate 49 = .ok (.istore_n 3, 1) := by decide +kernel
theorem dX12_rate_50 : decode cX12_rate 50 = .ok (.aload_n 0, 1) := by decide +kernel
theorem dX12_rate_51 : decode cX12_rate 51 = .ok (.getfield 40, 3) := by decide +kernel
theorem dX12_rate_54 : decode cX12_rate 54 = .ok (.iconst 3, 1) := by decide +kernel
theorem dX12_rate_55 : decode cX12_rate 55 = .ok (.iload_n 1, 1) := by decide +kernel
theorem dX12_rate_56 : decode cX12_rate 56 = .ok (.imul, 1) := by decide +kernel
theorem dX12_rate_57 : decode cX12_rate 57 = .ok (.iload_n 2, 1) := by decide +kernel
theorem dX12_rate_58 : decode cX12_rate 58 = .ok (.iastore, 1) := by decide +kernel
theorem dX12_rate_59 : decode cX12_rate 59 = .ok (.iload_n 3, 1) := by decide +kernel
theorem dX12_rate_60 : decode cX12_rate 60 = .ok (.ireturn, 1) := by decide +kernel
theorem dX12_rate_38 : decode cX12_rate 38 = .ok (.bipush (-5), 2) := by decide +kernel
theorem dX12_rate_40 : decode cX12_rate 40 = .ok (.ireturn, 1) := by decide +kernel
theorem dX12_four_0 : decode cX12_four 0 = .ok (.bipush 24, 2) := by decide +kernel
theorem dX12_four_2 : decode cX12_four 2 = .ok (.istore_n 2, 1) := by decide +kernel
theorem dX12_four_3 : decode cX12_four 3 = .ok (.iload_n 2, 1) := by decide +kernel
theorem dX12_four_4 : decode cX12_four 4 = .ok (.ifCond .lt 32, 3) := by decide +kernel
theorem dX12_four_7 : decode cX12_four 7 = .ok (.aload_n 0, 1) := by decide +kernel
theorem dX12_four_8 : decode cX12_four 8 = .ok (.getfield 23, 3) := by decide +kernel
theorem dX12_four_11 : decode cX12_four 11 = .ok (.aload_n 0, 1) := by decide +kernel
theorem dX12_four_12 : decode cX12_four 12 = .ok (.getfield 91, 3) := by decide +kernel
theorem dX12_four_15 : decode cX12_four 15 = .ok (.iload_n 1, 1) := by decide +kernel
theorem dX12_four_16 : decode cX12_four 16 = .ok (.iload_n 2, 1) := by decide +kernel
theorem dX12_four_17 : decode cX12_four 17 = .ok (.ishr, 1) := by decide +kernel
theorem dX12_four_18 : decode cX12_four 18 = .ok (.i2b, 1) := by decide +kernel
theorem dX12_four_19 : decode cX12_four 19 = .ok (.bastore, 1) := by decide +kernel
theorem dX12_four_20 : decode cX12_four 20 = .ok (.aload_n 0, 1) := by decide +kernel
theorem dX12_four_21 : decode cX12_four 21 = .ok (.dup, 1) := by decide +kernel
theorem dX12_four_22 : decode cX12_four 22 = .ok (.getfield 91, 3) := by decide +kernel
theorem dX12_four_25 : decode cX12_four 25 = .ok (.iconst 1, 1) := by decide +kernel
theorem dX12_four_26 : decode cX12_four 26 = .ok (.iadd, 1) := by decide +kernel
theorem dX12_four_27 : decode cX12_four 27 = .ok (.putfield 91, 3) := by decide +kernel
theorem dX12_four_30 : decode cX12_four 30 = .ok (.iinc 2 (-8), 3) := by decide +kernel
theorem dX12_four_33 : decode cX12_four 33 = .ok (.goto (-30), 3) := by decide +kernel
theorem dX12_four_36 : decode cX12_four 36 = .ok (.return_, 1) := by decide +kernel
theorem dX12_feed_0 : decode cX12_feed 0 = .ok (.aload_n 0, 1) := by decide +kernel
theorem dX12_feed_1 : decode cX12_feed 1 = .ok (.iconst 0, 1) := by decide +kernel
theorem dX12_feed_2 : decode cX12_feed 2 = .ok (.putfield 74, 3) := by decide +kernel
theorem dX12_feed_5 : decode cX12_feed 5 = .ok (.aload_n 0, 1) := by decide +kernel
theorem dX12_feed_6 : decode cX12_feed 6 = .ok (.getfield 91, 3) := by decide +kernel
theorem dX12_feed_9 : decode cX12_feed 9 = .ok (.bipush 20, 2) := by decide +kernel
theorem dX12_feed_11 : decode cX12_feed 11 = .ok (.iadd, 1) := by decide +kernel
theorem dX12_feed_12 : decode cX12_feed 12 = .ok (.sipush 1200, 3) := by decide +kernel
theorem dX12_feed_15 : decode cX12_feed 15 = .ok (.if_icmp .le 5, 3) := by decide +kernel
theorem dX12_feed_20 : decode cX12_feed 20 = .ok (.aload_n 0, 1) := by decide +kernel
theorem dX12_feed_21 : decode cX12_feed 21 = .ok (.iload_n 1, 1) := by decide +kernel
theorem dX12_feed_22 : decode cX12_feed 22 = .ok (.invokevirtual 94, 3) := by decide +kernel
theorem dX12_feed_25 : decode cX12_feed 25 = .ok (.aload_n 0, 1) := by decide +kernel
theorem dX12_feed_26 : decode cX12_feed 26 = .ok (.iload_n 2, 1) := by decide +kernel
theorem dX12_feed_27 : decode cX12_feed 27 = .ok (.invokevirtual 94, 3) := by decide +kernel
theorem dX12_feed_30 : decode cX12_feed 30 = .ok (.aload_n 0, 1) := by decide +kernel
theorem dX12_feed_31 : decode cX12_feed 31 = .ok (.iload_n 3, 1) := by decide +kernel
theorem dX12_feed_32 : decode cX12_feed 32 = .ok (.invokevirtual 94, 3) := by decide +kernel
theorem dX12_feed_35 : decode cX12_feed 35 = .ok (.aload_n 0, 1) := by decide +kernel
theorem dX12_feed_36 : decode cX12_feed 36 = .ok (.iload 4, 2) := by decide +kernel
theorem dX12_feed_38 : decode cX12_feed 38 = .ok (.invokevirtual 94, 3) := by decide +kernel
theorem dX12_feed_41 : decode cX12_feed 41 = .ok (.aload_n 0, 1) := by decide +kernel
theorem dX12_feed_42 : decode cX12_feed 42 = .ok (.iload 5, 2) := by decide +kernel
theorem dX12_feed_44 : decode cX12_feed 44 = .ok (.invokevirtual 94, 3) := by decide +kernel
theorem dX12_feed_47 : decode cX12_feed 47 = .ok (.aload_n 0, 1) := by decide +kernel
theorem dX12_feed_48 : decode cX12_feed 48 = .ok (.getfield 91, 3) := by decide +kernel
theorem dX12_feed_51 : decode cX12_feed 51 = .ok (.ireturn, 1) := by decide +kernel
theorem dX12_feed_18 : decode cX12_feed 18 = .ok (.iconst (-1), 1) := by decide +kernel
theorem dX12_feed_19 : decode cX12_feed 19 = .ok (.ireturn, 1) := by decide +kernel
theorem dX12_isByte_0 : decode cX12_isByte 0 = .ok (.iload_n 1, 1) := by decide +kernel
theorem dX12_isByte_1 : decode cX12_isByte 1 = .ok (.aload_n 0, 1) := by decide +kernel
theorem dX12_isByte_2 : decode cX12_isByte 2 = .ok (.getfield 91, 3) := by decide +kernel
theorem dX12_isByte_5 : decode cX12_isByte 5 = .ok (.if_icmp .ge 27, 3) := by decide +kernel
theorem dX12_isByte_32 : decode cX12_isByte 32 = .ok (.iconst 0, 1) := by decide +kernel
theorem dX12_isByte_33 : decode cX12_isByte 33 = .ok (.ireturn, 1) := by decide +kernel
theorem dX12_isByte_8 : decode cX12_isByte 8 = .ok (.aload_n 0, 1) := by decide +kernel
theorem dX12_isByte_9 : decode cX12_isByte 9 = .ok (.getfield 23, 3) := by decide +kernel
theorem dX12_isByte_12 : decode cX12_isByte 12 = .ok (.iload_n 1, 1) := by decide +kernel
theorem dX12_isByte_13 : decode cX12_isByte 13 = .ok (.baload, 1) := by decide +kernel
theorem dX12_isByte_14 : decode cX12_isByte 14 = .ok (.iload_n 2, 1) := by decide +kernel
theorem dX12_isByte_15 : decode cX12_isByte 15 = .ok (.if_icmp .lt 17, 3) := by decide +kernel
theorem dX12_isByte_18 : decode cX12_isByte 18 = .ok (.aload_n 0, 1) := by decide +kernel
theorem dX12_isByte_19 : decode cX12_isByte 19 = .ok (.getfield 23, 3) := by decide +kernel
theorem dX12_isByte_22 : decode cX12_isByte 22 = .ok (.iload_n 1, 1) := by decide +kernel
theorem dX12_isByte_23 : decode cX12_isByte 23 = .ok (.baload, 1) := by decide +kernel
theorem dX12_isByte_24 : decode cX12_isByte 24 = .ok (.iload_n 3, 1) := by decide +kernel
theorem dX12_isByte_25 : decode cX12_isByte 25 = .ok (.if_icmp .gt 7, 3) := by decide +kernel
theorem dX12_isByte_28 : decode cX12_isByte 28 = .ok (.iconst 1, 1) := by decide +kernel
theorem dX12_isByte_29 : decode cX12_isByte 29 = .ok (.goto 4, 3) := by decide +kernel
theorem dX12_next_0 : decode cX12_next 0 = .ok (.aload_n 0, 1) := by decide +kernel
theorem dX12_next_1 : decode cX12_next 1 = .ok (.aload_n 0, 1) := by decide +kernel
theorem dX12_next_2 : decode cX12_next 2 = .ok (.getfield 98, 3) := by decide +kernel
theorem dX12_next_5 : decode cX12_next 5 = .ok (.bipush 32, 2) := by decide +kernel
theorem dX12_next_7 : decode cX12_next 7 = .ok (.bipush 32, 2) := by decide +kernel
theorem dX12_next_9 : decode cX12_next 9 = .ok (.invokevirtual 101, 3) := by decide +kernel
theorem dX12_next_12 : decode cX12_next 12 = .ok (.ifCond .ne 18, 3) := by decide +kernel
theorem dX12_next_30 : decode cX12_next 30 = .ok (.aload_n 0, 1) := by decide +kernel
theorem dX12_next_31 : decode cX12_next 31 = .ok (.dup, 1) := by decide +kernel
theorem dX12_next_32 : decode cX12_next 32 = .ok (.getfield 98, 3) := by decide +kernel
theorem dX12_next_35 : decode cX12_next 35 = .ok (.iconst 1, 1) := by decide +kernel
theorem dX12_next_36 : decode cX12_next 36 = .ok (.iadd, 1) := by decide +kernel
theorem dX12_next_37 : decode cX12_next 37 = .ok (.putfield 98, 3) := by decide +kernel
theorem dX12_next_40 : decode cX12_next 40 = .ok (.goto (-40), 3) := by decide +kernel
theorem dX12_next_15 : decode cX12_next 15 = .ok (.aload_n 0, 1) := by decide +kernel
theorem dX12_next_16 : decode cX12_next 16 = .ok (.aload_n 0, 1) := by decide +kernel
theorem dX12_next_17 : decode cX12_next 17 = .ok (.getfield 98, 3) := by decide +kernel
theorem dX12_next_20 : decode cX12_next 20 = .ok (.bipush 10, 2) := by decide +kernel
theorem dX12_next_22 : decode cX12_next 22 = .ok (.bipush 10, 2) := by decide +kernel
theorem dX12_next_24 : decode cX12_next 24 = .ok (.invokevirtual 101, 3) := by decide +kernel
theorem dX12_next_27 : decode cX12_next 27 = .ok (.ifCond .eq 16, 3) := by decide +kernel
theorem dX12_next_43 : decode cX12_next 43 = .ok (.aload_n 0, 1) := by decide +kernel
theorem dX12_next_44 : decode cX12_next 44 = .ok (.aload_n 0, 1) := by decide +kernel
theorem dX12_next_45 : decode cX12_next 45 = .ok (.getfield 98, 3) := by decide +kernel
theorem dX12_next_48 : decode cX12_next 48 = .ok (.putfield 105, 3) := by decide +kernel
theorem dX12_next_51 : decode cX12_next 51 = .ok (.aload_n 0, 1) := by decide +kernel
theorem dX12_next_52 : decode cX12_next 52 = .ok (.iconst 0, 1) := by decide +kernel
theorem dX12_next_53 : decode cX12_next 53 = .ok (.putfield 108, 3) := by decide +kernel
theorem dX12_next_56 : decode cX12_next 56 = .ok (.aload_n 0, 1) := by decide +kernel
theorem dX12_next_57 : decode cX12_next 57 = .ok (.lconst 0, 1) := by decide +kernel
theorem dX12_next_58 : decode cX12_next 58 = .ok (.putfield 111, 3) := by decide +kernel
theorem dX12_next_61 : decode cX12_next 61 = .ok (.aload_n 0, 1) := by decide +kernel
theorem dX12_next_62 : decode cX12_next 62 = .ok (.getfield 98, 3) := by decide +kernel
theorem dX12_next_65 : decode cX12_next 65 = .ok (.aload_n 0, 1) := by decide +kernel
theorem dX12_next_66 : decode cX12_next 66 = .ok (.getfield 91, 3) := by decide +kernel
theorem dX12_next_69 : decode cX12_next 69 = .ok (.if_icmp .ne 11, 3) := by decide +kernel
theorem dX12_next_80 : decode cX12_next 80 = .ok (.aload_n 0, 1) := by decide +kernel
theorem dX12_next_81 : decode cX12_next 81 = .ok (.aload_n 0, 1) := by decide +kernel
theorem dX12_next_82 : decode cX12_next 82 = .ok (.getfield 98, 3) := by decide +kernel
theorem dX12_next_85 : decode cX12_next 85 = .ok (.bipush 97, 2) := by decide +kernel
theorem dX12_next_87 : decode cX12_next 87 = .ok (.bipush 122, 2) := by decide +kernel
theorem dX12_next_89 : decode cX12_next 89 = .ok (.invokevirtual 101, 3) := by decide +kernel
theorem dX12_next_92 : decode cX12_next 92 = .ok (.ifCond .eq 96, 3) := by decide +kernel
theorem dX12_next_188 : decode cX12_next 188 = .ok (.aload_n 0, 1) := by decide +kernel
theorem dX12_next_189 : decode cX12_next 189 = .ok (.aload_n 0, 1) := by decide +kernel
theorem dX12_next_190 : decode cX12_next 190 = .ok (.getfield 98, 3) := by decide +kernel
theorem dX12_next_193 : decode cX12_next 193 = .ok (.bipush 48, 2) := by decide +kernel
theorem dX12_next_195 : decode cX12_next 195 = .ok (.bipush 57, 2) := by decide +kernel
theorem dX12_next_197 : decode cX12_next 197 = .ok (.invokevirtual 101, 3) := by decide +kernel
theorem dX12_next_200 : decode cX12_next 200 = .ok (.ifCond .eq 74, 3) := by decide +kernel
theorem dX12_next_274 : decode cX12_next 274 = .ok (.aload_n 0, 1) := by decide +kernel
theorem dX12_next_275 : decode cX12_next 275 = .ok (.aload_n 0, 1) := by decide +kernel
theorem dX12_next_276 : decode cX12_next 276 = .ok (.getfield 23, 3) := by decide +kernel
theorem dX12_next_279 : decode cX12_next 279 = .ok (.aload_n 0, 1) := by decide +kernel
theorem dX12_next_280 : decode cX12_next 280 = .ok (.getfield 98, 3) := by decide +kernel
theorem dX12_next_283 : decode cX12_next 283 = .ok (.baload, 1) := by decide +kernel
theorem dX12_next_284 : decode cX12_next 284 = .ok (.bipush 59, 2) := by decide +kernel
theorem dX12_next_286 : decode cX12_next 286 = .ok (.if_icmp .ne 7, 3) := by decide +kernel
theorem dX12_next_293 : decode cX12_next 293 = .ok (.iconst 4, 1) := by decide +kernel
theorem dX12_next_294 : decode cX12_next 294 = .ok (.putfield 115, 3) := by decide +kernel
theorem dX12_next_297 : decode cX12_next 297 = .ok (.aload_n 0, 1) := by decide +kernel
theorem dX12_next_298 : decode cX12_next 298 = .ok (.dup, 1) := by decide +kernel
theorem dX12_next_299 : decode cX12_next 299 = .ok (.getfield 98, 3) := by decide +kernel
theorem dX12_next_302 : decode cX12_next 302 = .ok (.iconst 1, 1) := by decide +kernel
theorem dX12_next_303 : decode cX12_next 303 = .ok (.iadd, 1) := by decide +kernel
theorem dX12_next_304 : decode cX12_next 304 = .ok (.putfield 98, 3) := by decide +kernel
theorem dX12_next_307 : decode cX12_next 307 = .ok (.return_, 1) := by decide +kernel
theorem dX12_next_289 : decode cX12_next 289 = .ok (.iconst 3, 1) := by decide +kernel
theorem dX12_next_290 : decode cX12_next 290 = .ok (.goto 4, 3) := by decide +kernel
theorem dX12_next_203 : decode cX12_next 203 = .ok (.aload_n 0, 1) := by decide +kernel
theorem dX12_next_204 : decode cX12_next 204 = .ok (.iconst 2, 1) := by decide +kernel
theorem dX12_next_205 : decode cX12_next 205 = .ok (.putfield 115, 3) := by decide +kernel
theorem dX12_next_208 : decode cX12_next 208 = .ok (.aload_n 0, 1) := by decide +kernel
theorem dX12_next_209 : decode cX12_next 209 = .ok (.aload_n 0, 1) := by decide +kernel
theorem dX12_next_210 : decode cX12_next 210 = .ok (.getfield 98, 3) := by decide +kernel
theorem dX12_next_213 : decode cX12_next 213 = .ok (.bipush 48, 2) := by decide +kernel
theorem dX12_next_215 : decode cX12_next 215 = .ok (.bipush 57, 2) := by decide +kernel
theorem dX12_next_217 : decode cX12_next 217 = .ok (.invokevirtual 101, 3) := by decide +kernel
theorem dX12_next_220 : decode cX12_next 220 = .ok (.ifCond .eq 87, 3) := by decide +kernel
theorem dX12_next_223 : decode cX12_next 223 = .ok (.aload_n 0, 1) := by decide +kernel
theorem dX12_next_224 : decode cX12_next 224 = .ok (.aload_n 0, 1) := by decide +kernel
theorem dX12_next_225 : decode cX12_next 225 = .ok (.getfield 108, 3) := by decide +kernel
theorem dX12_next_228 : decode cX12_next 228 = .ok (.ldc 124, 2) := by decide +kernel
theorem dX12_next_230 : decode cX12_next 230 = .ok (.if_icmp .le 8, 3) := by decide +kernel
theorem dX12_next_238 : decode cX12_next 238 = .ok (.bipush 10, 2) := by decide +kernel
theorem dX12_next_240 : decode cX12_next 240 = .ok (.aload_n 0, 1) := by decide +kernel
theorem dX12_next_241 : decode cX12_next 241 = .ok (.getfield 108, 3) := by decide +kernel
theorem dX12_next_244 : decode cX12_next 244 = .ok (.imul, 1) := by decide +kernel
theorem dX12_next_245 : decode cX12_next 245 = .ok (.aload_n 0, 1) := by decide +kernel
theorem dX12_next_246 : decode cX12_next 246 = .ok (.getfield 23, 3) := by decide +kernel
theorem dX12_next_249 : decode cX12_next 249 = .ok (.aload_n 0, 1) := by decide +kernel
theorem dX12_next_250 : decode cX12_next 250 = .ok (.getfield 98, 3) := by decide +kernel
theorem dX12_next_253 : decode cX12_next 253 = .ok (.baload, 1) := by decide +kernel
theorem dX12_next_254 : decode cX12_next 254 = .ok (.iadd, 1) := by decide +kernel
theorem dX12_next_255 : decode cX12_next 255 = .ok (.bipush 48, 2) := by decide +kernel
theorem dX12_next_257 : decode cX12_next 257 = .ok (.isub, 1) := by decide +kernel
theorem dX12_next_258 : decode cX12_next 258 = .ok (.putfield 108, 3) := by decide +kernel
theorem dX12_next_261 : decode cX12_next 261 = .ok (.aload_n 0, 1) := by decide +kernel
theorem dX12_next_262 : decode cX12_next 262 = .ok (.dup, 1) := by decide +kernel
theorem dX12_next_263 : decode cX12_next 263 = .ok (.getfield 98, 3) := by decide +kernel
theorem dX12_next_266 : decode cX12_next 266 = .ok (.iconst 1, 1) := by decide +kernel
theorem dX12_next_267 : decode cX12_next 267 = .ok (.iadd, 1) := by decide +kernel
theorem dX12_next_268 : decode cX12_next 268 = .ok (.putfield 98, 3) := by decide +kernel
theorem dX12_next_271 : decode cX12_next 271 = .ok (.goto (-63), 3) := by decide +kernel
theorem dX12_next_233 : decode cX12_next 233 = .ok (.ldc 125, 2) := by decide +kernel
theorem dX12_next_235 : decode cX12_next 235 = .ok (.goto 23, 3) := by decide +kernel
theorem dX12_next_95 : decode cX12_next 95 = .ok (.aload_n 0, 1) := by decide +kernel
theorem dX12_next_96 : decode cX12_next 96 = .ok (.iconst 1, 1) := by decide +kernel
theorem dX12_next_97 : decode cX12_next 97 = .ok (.putfield 115, 3) := by decide +kernel
theorem dX12_next_100 : decode cX12_next 100 = .ok (.iconst 0, 1) := by decide +kernel
theorem dX12_next_101 : decode cX12_next 101 = .ok (.istore_n 1, 1) := by decide +kernel
theorem dX12_next_102 : decode cX12_next 102 = .ok (.aload_n 0, 1) := by decide +kernel
theorem dX12_next_103 : decode cX12_next 103 = .ok (.aload_n 0, 1) := by decide +kernel
theorem dX12_next_104 : decode cX12_next 104 = .ok (.getfield 98, 3) := by decide +kernel
theorem dX12_next_107 : decode cX12_next 107 = .ok (.bipush 97, 2) := by decide +kernel
theorem dX12_next_109 : decode cX12_next 109 = .ok (.bipush 122, 2) := by decide +kernel
theorem dX12_next_111 : decode cX12_next 111 = .ok (.invokevirtual 101, 3) := by decide +kernel
theorem dX12_next_114 : decode cX12_next 114 = .ok (.ifCond .eq 71, 3) := by decide +kernel
theorem dX12_next_185 : decode cX12_next 185 = .ok (.goto 122, 3) := by decide +kernel
theorem dX12_next_117 : decode cX12_next 117 = .ok (.aload_n 0, 1) := by decide +kernel
theorem dX12_next_118 : decode cX12_next 118 = .ok (.iload_n 1, 1) := by decide +kernel
theorem dX12_next_119 : decode cX12_next 119 = .ok (.bipush 11, 2) := by decide +kernel
theorem dX12_next_121 : decode cX12_next 121 = .ok (.if_icmp .le 9, 3) := by decide +kernel
theorem dX12_next_130 : decode cX12_next 130 = .ok (.ldc2_w 120, 3) := by decide +kernel
theorem dX12_next_133 : decode cX12_next 133 = .ok (.aload_n 0, 1) := by decide +kernel
theorem dX12_next_134 : decode cX12_next 134 = .ok (.getfield 111, 3) := by decide +kernel
theorem dX12_next_137 : decode cX12_next 137 = .ok (.lmul, 1) := by decide +kernel
theorem dX12_next_138 : decode cX12_next 138 = .ok (.aload_n 0, 1) := by decide +kernel
theorem dX12_next_139 : decode cX12_next 139 = .ok (.getfield 23, 3) := by decide +kernel
theorem dX12_next_142 : decode cX12_next 142 = .ok (.aload_n 0, 1) := by decide +kernel
theorem dX12_next_143 : decode cX12_next 143 = .ok (.getfield 98, 3) := by decide +kernel
theorem dX12_next_146 : decode cX12_next 146 = .ok (.baload, 1) := by decide +kernel
theorem dX12_next_147 : decode cX12_next 147 = .ok (.i2l, 1) := by decide +kernel
theorem dX12_next_148 : decode cX12_next 148 = .ok (.ladd, 1) := by decide +kernel
theorem dX12_next_149 : decode cX12_next 149 = .ok (.ldc2_w 122, 3) := by decide +kernel
theorem dX12_next_152 : decode cX12_next 152 = .ok (.lsub, 1) := by decide +kernel
theorem dX12_next_153 : decode cX12_next 153 = .ok (.putfield 111, 3) := by decide +kernel
theorem dX12_next_156 : decode cX12_next 156 = .ok (.iload_n 1, 1) := by decide +kernel
theorem dX12_next_157 : decode cX12_next 157 = .ok (.bipush 11, 2) := by decide +kernel
theorem dX12_next_159 : decode cX12_next 159 = .ok (.if_icmp .le 10, 3) := by decide +kernel
theorem dX12_next_169 : decode cX12_next 169 = .ok (.aload_n 0, 1) := by decide +kernel
theorem dX12_next_170 : decode cX12_next 170 = .ok (.dup, 1) := by decide +kernel
theorem dX12_next_171 : decode cX12_next 171 = .ok (.getfield 98, 3) := by decide +kernel
theorem dX12_next_174 : decode cX12_next 174 = .ok (.iconst 1, 1) := by decide +kernel
theorem dX12_next_175 : decode cX12_next 175 = .ok (.iadd, 1) := by decide +kernel
theorem dX12_next_176 : decode cX12_next 176 = .ok (.putfield 98, 3) := by decide +kernel
theorem dX12_next_179 : decode cX12_next 179 = .ok (.iinc 1 1, 3) := by decide +kernel
theorem dX12_next_182 : decode cX12_next 182 = .ok (.goto (-80), 3) := by decide +kernel
theorem dX12_next_124 : decode cX12_next 124 = .ok (.ldc2_w 118, 3) := by decide +kernel
theorem dX12_next_127 : decode cX12_next 127 = .ok (.goto 26, 3) := by decide +kernel
theorem dX12_next_162 : decode cX12_next 162 = .ok (.aload_n 0, 1) := by decide +kernel
theorem dX12_next_163 : decode cX12_next 163 = .ok (.ldc2_w 118, 3) := by decide +kernel
theorem dX12_next_166 : decode cX12_next 166 = .ok (.putfield 111, 3) := by decide +kernel
theorem dX12_next_72 : decode cX12_next 72 = .ok (.aload_n 0, 1) := by decide +kernel
theorem dX12_next_73 : decode cX12_next 73 = .ok (.iconst 0, 1) := by decide +kernel
theorem dX12_next_74 : decode cX12_next 74 = .ok (.putfield 115, 3) := by decide +kernel
theorem dX12_next_77 : decode cX12_next 77 = .ok (.goto 230, 3) := by decide +kernel
theorem dX12_isGood_0 : decode cX12_isGood 0 = .ok (.aload_n 0, 1) := by decide +kernel
theorem dX12_isGood_1 : decode cX12_isGood 1 = .ok (.getfield 126, 3) := by decide +kernel
theorem dX12_isGood_4 : decode cX12_isGood 4 = .ok (.ifCond .ne 7, 3) := by decide +kernel
theorem dX12_isGood_11 : decode cX12_isGood 11 = .ok (.iconst 0, 1) := by decide +kernel
theorem dX12_isGood_12 : decode cX12_isGood 12 = .ok (.ireturn, 1) := by decide +kernel
theorem dX12_isGood_7 : decode cX12_isGood 7 = .ok (.iconst 1, 1) := by decide +kernel
theorem dX12_isGood_8 : decode cX12_isGood 8 = .ok (.goto 4, 3) := by decide +kernel
theorem dX12_fails_0 : decode cX12_fails 0 = .ok (.aload_n 0, 1) := by decide +kernel
theorem dX12_fails_1 : decode cX12_fails 1 = .ok (.getfield 126, 3) := by decide +kernel
theorem dX12_fails_4 : decode cX12_fails 4 = .ok (.ifCond .eq 4, 3) := by decide +kernel
theorem dX12_fails_8 : decode cX12_fails 8 = .ok (.aload_n 0, 1) := by decide +kernel
theorem dX12_fails_9 : decode cX12_fails 9 = .ok (.iload_n 1, 1) := by decide +kernel
theorem dX12_fails_10 : decode cX12_fails 10 = .ok (.putfield 126, 3) := by decide +kernel
theorem dX12_fails_13 : decode cX12_fails 13 = .ok (.aload_n 0, 1) := by decide +kernel
theorem dX12_fails_14 : decode cX12_fails 14 = .ok (.aload_n 0, 1) := by decide +kernel
theorem dX12_fails_15 : decode cX12_fails 15 = .ok (.getfield 105, 3) := by decide +kernel
theorem dX12_fails_18 : decode cX12_fails 18 = .ok (.putfield 129, 3) := by decide +kernel
theorem dX12_fails_21 : decode cX12_fails 21 = .ok (.return_, 1) := by decide +kernel
theorem dX12_fails_7 : decode cX12_fails 7 = .ok (.return_, 1) := by decide +kernel
theorem dX12_is_0 : decode cX12_is 0 = .ok (.aload_n 0, 1) := by decide +kernel
theorem dX12_is_1 : decode cX12_is 1 = .ok (.getfield 126, 3) := by decide +kernel
theorem dX12_is_4 : decode cX12_is 4 = .ok (.ifCond .ne 24, 3) := by decide +kernel
theorem dX12_is_28 : decode cX12_is 28 = .ok (.iconst 0, 1) := by decide +kernel
theorem dX12_is_29 : decode cX12_is 29 = .ok (.ireturn, 1) := by decide +kernel
theorem dX12_is_7 : decode cX12_is 7 = .ok (.aload_n 0, 1) := by decide +kernel
theorem dX12_is_8 : decode cX12_is 8 = .ok (.getfield 115, 3) := by decide +kernel
theorem dX12_is_11 : decode cX12_is 11 = .ok (.iconst 1, 1) := by decide +kernel
theorem dX12_is_12 : decode cX12_is 12 = .ok (.if_icmp .ne 16, 3) := by decide +kernel
theorem dX12_is_15 : decode cX12_is 15 = .ok (.aload_n 0, 1) := by decide +kernel
theorem dX12_is_16 : decode cX12_is 16 = .ok (.getfield 111, 3) := by decide +kernel
theorem dX12_is_19 : decode cX12_is 19 = .ok (.lload_n 1, 1) := by decide +kernel
theorem dX12_is_20 : decode cX12_is 20 = .ok (.lcmp, 1) := by decide +kernel
theorem dX12_is_21 : decode cX12_is 21 = .ok (.ifCond .ne 7, 3) := by decide +kernel
theorem dX12_is_24 : decode cX12_is 24 = .ok (.iconst 1, 1) := by decide +kernel
theorem dX12_is_25 : decode cX12_is 25 = .ok (.goto 4, 3) := by decide +kernel
theorem dX12_takes_0 : decode cX12_takes 0 = .ok (.aload_n 0, 1) := by decide +kernel
theorem dX12_takes_1 : decode cX12_takes 1 = .ok (.lload_n 1, 1) := by decide +kernel
theorem dX12_takes_2 : decode cX12_takes 2 = .ok (.invokevirtual 132, 3) := by decide +kernel
theorem dX12_takes_5 : decode cX12_takes 5 = .ok (.ifCond .ne 5, 3) := by decide +kernel
theorem dX12_takes_10 : decode cX12_takes 10 = .ok (.aload_n 0, 1) := by decide +kernel
theorem dX12_takes_11 : decode cX12_takes 11 = .ok (.invokevirtual 136, 3) := by decide +kernel
theorem dX12_takes_14 : decode cX12_takes 14 = .ok (.iconst 1, 1) := by decide +kernel
theorem dX12_takes_15 : decode cX12_takes 15 = .ok (.ireturn, 1) := by decide +kernel
theorem dX12_takes_8 : decode cX12_takes 8 = .ok (.iconst 0, 1) := by decide +kernel
theorem dX12_takes_9 : decode cX12_takes 9 = .ok (.ireturn, 1) := by decide +kernel
theorem dX12_asks_0 : decode cX12_asks 0 = .ok (.aload_n 0, 1) := by decide +kernel
theorem dX12_asks_1 : decode cX12_asks 1 = .ok (.lload_n 1, 1) := by decide +kernel
theorem dX12_asks_2 : decode cX12_asks 2 = .ok (.invokevirtual 139, 3) := by decide +kernel
theorem dX12_asks_5 : decode cX12_asks 5 = .ok (.ifCond .ne 8, 3) := by decide +kernel
theorem dX12_asks_13 : decode cX12_asks 13 = .ok (.return_, 1) := by decide +kernel
theorem dX12_asks_8 : decode cX12_asks 8 = .ok (.aload_n 0, 1) := by decide +kernel
theorem dX12_asks_9 : decode cX12_asks 9 = .ok (.iconst 1, 1) := by decide +kernel
theorem dX12_asks_10 : decode cX12_asks 10 = .ok (.invokevirtual 142, 3) := by decide +kernel
theorem dX12_number_0 : decode cX12_number 0 = .ok (.aload_n 0, 1) := by decide +kernel
theorem dX12_number_1 : decode cX12_number 1 = .ok (.getfield 126, 3) := by decide +kernel
theorem dX12_number_4 : decode cX12_number 4 = .ok (.ifCond .eq 5, 3) := by decide +kernel
theorem dX12_number_9 : decode cX12_number 9 = .ok (.aload_n 0, 1) := by decide +kernel
theorem dX12_number_10 : decode cX12_number 10 = .ok (.getfield 115, 3) := by decide +kernel
theorem dX12_number_13 : decode cX12_number 13 = .ok (.iconst 2, 1) := by decide +kernel
theorem dX12_number_14 : decode cX12_number 14 = .ok (.if_icmp .eq 10, 3) := by decide +kernel
theorem dX12_number_24 : decode cX12_number 24 = .ok (.aload_n 0, 1) := by decide +kernel
theorem dX12_number_25 : decode cX12_number 25 = .ok (.getfield 108, 3) := by decide +kernel
theorem dX12_number_28 : decode cX12_number 28 = .ok (.i2l, 1) := by decide +kernel
theorem dX12_number_29 : decode cX12_number 29 = .ok (.iload_n 1, 1) := by decide +kernel
theorem dX12_number_30 : decode cX12_number 30 = .ok (.i2l, 1) := by decide +kernel
theorem dX12_number_31 : decode cX12_number 31 = .ok (.iload_n 2, 1) := by decide +kernel
theorem dX12_number_32 : decode cX12_number 32 = .ok (.i2l, 1) := by decide +kernel
theorem dX12_number_33 : decode cX12_number 33 = .ok (.invokestatic 79, 3) := by decide +kernel
theorem dX12_number_36 : decode cX12_number 36 = .ok (.ifCond .ne 10, 3) := by decide +kernel
theorem dX12_number_46 : decode cX12_number 46 = .ok (.aload_n 0, 1) := by decide +kernel
theorem dX12_number_47 : decode cX12_number 47 = .ok (.getfield 108, 3) := by decide +kernel
theorem dX12_number_50 : decode cX12_number 50 = .ok (.istore_n 3, 1) := by decide +kernel
theorem dX12_number_51 : decode cX12_number 51 = .ok (.aload_n 0, 1) := by decide +kernel
theorem dX12_number_52 : decode cX12_number 52 = .ok (.invokevirtual 136, 3) := by decide +kernel
theorem dX12_number_55 : decode cX12_number 55 = .ok (.iload_n 3, 1) := by decide +kernel
theorem dX12_number_56 : decode cX12_number 56 = .ok (.ireturn, 1) := by decide +kernel
theorem dX12_number_39 : decode cX12_number 39 = .ok (.aload_n 0, 1) := by decide +kernel
theorem dX12_number_40 : decode cX12_number 40 = .ok (.iconst 2, 1) := by decide +kernel
theorem dX12_number_41 : decode cX12_number 41 = .ok (.invokevirtual 142, 3) := by decide +kernel
theorem dX12_number_44 : decode cX12_number 44 = .ok (.iload_n 1, 1) := by decide +kernel
theorem dX12_number_45 : decode cX12_number 45 = .ok (.ireturn, 1) := by decide +kernel
theorem dX12_number_17 : decode cX12_number 17 = .ok (.aload_n 0, 1) := by decide +kernel
theorem dX12_number_18 : decode cX12_number 18 = .ok (.iconst 1, 1) := by decide +kernel
theorem dX12_number_19 : decode cX12_number 19 = .ok (.invokevirtual 142, 3) := by decide +kernel
theorem dX12_number_22 : decode cX12_number 22 = .ok (.iload_n 1, 1) := by decide +kernel
theorem dX12_number_23 : decode cX12_number 23 = .ok (.ireturn, 1) := by decide +kernel
theorem dX12_number_7 : decode cX12_number 7 = .ok (.iload_n 1, 1) := by decide +kernel
theorem dX12_number_8 : decode cX12_number 8 = .ok (.ireturn, 1) := by decide +kernel
theorem dX12_number__0 : decode cX12_number_ 0 = .ok (.aload_n 0, 1) := by decide +kernel
theorem dX12_number__1 : decode cX12_number_ 1 = .ok (.lload_n 1, 1) := by decide +kernel
theorem dX12_number__2 : decode cX12_number_ 2 = .ok (.invokevirtual 145, 3) := by decide +kernel
theorem dX12_number__5 : decode cX12_number_ 5 = .ok (.aload_n 0, 1) := by decide +kernel
theorem dX12_number__6 : decode cX12_number_ 6 = .ok (.iload_n 3, 1) := by decide +kernel
theorem dX12_number__7 : decode cX12_number_ 7 = .ok (.iload 4, 2) := by decide +kernel
theorem dX12_number__9 : decode cX12_number_ 9 = .ok (.invokevirtual 149, 3) := by decide +kernel
theorem dX12_number__12 : decode cX12_number_ 12 = .ok (.ireturn, 1) := by decide +kernel
theorem dX12_ends_0 : decode cX12_ends 0 = .ok (.aload_n 0, 1) := by decide +kernel
theorem dX12_ends_1 : decode cX12_ends 1 = .ok (.getfield 115, 3) := by decide +kernel
theorem dX12_ends_4 : decode cX12_ends 4 = .ok (.iconst 3, 1) := by decide +kernel
theorem dX12_ends_5 : decode cX12_ends 5 = .ok (.if_icmp .eq 8, 3) := by decide +kernel
theorem dX12_ends_13 : decode cX12_ends 13 = .ok (.aload_n 0, 1) := by decide +kernel
theorem dX12_ends_14 : decode cX12_ends 14 = .ok (.getfield 126, 3) := by decide +kernel
theorem dX12_ends_17 : decode cX12_ends 17 = .ok (.ifCond .ne 7, 3) := by decide +kernel
theorem dX12_ends_24 : decode cX12_ends 24 = .ok (.return_, 1) := by decide +kernel
theorem dX12_ends_20 : decode cX12_ends 20 = .ok (.aload_n 0, 1) := by decide +kernel
theorem dX12_ends_21 : decode cX12_ends 21 = .ok (.invokevirtual 136, 3) := by decide +kernel
theorem dX12_ends_8 : decode cX12_ends 8 = .ok (.aload_n 0, 1) := by decide +kernel
theorem dX12_ends_9 : decode cX12_ends 9 = .ok (.iconst 1, 1) := by decide +kernel
theorem dX12_ends_10 : decode cX12_ends 10 = .ok (.invokevirtual 142, 3) := by decide +kernel
theorem dX12_begins_0 : decode cX12_begins 0 = .ok (.aload_n 0, 1) := by decide +kernel
theorem dX12_begins_1 : decode cX12_begins 1 = .ok (.iconst 0, 1) := by decide +kernel
theorem dX12_begins_2 : decode cX12_begins 2 = .ok (.putfield 126, 3) := by decide +kernel
theorem dX12_begins_5 : decode cX12_begins 5 = .ok (.aload_n 0, 1) := by decide +kernel
theorem dX12_begins_6 : decode cX12_begins 6 = .ok (.iconst (-1), 1) := by decide +kernel
theorem dX12_begins_7 : decode cX12_begins 7 = .ok (.putfield 129, 3) := by decide +kernel
theorem dX12_begins_10 : decode cX12_begins 10 = .ok (.aload_n 0, 1) := by decide +kernel
theorem dX12_begins_11 : decode cX12_begins 11 = .ok (.iconst 0, 1) := by decide +kernel
theorem dX12_begins_12 : decode cX12_begins 12 = .ok (.putfield 98, 3) := by decide +kernel
theorem dX12_begins_15 : decode cX12_begins 15 = .ok (.aload_n 0, 1) := by decide +kernel
theorem dX12_begins_16 : decode cX12_begins 16 = .ok (.invokevirtual 136, 3) := by decide +kernel
theorem dX12_begins_19 : decode cX12_begins 19 = .ok (.return_, 1) := by decide +kernel
theorem dX12_isOver_0 : decode cX12_isOver 0 = .ok (.aload_n 0, 1) := by decide +kernel
theorem dX12_isOver_1 : decode cX12_isOver 1 = .ok (.iconst 0, 1) := by decide +kernel
theorem dX12_isOver_2 : decode cX12_isOver 2 = .ok (.putfield 91, 3) := by decide +kernel
theorem dX12_isOver_5 : decode cX12_isOver 5 = .ok (.aload_n 0, 1) := by decide +kernel
theorem dX12_isOver_6 : decode cX12_isOver 6 = .ok (.aload_n 0, 1) := by decide +kernel
theorem dX12_isOver_7 : decode cX12_isOver 7 = .ok (.getfield 126, 3) := by decide +kernel
theorem dX12_isOver_10 : decode cX12_isOver 10 = .ok (.putfield 153, 3) := by decide +kernel
theorem dX12_isOver_13 : decode cX12_isOver 13 = .ok (.aload_n 0, 1) := by decide +kernel
theorem dX12_isOver_14 : decode cX12_isOver 14 = .ok (.aload_n 0, 1) := by decide +kernel
theorem dX12_isOver_15 : decode cX12_isOver 15 = .ok (.getfield 126, 3) := by decide +kernel
theorem dX12_isOver_18 : decode cX12_isOver 18 = .ok (.ifCond .ne 7, 3) := by decide +kernel
theorem dX12_isOver_25 : decode cX12_isOver 25 = .ok (.aload_n 0, 1) := by decide +kernel
theorem dX12_isOver_26 : decode cX12_isOver 26 = .ok (.getfield 129, 3) := by decide +kernel
theorem dX12_isOver_29 : decode cX12_isOver 29 = .ok (.putfield 27, 3) := by decide +kernel
theorem dX12_isOver_32 : decode cX12_isOver 32 = .ok (.return_, 1) := by decide +kernel
theorem dX12_isOver_21 : decode cX12_isOver 21 = .ok (.iconst (-1), 1) := by decide +kernel
theorem dX12_isOver_22 : decode cX12_isOver 22 = .ok (.goto 7, 3) := by decide +kernel
theorem dX12_hasRead_0 : decode cX12_hasRead 0 = .ok (.aload_n 0, 1) := by decide +kernel
theorem dX12_hasRead_1 : decode cX12_hasRead 1 = .ok (.getfield 34, 3) := by decide +kernel
theorem dX12_hasRead_4 : decode cX12_hasRead 4 = .ok (.bipush 40, 2) := by decide +kernel
theorem dX12_hasRead_6 : decode cX12_hasRead 6 = .ok (.iload_n 1, 1) := by decide +kernel
theorem dX12_hasRead_7 : decode cX12_hasRead 7 = .ok (.iadd, 1) := by decide +kernel
theorem dX12_hasRead_8 : decode cX12_hasRead 8 = .ok (.iaload, 1) := by decide +kernel
theorem dX12_hasRead_9 : decode cX12_hasRead 9 = .ok (.ireturn, 1) := by decide +kernel
theorem dX12_tells_0 : decode cX12_tells 0 = .ok (.aload_n 0, 1) := by decide +kernel
theorem dX12_tells_1 : decode cX12_tells 1 = .ok (.getfield 34, 3) := by decide +kernel
theorem dX12_tells_4 : decode cX12_tells 4 = .ok (.bipush 40, 2) := by decide +kernel
theorem dX12_tells_6 : decode cX12_tells 6 = .ok (.iload_n 1, 1) := by decide +kernel
theorem dX12_tells_7 : decode cX12_tells 7 = .ok (.iadd, 1) := by decide +kernel
theorem dX12_tells_8 : decode cX12_tells 8 = .ok (.iload_n 2, 1) := by decide +kernel
theorem dX12_tells_9 : decode cX12_tells 9 = .ok (.iastore, 1) := by decide +kernel
theorem dX12_tells_10 : decode cX12_tells 10 = .ok (.return_, 1) := by decide +kernel
theorem dX12_cellHere_0 : decode cX12_cellHere 0 = .ok (.aload_n 0, 1) := by decide +kernel
theorem dX12_cellHere_1 : decode cX12_cellHere 1 = .ok (.iconst 0, 1) := by decide +kernel
theorem dX12_cellHere_2 : decode cX12_cellHere 2 = .ok (.aload_n 0, 1) := by decide +kernel
theorem dX12_cellHere_3 : decode cX12_cellHere 3 = .ok (.iconst 0, 1) := by decide +kernel
theorem dX12_cellHere_4 : decode cX12_cellHere 4 = .ok (.invokevirtual 156, 3) := by decide +kernel
theorem dX12_cellHere_7 : decode cX12_cellHere 7 = .ok (.iconst 1, 1) := by decide +kernel
theorem dX12_cellHere_8 : decode cX12_cellHere 8 = .ok (.isub, 1) := by decide +kernel
theorem dX12_cellHere_9 : decode cX12_cellHere 9 = .ok (.invokevirtual 149, 3) := by decide +kernel
theorem dX12_cellHere_12 : decode cX12_cellHere 12 = .ok (.ireturn, 1) := by decide +kernel
theorem dX12_stepsHere_0 : decode cX12_stepsHere 0 = .ok (.aload_n 0, 1) := by decide +kernel
theorem dX12_stepsHere_1 : decode cX12_stepsHere 1 = .ok (.getfield 126, 3) := by decide +kernel
theorem dX12_stepsHere_4 : decode cX12_stepsHere 4 = .ok (.ifCond .ne 17, 3) := by decide +kernel
theorem dX12_stepsHere_21 : decode cX12_stepsHere 21 = .ok (.iconst 0, 1) := by decide +kernel
theorem dX12_stepsHere_22 : decode cX12_stepsHere 22 = .ok (.istore_n 1, 1) := by decide +kernel
theorem dX12_stepsHere_23 : decode cX12_stepsHere 23 = .ok (.aload_n 0, 1) := by decide +kernel
theorem dX12_stepsHere_24 : decode cX12_stepsHere 24 = .ok (.iconst 0, 1) := by decide +kernel
theorem dX12_stepsHere_25 : decode cX12_stepsHere 25 = .ok (.iconst 3, 1) := by decide +kernel
theorem dX12_stepsHere_26 : decode cX12_stepsHere 26 = .ok (.invokevirtual 149, 3) := by decide +kernel
theorem dX12_stepsHere_29 : decode cX12_stepsHere 29 = .ok (.istore_n 2, 1) := by decide +kernel
theorem dX12_stepsHere_30 : decode cX12_stepsHere 30 = .ok (.iload_n 1, 1) := by decide +kernel
theorem dX12_stepsHere_31 : decode cX12_stepsHere 31 = .ok (.ifCond .eq 8, 3) := by decide +kernel
theorem dX12_stepsHere_39 : decode cX12_stepsHere 39 = .ok (.iload_n 2, 1) := by decide +kernel
theorem dX12_stepsHere_40 : decode cX12_stepsHere 40 = .ok (.ireturn, 1) := by decide +kernel
theorem dX12_stepsHere_7 : decode cX12_stepsHere 7 = .ok (.aload_n 0, 1) := by decide +kernel
theorem dX12_stepsHere_8 : decode cX12_stepsHere 8 = .ok (.ldc2_w 160, 3) := by decide +kernel
theorem dX12_stepsHere_11 : decode cX12_stepsHere 11 = .ok (.invokevirtual 139, 3) := by decide +kernel
theorem dX12_stepsHere_14 : decode cX12_stepsHere 14 = .ok (.ifCond .eq 7, 3) := by decide +kernel
theorem dX12_stepsHere_17 : decode cX12_stepsHere 17 = .ok (.iconst 1, 1) := by decide +kernel
theorem dX12_stepsHere_18 : decode cX12_stepsHere 18 = .ok (.goto 4, 3) := by decide +kernel
theorem dX12_stepsHere_34 : decode cX12_stepsHere 34 = .ok (.iload_n 2, 1) := by decide +kernel
theorem dX12_stepsHere_35 : decode cX12_stepsHere 35 = .ok (.ineg, 1) := by decide +kernel
theorem dX12_stepsHere_36 : decode cX12_stepsHere 36 = .ok (.goto 4, 3) := by decide +kernel
theorem dX12_currentLine_0 : decode cX12_currentLine 0 = .ok (.aload_n 0, 1) := by decide +kernel
theorem dX12_currentLine_1 : decode cX12_currentLine 1 = .ok (.invokevirtual 162, 3) := by decide +kernel
theorem dX12_currentLine_4 : decode cX12_currentLine 4 = .ok (.istore_n 1, 1) := by decide +kernel
theorem dX12_currentLine_5 : decode cX12_currentLine 5 = .ok (.aload_n 0, 1) := by decide +kernel
theorem dX12_currentLine_6 : decode cX12_currentLine 6 = .ok (.ldc2_w 166, 3) := by decide +kernel
theorem dX12_currentLine_9 : decode cX12_currentLine 9 = .ok (.invokevirtual 145, 3) := by decide +kernel
theorem dX12_currentLine_12 : decode cX12_currentLine 12 = .ok (.aload_n 0, 1) := by decide +kernel
theorem dX12_currentLine_13 : decode cX12_currentLine 13 = .ok (.invokevirtual 168, 3) := by decide +kernel
theorem dX12_currentLine_16 : decode cX12_currentLine 16 = .ok (.istore_n 2, 1) := by decide +kernel
theorem dX12_currentLine_17 : decode cX12_currentLine 17 = .ok (.aload_n 0, 1) := by decide +kernel
theorem dX12_currentLine_18 : decode cX12_currentLine 18 = .ok (.ldc2_w 171, 3) := by decide +kernel
theorem dX12_currentLine_21 : decode cX12_currentLine 21 = .ok (.invokevirtual 145, 3) := by decide +kernel
theorem dX12_currentLine_24 : decode cX12_currentLine 24 = .ok (.aload_n 0, 1) := by decide +kernel
theorem dX12_currentLine_25 : decode cX12_currentLine 25 = .ok (.invokevirtual 168, 3) := by decide +kernel
theorem dX12_currentLine_28 : decode cX12_currentLine 28 = .ok (.istore_n 3, 1) := by decide +kernel
theorem dX12_currentLine_29 : decode cX12_currentLine 29 = .ok (.aload_n 0, 1) := by decide +kernel
theorem dX12_currentLine_30 : decode cX12_currentLine 30 = .ok (.invokevirtual 173, 3) := by decide +kernel
theorem dX12_currentLine_33 : decode cX12_currentLine 33 = .ok (.ifCond .ne 4, 3) := by decide +kernel
theorem dX12_currentLine_37 : decode cX12_currentLine 37 = .ok (.aload_n 0, 1) := by decide +kernel
theorem dX12_currentLine_38 : decode cX12_currentLine 38 = .ok (.getfield 37, 3) := by decide +kernel
theorem dX12_currentLine_41 : decode cX12_currentLine 41 = .ok (.iconst 2, 1) := by decide +kernel
theorem dX12_currentLine_42 : decode cX12_currentLine 42 = .ok (.bipush 48, 2) := by decide +kernel
theorem dX12_currentLine_44 : decode cX12_currentLine 44 = .ok (.iload_n 1, 1) := by decide +kernel
theorem dX12_currentLine_45 : decode cX12_currentLine 45 = .ok (.iadd, 1) := by decide +kernel
theorem dX12_currentLine_46 : decode cX12_currentLine 46 = .ok (.imul, 1) := by decide +kernel
theorem dX12_currentLine_47 : decode cX12_currentLine 47 = .ok (.iload_n 2, 1) := by decide +kernel
theorem dX12_currentLine_48 : decode cX12_currentLine 48 = .ok (.iastore, 1) := by decide +kernel
theorem dX12_currentLine_49 : decode cX12_currentLine 49 = .ok (.aload_n 0, 1) := by decide +kernel
theorem dX12_currentLine_50 : decode cX12_currentLine 50 = .ok (.getfield 37, 3) := by decide +kernel
theorem dX12_currentLine_53 : decode cX12_currentLine 53 = .ok (.iconst 2, 1) := by decide +kernel
theorem dX12_currentLine_54 : decode cX12_currentLine 54 = .ok (.bipush 48, 2) := by decide +kernel
theorem dX12_currentLine_56 : decode cX12_currentLine 56 = .ok (.iload_n 1, 1) := by decide +kernel
theorem dX12_currentLine_57 : decode cX12_currentLine 57 = .ok (.iadd, 1) := by decide +kernel
theorem dX12_currentLine_58 : decode cX12_currentLine 58 = .ok (.imul, 1) := by decide +kernel
theorem dX12_currentLine_59 : decode cX12_currentLine 59 = .ok (.iconst 1, 1) := by decide +kernel
theorem dX12_currentLine_60 : decode cX12_currentLine 60 = .ok (.iadd, 1) := by decide +kernel
theorem dX12_currentLine_61 : decode cX12_currentLine 61 = .ok (.iload_n 3, 1) := by decide +kernel
theorem dX12_currentLine_62 : decode cX12_currentLine 62 = .ok (.iastore, 1) := by decide +kernel
theorem dX12_currentLine_63 : decode cX12_currentLine 63 = .ok (.return_, 1) := by decide +kernel
theorem dX12_currentLine_36 : decode cX12_currentLine 36 = .ok (.return_, 1) := by decide +kernel
theorem dX12_thingLine_0 : decode cX12_thingLine 0 = .ok (.iconst 3, 1) := by decide +kernel
theorem dX12_thingLine_1 : decode cX12_thingLine 1 = .ok (.bipush 32, 2) := by decide +kernel
theorem dX12_thingLine_3 : decode cX12_thingLine 3 = .ok (.aload_n 0, 1) := by decide +kernel
theorem dX12_thingLine_4 : decode cX12_thingLine 4 = .ok (.bipush 6, 2) := by decide +kernel
theorem dX12_thingLine_6 : decode cX12_thingLine 6 = .ok (.invokevirtual 156, 3) := by decide +kernel
theorem dX12_thingLine_9 : decode cX12_thingLine 9 = .ok (.iadd, 1) := by decide +kernel
theorem dX12_thingLine_10 : decode cX12_thingLine 10 = .ok (.imul, 1) := by decide +kernel
theorem dX12_thingLine_11 : decode cX12_thingLine 11 = .ok (.istore_n 1, 1) := by decide +kernel
theorem dX12_thingLine_12 : decode cX12_thingLine 12 = .ok (.aload_n 0, 1) := by decide +kernel
theorem dX12_thingLine_13 : decode cX12_thingLine 13 = .ok (.getfield 40, 3) := by decide +kernel
theorem dX12_thingLine_16 : decode cX12_thingLine 16 = .ok (.iload_n 1, 1) := by decide +kernel
theorem dX12_thingLine_17 : decode cX12_thingLine 17 = .ok (.aload_n 0, 1) := by decide +kernel
theorem dX12_thingLine_18 : decode cX12_thingLine 18 = .ok (.ldc2_w 177, 3) := by decide +kernel
theorem dX12_thingLine_21 : decode cX12_thingLine 21 = .ok (.iconst 0, 1) := by decide +kernel
theorem dX12_thingLine_22 : decode cX12_thingLine 22 = .ok (.sipush 999, 3) := by decide +kernel
theorem dX12_thingLine_25 : decode cX12_thingLine 25 = .ok (.invokevirtual 179, 3) := by decide +kernel
theorem dX12_thingLine_28 : decode cX12_thingLine 28 = .ok (.iastore, 1) := by decide +kernel
theorem dX12_thingLine_29 : decode cX12_thingLine 29 = .ok (.aload_n 0, 1) := by decide +kernel
theorem dX12_thingLine_30 : decode cX12_thingLine 30 = .ok (.ldc2_w 182, 3) := by decide +kernel
theorem dX12_thingLine_33 : decode cX12_thingLine 33 = .ok (.invokevirtual 145, 3) := by decide +kernel
theorem dX12_thingLine_36 : decode cX12_thingLine 36 = .ok (.aload_n 0, 1) := by decide +kernel
theorem dX12_thingLine_37 : decode cX12_thingLine 37 = .ok (.getfield 40, 3) := by decide +kernel
theorem dX12_thingLine_40 : decode cX12_thingLine 40 = .ok (.iload_n 1, 1) := by decide +kernel
theorem dX12_thingLine_41 : decode cX12_thingLine 41 = .ok (.iconst 1, 1) := by decide +kernel
theorem dX12_thingLine_42 : decode cX12_thingLine 42 = .ok (.iadd, 1) := by decide +kernel
theorem dX12_thingLine_43 : decode cX12_thingLine 43 = .ok (.aload_n 0, 1) := by decide +kernel
theorem dX12_thingLine_44 : decode cX12_thingLine 44 = .ok (.invokevirtual 162, 3) := by decide +kernel
theorem dX12_thingLine_47 : decode cX12_thingLine 47 = .ok (.iastore, 1) := by decide +kernel
theorem dX12_thingLine_48 : decode cX12_thingLine 48 = .ok (.aload_n 0, 1) := by decide +kernel
theorem dX12_thingLine_49 : decode cX12_thingLine 49 = .ok (.getfield 40, 3) := by decide +kernel
theorem dX12_thingLine_52 : decode cX12_thingLine 52 = .ok (.iload_n 1, 1) := by decide +kernel
theorem dX12_thingLine_53 : decode cX12_thingLine 53 = .ok (.iconst 2, 1) := by decide +kernel
theorem dX12_thingLine_54 : decode cX12_thingLine 54 = .ok (.iadd, 1) := by decide +kernel
theorem dX12_thingLine_55 : decode cX12_thingLine 55 = .ok (.aload_n 0, 1) := by decide +kernel
theorem dX12_thingLine_56 : decode cX12_thingLine 56 = .ok (.ldc2_w 184, 3) := by decide +kernel
theorem dX12_thingLine_59 : decode cX12_thingLine 59 = .ok (.iconst 0, 1) := by decide +kernel
theorem dX12_thingLine_60 : decode cX12_thingLine 60 = .ok (.bipush 99, 2) := by decide +kernel
theorem dX12_thingLine_62 : decode cX12_thingLine 62 = .ok (.invokevirtual 179, 3) := by decide +kernel
theorem dX12_thingLine_65 : decode cX12_thingLine 65 = .ok (.iastore, 1) := by decide +kernel
theorem dX12_thingLine_66 : decode cX12_thingLine 66 = .ok (.aload_n 0, 1) := by decide +kernel
theorem dX12_thingLine_67 : decode cX12_thingLine 67 = .ok (.bipush 6, 2) := by decide +kernel
theorem dX12_thingLine_69 : decode cX12_thingLine 69 = .ok (.aload_n 0, 1) := by decide +kernel
theorem dX12_thingLine_70 : decode cX12_thingLine 70 = .ok (.bipush 6, 2) := by decide +kernel
theorem dX12_thingLine_72 : decode cX12_thingLine 72 = .ok (.invokevirtual 156, 3) := by decide +kernel
theorem dX12_thingLine_75 : decode cX12_thingLine 75 = .ok (.iconst 1, 1) := by decide +kernel
theorem dX12_thingLine_76 : decode cX12_thingLine 76 = .ok (.iadd, 1) := by decide +kernel
theorem dX12_thingLine_77 : decode cX12_thingLine 77 = .ok (.invokevirtual 186, 3) := by decide +kernel
theorem dX12_thingLine_80 : decode cX12_thingLine 80 = .ok (.return_, 1) := by decide +kernel
theorem dX12_phaseHere_0 : decode cX12_phaseHere 0 = .ok (.aload_n 0, 1) := by decide +kernel
theorem dX12_phaseHere_1 : decode cX12_phaseHere 1 = .ok (.getfield 126, 3) := by decide +kernel
theorem dX12_phaseHere_4 : decode cX12_phaseHere 4 = .ok (.ifCond .ne 15, 3) := by decide +kernel
theorem dX12_phaseHere_19 : decode cX12_phaseHere 19 = .ok (.aload_n 0, 1) := by decide +kernel
theorem dX12_phaseHere_20 : decode cX12_phaseHere 20 = .ok (.getfield 126, 3) := by decide +kernel
theorem dX12_phaseHere_23 : decode cX12_phaseHere 23 = .ok (.ifCond .ne 15, 3) := by decide +kernel
theorem dX12_phaseHere_38 : decode cX12_phaseHere 38 = .ok (.aload_n 0, 1) := by decide +kernel
theorem dX12_phaseHere_39 : decode cX12_phaseHere 39 = .ok (.getfield 126, 3) := by decide +kernel
theorem dX12_phaseHere_42 : decode cX12_phaseHere 42 = .ok (.ifCond .ne 15, 3) := by decide +kernel
theorem dX12_phaseHere_57 : decode cX12_phaseHere 57 = .ok (.iconst 0, 1) := by decide +kernel
theorem dX12_phaseHere_58 : decode cX12_phaseHere 58 = .ok (.ireturn, 1) := by decide +kernel
theorem dX12_phaseHere_7 : decode cX12_phaseHere 7 = .ok (.aload_n 0, 1) := by decide +kernel
theorem dX12_phaseHere_8 : decode cX12_phaseHere 8 = .ok (.ldc2_w 166, 3) := by decide +kernel
theorem dX12_phaseHere_11 : decode cX12_phaseHere 11 = .ok (.invokevirtual 139, 3) := by decide +kernel
theorem dX12_phaseHere_14 : decode cX12_phaseHere 14 = .ok (.ifCond .eq 5, 3) := by decide +kernel
theorem dX12_phaseHere_26 : decode cX12_phaseHere 26 = .ok (.aload_n 0, 1) := by decide +kernel
theorem dX12_phaseHere_27 : decode cX12_phaseHere 27 = .ok (.ldc2_w 190, 3) := by decide +kernel
theorem dX12_phaseHere_30 : decode cX12_phaseHere 30 = .ok (.invokevirtual 139, 3) := by decide +kernel
theorem dX12_phaseHere_33 : decode cX12_phaseHere 33 = .ok (.ifCond .eq 5, 3) := by decide +kernel
theorem dX12_phaseHere_45 : decode cX12_phaseHere 45 = .ok (.aload_n 0, 1) := by decide +kernel
theorem dX12_phaseHere_46 : decode cX12_phaseHere 46 = .ok (.ldc2_w 171, 3) := by decide +kernel
theorem dX12_phaseHere_49 : decode cX12_phaseHere 49 = .ok (.invokevirtual 139, 3) := by decide +kernel
theorem dX12_phaseHere_52 : decode cX12_phaseHere 52 = .ok (.ifCond .eq 5, 3) := by decide +kernel
theorem dX12_phaseHere_55 : decode cX12_phaseHere 55 = .ok (.iconst 4, 1) := by decide +kernel
theorem dX12_phaseHere_56 : decode cX12_phaseHere 56 = .ok (.ireturn, 1) := by decide +kernel
theorem dX12_phaseHere_36 : decode cX12_phaseHere 36 = .ok (.iconst 2, 1) := by decide +kernel
theorem dX12_phaseHere_37 : decode cX12_phaseHere 37 = .ok (.ireturn, 1) := by decide +kernel
theorem dX12_phaseHere_17 : decode cX12_phaseHere 17 = .ok (.iconst 1, 1) := by decide +kernel
theorem dX12_phaseHere_18 : decode cX12_phaseHere 18 = .ok (.ireturn, 1) := by decide +kernel
theorem dX12_ruleLine_0 : decode cX12_ruleLine 0 = .ok (.iconst 4, 1) := by decide +kernel
theorem dX12_ruleLine_1 : decode cX12_ruleLine 1 = .ok (.bipush 24, 2) := by decide +kernel
theorem dX12_ruleLine_3 : decode cX12_ruleLine 3 = .ok (.aload_n 0, 1) := by decide +kernel
theorem dX12_ruleLine_4 : decode cX12_ruleLine 4 = .ok (.bipush 7, 2) := by decide +kernel
theorem dX12_ruleLine_6 : decode cX12_ruleLine 6 = .ok (.invokevirtual 156, 3) := by decide +kernel
theorem dX12_ruleLine_9 : decode cX12_ruleLine 9 = .ok (.iadd, 1) := by decide +kernel
theorem dX12_ruleLine_10 : decode cX12_ruleLine 10 = .ok (.imul, 1) := by decide +kernel
theorem dX12_ruleLine_11 : decode cX12_ruleLine 11 = .ok (.istore_n 1, 1) := by decide +kernel
theorem dX12_ruleLine_12 : decode cX12_ruleLine 12 = .ok (.aload_n 0, 1) := by decide +kernel
theorem dX12_ruleLine_13 : decode cX12_ruleLine 13 = .ok (.getfield 43, 3) := by decide +kernel
theorem dX12_ruleLine_16 : decode cX12_ruleLine 16 = .ok (.iload_n 1, 1) := by decide +kernel
theorem dX12_ruleLine_17 : decode cX12_ruleLine 17 = .ok (.aload_n 0, 1) := by decide +kernel
theorem dX12_ruleLine_18 : decode cX12_ruleLine 18 = .ok (.invokevirtual 162, 3) := by decide +kernel
theorem dX12_ruleLine_21 : decode cX12_ruleLine 21 = .ok (.iastore, 1) := by decide +kernel
theorem dX12_ruleLine_22 : decode cX12_ruleLine 22 = .ok (.aload_n 0, 1) := by decide +kernel
theorem dX12_ruleLine_23 : decode cX12_ruleLine 23 = .ok (.ldc2_w 192, 3) := by decide +kernel
theorem dX12_ruleLine_26 : decode cX12_ruleLine 26 = .ok (.invokevirtual 145, 3) := by decide +kernel
theorem dX12_ruleLine_29 : decode cX12_ruleLine 29 = .ok (.aload_n 0, 1) := by decide +kernel
theorem dX12_ruleLine_30 : decode cX12_ruleLine 30 = .ok (.getfield 43, 3) := by decide +kernel
theorem dX12_ruleLine_33 : decode cX12_ruleLine 33 = .ok (.iload_n 1, 1) := by decide +kernel
theorem dX12_ruleLine_34 : decode cX12_ruleLine 34 = .ok (.iconst 1, 1) := by decide +kernel
theorem dX12_ruleLine_35 : decode cX12_ruleLine 35 = .ok (.iadd, 1) := by decide +kernel
theorem dX12_ruleLine_36 : decode cX12_ruleLine 36 = .ok (.aload_n 0, 1) := by decide +kernel
theorem dX12_ruleLine_37 : decode cX12_ruleLine 37 = .ok (.aload_n 0, 1) := by decide +kernel
theorem dX12_ruleLine_38 : decode cX12_ruleLine 38 = .ok (.getfield 43, 3) := by decide +kernel
theorem dX12_ruleLine_41 : decode cX12_ruleLine 41 = .ok (.iload_n 1, 1) := by decide +kernel
theorem dX12_ruleLine_42 : decode cX12_ruleLine 42 = .ok (.iaload, 1) := by decide +kernel
theorem dX12_ruleLine_43 : decode cX12_ruleLine 43 = .ok (.aload_n 0, 1) := by decide +kernel
theorem dX12_ruleLine_44 : decode cX12_ruleLine 44 = .ok (.iconst 0, 1) := by decide +kernel
theorem dX12_ruleLine_45 : decode cX12_ruleLine 45 = .ok (.invokevirtual 156, 3) := by decide +kernel
theorem dX12_ruleLine_48 : decode cX12_ruleLine 48 = .ok (.iconst 1, 1) := by decide +kernel
theorem dX12_ruleLine_49 : decode cX12_ruleLine 49 = .ok (.isub, 1) := by decide +kernel
theorem dX12_ruleLine_50 : decode cX12_ruleLine 50 = .ok (.invokevirtual 149, 3) := by decide +kernel
theorem dX12_ruleLine_53 : decode cX12_ruleLine 53 = .ok (.iastore, 1) := by decide +kernel
theorem dX12_ruleLine_54 : decode cX12_ruleLine 54 = .ok (.aload_n 0, 1) := by decide +kernel
theorem dX12_ruleLine_55 : decode cX12_ruleLine 55 = .ok (.ldc2_w 194, 3) := by decide +kernel
theorem dX12_ruleLine_58 : decode cX12_ruleLine 58 = .ok (.invokevirtual 145, 3) := by decide +kernel
theorem dX12_ruleLine_61 : decode cX12_ruleLine 61 = .ok (.aload_n 0, 1) := by decide +kernel
theorem dX12_ruleLine_62 : decode cX12_ruleLine 62 = .ok (.invokevirtual 196, 3) := by decide +kernel
theorem dX12_ruleLine_65 : decode cX12_ruleLine 65 = .ok (.istore_n 2, 1) := by decide +kernel
theorem dX12_ruleLine_66 : decode cX12_ruleLine 66 = .ok (.iload_n 2, 1) := by decide +kernel
theorem dX12_ruleLine_67 : decode cX12_ruleLine 67 = .ok (.ifCond .ne 8, 3) := by decide +kernel
theorem dX12_ruleLine_75 : decode cX12_ruleLine 75 = .ok (.aload_n 0, 1) := by decide +kernel
theorem dX12_ruleLine_76 : decode cX12_ruleLine 76 = .ok (.invokevirtual 196, 3) := by decide +kernel
theorem dX12_ruleLine_79 : decode cX12_ruleLine 79 = .ok (.istore_n 3, 1) := by decide +kernel
theorem dX12_ruleLine_80 : decode cX12_ruleLine 80 = .ok (.iload_n 3, 1) := by decide +kernel
theorem dX12_ruleLine_81 : decode cX12_ruleLine 81 = .ok (.ifCond .eq 15, 3) := by decide +kernel
theorem dX12_ruleLine_96 : decode cX12_ruleLine 96 = .ok (.aload_n 0, 1) := by decide +kernel
theorem dX12_ruleLine_97 : decode cX12_ruleLine 97 = .ok (.getfield 43, 3) := by decide +kernel
theorem dX12_ruleLine_100 : decode cX12_ruleLine 100 = .ok (.iload_n 1, 1) := by decide +kernel
theorem dX12_ruleLine_101 : decode cX12_ruleLine 101 = .ok (.iconst 2, 1) := by decide +kernel
theorem dX12_ruleLine_102 : decode cX12_ruleLine 102 = .ok (.iadd, 1) := by decide +kernel
theorem dX12_ruleLine_103 : decode cX12_ruleLine 103 = .ok (.iload_n 2, 1) := by decide +kernel
theorem dX12_ruleLine_104 : decode cX12_ruleLine 104 = .ok (.iastore, 1) := by decide +kernel
theorem dX12_ruleLine_105 : decode cX12_ruleLine 105 = .ok (.aload_n 0, 1) := by decide +kernel
theorem dX12_ruleLine_106 : decode cX12_ruleLine 106 = .ok (.ldc2_w 192, 3) := by decide +kernel
theorem dX12_ruleLine_109 : decode cX12_ruleLine 109 = .ok (.invokevirtual 145, 3) := by decide +kernel
theorem dX12_ruleLine_112 : decode cX12_ruleLine 112 = .ok (.aload_n 0, 1) := by decide +kernel
theorem dX12_ruleLine_113 : decode cX12_ruleLine 113 = .ok (.getfield 43, 3) := by decide +kernel
theorem dX12_ruleLine_116 : decode cX12_ruleLine 116 = .ok (.iload_n 1, 1) := by decide +kernel
theorem dX12_ruleLine_117 : decode cX12_ruleLine 117 = .ok (.iconst 3, 1) := by decide +kernel
theorem dX12_ruleLine_118 : decode cX12_ruleLine 118 = .ok (.iadd, 1) := by decide +kernel
theorem dX12_ruleLine_119 : decode cX12_ruleLine 119 = .ok (.aload_n 0, 1) := by decide +kernel
theorem dX12_ruleLine_120 : decode cX12_ruleLine 120 = .ok (.iconst 0, 1) := by decide +kernel
theorem dX12_ruleLine_121 : decode cX12_ruleLine 121 = .ok (.iconst 5, 1) := by decide +kernel
theorem dX12_ruleLine_122 : decode cX12_ruleLine 122 = .ok (.invokevirtual 149, 3) := by decide +kernel
theorem dX12_ruleLine_125 : decode cX12_ruleLine 125 = .ok (.iastore, 1) := by decide +kernel
theorem dX12_ruleLine_126 : decode cX12_ruleLine 126 = .ok (.aload_n 0, 1) := by decide +kernel
theorem dX12_ruleLine_127 : decode cX12_ruleLine 127 = .ok (.bipush 7, 2) := by decide +kernel
theorem dX12_ruleLine_129 : decode cX12_ruleLine 129 = .ok (.aload_n 0, 1) := by decide +kernel
theorem dX12_ruleLine_130 : decode cX12_ruleLine 130 = .ok (.bipush 7, 2) := by decide +kernel
theorem dX12_ruleLine_132 : decode cX12_ruleLine 132 = .ok (.invokevirtual 156, 3) := by decide +kernel
theorem dX12_ruleLine_135 : decode cX12_ruleLine 135 = .ok (.iconst 1, 1) := by decide +kernel
theorem dX12_ruleLine_136 : decode cX12_ruleLine 136 = .ok (.iadd, 1) := by decide +kernel
theorem dX12_ruleLine_137 : decode cX12_ruleLine 137 = .ok (.invokevirtual 186, 3) := by decide +kernel
theorem dX12_ruleLine_140 : decode cX12_ruleLine 140 = .ok (.return_, 1) := by decide +kernel
theorem dX12_ruleLine_84 : decode cX12_ruleLine 84 = .ok (.iload_n 2, 1) := by decide +kernel
theorem dX12_ruleLine_85 : decode cX12_ruleLine 85 = .ok (.iload_n 3, 1) := by decide +kernel
theorem dX12_ruleLine_86 : decode cX12_ruleLine 86 = .ok (.ior, 1) := by decide +kernel
theorem dX12_ruleLine_87 : decode cX12_ruleLine 87 = .ok (.istore_n 2, 1) := by decide +kernel
theorem dX12_ruleLine_88 : decode cX12_ruleLine 88 = .ok (.aload_n 0, 1) := by decide +kernel
theorem dX12_ruleLine_89 : decode cX12_ruleLine 89 = .ok (.invokevirtual 196, 3) := by decide +kernel
theorem dX12_ruleLine_92 : decode cX12_ruleLine 92 = .ok (.istore_n 3, 1) := by decide +kernel
theorem dX12_ruleLine_93 : decode cX12_ruleLine 93 = .ok (.goto (-13), 3) := by decide +kernel
theorem dX12_ruleLine_70 : decode cX12_ruleLine 70 = .ok (.aload_n 0, 1) := by decide +kernel
theorem dX12_ruleLine_71 : decode cX12_ruleLine 71 = .ok (.iconst 1, 1) := by decide +kernel
theorem dX12_ruleLine_72 : decode cX12_ruleLine 72 = .ok (.invokevirtual 142, 3) := by decide +kernel
theorem dX12_isRoom_0 : decode cX12_isRoom 0 = .ok (.iload_n 1, 1) := by decide +kernel
theorem dX12_isRoom_1 : decode cX12_isRoom 1 = .ok (.ifCond .eq 17, 3) := by decide +kernel
theorem dX12_isRoom_18 : decode cX12_isRoom 18 = .ok (.iload_n 1, 1) := by decide +kernel
theorem dX12_isRoom_19 : decode cX12_isRoom 19 = .ok (.ifCond .eq 14, 3) := by decide +kernel
theorem dX12_isRoom_33 : decode cX12_isRoom 33 = .ok (.iload_n 1, 1) := by decide +kernel
theorem dX12_isRoom_34 : decode cX12_isRoom 34 = .ok (.ifCond .eq 14, 3) := by decide +kernel
theorem dX12_isRoom_48 : decode cX12_isRoom 48 = .ok (.iconst 0, 1) := by decide +kernel
theorem dX12_isRoom_49 : decode cX12_isRoom 49 = .ok (.ireturn, 1) := by decide +kernel
theorem dX12_isRoom_4 : decode cX12_isRoom 4 = .ok (.aload_n 0, 1) := by decide +kernel
theorem dX12_isRoom_5 : decode cX12_isRoom 5 = .ok (.iload_n 2, 1) := by decide +kernel
theorem dX12_isRoom_6 : decode cX12_isRoom 6 = .ok (.invokevirtual 156, 3) := by decide +kernel
theorem dX12_isRoom_9 : decode cX12_isRoom 9 = .ok (.iload_n 3, 1) := by decide +kernel
theorem dX12_isRoom_10 : decode cX12_isRoom 10 = .ok (.if_icmp .ne 8, 3) := by decide +kernel
theorem dX12_isRoom_22 : decode cX12_isRoom 22 = .ok (.aload_n 0, 1) := by decide +kernel
theorem dX12_isRoom_23 : decode cX12_isRoom 23 = .ok (.getfield 126, 3) := by decide +kernel
theorem dX12_isRoom_26 : decode cX12_isRoom 26 = .ok (.ifCond .ne 7, 3) := by decide +kernel
theorem dX12_isRoom_37 : decode cX12_isRoom 37 = .ok (.aload_n 0, 1) := by decide +kernel
theorem dX12_isRoom_38 : decode cX12_isRoom 38 = .ok (.getfield 126, 3) := by decide +kernel
theorem dX12_isRoom_41 : decode cX12_isRoom 41 = .ok (.ifCond .ne 7, 3) := by decide +kernel
theorem dX12_isRoom_29 : decode cX12_isRoom 29 = .ok (.aload_n 0, 1) := by decide +kernel
theorem dX12_isRoom_30 : decode cX12_isRoom 30 = .ok (.invokevirtual 136, 3) := by decide +kernel
theorem dX12_isRoom_44 : decode cX12_isRoom 44 = .ok (.iconst 1, 1) := by decide +kernel
theorem dX12_isRoom_45 : decode cX12_isRoom 45 = .ok (.goto 4, 3) := by decide +kernel
theorem dX12_isRoom_13 : decode cX12_isRoom 13 = .ok (.aload_n 0, 1) := by decide +kernel
theorem dX12_isRoom_14 : decode cX12_isRoom 14 = .ok (.iconst 3, 1) := by decide +kernel
theorem dX12_isRoom_15 : decode cX12_isRoom 15 = .ok (.invokevirtual 142, 3) := by decide +kernel
theorem dX12_line_0 : decode cX12_line 0 = .ok (.aload_n 0, 1) := by decide +kernel
theorem dX12_line_1 : decode cX12_line 1 = .ok (.ldc2_w 199, 3) := by decide +kernel
theorem dX12_line_4 : decode cX12_line 4 = .ok (.invokevirtual 139, 3) := by decide +kernel
theorem dX12_line_7 : decode cX12_line 7 = .ok (.ifCond .eq 10, 3) := by decide +kernel
theorem dX12_line_17 : decode cX12_line 17 = .ok (.aload_n 0, 1) := by decide +kernel
theorem dX12_line_18 : decode cX12_line 18 = .ok (.ldc2_w 204, 3) := by decide +kernel
theorem dX12_line_21 : decode cX12_line 21 = .ok (.invokevirtual 139, 3) := by decide +kernel
theorem dX12_line_24 : decode cX12_line 24 = .ok (.ifCond .eq 32, 3) := by decide +kernel
theorem dX12_line_56 : decode cX12_line 56 = .ok (.aload_n 0, 1) := by decide +kernel
theorem dX12_line_57 : decode cX12_line 57 = .ok (.aload_n 0, 1) := by decide +kernel
theorem dX12_line_58 : decode cX12_line 58 = .ok (.ldc2_w 206, 3) := by decide +kernel
theorem dX12_line_61 : decode cX12_line 61 = .ok (.invokevirtual 132, 3) := by decide +kernel
theorem dX12_line_64 : decode cX12_line 64 = .ok (.bipush 6, 2) := by decide +kernel
theorem dX12_line_66 : decode cX12_line 66 = .ok (.bipush 8, 2) := by decide +kernel
theorem dX12_line_68 : decode cX12_line 68 = .ok (.invokevirtual 208, 3) := by decide +kernel
theorem dX12_line_71 : decode cX12_line 71 = .ok (.ifCond .eq 10, 3) := by decide +kernel
theorem dX12_line_81 : decode cX12_line 81 = .ok (.aload_n 0, 1) := by decide +kernel
theorem dX12_line_82 : decode cX12_line 82 = .ok (.getfield 126, 3) := by decide +kernel
theorem dX12_line_85 : decode cX12_line 85 = .ok (.ifCond .ne 28, 3) := by decide +kernel
theorem dX12_line_113 : decode cX12_line 113 = .ok (.aload_n 0, 1) := by decide +kernel
theorem dX12_line_114 : decode cX12_line 114 = .ok (.getfield 126, 3) := by decide +kernel
theorem dX12_line_117 : decode cX12_line 117 = .ok (.ifCond .ne 62, 3) := by decide +kernel
theorem dX12_line_179 : decode cX12_line 179 = .ok (.aload_n 0, 1) := by decide +kernel
theorem dX12_line_180 : decode cX12_line 180 = .ok (.getfield 126, 3) := by decide +kernel
theorem dX12_line_183 : decode cX12_line 183 = .ok (.ifCond .ne 8, 3) := by decide +kernel
theorem dX12_line_191 : decode cX12_line 191 = .ok (.return_, 1) := by decide +kernel
theorem dX12_line_88 : decode cX12_line 88 = .ok (.aload_n 0, 1) := by decide +kernel
theorem dX12_line_89 : decode cX12_line 89 = .ok (.aload_n 0, 1) := by decide +kernel
theorem dX12_line_90 : decode cX12_line 90 = .ok (.ldc2_w 215, 3) := by decide +kernel
theorem dX12_line_93 : decode cX12_line 93 = .ok (.invokevirtual 132, 3) := by decide +kernel
theorem dX12_line_96 : decode cX12_line 96 = .ok (.bipush 7, 2) := by decide +kernel
theorem dX12_line_98 : decode cX12_line 98 = .ok (.bipush 6, 2) := by decide +kernel
theorem dX12_line_100 : decode cX12_line 100 = .ok (.invokevirtual 208, 3) := by decide +kernel
theorem dX12_line_103 : decode cX12_line 103 = .ok (.ifCond .eq 10, 3) := by decide +kernel
theorem dX12_line_120 : decode cX12_line 120 = .ok (.aload_n 0, 1) := by decide +kernel
theorem dX12_line_121 : decode cX12_line 121 = .ok (.aload_n 0, 1) := by decide +kernel
theorem dX12_line_122 : decode cX12_line 122 = .ok (.ldc2_w 220, 3) := by decide +kernel
theorem dX12_line_125 : decode cX12_line 125 = .ok (.invokevirtual 132, 3) := by decide +kernel
theorem dX12_line_128 : decode cX12_line 128 = .ok (.bipush 8, 2) := by decide +kernel
theorem dX12_line_130 : decode cX12_line 130 = .ok (.iconst 3, 1) := by decide +kernel
theorem dX12_line_131 : decode cX12_line 131 = .ok (.invokevirtual 208, 3) := by decide +kernel
theorem dX12_line_134 : decode cX12_line 134 = .ok (.ifCond .eq 45, 3) := by decide +kernel
theorem dX12_line_186 : decode cX12_line 186 = .ok (.aload_n 0, 1) := by decide +kernel
theorem dX12_line_187 : decode cX12_line 187 = .ok (.iconst 1, 1) := by decide +kernel
theorem dX12_line_188 : decode cX12_line 188 = .ok (.invokevirtual 142, 3) := by decide +kernel
theorem dX12_line_137 : decode cX12_line 137 = .ok (.aload_n 0, 1) := by decide +kernel
theorem dX12_line_138 : decode cX12_line 138 = .ok (.ldc2_w 182, 3) := by decide +kernel
theorem dX12_line_141 : decode cX12_line 141 = .ok (.invokevirtual 145, 3) := by decide +kernel
theorem dX12_line_144 : decode cX12_line 144 = .ok (.aload_n 0, 1) := by decide +kernel
theorem dX12_line_145 : decode cX12_line 145 = .ok (.getfield 46, 3) := by decide +kernel
theorem dX12_line_148 : decode cX12_line 148 = .ok (.bipush 12, 2) := by decide +kernel
theorem dX12_line_150 : decode cX12_line 150 = .ok (.aload_n 0, 1) := by decide +kernel
theorem dX12_line_151 : decode cX12_line 151 = .ok (.bipush 8, 2) := by decide +kernel
theorem dX12_line_153 : decode cX12_line 153 = .ok (.invokevirtual 156, 3) := by decide +kernel
theorem dX12_line_156 : decode cX12_line 156 = .ok (.iadd, 1) := by decide +kernel
theorem dX12_line_157 : decode cX12_line 157 = .ok (.aload_n 0, 1) := by decide +kernel
theorem dX12_line_158 : decode cX12_line 158 = .ok (.invokevirtual 162, 3) := by decide +kernel
theorem dX12_line_161 : decode cX12_line 161 = .ok (.iastore, 1) := by decide +kernel
theorem dX12_line_162 : decode cX12_line 162 = .ok (.aload_n 0, 1) := by decide +kernel
theorem dX12_line_163 : decode cX12_line 163 = .ok (.bipush 8, 2) := by decide +kernel
theorem dX12_line_165 : decode cX12_line 165 = .ok (.aload_n 0, 1) := by decide +kernel
theorem dX12_line_166 : decode cX12_line 166 = .ok (.bipush 8, 2) := by decide +kernel
theorem dX12_line_168 : decode cX12_line 168 = .ok (.invokevirtual 156, 3) := by decide +kernel
theorem dX12_line_171 : decode cX12_line 171 = .ok (.iconst 1, 1) := by decide +kernel
theorem dX12_line_172 : decode cX12_line 172 = .ok (.iadd, 1) := by decide +kernel
theorem dX12_line_173 : decode cX12_line 173 = .ok (.invokevirtual 186, 3) := by decide +kernel
theorem dX12_line_176 : decode cX12_line 176 = .ok (.goto 15, 3) := by decide +kernel
theorem dX12_line_106 : decode cX12_line 106 = .ok (.aload_n 0, 1) := by decide +kernel
theorem dX12_line_107 : decode cX12_line 107 = .ok (.invokevirtual 217, 3) := by decide +kernel
theorem dX12_line_110 : decode cX12_line 110 = .ok (.goto 81, 3) := by decide +kernel
theorem dX12_line_74 : decode cX12_line 74 = .ok (.aload_n 0, 1) := by decide +kernel
theorem dX12_line_75 : decode cX12_line 75 = .ok (.invokevirtual 212, 3) := by decide +kernel
theorem dX12_line_78 : decode cX12_line 78 = .ok (.goto 113, 3) := by decide +kernel
theorem dX12_line_27 : decode cX12_line 27 = .ok (.aload_n 0, 1) := by decide +kernel
theorem dX12_line_28 : decode cX12_line 28 = .ok (.invokevirtual 162, 3) := by decide +kernel
theorem dX12_line_31 : decode cX12_line 31 = .ok (.istore_n 1, 1) := by decide +kernel
theorem dX12_line_32 : decode cX12_line 32 = .ok (.aload_n 0, 1) := by decide +kernel
theorem dX12_line_33 : decode cX12_line 33 = .ok (.invokevirtual 173, 3) := by decide +kernel
theorem dX12_line_36 : decode cX12_line 36 = .ok (.ifCond .eq 17, 3) := by decide +kernel
theorem dX12_line_53 : decode cX12_line 53 = .ok (.goto 138, 3) := by decide +kernel
theorem dX12_line_39 : decode cX12_line 39 = .ok (.aload_n 0, 1) := by decide +kernel
theorem dX12_line_40 : decode cX12_line 40 = .ok (.iconst 5, 1) := by decide +kernel
theorem dX12_line_41 : decode cX12_line 41 = .ok (.aload_n 0, 1) := by decide +kernel
theorem dX12_line_42 : decode cX12_line 42 = .ok (.iconst 5, 1) := by decide +kernel
theorem dX12_line_43 : decode cX12_line 43 = .ok (.invokevirtual 156, 3) := by decide +kernel
theorem dX12_line_46 : decode cX12_line 46 = .ok (.iconst 1, 1) := by decide +kernel
theorem dX12_line_47 : decode cX12_line 47 = .ok (.iload_n 1, 1) := by decide +kernel
theorem dX12_line_48 : decode cX12_line 48 = .ok (.ishl, 1) := by decide +kernel
theorem dX12_line_49 : decode cX12_line 49 = .ok (.ior, 1) := by decide +kernel
theorem dX12_line_50 : decode cX12_line 50 = .ok (.invokevirtual 186, 3) := by decide +kernel
theorem dX12_line_10 : decode cX12_line 10 = .ok (.aload_n 0, 1) := by decide +kernel
theorem dX12_line_11 : decode cX12_line 11 = .ok (.invokevirtual 201, 3) := by decide +kernel
theorem dX12_line_14 : decode cX12_line 14 = .ok (.goto 177, 3) := by decide +kernel
theorem dX12_clears_0 : decode cX12_clears 0 = .ok (.aload_n 0, 1) := by decide +kernel
theorem dX12_clears_1 : decode cX12_clears 1 = .ok (.getfield 31, 3) := by decide +kernel
theorem dX12_clears_4 : decode cX12_clears 4 = .ok (.iconst 4, 1) := by decide +kernel
theorem dX12_clears_5 : decode cX12_clears 5 = .ok (.iconst 0, 1) := by decide +kernel
theorem dX12_clears_6 : decode cX12_clears 6 = .ok (.iastore, 1) := by decide +kernel
theorem dX12_clears_7 : decode cX12_clears 7 = .ok (.iconst 0, 1) := by decide +kernel
theorem dX12_clears_8 : decode cX12_clears 8 = .ok (.istore_n 1, 1) := by decide +kernel
theorem dX12_clears_9 : decode cX12_clears 9 = .ok (.iload_n 1, 1) := by decide +kernel
theorem dX12_clears_10 : decode cX12_clears 10 = .ok (.bipush 10, 2) := by decide +kernel
theorem dX12_clears_12 : decode cX12_clears 12 = .ok (.if_icmp .ge 15, 3) := by decide +kernel
theorem dX12_clears_15 : decode cX12_clears 15 = .ok (.aload_n 0, 1) := by decide +kernel
theorem dX12_clears_16 : decode cX12_clears 16 = .ok (.iload_n 1, 1) := by decide +kernel
theorem dX12_clears_17 : decode cX12_clears 17 = .ok (.iconst 0, 1) := by decide +kernel
theorem dX12_clears_18 : decode cX12_clears 18 = .ok (.invokevirtual 186, 3) := by decide +kernel
theorem dX12_clears_21 : decode cX12_clears 21 = .ok (.iinc 1 1, 3) := by decide +kernel
theorem dX12_clears_24 : decode cX12_clears 24 = .ok (.goto (-15), 3) := by decide +kernel
theorem dX12_clears_27 : decode cX12_clears 27 = .ok (.iconst 0, 1) := by decide +kernel
theorem dX12_clears_28 : decode cX12_clears 28 = .ok (.istore_n 1, 1) := by decide +kernel
theorem dX12_clears_29 : decode cX12_clears 29 = .ok (.iload_n 1, 1) := by decide +kernel
theorem dX12_clears_30 : decode cX12_clears 30 = .ok (.bipush 24, 2) := by decide +kernel
theorem dX12_clears_32 : decode cX12_clears 32 = .ok (.if_icmp .ge 19, 3) := by decide +kernel
theorem dX12_clears_35 : decode cX12_clears 35 = .ok (.aload_n 0, 1) := by decide +kernel
theorem dX12_clears_36 : decode cX12_clears 36 = .ok (.getfield 37, 3) := by decide +kernel
theorem dX12_clears_39 : decode cX12_clears 39 = .ok (.bipush 96, 2) := by decide +kernel
theorem dX12_clears_41 : decode cX12_clears 41 = .ok (.iload_n 1, 1) := by decide +kernel
theorem dX12_clears_42 : decode cX12_clears 42 = .ok (.iadd, 1) := by decide +kernel
theorem dX12_clears_43 : decode cX12_clears 43 = .ok (.iconst 0, 1) := by decide +kernel
theorem dX12_clears_44 : decode cX12_clears 44 = .ok (.iastore, 1) := by decide +kernel
theorem dX12_clears_45 : decode cX12_clears 45 = .ok (.iinc 1 1, 3) := by decide +kernel
theorem dX12_clears_48 : decode cX12_clears 48 = .ok (.goto (-19), 3) := by decide +kernel
theorem dX12_clears_51 : decode cX12_clears 51 = .ok (.return_, 1) := by decide +kernel
theorem dX12_copyShore_0 : decode cX12_copyShore 0 = .ok (.aload_n 0, 1) := by decide +kernel
theorem dX12_copyShore_1 : decode cX12_copyShore 1 = .ok (.getfield 31, 3) := by decide +kernel
theorem dX12_copyShore_4 : decode cX12_copyShore 4 = .ok (.iconst 1, 1) := by decide +kernel
theorem dX12_copyShore_5 : decode cX12_copyShore 5 = .ok (.iload_n 1, 1) := by decide +kernel
theorem dX12_copyShore_6 : decode cX12_copyShore 6 = .ok (.iload_n 2, 1) := by decide +kernel
theorem dX12_copyShore_7 : decode cX12_copyShore 7 = .ok (.invokestatic 246, 3) := by decide +kernel
theorem dX12_copyShore_10 : decode cX12_copyShore 10 = .ok (.aload_n 0, 1) := by decide +kernel
theorem dX12_copyShore_11 : decode cX12_copyShore 11 = .ok (.getfield 34, 3) := by decide +kernel
theorem dX12_copyShore_14 : decode cX12_copyShore 14 = .ok (.bipush 10, 2) := by decide +kernel
theorem dX12_copyShore_16 : decode cX12_copyShore 16 = .ok (.iload_n 1, 1) := by decide +kernel
theorem dX12_copyShore_17 : decode cX12_copyShore 17 = .ok (.iload_n 2, 1) := by decide +kernel
theorem dX12_copyShore_18 : decode cX12_copyShore 18 = .ok (.invokestatic 246, 3) := by decide +kernel
theorem dX12_copyShore_21 : decode cX12_copyShore 21 = .ok (.aload_n 0, 1) := by decide +kernel
theorem dX12_copyShore_22 : decode cX12_copyShore 22 = .ok (.getfield 37, 3) := by decide +kernel
theorem dX12_copyShore_25 : decode cX12_copyShore 25 = .ok (.bipush 24, 2) := by decide +kernel
theorem dX12_copyShore_27 : decode cX12_copyShore 27 = .ok (.iload_n 1, 1) := by decide +kernel
theorem dX12_copyShore_28 : decode cX12_copyShore 28 = .ok (.iload_n 2, 1) := by decide +kernel
theorem dX12_copyShore_29 : decode cX12_copyShore 29 = .ok (.invokestatic 246, 3) := by decide +kernel
theorem dX12_copyShore_32 : decode cX12_copyShore 32 = .ok (.aload_n 0, 1) := by decide +kernel
theorem dX12_copyShore_33 : decode cX12_copyShore 33 = .ok (.getfield 40, 3) := by decide +kernel
theorem dX12_copyShore_36 : decode cX12_copyShore 36 = .ok (.bipush 24, 2) := by decide +kernel
theorem dX12_copyShore_38 : decode cX12_copyShore 38 = .ok (.iload_n 1, 1) := by decide +kernel
theorem dX12_copyShore_39 : decode cX12_copyShore 39 = .ok (.iload_n 2, 1) := by decide +kernel
theorem dX12_copyShore_40 : decode cX12_copyShore 40 = .ok (.invokestatic 246, 3) := by decide +kernel
theorem dX12_copyShore_43 : decode cX12_copyShore 43 = .ok (.aload_n 0, 1) := by decide +kernel
theorem dX12_copyShore_44 : decode cX12_copyShore 44 = .ok (.getfield 43, 3) := by decide +kernel
theorem dX12_copyShore_47 : decode cX12_copyShore 47 = .ok (.bipush 24, 2) := by decide +kernel
theorem dX12_copyShore_49 : decode cX12_copyShore 49 = .ok (.iload_n 1, 1) := by decide +kernel
theorem dX12_copyShore_50 : decode cX12_copyShore 50 = .ok (.iload_n 2, 1) := by decide +kernel
theorem dX12_copyShore_51 : decode cX12_copyShore 51 = .ok (.invokestatic 246, 3) := by decide +kernel
theorem dX12_copyShore_54 : decode cX12_copyShore 54 = .ok (.aload_n 0, 1) := by decide +kernel
theorem dX12_copyShore_55 : decode cX12_copyShore 55 = .ok (.getfield 46, 3) := by decide +kernel
theorem dX12_copyShore_58 : decode cX12_copyShore 58 = .ok (.iconst 3, 1) := by decide +kernel
theorem dX12_copyShore_59 : decode cX12_copyShore 59 = .ok (.iload_n 1, 1) := by decide +kernel
theorem dX12_copyShore_60 : decode cX12_copyShore 60 = .ok (.iload_n 2, 1) := by decide +kernel
theorem dX12_copyShore_61 : decode cX12_copyShore 61 = .ok (.invokestatic 246, 3) := by decide +kernel
theorem dX12_copyShore_64 : decode cX12_copyShore 64 = .ok (.aload_n 0, 1) := by decide +kernel
theorem dX12_copyShore_65 : decode cX12_copyShore 65 = .ok (.getfield 49, 3) := by decide +kernel
theorem dX12_copyShore_68 : decode cX12_copyShore 68 = .ok (.sipush 160, 3) := by decide +kernel
theorem dX12_copyShore_71 : decode cX12_copyShore 71 = .ok (.iload_n 1, 1) := by decide +kernel
theorem dX12_copyShore_72 : decode cX12_copyShore 72 = .ok (.iload_n 2, 1) := by decide +kernel
theorem dX12_copyShore_73 : decode cX12_copyShore 73 = .ok (.invokestatic 246, 3) := by decide +kernel
theorem dX12_copyShore_76 : decode cX12_copyShore 76 = .ok (.return_, 1) := by decide +kernel
theorem dX12_acts_0 : decode cX12_acts 0 = .ok (.iconst 4, 1) := by decide +kernel
theorem dX12_acts_1 : decode cX12_acts 1 = .ok (.aload_n 0, 1) := by decide +kernel
theorem dX12_acts_2 : decode cX12_acts 2 = .ok (.getfield 34, 3) := by decide +kernel
theorem dX12_acts_5 : decode cX12_acts 5 = .ok (.bipush 9, 2) := by decide +kernel
theorem dX12_acts_7 : decode cX12_acts 7 = .ok (.iaload, 1) := by decide +kernel
theorem dX12_acts_8 : decode cX12_acts 8 = .ok (.imul, 1) := by decide +kernel
theorem dX12_acts_9 : decode cX12_acts 9 = .ok (.istore 5, 2) := by decide +kernel
theorem dX12_acts_11 : decode cX12_acts 11 = .ok (.aload_n 0, 1) := by decide +kernel
theorem dX12_acts_12 : decode cX12_acts 12 = .ok (.getfield 49, 3) := by decide +kernel
theorem dX12_acts_15 : decode cX12_acts 15 = .ok (.iload 5, 2) := by decide +kernel
theorem dX12_acts_17 : decode cX12_acts 17 = .ok (.iload_n 1, 1) := by decide +kernel
theorem dX12_acts_18 : decode cX12_acts 18 = .ok (.iastore, 1) := by decide +kernel
theorem dX12_acts_19 : decode cX12_acts 19 = .ok (.aload_n 0, 1) := by decide +kernel
theorem dX12_acts_20 : decode cX12_acts 20 = .ok (.getfield 49, 3) := by decide +kernel
theorem dX12_acts_23 : decode cX12_acts 23 = .ok (.iload 5, 2) := by decide +kernel
theorem dX12_acts_25 : decode cX12_acts 25 = .ok (.iconst 1, 1) := by decide +kernel
theorem dX12_acts_26 : decode cX12_acts 26 = .ok (.iadd, 1) := by decide +kernel
theorem dX12_acts_27 : decode cX12_acts 27 = .ok (.iload_n 2, 1) := by decide +kernel
theorem dX12_acts_28 : decode cX12_acts 28 = .ok (.iastore, 1) := by decide +kernel
theorem dX12_acts_29 : decode cX12_acts 29 = .ok (.aload_n 0, 1) := by decide +kernel
theorem dX12_acts_30 : decode cX12_acts 30 = .ok (.getfield 49, 3) := by decide +kernel
theorem dX12_acts_33 : decode cX12_acts 33 = .ok (.iload 5, 2) := by decide +kernel
theorem dX12_acts_35 : decode cX12_acts 35 = .ok (.iconst 2, 1) := by decide +kernel
theorem dX12_acts_36 : decode cX12_acts 36 = .ok (.iadd, 1) := by decide +kernel
theorem dX12_acts_37 : decode cX12_acts 37 = .ok (.iload_n 3, 1) := by decide +kernel
theorem dX12_acts_38 : decode cX12_acts 38 = .ok (.iastore, 1) := by decide +kernel
theorem dX12_acts_39 : decode cX12_acts 39 = .ok (.aload_n 0, 1) := by decide +kernel
theorem dX12_acts_40 : decode cX12_acts 40 = .ok (.getfield 49, 3) := by decide +kernel
theorem dX12_acts_43 : decode cX12_acts 43 = .ok (.iload 5, 2) := by decide +kernel
theorem dX12_acts_45 : decode cX12_acts 45 = .ok (.iconst 3, 1) := by decide +kernel
theorem dX12_acts_46 : decode cX12_acts 46 = .ok (.iadd, 1) := by decide +kernel
theorem dX12_acts_47 : decode cX12_acts 47 = .ok (.iload 4, 2) := by decide +kernel
theorem dX12_acts_49 : decode cX12_acts 49 = .ok (.iastore, 1) := by decide +kernel
theorem dX12_acts_50 : decode cX12_acts 50 = .ok (.aload_n 0, 1) := by decide +kernel
theorem dX12_acts_51 : decode cX12_acts 51 = .ok (.getfield 34, 3) := by decide +kernel
theorem dX12_acts_54 : decode cX12_acts 54 = .ok (.bipush 9, 2) := by decide +kernel
theorem dX12_acts_56 : decode cX12_acts 56 = .ok (.dup2, 1) := by decide +kernel
theorem dX12_acts_57 : decode cX12_acts 57 = .ok (.iaload, 1) := by decide +kernel
theorem dX12_acts_58 : decode cX12_acts 58 = .ok (.iconst 1, 1) := by decide +kernel
theorem dX12_acts_59 : decode cX12_acts 59 = .ok (.iadd, 1) := by decide +kernel
theorem dX12_acts_60 : decode cX12_acts 60 = .ok (.iastore, 1) := by decide +kernel
theorem dX12_acts_61 : decode cX12_acts 61 = .ok (.return_, 1) := by decide +kernel
theorem dX12_sit_0 : decode cX12_sit 0 = .ok (.aload_n 0, 1) := by decide +kernel
theorem dX12_sit_1 : decode cX12_sit 1 = .ok (.iconst 0, 1) := by decide +kernel
theorem dX12_sit_2 : decode cX12_sit 2 = .ok (.putfield 74, 3) := by decide +kernel
theorem dX12_sit_5 : decode cX12_sit 5 = .ok (.aload_n 0, 1) := by decide +kernel
theorem dX12_sit_6 : decode cX12_sit 6 = .ok (.iload_n 1, 1) := by decide +kernel
theorem dX12_sit_7 : decode cX12_sit 7 = .ok (.invokevirtual 319, 3) := by decide +kernel
theorem dX12_sit_10 : decode cX12_sit 10 = .ok (.ifCond .eq 12, 3) := by decide +kernel
theorem dX12_sit_22 : decode cX12_sit 22 = .ok (.bipush (-2), 2) := by decide +kernel
theorem dX12_sit_24 : decode cX12_sit 24 = .ok (.ireturn, 1) := by decide +kernel
theorem dX12_sit_13 : decode cX12_sit 13 = .ok (.aload_n 0, 1) := by decide +kernel
theorem dX12_sit_14 : decode cX12_sit 14 = .ok (.iload_n 2, 1) := by decide +kernel
theorem dX12_sit_15 : decode cX12_sit 15 = .ok (.i2l, 1) := by decide +kernel
theorem dX12_sit_16 : decode cX12_sit 16 = .ok (.invokevirtual 268, 3) := by decide +kernel
theorem dX12_sit_19 : decode cX12_sit 19 = .ok (.ifCond .ne 6, 3) := by decide +kernel
theorem dX12_sit_25 : decode cX12_sit 25 = .ok (.aload_n 0, 1) := by decide +kernel
theorem dX12_sit_26 : decode cX12_sit 26 = .ok (.invokevirtual 429, 3) := by decide +kernel
theorem dX12_sit_29 : decode cX12_sit 29 = .ok (.ifCond .eq 6, 3) := by decide +kernel
theorem dX12_sit_35 : decode cX12_sit 35 = .ok (.aload_n 0, 1) := by decide +kernel
theorem dX12_sit_36 : decode cX12_sit 36 = .ok (.invokevirtual 322, 3) := by decide +kernel
theorem dX12_sit_39 : decode cX12_sit 39 = .ok (.aload_n 0, 1) := by decide +kernel
theorem dX12_sit_40 : decode cX12_sit 40 = .ok (.iconst 0, 1) := by decide +kernel
theorem dX12_sit_41 : decode cX12_sit 41 = .ok (.iload_n 1, 1) := by decide +kernel
theorem dX12_sit_42 : decode cX12_sit 42 = .ok (.iload_n 2, 1) := by decide +kernel
theorem dX12_sit_43 : decode cX12_sit 43 = .ok (.iconst 0, 1) := by decide +kernel
theorem dX12_sit_44 : decode cX12_sit 44 = .ok (.invokevirtual 432, 3) := by decide +kernel
theorem dX12_sit_47 : decode cX12_sit 47 = .ok (.aload_n 0, 1) := by decide +kernel
theorem dX12_sit_48 : decode cX12_sit 48 = .ok (.getfield 56, 3) := by decide +kernel
theorem dX12_sit_51 : decode cX12_sit 51 = .ok (.iload_n 1, 1) := by decide +kernel
theorem dX12_sit_52 : decode cX12_sit 52 = .ok (.iaload, 1) := by decide +kernel
theorem dX12_sit_53 : decode cX12_sit 53 = .ok (.ireturn, 1) := by decide +kernel
theorem dX12_sit_32 : decode cX12_sit 32 = .ok (.bipush (-5), 2) := by decide +kernel
theorem dX12_sit_34 : decode cX12_sit 34 = .ok (.ireturn, 1) := by decide +kernel
theorem dX12_shove_0 : decode cX12_shove 0 = .ok (.aload_n 0, 1) := by decide +kernel
theorem dX12_shove_1 : decode cX12_shove 1 = .ok (.iconst 0, 1) := by decide +kernel
theorem dX12_shove_2 : decode cX12_shove 2 = .ok (.putfield 74, 3) := by decide +kernel
theorem dX12_shove_5 : decode cX12_shove 5 = .ok (.aload_n 0, 1) := by decide +kernel
theorem dX12_shove_6 : decode cX12_shove 6 = .ok (.iload_n 1, 1) := by decide +kernel
theorem dX12_shove_7 : decode cX12_shove 7 = .ok (.invokevirtual 276, 3) := by decide +kernel
theorem dX12_shove_10 : decode cX12_shove 10 = .ok (.ifCond .eq 25, 3) := by decide +kernel
theorem dX12_shove_35 : decode cX12_shove 35 = .ok (.bipush (-2), 2) := by decide +kernel
theorem dX12_shove_37 : decode cX12_shove 37 = .ok (.ireturn, 1) := by decide +kernel
theorem dX12_shove_13 : decode cX12_shove 13 = .ok (.iload_n 2, 1) := by decide +kernel
theorem dX12_shove_14 : decode cX12_shove 14 = .ok (.i2l, 1) := by decide +kernel
theorem dX12_shove_15 : decode cX12_shove 15 = .ok (.lconst 0, 1) := by decide +kernel
theorem dX12_shove_16 : decode cX12_shove 16 = .ok (.ldc2_w 325, 3) := by decide +kernel
theorem dX12_shove_19 : decode cX12_shove 19 = .ok (.invokestatic 79, 3) := by decide +kernel
theorem dX12_shove_22 : decode cX12_shove 22 = .ok (.ifCond .eq 13, 3) := by decide +kernel
theorem dX12_shove_25 : decode cX12_shove 25 = .ok (.iload_n 3, 1) := by decide +kernel
theorem dX12_shove_26 : decode cX12_shove 26 = .ok (.i2l, 1) := by decide +kernel
theorem dX12_shove_27 : decode cX12_shove 27 = .ok (.lconst 0, 1) := by decide +kernel
theorem dX12_shove_28 : decode cX12_shove 28 = .ok (.lconst 1, 1) := by decide +kernel
theorem dX12_shove_29 : decode cX12_shove 29 = .ok (.invokestatic 79, 3) := by decide +kernel
theorem dX12_shove_32 : decode cX12_shove 32 = .ok (.ifCond .ne 6, 3) := by decide +kernel
theorem dX12_shove_38 : decode cX12_shove 38 = .ok (.aload_n 0, 1) := by decide +kernel
theorem dX12_shove_39 : decode cX12_shove 39 = .ok (.invokevirtual 322, 3) := by decide +kernel
theorem dX12_shove_42 : decode cX12_shove 42 = .ok (.aload_n 0, 1) := by decide +kernel
theorem dX12_shove_43 : decode cX12_shove 43 = .ok (.invokevirtual 429, 3) := by decide +kernel
theorem dX12_shove_46 : decode cX12_shove 46 = .ok (.ifCond .ne 18, 3) := by decide +kernel
theorem dX12_shove_64 : decode cX12_shove 64 = .ok (.bipush (-5), 2) := by decide +kernel
theorem dX12_shove_66 : decode cX12_shove 66 = .ok (.ireturn, 1) := by decide +kernel
theorem dX12_shove_49 : decode cX12_shove 49 = .ok (.aload_n 0, 1) := by decide +kernel
theorem dX12_shove_50 : decode cX12_shove 50 = .ok (.getfield 59, 3) := by decide +kernel
theorem dX12_shove_53 : decode cX12_shove 53 = .ok (.sipush 401, 3) := by decide +kernel
theorem dX12_shove_56 : decode cX12_shove 56 = .ok (.iload_n 1, 1) := by decide +kernel
theorem dX12_shove_57 : decode cX12_shove 57 = .ok (.imul, 1) := by decide +kernel
theorem dX12_shove_58 : decode cX12_shove 58 = .ok (.iload_n 2, 1) := by decide +kernel
theorem dX12_shove_59 : decode cX12_shove 59 = .ok (.iadd, 1) := by decide +kernel
theorem dX12_shove_60 : decode cX12_shove 60 = .ok (.iaload, 1) := by decide +kernel
theorem dX12_shove_61 : decode cX12_shove 61 = .ok (.ifCond .eq 6, 3) := by decide +kernel
theorem dX12_shove_67 : decode cX12_shove 67 = .ok (.aload_n 0, 1) := by decide +kernel
theorem dX12_shove_68 : decode cX12_shove 68 = .ok (.iconst 1, 1) := by decide +kernel
theorem dX12_shove_69 : decode cX12_shove 69 = .ok (.iload_n 1, 1) := by decide +kernel
theorem dX12_shove_70 : decode cX12_shove 70 = .ok (.iload_n 2, 1) := by decide +kernel
theorem dX12_shove_71 : decode cX12_shove 71 = .ok (.iload_n 3, 1) := by decide +kernel
theorem dX12_shove_72 : decode cX12_shove 72 = .ok (.invokevirtual 432, 3) := by decide +kernel
theorem dX12_shove_75 : decode cX12_shove 75 = .ok (.iconst 1, 1) := by decide +kernel
theorem dX12_shove_76 : decode cX12_shove 76 = .ok (.istore 4, 2) := by decide +kernel
theorem dX12_shove_78 : decode cX12_shove 78 = .ok (.iconst 0, 1) := by decide +kernel
theorem dX12_shove_79 : decode cX12_shove 79 = .ok (.istore 5, 2) := by decide +kernel
theorem dX12_shove_81 : decode cX12_shove 81 = .ok (.iload 5, 2) := by decide +kernel
theorem dX12_shove_83 : decode cX12_shove 83 = .ok (.sipush 400, 3) := by decide +kernel
theorem dX12_shove_86 : decode cX12_shove 86 = .ok (.if_icmp .gt 35, 3) := by decide +kernel
theorem dX12_shove_89 : decode cX12_shove 89 = .ok (.iload 4, 2) := by decide +kernel
theorem dX12_shove_91 : decode cX12_shove 91 = .ok (.aload_n 0, 1) := by decide +kernel
theorem dX12_shove_92 : decode cX12_shove 92 = .ok (.getfield 59, 3) := by decide +kernel
theorem dX12_shove_95 : decode cX12_shove 95 = .ok (.sipush 401, 3) := by decide +kernel
theorem dX12_shove_98 : decode cX12_shove 98 = .ok (.iload_n 1, 1) := by decide +kernel
theorem dX12_shove_99 : decode cX12_shove 99 = .ok (.imul, 1) := by decide +kernel
theorem dX12_shove_100 : decode cX12_shove 100 = .ok (.iload 5, 2) := by decide +kernel
theorem dX12_shove_102 : decode cX12_shove 102 = .ok (.iadd, 1) := by decide +kernel
theorem dX12_shove_103 : decode cX12_shove 103 = .ok (.iaload, 1) := by decide +kernel
theorem dX12_shove_104 : decode cX12_shove 104 = .ok (.ifCond .eq 7, 3) := by decide +kernel
theorem dX12_shove_111 : decode cX12_shove 111 = .ok (.iconst 0, 1) := by decide +kernel
theorem dX12_shove_112 : decode cX12_shove 112 = .ok (.iadd, 1) := by decide +kernel
theorem dX12_shove_113 : decode cX12_shove 113 = .ok (.istore 4, 2) := by decide +kernel
theorem dX12_shove_115 : decode cX12_shove 115 = .ok (.iinc 5 1, 3) := by decide +kernel
theorem dX12_shove_118 : decode cX12_shove 118 = .ok (.goto (-37), 3) := by decide +kernel
theorem dX12_shove_107 : decode cX12_shove 107 = .ok (.iconst 1, 1) := by decide +kernel
theorem dX12_shove_108 : decode cX12_shove 108 = .ok (.goto 4, 3) := by decide +kernel
theorem dX12_shove_121 : decode cX12_shove 121 = .ok (.iload 4, 2) := by decide +kernel
theorem dX12_shove_123 : decode cX12_shove 123 = .ok (.ireturn, 1) := by decide +kernel
theorem dX12_undo_0 : decode cX12_undo 0 = .ok (.aload_n 0, 1) := by decide +kernel
theorem dX12_undo_1 : decode cX12_undo 1 = .ok (.iconst 0, 1) := by decide +kernel
theorem dX12_undo_2 : decode cX12_undo 2 = .ok (.putfield 74, 3) := by decide +kernel
theorem dX12_undo_5 : decode cX12_undo 5 = .ok (.aload_n 0, 1) := by decide +kernel
theorem dX12_undo_6 : decode cX12_undo 6 = .ok (.invokevirtual 250, 3) := by decide +kernel
theorem dX12_undo_9 : decode cX12_undo 9 = .ok (.ifCond .ne 6, 3) := by decide +kernel
theorem dX12_undo_15 : decode cX12_undo 15 = .ok (.aload_n 0, 1) := by decide +kernel
theorem dX12_undo_16 : decode cX12_undo 16 = .ok (.getfield 34, 3) := by decide +kernel
theorem dX12_undo_19 : decode cX12_undo 19 = .ok (.bipush 9, 2) := by decide +kernel
theorem dX12_undo_21 : decode cX12_undo 21 = .ok (.iaload, 1) := by decide +kernel
theorem dX12_undo_22 : decode cX12_undo 22 = .ok (.ifCond .ne 6, 3) := by decide +kernel
theorem dX12_undo_28 : decode cX12_undo 28 = .ok (.aload_n 0, 1) := by decide +kernel
theorem dX12_undo_29 : decode cX12_undo 29 = .ok (.getfield 34, 3) := by decide +kernel
theorem dX12_undo_32 : decode cX12_undo 32 = .ok (.bipush 9, 2) := by decide +kernel
theorem dX12_undo_34 : decode cX12_undo 34 = .ok (.dup2, 1) := by decide +kernel
theorem dX12_undo_35 : decode cX12_undo 35 = .ok (.iaload, 1) := by decide +kernel
theorem dX12_undo_36 : decode cX12_undo 36 = .ok (.iconst 1, 1) := by decide +kernel
theorem dX12_undo_37 : decode cX12_undo 37 = .ok (.isub, 1) := by decide +kernel
theorem dX12_undo_38 : decode cX12_undo 38 = .ok (.iastore, 1) := by decide +kernel
theorem dX12_undo_39 : decode cX12_undo 39 = .ok (.aload_n 0, 1) := by decide +kernel
theorem dX12_undo_40 : decode cX12_undo 40 = .ok (.getfield 34, 3) := by decide +kernel
theorem dX12_undo_43 : decode cX12_undo 43 = .ok (.bipush 9, 2) := by decide +kernel
theorem dX12_undo_45 : decode cX12_undo 45 = .ok (.iaload, 1) := by decide +kernel
theorem dX12_undo_46 : decode cX12_undo 46 = .ok (.ireturn, 1) := by decide +kernel
theorem dX12_undo_25 : decode cX12_undo 25 = .ok (.bipush (-5), 2) := by decide +kernel
theorem dX12_undo_27 : decode cX12_undo 27 = .ok (.ireturn, 1) := by decide +kernel
theorem dX12_undo_12 : decode cX12_undo 12 = .ok (.bipush (-2), 2) := by decide +kernel
theorem dX12_undo_14 : decode cX12_undo 14 = .ok (.ireturn, 1) := by decide +kernel
theorem dX12_anew_0 : decode cX12_anew 0 = .ok (.aload_n 0, 1) := by decide +kernel
theorem dX12_anew_1 : decode cX12_anew 1 = .ok (.iconst 0, 1) := by decide +kernel
theorem dX12_anew_2 : decode cX12_anew 2 = .ok (.putfield 74, 3) := by decide +kernel
theorem dX12_anew_5 : decode cX12_anew 5 = .ok (.aload_n 0, 1) := by decide +kernel
theorem dX12_anew_6 : decode cX12_anew 6 = .ok (.invokevirtual 250, 3) := by decide +kernel
theorem dX12_anew_9 : decode cX12_anew 9 = .ok (.ifCond .ne 6, 3) := by decide +kernel
theorem dX12_anew_15 : decode cX12_anew 15 = .ok (.aload_n 0, 1) := by decide +kernel
theorem dX12_anew_16 : decode cX12_anew 16 = .ok (.getfield 34, 3) := by decide +kernel
theorem dX12_anew_19 : decode cX12_anew 19 = .ok (.bipush 9, 2) := by decide +kernel
theorem dX12_anew_21 : decode cX12_anew 21 = .ok (.iaload, 1) := by decide +kernel
theorem dX12_anew_22 : decode cX12_anew 22 = .ok (.istore_n 1, 1) := by decide +kernel
theorem dX12_anew_23 : decode cX12_anew 23 = .ok (.aload_n 0, 1) := by decide +kernel
theorem dX12_anew_24 : decode cX12_anew 24 = .ok (.getfield 34, 3) := by decide +kernel
theorem dX12_anew_27 : decode cX12_anew 27 = .ok (.bipush 9, 2) := by decide +kernel
theorem dX12_anew_29 : decode cX12_anew 29 = .ok (.iconst 0, 1) := by decide +kernel
theorem dX12_anew_30 : decode cX12_anew 30 = .ok (.iastore, 1) := by decide +kernel
theorem dX12_anew_31 : decode cX12_anew 31 = .ok (.iload_n 1, 1) := by decide +kernel
theorem dX12_anew_32 : decode cX12_anew 32 = .ok (.ireturn, 1) := by decide +kernel
theorem dX12_anew_12 : decode cX12_anew 12 = .ok (.bipush (-2), 2) := by decide +kernel
theorem dX12_anew_14 : decode cX12_anew 14 = .ok (.ireturn, 1) := by decide +kernel
theorem dX12_image_0 : decode cX12_image 0 = .ok (.aload_n 0, 1) := by decide +kernel
theorem dX12_image_1 : decode cX12_image 1 = .ok (.iconst 0, 1) := by decide +kernel
theorem dX12_image_2 : decode cX12_image 2 = .ok (.putfield 74, 3) := by decide +kernel
theorem dX12_image_5 : decode cX12_image 5 = .ok (.iload_n 1, 1) := by decide +kernel
theorem dX12_image_6 : decode cX12_image 6 = .ok (.i2l, 1) := by decide +kernel
theorem dX12_image_7 : decode cX12_image 7 = .ok (.lconst 0, 1) := by decide +kernel
theorem dX12_image_8 : decode cX12_image 8 = .ok (.ldc2_w 271, 3) := by decide +kernel
theorem dX12_image_11 : decode cX12_image 11 = .ok (.invokestatic 79, 3) := by decide +kernel
theorem dX12_image_14 : decode cX12_image 14 = .ok (.ifCond .ne 6, 3) := by decide +kernel
theorem dX12_image_20 : decode cX12_image 20 = .ok (.aload_n 0, 1) := by decide +kernel
theorem dX12_image_21 : decode cX12_image 21 = .ok (.iconst 0, 1) := by decide +kernel
theorem dX12_image_22 : decode cX12_image 22 = .ok (.iconst 1, 1) := by decide +kernel
theorem dX12_image_23 : decode cX12_image 23 = .ok (.iload_n 1, 1) := by decide +kernel
theorem dX12_image_24 : decode cX12_image 24 = .ok (.iadd, 1) := by decide +kernel
theorem dX12_image_25 : decode cX12_image 25 = .ok (.invokevirtual 243, 3) := by decide +kernel
theorem dX12_image_28 : decode cX12_image 28 = .ok (.aload_n 0, 1) := by decide +kernel
theorem dX12_image_29 : decode cX12_image 29 = .ok (.getfield 52, 3) := by decide +kernel
theorem dX12_image_32 : decode cX12_image 32 = .ok (.iload_n 1, 1) := by decide +kernel
theorem dX12_image_33 : decode cX12_image 33 = .ok (.iconst 1, 1) := by decide +kernel
theorem dX12_image_34 : decode cX12_image 34 = .ok (.bastore, 1) := by decide +kernel
theorem dX12_image_35 : decode cX12_image 35 = .ok (.iconst 0, 1) := by decide +kernel
theorem dX12_image_36 : decode cX12_image 36 = .ok (.ireturn, 1) := by decide +kernel
theorem dX12_image_17 : decode cX12_image 17 = .ok (.bipush (-2), 2) := by decide +kernel
theorem dX12_image_19 : decode cX12_image 19 = .ok (.ireturn, 1) := by decide +kernel
theorem dX12_back_0 : decode cX12_back 0 = .ok (.aload_n 0, 1) := by decide +kernel
theorem dX12_back_1 : decode cX12_back 1 = .ok (.iconst 0, 1) := by decide +kernel
theorem dX12_back_2 : decode cX12_back 2 = .ok (.putfield 74, 3) := by decide +kernel
theorem dX12_back_5 : decode cX12_back 5 = .ok (.iload_n 1, 1) := by decide +kernel
theorem dX12_back_6 : decode cX12_back 6 = .ok (.i2l, 1) := by decide +kernel
theorem dX12_back_7 : decode cX12_back 7 = .ok (.lconst 0, 1) := by decide +kernel
theorem dX12_back_8 : decode cX12_back 8 = .ok (.ldc2_w 271, 3) := by decide +kernel
theorem dX12_back_11 : decode cX12_back 11 = .ok (.invokestatic 79, 3) := by decide +kernel
theorem dX12_back_14 : decode cX12_back 14 = .ok (.ifCond .ne 6, 3) := by decide +kernel
theorem dX12_back_20 : decode cX12_back 20 = .ok (.aload_n 0, 1) := by decide +kernel
theorem dX12_back_21 : decode cX12_back 21 = .ok (.getfield 52, 3) := by decide +kernel
theorem dX12_back_24 : decode cX12_back 24 = .ok (.iload_n 1, 1) := by decide +kernel
theorem dX12_back_25 : decode cX12_back 25 = .ok (.baload, 1) := by decide +kernel
theorem dX12_back_26 : decode cX12_back 26 = .ok (.ifCond .ne 6, 3) := by decide +kernel
theorem dX12_back_32 : decode cX12_back 32 = .ok (.aload_n 0, 1) := by decide +kernel
theorem dX12_back_33 : decode cX12_back 33 = .ok (.iconst 1, 1) := by decide +kernel
theorem dX12_back_34 : decode cX12_back 34 = .ok (.iload_n 1, 1) := by decide +kernel
theorem dX12_back_35 : decode cX12_back 35 = .ok (.iadd, 1) := by decide +kernel
theorem dX12_back_36 : decode cX12_back 36 = .ok (.iconst 0, 1) := by decide +kernel
theorem dX12_back_37 : decode cX12_back 37 = .ok (.invokevirtual 243, 3) := by decide +kernel
theorem dX12_back_40 : decode cX12_back 40 = .ok (.iconst 0, 1) := by decide +kernel
theorem dX12_back_41 : decode cX12_back 41 = .ok (.ireturn, 1) := by decide +kernel
theorem dX12_back_29 : decode cX12_back 29 = .ok (.bipush (-6), 2) := by decide +kernel
theorem dX12_back_31 : decode cX12_back 31 = .ok (.ireturn, 1) := by decide +kernel
theorem dX12_back_17 : decode cX12_back 17 = .ok (.bipush (-2), 2) := by decide +kernel
theorem dX12_back_19 : decode cX12_back 19 = .ok (.ireturn, 1) := by decide +kernel
theorem dX12_shore_0 : decode cX12_shore 0 = .ok (.aload_n 0, 1) := by decide +kernel
theorem dX12_shore_1 : decode cX12_shore 1 = .ok (.iconst 0, 1) := by decide +kernel
theorem dX12_shore_2 : decode cX12_shore 2 = .ok (.putfield 74, 3) := by decide +kernel
theorem dX12_shore_5 : decode cX12_shore 5 = .ok (.aload_n 0, 1) := by decide +kernel
theorem dX12_shore_6 : decode cX12_shore 6 = .ok (.invokevirtual 222, 3) := by decide +kernel
theorem dX12_shore_9 : decode cX12_shore 9 = .ok (.aload_n 0, 1) := by decide +kernel
theorem dX12_shore_10 : decode cX12_shore 10 = .ok (.invokevirtual 225, 3) := by decide +kernel
theorem dX12_shore_13 : decode cX12_shore 13 = .ok (.aload_n 0, 1) := by decide +kernel
theorem dX12_shore_14 : decode cX12_shore 14 = .ok (.invokevirtual 173, 3) := by decide +kernel
theorem dX12_shore_17 : decode cX12_shore 17 = .ok (.ifCond .eq 132, 3) := by decide +kernel
theorem dX12_shore_20 : decode cX12_shore 20 = .ok (.aload_n 0, 1) := by decide +kernel
theorem dX12_shore_21 : decode cX12_shore 21 = .ok (.getfield 115, 3) := by decide +kernel
theorem dX12_shore_24 : decode cX12_shore 24 = .ok (.ifCond .eq 125, 3) := by decide +kernel
theorem dX12_shore_149 : decode cX12_shore 149 = .ok (.aload_n 0, 1) := by decide +kernel
theorem dX12_shore_150 : decode cX12_shore 150 = .ok (.invokevirtual 240, 3) := by decide +kernel
theorem dX12_shore_153 : decode cX12_shore 153 = .ok (.aload_n 0, 1) := by decide +kernel
theorem dX12_shore_154 : decode cX12_shore 154 = .ok (.getfield 126, 3) := by decide +kernel
theorem dX12_shore_157 : decode cX12_shore 157 = .ok (.ifCond .eq 6, 3) := by decide +kernel
theorem dX12_shore_163 : decode cX12_shore 163 = .ok (.aload_n 0, 1) := by decide +kernel
theorem dX12_shore_164 : decode cX12_shore 164 = .ok (.iconst 4, 1) := by decide +kernel
theorem dX12_shore_165 : decode cX12_shore 165 = .ok (.iconst 0, 1) := by decide +kernel
theorem dX12_shore_166 : decode cX12_shore 166 = .ok (.invokevirtual 243, 3) := by decide +kernel
theorem dX12_shore_169 : decode cX12_shore 169 = .ok (.aload_n 0, 1) := by decide +kernel
theorem dX12_shore_170 : decode cX12_shore 170 = .ok (.getfield 31, 3) := by decide +kernel
theorem dX12_shore_173 : decode cX12_shore 173 = .ok (.iconst 0, 1) := by decide +kernel
theorem dX12_shore_174 : decode cX12_shore 174 = .ok (.iaload, 1) := by decide +kernel
theorem dX12_shore_175 : decode cX12_shore 175 = .ok (.ireturn, 1) := by decide +kernel
theorem dX12_shore_27 : decode cX12_shore 27 = .ok (.aload_n 0, 1) := by decide +kernel
theorem dX12_shore_28 : decode cX12_shore 28 = .ok (.getfield 31, 3) := by decide +kernel
theorem dX12_shore_31 : decode cX12_shore 31 = .ok (.iconst 4, 1) := by decide +kernel
theorem dX12_shore_32 : decode cX12_shore 32 = .ok (.iaload, 1) := by decide +kernel
theorem dX12_shore_33 : decode cX12_shore 33 = .ok (.ifCond .ne 88, 3) := by decide +kernel
theorem dX12_shore_36 : decode cX12_shore 36 = .ok (.aload_n 0, 1) := by decide +kernel
theorem dX12_shore_37 : decode cX12_shore 37 = .ok (.ldc2_w 228, 3) := by decide +kernel
theorem dX12_shore_40 : decode cX12_shore 40 = .ok (.invokevirtual 145, 3) := by decide +kernel
theorem dX12_shore_43 : decode cX12_shore 43 = .ok (.aload_n 0, 1) := by decide +kernel
theorem dX12_shore_44 : decode cX12_shore 44 = .ok (.iconst 0, 1) := by decide +kernel
theorem dX12_shore_45 : decode cX12_shore 45 = .ok (.aload_n 0, 1) := by decide +kernel
theorem dX12_shore_46 : decode cX12_shore 46 = .ok (.ldc2_w 230, 3) := by decide +kernel
theorem dX12_shore_49 : decode cX12_shore 49 = .ok (.iconst 3, 1) := by decide +kernel
theorem dX12_shore_50 : decode cX12_shore 50 = .ok (.bipush 12, 2) := by decide +kernel
theorem dX12_shore_52 : decode cX12_shore 52 = .ok (.invokevirtual 179, 3) := by decide +kernel
theorem dX12_shore_55 : decode cX12_shore 55 = .ok (.invokevirtual 186, 3) := by decide +kernel
theorem dX12_shore_58 : decode cX12_shore 58 = .ok (.aload_n 0, 1) := by decide +kernel
theorem dX12_shore_59 : decode cX12_shore 59 = .ok (.iconst 1, 1) := by decide +kernel
theorem dX12_shore_60 : decode cX12_shore 60 = .ok (.aload_n 0, 1) := by decide +kernel
theorem dX12_shore_61 : decode cX12_shore 61 = .ok (.ldc2_w 166, 3) := by decide +kernel
theorem dX12_shore_64 : decode cX12_shore 64 = .ok (.iconst 1, 1) := by decide +kernel
theorem dX12_shore_65 : decode cX12_shore 65 = .ok (.bipush 12, 2) := by decide +kernel
theorem dX12_shore_67 : decode cX12_shore 67 = .ok (.invokevirtual 179, 3) := by decide +kernel
theorem dX12_shore_70 : decode cX12_shore 70 = .ok (.invokevirtual 186, 3) := by decide +kernel
theorem dX12_shore_73 : decode cX12_shore 73 = .ok (.aload_n 0, 1) := by decide +kernel
theorem dX12_shore_74 : decode cX12_shore 74 = .ok (.iconst 2, 1) := by decide +kernel
theorem dX12_shore_75 : decode cX12_shore 75 = .ok (.aload_n 0, 1) := by decide +kernel
theorem dX12_shore_76 : decode cX12_shore 76 = .ok (.ldc2_w 190, 3) := by decide +kernel
theorem dX12_shore_79 : decode cX12_shore 79 = .ok (.iconst 0, 1) := by decide +kernel
theorem dX12_shore_80 : decode cX12_shore 80 = .ok (.bipush 6, 2) := by decide +kernel
theorem dX12_shore_82 : decode cX12_shore 82 = .ok (.invokevirtual 179, 3) := by decide +kernel
theorem dX12_shore_85 : decode cX12_shore 85 = .ok (.invokevirtual 186, 3) := by decide +kernel
theorem dX12_shore_88 : decode cX12_shore 88 = .ok (.aload_n 0, 1) := by decide +kernel
theorem dX12_shore_89 : decode cX12_shore 89 = .ok (.iconst 3, 1) := by decide +kernel
theorem dX12_shore_90 : decode cX12_shore 90 = .ok (.aload_n 0, 1) := by decide +kernel
theorem dX12_shore_91 : decode cX12_shore 91 = .ok (.ldc2_w 171, 3) := by decide +kernel
theorem dX12_shore_94 : decode cX12_shore 94 = .ok (.iconst 1, 1) := by decide +kernel
theorem dX12_shore_95 : decode cX12_shore 95 = .ok (.bipush 12, 2) := by decide +kernel
theorem dX12_shore_97 : decode cX12_shore 97 = .ok (.invokevirtual 179, 3) := by decide +kernel
theorem dX12_shore_100 : decode cX12_shore 100 = .ok (.invokevirtual 186, 3) := by decide +kernel
theorem dX12_shore_103 : decode cX12_shore 103 = .ok (.aload_n 0, 1) := by decide +kernel
theorem dX12_shore_104 : decode cX12_shore 104 = .ok (.iconst 4, 1) := by decide +kernel
theorem dX12_shore_105 : decode cX12_shore 105 = .ok (.aload_n 0, 1) := by decide +kernel
theorem dX12_shore_106 : decode cX12_shore 106 = .ok (.ldc2_w 232, 3) := by decide +kernel
theorem dX12_shore_109 : decode cX12_shore 109 = .ok (.iconst 0, 1) := by decide +kernel
theorem dX12_shore_110 : decode cX12_shore 110 = .ok (.bipush 100, 2) := by decide +kernel
theorem dX12_shore_112 : decode cX12_shore 112 = .ok (.invokevirtual 179, 3) := by decide +kernel
theorem dX12_shore_115 : decode cX12_shore 115 = .ok (.invokevirtual 186, 3) := by decide +kernel
theorem dX12_shore_118 : decode cX12_shore 118 = .ok (.goto 7, 3) := by decide +kernel
theorem dX12_shore_125 : decode cX12_shore 125 = .ok (.aload_n 0, 1) := by decide +kernel
theorem dX12_shore_126 : decode cX12_shore 126 = .ok (.invokevirtual 173, 3) := by decide +kernel
theorem dX12_shore_129 : decode cX12_shore 129 = .ok (.ifCond .eq 7, 3) := by decide +kernel
theorem dX12_shore_136 : decode cX12_shore 136 = .ok (.aload_n 0, 1) := by decide +kernel
theorem dX12_shore_137 : decode cX12_shore 137 = .ok (.getfield 31, 3) := by decide +kernel
theorem dX12_shore_140 : decode cX12_shore 140 = .ok (.iconst 4, 1) := by decide +kernel
theorem dX12_shore_141 : decode cX12_shore 141 = .ok (.dup2, 1) := by decide +kernel
theorem dX12_shore_142 : decode cX12_shore 142 = .ok (.iaload, 1) := by decide +kernel
theorem dX12_shore_143 : decode cX12_shore 143 = .ok (.iconst 1, 1) := by decide +kernel
theorem dX12_shore_144 : decode cX12_shore 144 = .ok (.iadd, 1) := by decide +kernel
theorem dX12_shore_145 : decode cX12_shore 145 = .ok (.iastore, 1) := by decide +kernel
theorem dX12_shore_146 : decode cX12_shore 146 = .ok (.goto (-133), 3) := by decide +kernel
theorem dX12_shore_132 : decode cX12_shore 132 = .ok (.aload_n 0, 1) := by decide +kernel
theorem dX12_shore_133 : decode cX12_shore 133 = .ok (.invokevirtual 237, 3) := by decide +kernel
theorem dX12_shore_160 : decode cX12_shore 160 = .ok (.bipush (-4), 2) := by decide +kernel
theorem dX12_shore_162 : decode cX12_shore 162 = .ok (.ireturn, 1) := by decide +kernel
theorem dX12_shore_121 : decode cX12_shore 121 = .ok (.aload_n 0, 1) := by decide +kernel
theorem dX12_shore_122 : decode cX12_shore 122 = .ok (.invokevirtual 234, 3) := by decide +kernel
theorem dX12_row_0 : decode cX12_row 0 = .ok (.aload_n 0, 1) := by decide +kernel
theorem dX12_row_1 : decode cX12_row 1 = .ok (.iconst 0, 1) := by decide +kernel
theorem dX12_row_2 : decode cX12_row 2 = .ok (.putfield 74, 3) := by decide +kernel
theorem dX12_row_5 : decode cX12_row 5 = .ok (.iload_n 1, 1) := by decide +kernel
theorem dX12_row_6 : decode cX12_row 6 = .ok (.invokestatic 83, 3) := by decide +kernel
theorem dX12_row_9 : decode cX12_row 9 = .ok (.ifCond .eq 21, 3) := by decide +kernel
theorem dX12_row_30 : decode cX12_row 30 = .ok (.bipush (-2), 2) := by decide +kernel
theorem dX12_row_32 : decode cX12_row 32 = .ok (.ireturn, 1) := by decide +kernel
theorem dX12_row_12 : decode cX12_row 12 = .ok (.iload_n 2, 1) := by decide +kernel
theorem dX12_row_13 : decode cX12_row 13 = .ok (.i2l, 1) := by decide +kernel
theorem dX12_row_14 : decode cX12_row 14 = .ok (.lconst 0, 1) := by decide +kernel
theorem dX12_row_15 : decode cX12_row 15 = .ok (.ldc2_w 77, 3) := by decide +kernel
theorem dX12_row_18 : decode cX12_row 18 = .ok (.invokestatic 79, 3) := by decide +kernel
theorem dX12_row_21 : decode cX12_row 21 = .ok (.ifCond .eq 9, 3) := by decide +kernel
theorem dX12_row_24 : decode cX12_row 24 = .ok (.iload_n 3, 1) := by decide +kernel
theorem dX12_row_25 : decode cX12_row 25 = .ok (.bipush 60, 2) := by decide +kernel
theorem dX12_row_27 : decode cX12_row 27 = .ok (.if_icmp .le 6, 3) := by decide +kernel
theorem dX12_row_33 : decode cX12_row 33 = .ok (.iload_n 3, 1) := by decide +kernel
theorem dX12_row_34 : decode cX12_row 34 = .ok (.ifCond .ge 6, 3) := by decide +kernel
theorem dX12_row_40 : decode cX12_row 40 = .ok (.aload_n 0, 1) := by decide +kernel
theorem dX12_row_41 : decode cX12_row 41 = .ok (.getfield 7, 3) := by decide +kernel
theorem dX12_row_44 : decode cX12_row 44 = .ok (.iload_n 1, 1) := by decide +kernel
theorem dX12_row_45 : decode cX12_row 45 = .ok (.iload_n 2, 1) := by decide +kernel
theorem dX12_row_46 : decode cX12_row 46 = .ok (.iastore, 1) := by decide +kernel
theorem dX12_row_47 : decode cX12_row 47 = .ok (.aload_n 0, 1) := by decide +kernel
theorem dX12_row_48 : decode cX12_row 48 = .ok (.getfield 13, 3) := by decide +kernel
theorem dX12_row_51 : decode cX12_row 51 = .ok (.iload_n 1, 1) := by decide +kernel
theorem dX12_row_52 : decode cX12_row 52 = .ok (.iload_n 3, 1) := by decide +kernel
theorem dX12_row_53 : decode cX12_row 53 = .ok (.iastore, 1) := by decide +kernel
theorem dX12_row_54 : decode cX12_row 54 = .ok (.iconst 0, 1) := by decide +kernel
theorem dX12_row_55 : decode cX12_row 55 = .ok (.istore 4, 2) := by decide +kernel
theorem dX12_row_57 : decode cX12_row 57 = .ok (.iload 4, 2) := by decide +kernel
theorem dX12_row_59 : decode cX12_row 59 = .ok (.iload_n 3, 1) := by decide +kernel
theorem dX12_row_60 : decode cX12_row 60 = .ok (.if_icmp .ge 22, 3) := by decide +kernel
theorem dX12_row_82 : decode cX12_row 82 = .ok (.iconst 0, 1) := by decide +kernel
theorem dX12_row_83 : decode cX12_row 83 = .ok (.ireturn, 1) := by decide +kernel
theorem dX12_row_63 : decode cX12_row 63 = .ok (.aload_n 0, 1) := by decide +kernel
theorem dX12_row_64 : decode cX12_row 64 = .ok (.getfield 16, 3) := by decide +kernel
theorem dX12_row_67 : decode cX12_row 67 = .ok (.bipush 60, 2) := by decide +kernel
theorem dX12_row_69 : decode cX12_row 69 = .ok (.iload_n 1, 1) := by decide +kernel
theorem dX12_row_70 : decode cX12_row 70 = .ok (.imul, 1) := by decide +kernel
theorem dX12_row_71 : decode cX12_row 71 = .ok (.iload 4, 2) := by decide +kernel
theorem dX12_row_73 : decode cX12_row 73 = .ok (.iadd, 1) := by decide +kernel
theorem dX12_row_74 : decode cX12_row 74 = .ok (.lconst 0, 1) := by decide +kernel
theorem dX12_row_75 : decode cX12_row 75 = .ok (.lastore, 1) := by decide +kernel
theorem dX12_row_76 : decode cX12_row 76 = .ok (.iinc 4 1, 3) := by decide +kernel
theorem dX12_row_79 : decode cX12_row 79 = .ok (.goto (-22), 3) := by decide +kernel
theorem dX12_row_37 : decode cX12_row 37 = .ok (.bipush (-3), 2) := by decide +kernel
theorem dX12_row_39 : decode cX12_row 39 = .ok (.ireturn, 1) := by decide +kernel
theorem dX12_write_0 : decode cX12_write 0 = .ok (.aload_n 0, 1) := by decide +kernel
theorem dX12_write_1 : decode cX12_write 1 = .ok (.iconst 0, 1) := by decide +kernel
theorem dX12_write_2 : decode cX12_write 2 = .ok (.putfield 74, 3) := by decide +kernel
theorem dX12_write_5 : decode cX12_write 5 = .ok (.iload_n 1, 1) := by decide +kernel
theorem dX12_write_6 : decode cX12_write 6 = .ok (.invokestatic 83, 3) := by decide +kernel
theorem dX12_write_9 : decode cX12_write 9 = .ok (.ifCond .ne 6, 3) := by decide +kernel
theorem dX12_write_15 : decode cX12_write 15 = .ok (.aload_n 0, 1) := by decide +kernel
theorem dX12_write_16 : decode cX12_write 16 = .ok (.getfield 7, 3) := by decide +kernel
theorem dX12_write_19 : decode cX12_write 19 = .ok (.iload_n 1, 1) := by decide +kernel
theorem dX12_write_20 : decode cX12_write 20 = .ok (.iaload, 1) := by decide +kernel
theorem dX12_write_21 : decode cX12_write 21 = .ok (.iconst (-1), 1) := by decide +kernel
theorem dX12_write_22 : decode cX12_write 22 = .ok (.if_icmp .ne 6, 3) := by decide +kernel
theorem dX12_write_28 : decode cX12_write 28 = .ok (.iload_n 2, 1) := by decide +kernel
theorem dX12_write_29 : decode cX12_write 29 = .ok (.i2l, 1) := by decide +kernel
theorem dX12_write_30 : decode cX12_write 30 = .ok (.lconst 0, 1) := by decide +kernel
theorem dX12_write_31 : decode cX12_write 31 = .ok (.aload_n 0, 1) := by decide +kernel
theorem dX12_write_32 : decode cX12_write 32 = .ok (.getfield 13, 3) := by decide +kernel
theorem dX12_write_35 : decode cX12_write 35 = .ok (.iload_n 1, 1) := by decide +kernel
theorem dX12_write_36 : decode cX12_write 36 = .ok (.iaload, 1) := by decide +kernel
theorem dX12_write_37 : decode cX12_write 37 = .ok (.iconst 1, 1) := by decide +kernel
theorem dX12_write_38 : decode cX12_write 38 = .ok (.isub, 1) := by decide +kernel
theorem dX12_write_39 : decode cX12_write 39 = .ok (.i2l, 1) := by decide +kernel
theorem dX12_write_40 : decode cX12_write 40 = .ok (.invokestatic 79, 3) := by decide +kernel
theorem dX12_write_43 : decode cX12_write 43 = .ok (.ifCond .ne 6, 3) := by decide +kernel
theorem dX12_write_49 : decode cX12_write 49 = .ok (.aload_n 0, 1) := by decide +kernel
theorem dX12_write_50 : decode cX12_write 50 = .ok (.getfield 16, 3) := by decide +kernel
theorem dX12_write_53 : decode cX12_write 53 = .ok (.bipush 60, 2) := by decide +kernel
theorem dX12_write_55 : decode cX12_write 55 = .ok (.iload_n 1, 1) := by decide +kernel
theorem dX12_write_56 : decode cX12_write 56 = .ok (.imul, 1) := by decide +kernel
theorem dX12_write_57 : decode cX12_write 57 = .ok (.iload_n 2, 1) := by decide +kernel
theorem dX12_write_58 : decode cX12_write 58 = .ok (.iadd, 1) := by decide +kernel
theorem dX12_write_59 : decode cX12_write 59 = .ok (.lload_n 3, 1) := by decide +kernel
theorem dX12_write_60 : decode cX12_write 60 = .ok (.aload_n 0, 1) := by decide +kernel
theorem dX12_write_61 : decode cX12_write 61 = .ok (.getfield 7, 3) := by decide +kernel
theorem dX12_write_64 : decode cX12_write 64 = .ok (.iload_n 1, 1) := by decide +kernel
theorem dX12_write_65 : decode cX12_write 65 = .ok (.iaload, 1) := by decide +kernel
theorem dX12_write_66 : decode cX12_write 66 = .ok (.invokestatic 87, 3) := by decide +kernel
theorem dX12_write_69 : decode cX12_write 69 = .ok (.lastore, 1) := by decide +kernel
theorem dX12_write_70 : decode cX12_write 70 = .ok (.iconst 0, 1) := by decide +kernel
theorem dX12_write_71 : decode cX12_write 71 = .ok (.ireturn, 1) := by decide +kernel
theorem dX12_write_46 : decode cX12_write 46 = .ok (.bipush (-7), 2) := by decide +kernel
theorem dX12_write_48 : decode cX12_write 48 = .ok (.ireturn, 1) := by decide +kernel
theorem dX12_write_25 : decode cX12_write 25 = .ok (.bipush (-6), 2) := by decide +kernel
theorem dX12_write_27 : decode cX12_write 27 = .ok (.ireturn, 1) := by decide +kernel
theorem dX12_write_12 : decode cX12_write 12 = .ok (.bipush (-2), 2) := by decide +kernel
theorem dX12_write_14 : decode cX12_write 14 = .ok (.ireturn, 1) := by decide +kernel
theorem dX12_paste_0 : decode cX12_paste 0 = .ok (.aload_n 0, 1) := by decide +kernel
theorem dX12_paste_1 : decode cX12_paste 1 = .ok (.iconst 0, 1) := by decide +kernel
theorem dX12_paste_2 : decode cX12_paste 2 = .ok (.putfield 74, 3) := by decide +kernel
theorem dX12_paste_5 : decode cX12_paste 5 = .ok (.iload_n 1, 1) := by decide +kernel
theorem dX12_paste_6 : decode cX12_paste 6 = .ok (.invokestatic 83, 3) := by decide +kernel
theorem dX12_paste_9 : decode cX12_paste 9 = .ok (.ifCond .eq 10, 3) := by decide +kernel
theorem dX12_paste_19 : decode cX12_paste 19 = .ok (.bipush (-2), 2) := by decide +kernel
theorem dX12_paste_21 : decode cX12_paste 21 = .ok (.ireturn, 1) := by decide +kernel
theorem dX12_paste_12 : decode cX12_paste 12 = .ok (.iload_n 3, 1) := by decide +kernel
theorem dX12_paste_13 : decode cX12_paste 13 = .ok (.invokestatic 83, 3) := by decide +kernel
theorem dX12_paste_16 : decode cX12_paste 16 = .ok (.ifCond .ne 6, 3) := by decide +kernel
theorem dX12_paste_22 : decode cX12_paste 22 = .ok (.aload_n 0, 1) := by decide +kernel
theorem dX12_paste_23 : decode cX12_paste 23 = .ok (.getfield 7, 3) := by decide +kernel
theorem dX12_paste_26 : decode cX12_paste 26 = .ok (.iload_n 1, 1) := by decide +kernel
theorem dX12_paste_27 : decode cX12_paste 27 = .ok (.iaload, 1) := by decide +kernel
theorem dX12_paste_28 : decode cX12_paste 28 = .ok (.iconst (-1), 1) := by decide +kernel
theorem dX12_paste_29 : decode cX12_paste 29 = .ok (.if_icmp .eq 13, 3) := by decide +kernel
theorem dX12_paste_42 : decode cX12_paste 42 = .ok (.bipush (-6), 2) := by decide +kernel
theorem dX12_paste_44 : decode cX12_paste 44 = .ok (.ireturn, 1) := by decide +kernel
theorem dX12_paste_32 : decode cX12_paste 32 = .ok (.aload_n 0, 1) := by decide +kernel
theorem dX12_paste_33 : decode cX12_paste 33 = .ok (.getfield 7, 3) := by decide +kernel
theorem dX12_paste_36 : decode cX12_paste 36 = .ok (.iload_n 3, 1) := by decide +kernel
theorem dX12_paste_37 : decode cX12_paste 37 = .ok (.iaload, 1) := by decide +kernel
theorem dX12_paste_38 : decode cX12_paste 38 = .ok (.iconst (-1), 1) := by decide +kernel
theorem dX12_paste_39 : decode cX12_paste 39 = .ok (.if_icmp .ne 6, 3) := by decide +kernel
theorem dX12_paste_45 : decode cX12_paste 45 = .ok (.aload_n 0, 1) := by decide +kernel
theorem dX12_paste_46 : decode cX12_paste 46 = .ok (.getfield 7, 3) := by decide +kernel
theorem dX12_paste_49 : decode cX12_paste 49 = .ok (.iload_n 1, 1) := by decide +kernel
theorem dX12_paste_50 : decode cX12_paste 50 = .ok (.iaload, 1) := by decide +kernel
theorem dX12_paste_51 : decode cX12_paste 51 = .ok (.aload_n 0, 1) := by decide +kernel
theorem dX12_paste_52 : decode cX12_paste 52 = .ok (.getfield 7, 3) := by decide +kernel
theorem dX12_paste_55 : decode cX12_paste 55 = .ok (.iload_n 3, 1) := by decide +kernel
theorem dX12_paste_56 : decode cX12_paste 56 = .ok (.iaload, 1) := by decide +kernel
theorem dX12_paste_57 : decode cX12_paste 57 = .ok (.if_icmp .eq 6, 3) := by decide +kernel
theorem dX12_paste_63 : decode cX12_paste 63 = .ok (.iload_n 2, 1) := by decide +kernel
theorem dX12_paste_64 : decode cX12_paste 64 = .ok (.ifCond .lt 48, 3) := by decide +kernel
theorem dX12_paste_112 : decode cX12_paste 112 = .ok (.bipush (-7), 2) := by decide +kernel
theorem dX12_paste_114 : decode cX12_paste 114 = .ok (.ireturn, 1) := by decide +kernel
theorem dX12_paste_67 : decode cX12_paste 67 = .ok (.iload 4, 2) := by decide +kernel
theorem dX12_paste_69 : decode cX12_paste 69 = .ok (.ifCond .lt 43, 3) := by decide +kernel
theorem dX12_paste_72 : decode cX12_paste 72 = .ok (.iload 5, 2) := by decide +kernel
theorem dX12_paste_74 : decode cX12_paste 74 = .ok (.ifCond .lt 38, 3) := by decide +kernel
theorem dX12_paste_77 : decode cX12_paste 77 = .ok (.iload_n 2, 1) := by decide +kernel
theorem dX12_paste_78 : decode cX12_paste 78 = .ok (.i2l, 1) := by decide +kernel
theorem dX12_paste_79 : decode cX12_paste 79 = .ok (.iload 5, 2) := by decide +kernel
theorem dX12_paste_81 : decode cX12_paste 81 = .ok (.i2l, 1) := by decide +kernel
theorem dX12_paste_82 : decode cX12_paste 82 = .ok (.ladd, 1) := by decide +kernel
theorem dX12_paste_83 : decode cX12_paste 83 = .ok (.aload_n 0, 1) := by decide +kernel
theorem dX12_paste_84 : decode cX12_paste 84 = .ok (.getfield 13, 3) := by decide +kernel
theorem dX12_paste_87 : decode cX12_paste 87 = .ok (.iload_n 1, 1) := by decide +kernel
theorem dX12_paste_88 : decode cX12_paste 88 = .ok (.iaload, 1) := by decide +kernel
theorem dX12_paste_89 : decode cX12_paste 89 = .ok (.i2l, 1) := by decide +kernel
theorem dX12_paste_90 : decode cX12_paste 90 = .ok (.lcmp, 1) := by decide +kernel
theorem dX12_paste_91 : decode cX12_paste 91 = .ok (.ifCond .gt 21, 3) := by decide +kernel
theorem dX12_paste_94 : decode cX12_paste 94 = .ok (.iload 4, 2) := by decide +kernel
theorem dX12_paste_96 : decode cX12_paste 96 = .ok (.i2l, 1) := by decide +kernel
theorem dX12_paste_97 : decode cX12_paste 97 = .ok (.iload 5, 2) := by decide +kernel
theorem dX12_paste_99 : decode cX12_paste 99 = .ok (.i2l, 1) := by decide +kernel
theorem dX12_paste_100 : decode cX12_paste 100 = .ok (.ladd, 1) := by decide +kernel
theorem dX12_paste_101 : decode cX12_paste 101 = .ok (.aload_n 0, 1) := by decide +kernel
theorem dX12_paste_102 : decode cX12_paste 102 = .ok (.getfield 13, 3) := by decide +kernel
theorem dX12_paste_105 : decode cX12_paste 105 = .ok (.iload_n 3, 1) := by decide +kernel
theorem dX12_paste_106 : decode cX12_paste 106 = .ok (.iaload, 1) := by decide +kernel
theorem dX12_paste_107 : decode cX12_paste 107 = .ok (.i2l, 1) := by decide +kernel
theorem dX12_paste_108 : decode cX12_paste 108 = .ok (.lcmp, 1) := by decide +kernel
theorem dX12_paste_109 : decode cX12_paste 109 = .ok (.ifCond .le 6, 3) := by decide +kernel
theorem dX12_paste_115 : decode cX12_paste 115 = .ok (.iconst 0, 1) := by decide +kernel
theorem dX12_paste_116 : decode cX12_paste 116 = .ok (.istore 6, 2) := by decide +kernel
theorem dX12_paste_118 : decode cX12_paste 118 = .ok (.iload 6, 2) := by decide +kernel
theorem dX12_paste_120 : decode cX12_paste 120 = .ok (.iload 5, 2) := by decide +kernel
theorem dX12_paste_122 : decode cX12_paste 122 = .ok (.if_icmp .ge 30, 3) := by decide +kernel
theorem dX12_paste_152 : decode cX12_paste 152 = .ok (.iconst 0, 1) := by decide +kernel
theorem dX12_paste_153 : decode cX12_paste 153 = .ok (.istore 6, 2) := by decide +kernel
theorem dX12_paste_155 : decode cX12_paste 155 = .ok (.iload 6, 2) := by decide +kernel
theorem dX12_paste_157 : decode cX12_paste 157 = .ok (.iload 5, 2) := by decide +kernel
theorem dX12_paste_159 : decode cX12_paste 159 = .ok (.if_icmp .ge 31, 3) := by decide +kernel
theorem dX12_paste_190 : decode cX12_paste 190 = .ok (.iconst 0, 1) := by decide +kernel
theorem dX12_paste_191 : decode cX12_paste 191 = .ok (.ireturn, 1) := by decide +kernel
theorem dX12_paste_125 : decode cX12_paste 125 = .ok (.aload_n 0, 1) := by decide +kernel
theorem dX12_paste_126 : decode cX12_paste 126 = .ok (.getfield 20, 3) := by decide +kernel
theorem dX12_paste_129 : decode cX12_paste 129 = .ok (.iload 6, 2) := by decide +kernel
theorem dX12_paste_131 : decode cX12_paste 131 = .ok (.aload_n 0, 1) := by decide +kernel
theorem dX12_paste_132 : decode cX12_paste 132 = .ok (.getfield 16, 3) := by decide +kernel
theorem dX12_paste_135 : decode cX12_paste 135 = .ok (.bipush 60, 2) := by decide +kernel
theorem dX12_paste_137 : decode cX12_paste 137 = .ok (.iload_n 1, 1) := by decide +kernel
theorem dX12_paste_138 : decode cX12_paste 138 = .ok (.imul, 1) := by decide +kernel
theorem dX12_paste_139 : decode cX12_paste 139 = .ok (.iload_n 2, 1) := by decide +kernel
theorem dX12_paste_140 : decode cX12_paste 140 = .ok (.iadd, 1) := by decide +kernel
theorem dX12_paste_141 : decode cX12_paste 141 = .ok (.iload 6, 2) := by decide +kernel
theorem dX12_paste_143 : decode cX12_paste 143 = .ok (.iadd, 1) := by decide +kernel
theorem dX12_paste_144 : decode cX12_paste 144 = .ok (.laload, 1) := by decide +kernel
theorem dX12_paste_145 : decode cX12_paste 145 = .ok (.lastore, 1) := by decide +kernel
theorem dX12_paste_146 : decode cX12_paste 146 = .ok (.iinc 6 1, 3) := by decide +kernel
theorem dX12_paste_149 : decode cX12_paste 149 = .ok (.goto (-31), 3) := by decide +kernel
theorem dX12_paste_162 : decode cX12_paste 162 = .ok (.aload_n 0, 1) := by decide +kernel
theorem dX12_paste_163 : decode cX12_paste 163 = .ok (.getfield 16, 3) := by decide +kernel
theorem dX12_paste_166 : decode cX12_paste 166 = .ok (.bipush 60, 2) := by decide +kernel
theorem dX12_paste_168 : decode cX12_paste 168 = .ok (.iload_n 3, 1) := by decide +kernel
theorem dX12_paste_169 : decode cX12_paste 169 = .ok (.imul, 1) := by decide +kernel
theorem dX12_paste_170 : decode cX12_paste 170 = .ok (.iload 4, 2) := by decide +kernel
theorem dX12_paste_172 : decode cX12_paste 172 = .ok (.iadd, 1) := by decide +kernel
theorem dX12_paste_173 : decode cX12_paste 173 = .ok (.iload 6, 2) := by decide +kernel
theorem dX12_paste_175 : decode cX12_paste 175 = .ok (.iadd, 1) := by decide +kernel
theorem dX12_paste_176 : decode cX12_paste 176 = .ok (.aload_n 0, 1) := by decide +kernel
theorem dX12_paste_177 : decode cX12_paste 177 = .ok (.getfield 20, 3) := by decide +kernel
theorem dX12_paste_180 : decode cX12_paste 180 = .ok (.iload 6, 2) := by decide +kernel
theorem dX12_paste_182 : decode cX12_paste 182 = .ok (.laload, 1) := by decide +kernel
theorem dX12_paste_183 : decode cX12_paste 183 = .ok (.lastore, 1) := by decide +kernel
theorem dX12_paste_184 : decode cX12_paste 184 = .ok (.iinc 6 1, 3) := by decide +kernel
theorem dX12_paste_187 : decode cX12_paste 187 = .ok (.goto (-32), 3) := by decide +kernel
theorem dX12_paste_60 : decode cX12_paste 60 = .ok (.bipush (-8), 2) := by decide +kernel
theorem dX12_paste_62 : decode cX12_paste 62 = .ok (.ireturn, 1) := by decide +kernel
theorem dX12_lasts_0 : decode cX12_lasts 0 = .ok (.aload_n 0, 1) := by decide +kernel
theorem dX12_lasts_1 : decode cX12_lasts 1 = .ok (.iconst 0, 1) := by decide +kernel
theorem dX12_lasts_2 : decode cX12_lasts 2 = .ok (.putfield 74, 3) := by decide +kernel
theorem dX12_lasts_5 : decode cX12_lasts 5 = .ok (.aload_n 0, 1) := by decide +kernel
theorem dX12_lasts_6 : decode cX12_lasts 6 = .ok (.invokevirtual 250, 3) := by decide +kernel
theorem dX12_lasts_9 : decode cX12_lasts 9 = .ok (.ifCond .eq 15, 3) := by decide +kernel
theorem dX12_lasts_24 : decode cX12_lasts 24 = .ok (.bipush (-2), 2) := by decide +kernel
theorem dX12_lasts_26 : decode cX12_lasts 26 = .ok (.ireturn, 1) := by decide +kernel
theorem dX12_lasts_12 : decode cX12_lasts 12 = .ok (.iload_n 1, 1) := by decide +kernel
theorem dX12_lasts_13 : decode cX12_lasts 13 = .ok (.i2l, 1) := by decide +kernel
theorem dX12_lasts_14 : decode cX12_lasts 14 = .ok (.lconst 0, 1) := by decide +kernel
theorem dX12_lasts_15 : decode cX12_lasts 15 = .ok (.ldc2_w 282, 3) := by decide +kernel
theorem dX12_lasts_18 : decode cX12_lasts 18 = .ok (.invokestatic 79, 3) := by decide +kernel
theorem dX12_lasts_21 : decode cX12_lasts 21 = .ok (.ifCond .ne 6, 3) := by decide +kernel
theorem dX12_lasts_27 : decode cX12_lasts 27 = .ok (.iconst 1, 1) := by decide +kernel
theorem dX12_lasts_28 : decode cX12_lasts 28 = .ok (.istore_n 2, 1) := by decide +kernel
theorem dX12_lasts_29 : decode cX12_lasts 29 = .ok (.aload_n 0, 1) := by decide +kernel
theorem dX12_lasts_30 : decode cX12_lasts 30 = .ok (.iload_n 1, 1) := by decide +kernel
theorem dX12_lasts_31 : decode cX12_lasts 31 = .ok (.iload_n 2, 1) := by decide +kernel
theorem dX12_lasts_32 : decode cX12_lasts 32 = .ok (.iadd, 1) := by decide +kernel
theorem dX12_lasts_33 : decode cX12_lasts 33 = .ok (.invokevirtual 262, 3) := by decide +kernel
theorem dX12_lasts_36 : decode cX12_lasts 36 = .ok (.aload_n 0, 1) := by decide +kernel
theorem dX12_lasts_37 : decode cX12_lasts 37 = .ok (.iload_n 1, 1) := by decide +kernel
theorem dX12_lasts_38 : decode cX12_lasts 38 = .ok (.invokevirtual 262, 3) := by decide +kernel
theorem dX12_lasts_41 : decode cX12_lasts 41 = .ok (.if_icmp .ne 9, 3) := by decide +kernel
theorem dX12_lasts_50 : decode cX12_lasts 50 = .ok (.iload_n 2, 1) := by decide +kernel
theorem dX12_lasts_51 : decode cX12_lasts 51 = .ok (.ireturn, 1) := by decide +kernel
theorem dX12_lasts_44 : decode cX12_lasts 44 = .ok (.iinc 2 1, 3) := by decide +kernel
theorem dX12_lasts_47 : decode cX12_lasts 47 = .ok (.goto (-18), 3) := by decide +kernel
theorem dX12_pushOf_0 : decode cX12_pushOf 0 = .ok (.aload_n 0, 1) := by decide +kernel
theorem dX12_pushOf_1 : decode cX12_pushOf 1 = .ok (.iload_n 2, 1) := by decide +kernel
theorem dX12_pushOf_2 : decode cX12_pushOf 2 = .ok (.invokevirtual 355, 3) := by decide +kernel
theorem dX12_pushOf_5 : decode cX12_pushOf 5 = .ok (.aload_n 0, 1) := by decide +kernel
theorem dX12_pushOf_6 : decode cX12_pushOf 6 = .ok (.getfield 62, 3) := by decide +kernel
theorem dX12_pushOf_9 : decode cX12_pushOf 9 = .ok (.aload_n 0, 1) := by decide +kernel
theorem dX12_pushOf_10 : decode cX12_pushOf 10 = .ok (.iload_n 1, 1) := by decide +kernel
theorem dX12_pushOf_11 : decode cX12_pushOf 11 = .ok (.invokevirtual 358, 3) := by decide +kernel
theorem dX12_pushOf_14 : decode cX12_pushOf 14 = .ok (.iaload, 1) := by decide +kernel
theorem dX12_pushOf_15 : decode cX12_pushOf 15 = .ok (.ldc 124, 2) := by decide +kernel
theorem dX12_pushOf_17 : decode cX12_pushOf 17 = .ok (.if_icmp .lt 5, 3) := by decide +kernel
theorem dX12_pushOf_22 : decode cX12_pushOf 22 = .ok (.aload_n 0, 1) := by decide +kernel
theorem dX12_pushOf_23 : decode cX12_pushOf 23 = .ok (.getfield 40, 3) := by decide +kernel
theorem dX12_pushOf_26 : decode cX12_pushOf 26 = .ok (.iconst 3, 1) := by decide +kernel
theorem dX12_pushOf_27 : decode cX12_pushOf 27 = .ok (.iload_n 1, 1) := by decide +kernel
theorem dX12_pushOf_28 : decode cX12_pushOf 28 = .ok (.imul, 1) := by decide +kernel
theorem dX12_pushOf_29 : decode cX12_pushOf 29 = .ok (.iconst 1, 1) := by decide +kernel
theorem dX12_pushOf_30 : decode cX12_pushOf 30 = .ok (.iadd, 1) := by decide +kernel
theorem dX12_pushOf_31 : decode cX12_pushOf 31 = .ok (.iaload, 1) := by decide +kernel
theorem dX12_pushOf_32 : decode cX12_pushOf 32 = .ok (.istore 4, 2) := by decide +kernel
theorem dX12_pushOf_34 : decode cX12_pushOf 34 = .ok (.iconst 0, 1) := by decide +kernel
theorem dX12_pushOf_35 : decode cX12_pushOf 35 = .ok (.istore 5, 2) := by decide +kernel
theorem dX12_pushOf_37 : decode cX12_pushOf 37 = .ok (.aload_n 0, 1) := by decide +kernel
theorem dX12_pushOf_38 : decode cX12_pushOf 38 = .ok (.getfield 40, 3) := by decide +kernel
theorem dX12_pushOf_41 : decode cX12_pushOf 41 = .ok (.iconst 3, 1) := by decide +kernel
theorem dX12_pushOf_42 : decode cX12_pushOf 42 = .ok (.iload_n 1, 1) := by decide +kernel
theorem dX12_pushOf_43 : decode cX12_pushOf 43 = .ok (.imul, 1) := by decide +kernel
theorem dX12_pushOf_44 : decode cX12_pushOf 44 = .ok (.iconst 2, 1) := by decide +kernel
theorem dX12_pushOf_45 : decode cX12_pushOf 45 = .ok (.iadd, 1) := by decide +kernel
theorem dX12_pushOf_46 : decode cX12_pushOf 46 = .ok (.iaload, 1) := by decide +kernel
theorem dX12_pushOf_47 : decode cX12_pushOf 47 = .ok (.istore 6, 2) := by decide +kernel
theorem dX12_pushOf_49 : decode cX12_pushOf 49 = .ok (.aload_n 0, 1) := by decide +kernel
theorem dX12_pushOf_50 : decode cX12_pushOf 50 = .ok (.getfield 62, 3) := by decide +kernel
theorem dX12_pushOf_53 : decode cX12_pushOf 53 = .ok (.bipush 12, 2) := by decide +kernel
theorem dX12_pushOf_55 : decode cX12_pushOf 55 = .ok (.iload 6, 2) := by decide +kernel
theorem dX12_pushOf_57 : decode cX12_pushOf 57 = .ok (.imul, 1) := by decide +kernel
theorem dX12_pushOf_58 : decode cX12_pushOf 58 = .ok (.iload 4, 2) := by decide +kernel
theorem dX12_pushOf_60 : decode cX12_pushOf 60 = .ok (.iadd, 1) := by decide +kernel
theorem dX12_pushOf_61 : decode cX12_pushOf 61 = .ok (.iaload, 1) := by decide +kernel
theorem dX12_pushOf_62 : decode cX12_pushOf 62 = .ok (.ifCond .le 127, 3) := by decide +kernel
theorem dX12_pushOf_189 : decode cX12_pushOf 189 = .ok (.iconst (-1), 1) := by decide +kernel
theorem dX12_pushOf_190 : decode cX12_pushOf 190 = .ok (.ireturn, 1) := by decide +kernel
theorem dX12_pushOf_65 : decode cX12_pushOf 65 = .ok (.aload_n 0, 1) := by decide +kernel
theorem dX12_pushOf_66 : decode cX12_pushOf 66 = .ok (.iconst 0, 1) := by decide +kernel
theorem dX12_pushOf_67 : decode cX12_pushOf 67 = .ok (.putfield 361, 3) := by decide +kernel
theorem dX12_pushOf_70 : decode cX12_pushOf 70 = .ok (.iconst 2, 1) := by decide +kernel
theorem dX12_pushOf_71 : decode cX12_pushOf 71 = .ok (.istore 7, 2) := by decide +kernel
theorem dX12_pushOf_73 : decode cX12_pushOf 73 = .ok (.iload 7, 2) := by decide +kernel
theorem dX12_pushOf_75 : decode cX12_pushOf 75 = .ok (.ifCond .le 42, 3) := by decide +kernel
theorem dX12_pushOf_78 : decode cX12_pushOf 78 = .ok (.aload_n 0, 1) := by decide +kernel
theorem dX12_pushOf_79 : decode cX12_pushOf 79 = .ok (.iload 6, 2) := by decide +kernel
theorem dX12_pushOf_81 : decode cX12_pushOf 81 = .ok (.iload 4, 2) := by decide +kernel
theorem dX12_pushOf_83 : decode cX12_pushOf 83 = .ok (.iload 7, 2) := by decide +kernel
theorem dX12_pushOf_85 : decode cX12_pushOf 85 = .ok (.iload_n 2, 1) := by decide +kernel
theorem dX12_pushOf_86 : decode cX12_pushOf 86 = .ok (.invokevirtual 348, 3) := by decide +kernel
theorem dX12_pushOf_89 : decode cX12_pushOf 89 = .ok (.aload_n 0, 1) := by decide +kernel
theorem dX12_pushOf_90 : decode cX12_pushOf 90 = .ok (.getfield 62, 3) := by decide +kernel
theorem dX12_pushOf_93 : decode cX12_pushOf 93 = .ok (.bipush 12, 2) := by decide +kernel
theorem dX12_pushOf_95 : decode cX12_pushOf 95 = .ok (.iload 6, 2) := by decide +kernel
theorem dX12_pushOf_97 : decode cX12_pushOf 97 = .ok (.imul, 1) := by decide +kernel
theorem dX12_pushOf_98 : decode cX12_pushOf 98 = .ok (.iload 4, 2) := by decide +kernel
theorem dX12_pushOf_100 : decode cX12_pushOf 100 = .ok (.iadd, 1) := by decide +kernel
theorem dX12_pushOf_101 : decode cX12_pushOf 101 = .ok (.iaload, 1) := by decide +kernel
theorem dX12_pushOf_102 : decode cX12_pushOf 102 = .ok (.if_icmp .ne 9, 3) := by decide +kernel
theorem dX12_pushOf_111 : decode cX12_pushOf 111 = .ok (.iinc 7 (-1), 3) := by decide +kernel
theorem dX12_pushOf_114 : decode cX12_pushOf 114 = .ok (.goto (-41), 3) := by decide +kernel
theorem dX12_pushOf_117 : decode cX12_pushOf 117 = .ok (.aload_n 0, 1) := by decide +kernel
theorem dX12_pushOf_118 : decode cX12_pushOf 118 = .ok (.getfield 361, 3) := by decide +kernel
theorem dX12_pushOf_121 : decode cX12_pushOf 121 = .ok (.ifCond .le 12, 3) := by decide +kernel
theorem dX12_pushOf_133 : decode cX12_pushOf 133 = .ok (.iload 5, 2) := by decide +kernel
theorem dX12_pushOf_135 : decode cX12_pushOf 135 = .ok (.aload_n 0, 1) := by decide +kernel
theorem dX12_pushOf_136 : decode cX12_pushOf 136 = .ok (.getfield 361, 3) := by decide +kernel
theorem dX12_pushOf_139 : decode cX12_pushOf 139 = .ok (.ifCond .le 7, 3) := by decide +kernel
theorem dX12_pushOf_146 : decode cX12_pushOf 146 = .ok (.iconst 0, 1) := by decide +kernel
theorem dX12_pushOf_147 : decode cX12_pushOf 147 = .ok (.iadd, 1) := by decide +kernel
theorem dX12_pushOf_148 : decode cX12_pushOf 148 = .ok (.istore 5, 2) := by decide +kernel
theorem dX12_pushOf_150 : decode cX12_pushOf 150 = .ok (.aload_n 0, 1) := by decide +kernel
theorem dX12_pushOf_151 : decode cX12_pushOf 151 = .ok (.aload_n 0, 1) := by decide +kernel
theorem dX12_pushOf_152 : decode cX12_pushOf 152 = .ok (.iload 4, 2) := by decide +kernel
theorem dX12_pushOf_154 : decode cX12_pushOf 154 = .ok (.aload_n 0, 1) := by decide +kernel
theorem dX12_pushOf_155 : decode cX12_pushOf 155 = .ok (.getfield 361, 3) := by decide +kernel
theorem dX12_pushOf_158 : decode cX12_pushOf 158 = .ok (.invokevirtual 305, 3) := by decide +kernel
theorem dX12_pushOf_161 : decode cX12_pushOf 161 = .ok (.iload 6, 2) := by decide +kernel
theorem dX12_pushOf_163 : decode cX12_pushOf 163 = .ok (.invokevirtual 286, 3) := by decide +kernel
theorem dX12_pushOf_166 : decode cX12_pushOf 166 = .ok (.istore 7, 2) := by decide +kernel
theorem dX12_pushOf_168 : decode cX12_pushOf 168 = .ok (.aload_n 0, 1) := by decide +kernel
theorem dX12_pushOf_169 : decode cX12_pushOf 169 = .ok (.iload 7, 2) := by decide +kernel
theorem dX12_pushOf_171 : decode cX12_pushOf 171 = .ok (.invokevirtual 273, 3) := by decide +kernel
theorem dX12_pushOf_174 : decode cX12_pushOf 174 = .ok (.ifCond .eq 5, 3) := by decide +kernel
theorem dX12_pushOf_179 : decode cX12_pushOf 179 = .ok (.iload 7, 2) := by decide +kernel
theorem dX12_pushOf_181 : decode cX12_pushOf 181 = .ok (.istore 4, 2) := by decide +kernel
theorem dX12_pushOf_183 : decode cX12_pushOf 183 = .ok (.iinc 6 1, 3) := by decide +kernel
theorem dX12_pushOf_186 : decode cX12_pushOf 186 = .ok (.goto (-137), 3) := by decide +kernel
theorem dX12_pushOf_177 : decode cX12_pushOf 177 = .ok (.iconst (-1), 1) := by decide +kernel
theorem dX12_pushOf_178 : decode cX12_pushOf 178 = .ok (.ireturn, 1) := by decide +kernel
theorem dX12_pushOf_105 : decode cX12_pushOf 105 = .ok (.aload_n 0, 1) := by decide +kernel
theorem dX12_pushOf_106 : decode cX12_pushOf 106 = .ok (.iload 7, 2) := by decide +kernel
theorem dX12_pushOf_108 : decode cX12_pushOf 108 = .ok (.putfield 361, 3) := by decide +kernel
theorem dX12_pushOf_124 : decode cX12_pushOf 124 = .ok (.iload 5, 2) := by decide +kernel
theorem dX12_pushOf_126 : decode cX12_pushOf 126 = .ok (.iload_n 3, 1) := by decide +kernel
theorem dX12_pushOf_127 : decode cX12_pushOf 127 = .ok (.if_icmp .ne 6, 3) := by decide +kernel
theorem dX12_pushOf_142 : decode cX12_pushOf 142 = .ok (.iconst 1, 1) := by decide +kernel
theorem dX12_pushOf_143 : decode cX12_pushOf 143 = .ok (.goto 4, 3) := by decide +kernel
theorem dX12_pushOf_130 : decode cX12_pushOf 130 = .ok (.iload 6, 2) := by decide +kernel
theorem dX12_pushOf_132 : decode cX12_pushOf 132 = .ok (.ireturn, 1) := by decide +kernel
theorem dX12_pushOf_20 : decode cX12_pushOf 20 = .ok (.iconst (-1), 1) := by decide +kernel
theorem dX12_pushOf_21 : decode cX12_pushOf 21 = .ok (.ireturn, 1) := by decide +kernel
theorem dX12_push_0 : decode cX12_push 0 = .ok (.aload_n 0, 1) := by decide +kernel
theorem dX12_push_1 : decode cX12_push 1 = .ok (.iconst 0, 1) := by decide +kernel
theorem dX12_push_2 : decode cX12_push 2 = .ok (.putfield 74, 3) := by decide +kernel
theorem dX12_push_5 : decode cX12_push 5 = .ok (.aload_n 0, 1) := by decide +kernel
theorem dX12_push_6 : decode cX12_push 6 = .ok (.iload_n 1, 1) := by decide +kernel
theorem dX12_push_7 : decode cX12_push 7 = .ok (.iload_n 2, 1) := by decide +kernel
theorem dX12_push_8 : decode cX12_push 8 = .ok (.invokevirtual 352, 3) := by decide +kernel
theorem dX12_push_11 : decode cX12_push 11 = .ok (.ifCond .eq 13, 3) := by decide +kernel
theorem dX12_push_24 : decode cX12_push 24 = .ok (.bipush (-2), 2) := by decide +kernel
theorem dX12_push_26 : decode cX12_push 26 = .ok (.ireturn, 1) := by decide +kernel
theorem dX12_push_14 : decode cX12_push 14 = .ok (.aload_n 0, 1) := by decide +kernel
theorem dX12_push_15 : decode cX12_push 15 = .ok (.iload_n 1, 1) := by decide +kernel
theorem dX12_push_16 : decode cX12_push 16 = .ok (.iload_n 2, 1) := by decide +kernel
theorem dX12_push_17 : decode cX12_push 17 = .ok (.iload_n 3, 1) := by decide +kernel
theorem dX12_push_18 : decode cX12_push 18 = .ok (.invokevirtual 364, 3) := by decide +kernel
theorem dX12_push_21 : decode cX12_push 21 = .ok (.goto 5, 3) := by decide +kernel
theorem dX12_way_0 : decode cX12_way 0 = .ok (.aload_n 0, 1) := by decide +kernel
theorem dX12_way_1 : decode cX12_way 1 = .ok (.iconst 0, 1) := by decide +kernel
theorem dX12_way_2 : decode cX12_way 2 = .ok (.putfield 74, 3) := by decide +kernel
theorem dX12_way_5 : decode cX12_way 5 = .ok (.aload_n 0, 1) := by decide +kernel
theorem dX12_way_6 : decode cX12_way 6 = .ok (.iload_n 1, 1) := by decide +kernel
theorem dX12_way_7 : decode cX12_way 7 = .ok (.iload_n 2, 1) := by decide +kernel
theorem dX12_way_8 : decode cX12_way 8 = .ok (.invokevirtual 352, 3) := by decide +kernel
theorem dX12_way_11 : decode cX12_way 11 = .ok (.ifCond .ne 6, 3) := by decide +kernel
theorem dX12_way_17 : decode cX12_way 17 = .ok (.aload_n 0, 1) := by decide +kernel
theorem dX12_way_18 : decode cX12_way 18 = .ok (.iload_n 1, 1) := by decide +kernel
theorem dX12_way_19 : decode cX12_way 19 = .ok (.iload_n 2, 1) := by decide +kernel
theorem dX12_way_20 : decode cX12_way 20 = .ok (.iload_n 3, 1) := by decide +kernel
theorem dX12_way_21 : decode cX12_way 21 = .ok (.invokevirtual 364, 3) := by decide +kernel
theorem dX12_way_24 : decode cX12_way 24 = .ok (.iconst (-1), 1) := by decide +kernel
theorem dX12_way_25 : decode cX12_way 25 = .ok (.if_icmp .ne 7, 3) := by decide +kernel
theorem dX12_way_32 : decode cX12_way 32 = .ok (.aload_n 0, 1) := by decide +kernel
theorem dX12_way_33 : decode cX12_way 33 = .ok (.getfield 361, 3) := by decide +kernel
theorem dX12_way_36 : decode cX12_way 36 = .ok (.iconst 1, 1) := by decide +kernel
theorem dX12_way_37 : decode cX12_way 37 = .ok (.isub, 1) := by decide +kernel
theorem dX12_way_38 : decode cX12_way 38 = .ok (.ireturn, 1) := by decide +kernel
theorem dX12_way_28 : decode cX12_way 28 = .ok (.iconst (-1), 1) := by decide +kernel
theorem dX12_way_29 : decode cX12_way 29 = .ok (.goto 9, 3) := by decide +kernel
theorem dX12_way_14 : decode cX12_way 14 = .ok (.bipush (-2), 2) := by decide +kernel
theorem dX12_way_16 : decode cX12_way 16 = .ok (.ireturn, 1) := by decide +kernel
theorem q1590 : Cond.constantLong "EbbWreckModel" 77 3 ∈ lw_g := mg (List.mem_of_getElem? (i := 1590) (by decide +kernel)) rfl
theorem q1593 : Cond.code ⟨"EbbWreckModel", "in", "(JJJ)Z"⟩ prog_14_method_3_code 6 (some .boolean) ∈ lw_g := mg (List.mem_of_getElem? (i := 1593) (by decide +kernel)) rfl
theorem q1592 : Cond.static ⟨"EbbWreckModel", "in", "(JJJ)Z"⟩ ∈ lw_g := mg (List.mem_of_getElem? (i := 1592) (by decide +kernel)) rfl
theorem q127 : Cond.initialized "EbbWreckModel" ∈ lw_g := mg (List.mem_of_getElem? (i := 127) (by decide +kernel)) rfl
theorem q1591 : Cond.methodLink "EbbWreckModel" 79 ⟨"EbbWreckModel", "in", "(JJJ)Z"⟩ ∈ lw_g := mg (List.mem_of_getElem? (i := 1591) (by decide +kernel)) rfl
theorem q1484 : Cond.fieldLink "EbbWreckModel" 31 "EbbWreckModel" "lines" "[I" ∈ lw_g := mg (List.mem_of_getElem? (i := 1484) (by decide +kernel)) rfl
theorem q1485 : Cond.fieldLink "EbbWreckModel" 34 "EbbWreckModel" "has" "[I" ∈ lw_g := mg (List.mem_of_getElem? (i := 1485) (by decide +kernel)) rfl
theorem q1785 : Cond.code ⟨"EbbWreckModel", "isShore", "()Z"⟩ prog_14_method_39_code 1 (some .boolean) ∈ lw_g := mg (List.mem_of_getElem? (i := 1785) (by decide +kernel)) rfl
theorem q1784 : Cond.instanceMethod ⟨"EbbWreckModel", "isShore", "()Z"⟩ ∈ lw_g := mg (List.mem_of_getElem? (i := 1784) (by decide +kernel)) rfl
theorem q76 : Cond.selects "EbbWreckModel" ⟨"EbbWreckModel", "isShore", "()Z"⟩ ⟨"EbbWreckModel", "isShore", "()Z"⟩ ∈ lw_g := mg (List.mem_of_getElem? (i := 76) (by decide +kernel)) rfl
theorem q1782 : Cond.methodLink "EbbWreckModel" 250 ⟨"EbbWreckModel", "isShore", "()Z"⟩ ∈ lw_g := mg (List.mem_of_getElem? (i := 1782) (by decide +kernel)) rfl
theorem q1878 : Cond.constantLong "EbbWreckModel" 253 5 ∈ lw_g := mg (List.mem_of_getElem? (i := 1878) (by decide +kernel)) rfl
theorem q1761 : Cond.code ⟨"EbbWreckModel", "isBit", "(II)Z"⟩ prog_14_method_45_code 2 (some .boolean) ∈ lw_g := mg (List.mem_of_getElem? (i := 1761) (by decide +kernel)) rfl
theorem q1760 : Cond.static ⟨"EbbWreckModel", "isBit", "(II)Z"⟩ ∈ lw_g := mg (List.mem_of_getElem? (i := 1760) (by decide +kernel)) rfl
theorem q1759 : Cond.methodLink "EbbWreckModel" 255 ⟨"EbbWreckModel", "isBit", "(II)Z"⟩ ∈ lw_g := mg (List.mem_of_getElem? (i := 1759) (by decide +kernel)) rfl
theorem q1487 : Cond.fieldLink "EbbWreckModel" 40 "EbbWreckModel" "thing" "[I" ∈ lw_g := mg (List.mem_of_getElem? (i := 1487) (by decide +kernel)) rfl
theorem q1794 : Cond.code ⟨"EbbWreckModel", "round", "()I"⟩ prog_14_method_49_code 1 (some .int) ∈ lw_g := mg (List.mem_of_getElem? (i := 1794) (by decide +kernel)) rfl
theorem q1793 : Cond.instanceMethod ⟨"EbbWreckModel", "round", "()I"⟩ ∈ lw_g := mg (List.mem_of_getElem? (i := 1793) (by decide +kernel)) rfl
theorem q78 : Cond.selects "EbbWreckModel" ⟨"EbbWreckModel", "round", "()I"⟩ ⟨"EbbWreckModel", "round", "()I"⟩ ∈ lw_g := mg (List.mem_of_getElem? (i := 78) (by decide +kernel)) rfl
theorem q1791 : Cond.methodLink "EbbWreckModel" 259 ⟨"EbbWreckModel", "round", "()I"⟩ ∈ lw_g := mg (List.mem_of_getElem? (i := 1791) (by decide +kernel)) rfl
theorem q1790 : Cond.code ⟨"EbbWreckModel", "phaseOf", "(I)I"⟩ prog_14_method_50_code 3 (some .int) ∈ lw_g := mg (List.mem_of_getElem? (i := 1790) (by decide +kernel)) rfl
theorem q1789 : Cond.instanceMethod ⟨"EbbWreckModel", "phaseOf", "(I)I"⟩ ∈ lw_g := mg (List.mem_of_getElem? (i := 1789) (by decide +kernel)) rfl
theorem q77 : Cond.selects "EbbWreckModel" ⟨"EbbWreckModel", "phaseOf", "(I)I"⟩ ⟨"EbbWreckModel", "phaseOf", "(I)I"⟩ ∈ lw_g := mg (List.mem_of_getElem? (i := 77) (by decide +kernel)) rfl
theorem q1787 : Cond.methodLink "EbbWreckModel" 262 ⟨"EbbWreckModel", "phaseOf", "(I)I"⟩ ∈ lw_g := mg (List.mem_of_getElem? (i := 1787) (by decide +kernel)) rfl
theorem q1811 : Cond.code ⟨"EbbWreckModel", "held", "(I)I"⟩ prog_14_method_51_code 2 (some .int) ∈ lw_g := mg (List.mem_of_getElem? (i := 1811) (by decide +kernel)) rfl
theorem q1810 : Cond.instanceMethod ⟨"EbbWreckModel", "held", "(I)I"⟩ ∈ lw_g := mg (List.mem_of_getElem? (i := 1810) (by decide +kernel)) rfl
theorem q80 : Cond.selects "EbbWreckModel" ⟨"EbbWreckModel", "held", "(I)I"⟩ ⟨"EbbWreckModel", "held", "(I)I"⟩ ∈ lw_g := mg (List.mem_of_getElem? (i := 80) (by decide +kernel)) rfl
theorem q1808 : Cond.methodLink "EbbWreckModel" 265 ⟨"EbbWreckModel", "held", "(I)I"⟩ ∈ lw_g := mg (List.mem_of_getElem? (i := 1808) (by decide +kernel)) rfl
theorem q1486 : Cond.fieldLink "EbbWreckModel" 37 "EbbWreckModel" "current" "[I" ∈ lw_g := mg (List.mem_of_getElem? (i := 1486) (by decide +kernel)) rfl
theorem q1488 : Cond.fieldLink "EbbWreckModel" 43 "EbbWreckModel" "rule" "[I" ∈ lw_g := mg (List.mem_of_getElem? (i := 1488) (by decide +kernel)) rfl
theorem q1869 : Cond.code ⟨"EbbWreckModel", "stands", "(III)Z"⟩ prog_14_method_63_code 4 (some .boolean) ∈ lw_g := mg (List.mem_of_getElem? (i := 1869) (by decide +kernel)) rfl
theorem q1868 : Cond.instanceMethod ⟨"EbbWreckModel", "stands", "(III)Z"⟩ ∈ lw_g := mg (List.mem_of_getElem? (i := 1868) (by decide +kernel)) rfl
theorem q88 : Cond.selects "EbbWreckModel" ⟨"EbbWreckModel", "stands", "(III)Z"⟩ ⟨"EbbWreckModel", "stands", "(III)Z"⟩ ∈ lw_g := mg (List.mem_of_getElem? (i := 88) (by decide +kernel)) rfl
theorem q1866 : Cond.methodLink "EbbWreckModel" 312 ⟨"EbbWreckModel", "stands", "(III)Z"⟩ ∈ lw_g := mg (List.mem_of_getElem? (i := 1866) (by decide +kernel)) rfl
theorem q1494 : Cond.fieldLink "EbbWreckModel" 289 "EbbWreckModel" "lies" "I" ∈ lw_g := mg (List.mem_of_getElem? (i := 1494) (by decide +kernel)) rfl
theorem q1495 : Cond.fieldLink "EbbWreckModel" 292 "EbbWreckModel" "cameUp" "I" ∈ lw_g := mg (List.mem_of_getElem? (i := 1495) (by decide +kernel)) rfl
theorem q1493 : Cond.fieldLink "EbbWreckModel" 59 "EbbWreckModel" "pushed" "[I" ∈ lw_g := mg (List.mem_of_getElem? (i := 1493) (by decide +kernel)) rfl
theorem q1841 : Cond.code ⟨"EbbWreckModel", "shoved", "(II)I"⟩ prog_14_method_60_code 3 (some .int) ∈ lw_g := mg (List.mem_of_getElem? (i := 1841) (by decide +kernel)) rfl
theorem q1840 : Cond.instanceMethod ⟨"EbbWreckModel", "shoved", "(II)I"⟩ ∈ lw_g := mg (List.mem_of_getElem? (i := 1840) (by decide +kernel)) rfl
theorem q84 : Cond.selects "EbbWreckModel" ⟨"EbbWreckModel", "shoved", "(II)I"⟩ ⟨"EbbWreckModel", "shoved", "(II)I"⟩ ∈ lw_g := mg (List.mem_of_getElem? (i := 84) (by decide +kernel)) rfl
theorem q1838 : Cond.methodLink "EbbWreckModel" 305 ⟨"EbbWreckModel", "shoved", "(II)I"⟩ ∈ lw_g := mg (List.mem_of_getElem? (i := 1838) (by decide +kernel)) rfl
theorem q1807 : Cond.code ⟨"EbbWreckModel", "on", "(II)I"⟩ prog_14_method_52_code 4 (some .int) ∈ lw_g := mg (List.mem_of_getElem? (i := 1807) (by decide +kernel)) rfl
theorem q1806 : Cond.instanceMethod ⟨"EbbWreckModel", "on", "(II)I"⟩ ∈ lw_g := mg (List.mem_of_getElem? (i := 1806) (by decide +kernel)) rfl
theorem q79 : Cond.selects "EbbWreckModel" ⟨"EbbWreckModel", "on", "(II)I"⟩ ⟨"EbbWreckModel", "on", "(II)I"⟩ ∈ lw_g := mg (List.mem_of_getElem? (i := 79) (by decide +kernel)) rfl
theorem q1804 : Cond.methodLink "EbbWreckModel" 286 ⟨"EbbWreckModel", "on", "(II)I"⟩ ∈ lw_g := mg (List.mem_of_getElem? (i := 1804) (by decide +kernel)) rfl
theorem q1758 : Cond.code ⟨"EbbWreckModel", "isBeach", "(I)Z"⟩ prog_14_method_47_code 2 (some .boolean) ∈ lw_g := mg (List.mem_of_getElem? (i := 1758) (by decide +kernel)) rfl
theorem q1757 : Cond.instanceMethod ⟨"EbbWreckModel", "isBeach", "(I)Z"⟩ ∈ lw_g := mg (List.mem_of_getElem? (i := 1757) (by decide +kernel)) rfl
theorem q73 : Cond.selects "EbbWreckModel" ⟨"EbbWreckModel", "isBeach", "(I)Z"⟩ ⟨"EbbWreckModel", "isBeach", "(I)Z"⟩ ∈ lw_g := mg (List.mem_of_getElem? (i := 73) (by decide +kernel)) rfl
theorem q1755 : Cond.methodLink "EbbWreckModel" 273 ⟨"EbbWreckModel", "isBeach", "(I)Z"⟩ ∈ lw_g := mg (List.mem_of_getElem? (i := 1755) (by decide +kernel)) rfl
theorem q1833 : Cond.constantLong "EbbWreckModel" 295 1103515245 ∈ lw_g := mg (List.mem_of_getElem? (i := 1833) (by decide +kernel)) rfl
theorem q1834 : Cond.constantLong "EbbWreckModel" 297 12345 ∈ lw_g := mg (List.mem_of_getElem? (i := 1834) (by decide +kernel)) rfl
theorem q1835 : Cond.constantLong "EbbWreckModel" 299 2147483648 ∈ lw_g := mg (List.mem_of_getElem? (i := 1835) (by decide +kernel)) rfl
theorem q1836 : Cond.constantLong "EbbWreckModel" 301 65536 ∈ lw_g := mg (List.mem_of_getElem? (i := 1836) (by decide +kernel)) rfl
theorem q1837 : Cond.constantLong "EbbWreckModel" 303 100 ∈ lw_g := mg (List.mem_of_getElem? (i := 1837) (by decide +kernel)) rfl
theorem q1645 : Cond.constantLong "EbbWreckModel" 118 (-1) ∈ lw_g := mg (List.mem_of_getElem? (i := 1645) (by decide +kernel)) rfl
theorem q1832 : Cond.code ⟨"EbbWreckModel", "goes", "(IIJ)V"⟩ prog_14_method_61_code 8 none ∈ lw_g := mg (List.mem_of_getElem? (i := 1832) (by decide +kernel)) rfl
theorem q1831 : Cond.instanceMethod ⟨"EbbWreckModel", "goes", "(IIJ)V"⟩ ∈ lw_g := mg (List.mem_of_getElem? (i := 1831) (by decide +kernel)) rfl
theorem q83 : Cond.selects "EbbWreckModel" ⟨"EbbWreckModel", "goes", "(IIJ)V"⟩ ⟨"EbbWreckModel", "goes", "(IIJ)V"⟩ ∈ lw_g := mg (List.mem_of_getElem? (i := 83) (by decide +kernel)) rfl
theorem q1829 : Cond.methodLink "EbbWreckModel" 308 ⟨"EbbWreckModel", "goes", "(IIJ)V"⟩ ∈ lw_g := mg (List.mem_of_getElem? (i := 1829) (by decide +kernel)) rfl
theorem q1865 : Cond.code ⟨"EbbWreckModel", "partyOf", "(III)I"⟩ prog_14_method_64_code 5 (some .int) ∈ lw_g := mg (List.mem_of_getElem? (i := 1865) (by decide +kernel)) rfl
theorem q1864 : Cond.instanceMethod ⟨"EbbWreckModel", "partyOf", "(III)I"⟩ ∈ lw_g := mg (List.mem_of_getElem? (i := 1864) (by decide +kernel)) rfl
theorem q87 : Cond.selects "EbbWreckModel" ⟨"EbbWreckModel", "partyOf", "(III)I"⟩ ⟨"EbbWreckModel", "partyOf", "(III)I"⟩ ∈ lw_g := mg (List.mem_of_getElem? (i := 87) (by decide +kernel)) rfl
theorem q1862 : Cond.methodLink "EbbWreckModel" 315 ⟨"EbbWreckModel", "partyOf", "(III)I"⟩ ∈ lw_g := mg (List.mem_of_getElem? (i := 1862) (by decide +kernel)) rfl
theorem q1849 : Cond.code ⟨"EbbWreckModel", "comesUp", "(I)V"⟩ prog_14_method_62_code 2 none ∈ lw_g := mg (List.mem_of_getElem? (i := 1849) (by decide +kernel)) rfl
theorem q1848 : Cond.instanceMethod ⟨"EbbWreckModel", "comesUp", "(I)V"⟩ ∈ lw_g := mg (List.mem_of_getElem? (i := 1848) (by decide +kernel)) rfl
theorem q85 : Cond.selects "EbbWreckModel" ⟨"EbbWreckModel", "comesUp", "(I)V"⟩ ⟨"EbbWreckModel", "comesUp", "(I)V"⟩ ∈ lw_g := mg (List.mem_of_getElem? (i := 85) (by decide +kernel)) rfl
theorem q1846 : Cond.methodLink "EbbWreckModel" 327 ⟨"EbbWreckModel", "comesUp", "(I)V"⟩ ∈ lw_g := mg (List.mem_of_getElem? (i := 1846) (by decide +kernel)) rfl
theorem q1861 : Cond.code ⟨"EbbWreckModel", "whoseNow", "(II)I"⟩ prog_14_method_65_code 3 (some .int) ∈ lw_g := mg (List.mem_of_getElem? (i := 1861) (by decide +kernel)) rfl
theorem q1860 : Cond.instanceMethod ⟨"EbbWreckModel", "whoseNow", "(II)I"⟩ ∈ lw_g := mg (List.mem_of_getElem? (i := 1860) (by decide +kernel)) rfl
theorem q86 : Cond.selects "EbbWreckModel" ⟨"EbbWreckModel", "whoseNow", "(II)I"⟩ ⟨"EbbWreckModel", "whoseNow", "(II)I"⟩ ∈ lw_g := mg (List.mem_of_getElem? (i := 86) (by decide +kernel)) rfl
theorem q1858 : Cond.methodLink "EbbWreckModel" 330 ⟨"EbbWreckModel", "whoseNow", "(II)I"⟩ ∈ lw_g := mg (List.mem_of_getElem? (i := 1858) (by decide +kernel)) rfl
theorem q1886 : Cond.code ⟨"EbbWreckModel", "worth", "(I)I"⟩ prog_14_method_48_code 2 (some .int) ∈ lw_g := mg (List.mem_of_getElem? (i := 1886) (by decide +kernel)) rfl
theorem q1885 : Cond.instanceMethod ⟨"EbbWreckModel", "worth", "(I)I"⟩ ∈ lw_g := mg (List.mem_of_getElem? (i := 1885) (by decide +kernel)) rfl
theorem q91 : Cond.selects "EbbWreckModel" ⟨"EbbWreckModel", "worth", "(I)I"⟩ ⟨"EbbWreckModel", "worth", "(I)I"⟩ ∈ lw_g := mg (List.mem_of_getElem? (i := 91) (by decide +kernel)) rfl
theorem q1883 : Cond.methodLink "EbbWreckModel" 333 ⟨"EbbWreckModel", "worth", "(I)I"⟩ ∈ lw_g := mg (List.mem_of_getElem? (i := 1883) (by decide +kernel)) rfl
theorem q1496 : Cond.fieldLink "EbbWreckModel" 62 "EbbWreckModel" "fewest" "[I" ∈ lw_g := mg (List.mem_of_getElem? (i := 1496) (by decide +kernel)) rfl
theorem q1648 : Cond.constant "EbbWreckModel" 124 100000 ∈ lw_g := mg (List.mem_of_getElem? (i := 1648) (by decide +kernel)) rfl
theorem q1769 : Cond.code ⟨"EbbWreckModel", "isThing", "(I)Z"⟩ prog_14_method_41_code 2 (some .boolean) ∈ lw_g := mg (List.mem_of_getElem? (i := 1769) (by decide +kernel)) rfl
theorem q1768 : Cond.instanceMethod ⟨"EbbWreckModel", "isThing", "(I)Z"⟩ ∈ lw_g := mg (List.mem_of_getElem? (i := 1768) (by decide +kernel)) rfl
theorem q74 : Cond.selects "EbbWreckModel" ⟨"EbbWreckModel", "isThing", "(I)Z"⟩ ⟨"EbbWreckModel", "isThing", "(I)Z"⟩ ∈ lw_g := mg (List.mem_of_getElem? (i := 74) (by decide +kernel)) rfl
theorem q1766 : Cond.methodLink "EbbWreckModel" 276 ⟨"EbbWreckModel", "isThing", "(I)Z"⟩ ∈ lw_g := mg (List.mem_of_getElem? (i := 1766) (by decide +kernel)) rfl
theorem q1877 : Cond.code ⟨"EbbWreckModel", "isParty", "(I)Z"⟩ prog_14_method_44_code 2 (some .boolean) ∈ lw_g := mg (List.mem_of_getElem? (i := 1877) (by decide +kernel)) rfl
theorem q1876 : Cond.instanceMethod ⟨"EbbWreckModel", "isParty", "(I)Z"⟩ ∈ lw_g := mg (List.mem_of_getElem? (i := 1876) (by decide +kernel)) rfl
theorem q89 : Cond.selects "EbbWreckModel" ⟨"EbbWreckModel", "isParty", "(I)Z"⟩ ⟨"EbbWreckModel", "isParty", "(I)Z"⟩ ∈ lw_g := mg (List.mem_of_getElem? (i := 89) (by decide +kernel)) rfl
theorem q1874 : Cond.methodLink "EbbWreckModel" 336 ⟨"EbbWreckModel", "isParty", "(I)Z"⟩ ∈ lw_g := mg (List.mem_of_getElem? (i := 1874) (by decide +kernel)) rfl
theorem q1933 : Cond.code ⟨"EbbWreckModel", "pushBy", "(IIII)I"⟩ prog_14_method_80_code 7 (some .int) ∈ lw_g := mg (List.mem_of_getElem? (i := 1933) (by decide +kernel)) rfl
theorem q1932 : Cond.instanceMethod ⟨"EbbWreckModel", "pushBy", "(IIII)I"⟩ ∈ lw_g := mg (List.mem_of_getElem? (i := 1932) (by decide +kernel)) rfl
theorem q95 : Cond.selects "EbbWreckModel" ⟨"EbbWreckModel", "pushBy", "(IIII)I"⟩ ⟨"EbbWreckModel", "pushBy", "(IIII)I"⟩ ∈ lw_g := mg (List.mem_of_getElem? (i := 95) (by decide +kernel)) rfl
theorem q1930 : Cond.methodLink "EbbWreckModel" 348 ⟨"EbbWreckModel", "pushBy", "(IIII)I"⟩ ∈ lw_g := mg (List.mem_of_getElem? (i := 1930) (by decide +kernel)) rfl
theorem q1498 : Cond.fieldLink "EbbWreckModel" 377 "EbbWreckModel" "floats" "I" ∈ lw_g := mg (List.mem_of_getElem? (i := 1498) (by decide +kernel)) rfl
theorem q1499 : Cond.fieldLink "EbbWreckModel" 374 "EbbWreckModel" "floatUp" "I" ∈ lw_g := mg (List.mem_of_getElem? (i := 1499) (by decide +kernel)) rfl
theorem q1989 : Cond.code ⟨"EbbWreckModel", "floatsFrom", "(III)V"⟩ prog_14_method_101_code 5 none ∈ lw_g := mg (List.mem_of_getElem? (i := 1989) (by decide +kernel)) rfl
theorem q1988 : Cond.instanceMethod ⟨"EbbWreckModel", "floatsFrom", "(III)V"⟩ ∈ lw_g := mg (List.mem_of_getElem? (i := 1988) (by decide +kernel)) rfl
theorem q99 : Cond.selects "EbbWreckModel" ⟨"EbbWreckModel", "floatsFrom", "(III)V"⟩ ⟨"EbbWreckModel", "floatsFrom", "(III)V"⟩ ∈ lw_g := mg (List.mem_of_getElem? (i := 99) (by decide +kernel)) rfl
theorem q1986 : Cond.methodLink "EbbWreckModel" 370 ⟨"EbbWreckModel", "floatsFrom", "(III)V"⟩ ∈ lw_g := mg (List.mem_of_getElem? (i := 1986) (by decide +kernel)) rfl
theorem q1470 : Cond.fieldLink "EbbWreckModel" 13 "EbbWreckModel" "many" "[I" ∈ lw_g := mg (List.mem_of_getElem? (i := 1470) (by decide +kernel)) rfl
theorem q1471 : Cond.fieldLink "EbbWreckModel" 16 "EbbWreckModel" "cells" "[J" ∈ lw_g := mg (List.mem_of_getElem? (i := 1471) (by decide +kernel)) rfl
theorem q2034 : Cond.code ⟨"EbbWreckModel", "carried", "(IIIII)I"⟩ prog_14_method_105_code 9 (some .int) ∈ lw_g := mg (List.mem_of_getElem? (i := 2034) (by decide +kernel)) rfl
theorem q2033 : Cond.instanceMethod ⟨"EbbWreckModel", "carried", "(IIIII)I"⟩ ∈ lw_g := mg (List.mem_of_getElem? (i := 2033) (by decide +kernel)) rfl
theorem q104 : Cond.selects "EbbWreckModel" ⟨"EbbWreckModel", "carried", "(IIIII)I"⟩ ⟨"EbbWreckModel", "carried", "(IIIII)I"⟩ ∈ lw_g := mg (List.mem_of_getElem? (i := 104) (by decide +kernel)) rfl
theorem q2031 : Cond.methodLink "EbbWreckModel" 385 ⟨"EbbWreckModel", "carried", "(IIIII)I"⟩ ∈ lw_g := mg (List.mem_of_getElem? (i := 2031) (by decide +kernel)) rfl
theorem q2030 : Cond.code ⟨"EbbWreckModel", "areFit", "(III)Z"⟩ prog_14_method_106_code 6 (some .boolean) ∈ lw_g := mg (List.mem_of_getElem? (i := 2030) (by decide +kernel)) rfl
theorem q2029 : Cond.instanceMethod ⟨"EbbWreckModel", "areFit", "(III)Z"⟩ ∈ lw_g := mg (List.mem_of_getElem? (i := 2029) (by decide +kernel)) rfl
theorem q103 : Cond.selects "EbbWreckModel" ⟨"EbbWreckModel", "areFit", "(III)Z"⟩ ⟨"EbbWreckModel", "areFit", "(III)Z"⟩ ∈ lw_g := mg (List.mem_of_getElem? (i := 103) (by decide +kernel)) rfl
theorem q2027 : Cond.methodLink "EbbWreckModel" 389 ⟨"EbbWreckModel", "areFit", "(III)Z"⟩ ∈ lw_g := mg (List.mem_of_getElem? (i := 2027) (by decide +kernel)) rfl
theorem q1589 : Cond.code ⟨"EbbWreckModel", "isSlot", "(I)Z"⟩ prog_14_method_4_code 1 (some .boolean) ∈ lw_g := mg (List.mem_of_getElem? (i := 1589) (by decide +kernel)) rfl
theorem q1588 : Cond.static ⟨"EbbWreckModel", "isSlot", "(I)Z"⟩ ∈ lw_g := mg (List.mem_of_getElem? (i := 1588) (by decide +kernel)) rfl
theorem q1587 : Cond.methodLink "EbbWreckModel" 83 ⟨"EbbWreckModel", "isSlot", "(I)Z"⟩ ∈ lw_g := mg (List.mem_of_getElem? (i := 1587) (by decide +kernel)) rfl
theorem q1469 : Cond.fieldLink "EbbWreckModel" 7 "EbbWreckModel" "width" "[I" ∈ lw_g := mg (List.mem_of_getElem? (i := 1469) (by decide +kernel)) rfl
theorem q1753 : Cond.code ⟨"EbbWreckModel", "isCell", "(J)Z"⟩ prog_14_method_40_code 3 (some .boolean) ∈ lw_g := mg (List.mem_of_getElem? (i := 1753) (by decide +kernel)) rfl
theorem q1752 : Cond.instanceMethod ⟨"EbbWreckModel", "isCell", "(J)Z"⟩ ∈ lw_g := mg (List.mem_of_getElem? (i := 1752) (by decide +kernel)) rfl
theorem q72 : Cond.selects "EbbWreckModel" ⟨"EbbWreckModel", "isCell", "(J)Z"⟩ ⟨"EbbWreckModel", "isCell", "(J)Z"⟩ ∈ lw_g := mg (List.mem_of_getElem? (i := 72) (by decide +kernel)) rfl
theorem q1750 : Cond.methodLink "EbbWreckModel" 268 ⟨"EbbWreckModel", "isCell", "(J)Z"⟩ ∈ lw_g := mg (List.mem_of_getElem? (i := 1750) (by decide +kernel)) rfl
theorem q1828 : Cond.constantLong "EbbWreckModel" 325 400 ∈ lw_g := mg (List.mem_of_getElem? (i := 1828) (by decide +kernel)) rfl
theorem q2026 : Cond.code ⟨"EbbWreckModel", "fitsOf", "(I)I"⟩ prog_14_method_107_code 5 (some .int) ∈ lw_g := mg (List.mem_of_getElem? (i := 2026) (by decide +kernel)) rfl
theorem q2025 : Cond.instanceMethod ⟨"EbbWreckModel", "fitsOf", "(I)I"⟩ ∈ lw_g := mg (List.mem_of_getElem? (i := 2025) (by decide +kernel)) rfl
theorem q102 : Cond.selects "EbbWreckModel" ⟨"EbbWreckModel", "fitsOf", "(I)I"⟩ ⟨"EbbWreckModel", "fitsOf", "(I)I"⟩ ∈ lw_g := mg (List.mem_of_getElem? (i := 102) (by decide +kernel)) rfl
theorem q2023 : Cond.methodLink "EbbWreckModel" 395 ⟨"EbbWreckModel", "fitsOf", "(I)I"⟩ ∈ lw_g := mg (List.mem_of_getElem? (i := 2023) (by decide +kernel)) rfl
theorem q1501 : Cond.fieldLink "EbbWreckModel" 401 "EbbWreckModel" "askLeaves" "I" ∈ lw_g := mg (List.mem_of_getElem? (i := 1501) (by decide +kernel)) rfl
theorem q1500 : Cond.fieldLink "EbbWreckModel" 404 "EbbWreckModel" "askBest" "I" ∈ lw_g := mg (List.mem_of_getElem? (i := 1500) (by decide +kernel)) rfl
theorem q1786 : Cond.constantLong "EbbWreckModel" 282 2000000000 ∈ lw_g := mg (List.mem_of_getElem? (i := 1786) (by decide +kernel)) rfl
theorem q1490 : Cond.fieldLink "EbbWreckModel" 49 "EbbWreckModel" "act" "[I" ∈ lw_g := mg (List.mem_of_getElem? (i := 1490) (by decide +kernel)) rfl
theorem q1492 : Cond.fieldLink "EbbWreckModel" 56 "EbbWreckModel" "sits" "[I" ∈ lw_g := mg (List.mem_of_getElem? (i := 1492) (by decide +kernel)) rfl
theorem q1489 : Cond.fieldLink "EbbWreckModel" 46 "EbbWreckModel" "sitter" "[I" ∈ lw_g := mg (List.mem_of_getElem? (i := 1489) (by decide +kernel)) rfl
theorem q1823 : Cond.code ⟨"EbbWreckModel", "lays", "()V"⟩ prog_14_method_59_code 2 none ∈ lw_g := mg (List.mem_of_getElem? (i := 1823) (by decide +kernel)) rfl
theorem q1822 : Cond.instanceMethod ⟨"EbbWreckModel", "lays", "()V"⟩ ∈ lw_g := mg (List.mem_of_getElem? (i := 1822) (by decide +kernel)) rfl
theorem q82 : Cond.selects "EbbWreckModel" ⟨"EbbWreckModel", "lays", "()V"⟩ ⟨"EbbWreckModel", "lays", "()V"⟩ ∈ lw_g := mg (List.mem_of_getElem? (i := 82) (by decide +kernel)) rfl
theorem q1820 : Cond.methodLink "EbbWreckModel" 322 ⟨"EbbWreckModel", "lays", "()V"⟩ ∈ lw_g := mg (List.mem_of_getElem? (i := 1820) (by decide +kernel)) rfl
theorem q1502 : Cond.fieldLink "EbbWreckModel" 65 "EbbWreckModel" "strands" "[I" ∈ lw_g := mg (List.mem_of_getElem? (i := 1502) (by decide +kernel)) rfl
theorem q1504 : Cond.fieldLink "EbbWreckModel" 419 "EbbWreckModel" "restMany" "I" ∈ lw_g := mg (List.mem_of_getElem? (i := 1504) (by decide +kernel)) rfl
theorem q2065 : Cond.code ⟨"EbbWreckModel", "seatOf", "(II)I"⟩ prog_14_method_115_code 6 (some .int) ∈ lw_g := mg (List.mem_of_getElem? (i := 2065) (by decide +kernel)) rfl
theorem q2064 : Cond.instanceMethod ⟨"EbbWreckModel", "seatOf", "(II)I"⟩ ∈ lw_g := mg (List.mem_of_getElem? (i := 2064) (by decide +kernel)) rfl
theorem q107 : Cond.selects "EbbWreckModel" ⟨"EbbWreckModel", "seatOf", "(II)I"⟩ ⟨"EbbWreckModel", "seatOf", "(II)I"⟩ ∈ lw_g := mg (List.mem_of_getElem? (i := 107) (by decide +kernel)) rfl
theorem q2062 : Cond.methodLink "EbbWreckModel" 413 ⟨"EbbWreckModel", "seatOf", "(II)I"⟩ ∈ lw_g := mg (List.mem_of_getElem? (i := 2062) (by decide +kernel)) rfl
theorem q1503 : Cond.fieldLink "EbbWreckModel" 68 "EbbWreckModel" "restFirst" "[I" ∈ lw_g := mg (List.mem_of_getElem? (i := 1503) (by decide +kernel)) rfl
theorem q2085 : Cond.code ⟨"EbbWreckModel", "rests", "(I)V"⟩ prog_14_method_119_code 4 none ∈ lw_g := mg (List.mem_of_getElem? (i := 2085) (by decide +kernel)) rfl
theorem q2084 : Cond.instanceMethod ⟨"EbbWreckModel", "rests", "(I)V"⟩ ∈ lw_g := mg (List.mem_of_getElem? (i := 2084) (by decide +kernel)) rfl
theorem q109 : Cond.selects "EbbWreckModel" ⟨"EbbWreckModel", "rests", "(I)V"⟩ ⟨"EbbWreckModel", "rests", "(I)V"⟩ ∈ lw_g := mg (List.mem_of_getElem? (i := 109) (by decide +kernel)) rfl
theorem q2082 : Cond.methodLink "EbbWreckModel" 416 ⟨"EbbWreckModel", "rests", "(I)V"⟩ ∈ lw_g := mg (List.mem_of_getElem? (i := 2082) (by decide +kernel)) rfl
theorem q2061 : Cond.code ⟨"EbbWreckModel", "laysStrands", "()V"⟩ prog_14_method_114_code 2 none ∈ lw_g := mg (List.mem_of_getElem? (i := 2061) (by decide +kernel)) rfl
theorem q2060 : Cond.instanceMethod ⟨"EbbWreckModel", "laysStrands", "()V"⟩ ∈ lw_g := mg (List.mem_of_getElem? (i := 2060) (by decide +kernel)) rfl
theorem q106 : Cond.selects "EbbWreckModel" ⟨"EbbWreckModel", "laysStrands", "()V"⟩ ⟨"EbbWreckModel", "laysStrands", "()V"⟩ ∈ lw_g := mg (List.mem_of_getElem? (i := 106) (by decide +kernel)) rfl
theorem q2058 : Cond.methodLink "EbbWreckModel" 410 ⟨"EbbWreckModel", "laysStrands", "()V"⟩ ∈ lw_g := mg (List.mem_of_getElem? (i := 2058) (by decide +kernel)) rfl
theorem q1468 : Cond.fieldLink "EbbWreckModel" 74 "EbbWreckModel" "thrown" "I" ∈ lw_g := mg (List.mem_of_getElem? (i := 1468) (by decide +kernel)) rfl
theorem q1754 : Cond.constantLong "EbbWreckModel" 271 2 ∈ lw_g := mg (List.mem_of_getElem? (i := 1754) (by decide +kernel)) rfl
theorem q1777 : Cond.code ⟨"EbbWreckModel", "isRule", "(I)Z"⟩ prog_14_method_42_code 2 (some .boolean) ∈ lw_g := mg (List.mem_of_getElem? (i := 1777) (by decide +kernel)) rfl
theorem q1776 : Cond.instanceMethod ⟨"EbbWreckModel", "isRule", "(I)Z"⟩ ∈ lw_g := mg (List.mem_of_getElem? (i := 1776) (by decide +kernel)) rfl
theorem q75 : Cond.selects "EbbWreckModel" ⟨"EbbWreckModel", "isRule", "(I)Z"⟩ ⟨"EbbWreckModel", "isRule", "(I)Z"⟩ ∈ lw_g := mg (List.mem_of_getElem? (i := 75) (by decide +kernel)) rfl
theorem q1774 : Cond.methodLink "EbbWreckModel" 279 ⟨"EbbWreckModel", "isRule", "(I)Z"⟩ ∈ lw_g := mg (List.mem_of_getElem? (i := 1774) (by decide +kernel)) rfl
theorem q1909 : Cond.code ⟨"EbbWreckModel", "isIdle", "(I)Z"⟩ prog_14_method_76_code 6 (some .boolean) ∈ lw_g := mg (List.mem_of_getElem? (i := 1909) (by decide +kernel)) rfl
theorem q1908 : Cond.instanceMethod ⟨"EbbWreckModel", "isIdle", "(I)Z"⟩ ∈ lw_g := mg (List.mem_of_getElem? (i := 1908) (by decide +kernel)) rfl
theorem q92 : Cond.selects "EbbWreckModel" ⟨"EbbWreckModel", "isIdle", "(I)Z"⟩ ⟨"EbbWreckModel", "isIdle", "(I)Z"⟩ ∈ lw_g := mg (List.mem_of_getElem? (i := 92) (by decide +kernel)) rfl
theorem q1906 : Cond.methodLink "EbbWreckModel" 345 ⟨"EbbWreckModel", "isIdle", "(I)Z"⟩ ∈ lw_g := mg (List.mem_of_getElem? (i := 1906) (by decide +kernel)) rfl
theorem q1998 : Cond.constantLong "EbbWreckModel" 380 99 ∈ lw_g := mg (List.mem_of_getElem? (i := 1998) (by decide +kernel)) rfl
theorem q2002 : Cond.code ⟨"EbbWreckModel", "dropOf", "(II)I"⟩ prog_14_method_98_code 5 (some .int) ∈ lw_g := mg (List.mem_of_getElem? (i := 2002) (by decide +kernel)) rfl
theorem q2001 : Cond.instanceMethod ⟨"EbbWreckModel", "dropOf", "(II)I"⟩ ∈ lw_g := mg (List.mem_of_getElem? (i := 2001) (by decide +kernel)) rfl
theorem q100 : Cond.selects "EbbWreckModel" ⟨"EbbWreckModel", "dropOf", "(II)I"⟩ ⟨"EbbWreckModel", "dropOf", "(II)I"⟩ ∈ lw_g := mg (List.mem_of_getElem? (i := 100) (by decide +kernel)) rfl
theorem q1999 : Cond.methodLink "EbbWreckModel" 382 ⟨"EbbWreckModel", "dropOf", "(II)I"⟩ ∈ lw_g := mg (List.mem_of_getElem? (i := 1999) (by decide +kernel)) rfl
theorem q1897 : Cond.code ⟨"EbbWreckModel", "sizeOf", "(I)I"⟩ prog_14_method_46_code 3 (some .int) ∈ lw_g := mg (List.mem_of_getElem? (i := 1897) (by decide +kernel)) rfl
theorem q1896 : Cond.static ⟨"EbbWreckModel", "sizeOf", "(I)I"⟩ ∈ lw_g := mg (List.mem_of_getElem? (i := 1896) (by decide +kernel)) rfl
theorem q1895 : Cond.methodLink "EbbWreckModel" 342 ⟨"EbbWreckModel", "sizeOf", "(I)I"⟩ ∈ lw_g := mg (List.mem_of_getElem? (i := 1895) (by decide +kernel)) rfl
theorem q2022 : Cond.code ⟨"EbbWreckModel", "whyNot", "(I)I"⟩ prog_14_method_104_code 4 (some .int) ∈ lw_g := mg (List.mem_of_getElem? (i := 2022) (by decide +kernel)) rfl
theorem q2021 : Cond.instanceMethod ⟨"EbbWreckModel", "whyNot", "(I)I"⟩ ∈ lw_g := mg (List.mem_of_getElem? (i := 2021) (by decide +kernel)) rfl
theorem q101 : Cond.selects "EbbWreckModel" ⟨"EbbWreckModel", "whyNot", "(I)I"⟩ ⟨"EbbWreckModel", "whyNot", "(I)I"⟩ ∈ lw_g := mg (List.mem_of_getElem? (i := 101) (by decide +kernel)) rfl
theorem q2019 : Cond.methodLink "EbbWreckModel" 392 ⟨"EbbWreckModel", "whyNot", "(I)I"⟩ ∈ lw_g := mg (List.mem_of_getElem? (i := 2019) (by decide +kernel)) rfl
theorem q2041 : Cond.code ⟨"EbbWreckModel", "size", "(I)I"⟩ prog_14_method_109_code 1 (some .int) ∈ lw_g := mg (List.mem_of_getElem? (i := 2041) (by decide +kernel)) rfl
theorem q2040 : Cond.static ⟨"EbbWreckModel", "size", "(I)I"⟩ ∈ lw_g := mg (List.mem_of_getElem? (i := 2040) (by decide +kernel)) rfl
theorem q2039 : Cond.methodLink "EbbWreckModel" 398 ⟨"EbbWreckModel", "size", "(I)I"⟩ ∈ lw_g := mg (List.mem_of_getElem? (i := 2039) (by decide +kernel)) rfl
theorem q2049 : Cond.code ⟨"EbbWreckModel", "laysAsk", "(I)V"⟩ prog_14_method_111_code 8 none ∈ lw_g := mg (List.mem_of_getElem? (i := 2049) (by decide +kernel)) rfl
theorem q2048 : Cond.instanceMethod ⟨"EbbWreckModel", "laysAsk", "(I)V"⟩ ∈ lw_g := mg (List.mem_of_getElem? (i := 2048) (by decide +kernel)) rfl
theorem q105 : Cond.selects "EbbWreckModel" ⟨"EbbWreckModel", "laysAsk", "(I)V"⟩ ⟨"EbbWreckModel", "laysAsk", "(I)V"⟩ ∈ lw_g := mg (List.mem_of_getElem? (i := 105) (by decide +kernel)) rfl
theorem q2046 : Cond.methodLink "EbbWreckModel" 407 ⟨"EbbWreckModel", "laysAsk", "(I)V"⟩ ∈ lw_g := mg (List.mem_of_getElem? (i := 2046) (by decide +kernel)) rfl
theorem q1483 : Cond.fieldLink "EbbWreckModel" 27 "EbbWreckModel" "faultPlace" "I" ∈ lw_g := mg (List.mem_of_getElem? (i := 1483) (by decide +kernel)) rfl
theorem q1482 : Cond.fieldLink "EbbWreckModel" 153 "EbbWreckModel" "fault" "I" ∈ lw_g := mg (List.mem_of_getElem? (i := 1482) (by decide +kernel)) rfl
theorem q1474 : Cond.fieldLink "EbbWreckModel" 91 "EbbWreckModel" "taped" "I" ∈ lw_g := mg (List.mem_of_getElem? (i := 1474) (by decide +kernel)) rfl
theorem q1925 : Cond.code ⟨"EbbWreckModel", "isPush", "(II)Z"⟩ prog_14_method_83_code 3 (some .boolean) ∈ lw_g := mg (List.mem_of_getElem? (i := 1925) (by decide +kernel)) rfl
theorem q1924 : Cond.instanceMethod ⟨"EbbWreckModel", "isPush", "(II)Z"⟩ ∈ lw_g := mg (List.mem_of_getElem? (i := 1924) (by decide +kernel)) rfl
theorem q93 : Cond.selects "EbbWreckModel" ⟨"EbbWreckModel", "isPush", "(II)Z"⟩ ⟨"EbbWreckModel", "isPush", "(II)Z"⟩ ∈ lw_g := mg (List.mem_of_getElem? (i := 93) (by decide +kernel)) rfl
theorem q1922 : Cond.methodLink "EbbWreckModel" 352 ⟨"EbbWreckModel", "isPush", "(II)Z"⟩ ∈ lw_g := mg (List.mem_of_getElem? (i := 1922) (by decide +kernel)) rfl
theorem q1929 : Cond.code ⟨"EbbWreckModel", "laysPushes", "(I)V"⟩ prog_14_method_81_code 6 none ∈ lw_g := mg (List.mem_of_getElem? (i := 1929) (by decide +kernel)) rfl
theorem q1928 : Cond.instanceMethod ⟨"EbbWreckModel", "laysPushes", "(I)V"⟩ ∈ lw_g := mg (List.mem_of_getElem? (i := 1928) (by decide +kernel)) rfl
theorem q94 : Cond.selects "EbbWreckModel" ⟨"EbbWreckModel", "laysPushes", "(I)V"⟩ ⟨"EbbWreckModel", "laysPushes", "(I)V"⟩ ∈ lw_g := mg (List.mem_of_getElem? (i := 94) (by decide +kernel)) rfl
theorem q1926 : Cond.methodLink "EbbWreckModel" 355 ⟨"EbbWreckModel", "laysPushes", "(I)V"⟩ ∈ lw_g := mg (List.mem_of_getElem? (i := 1926) (by decide +kernel)) rfl
theorem q1937 : Cond.code ⟨"EbbWreckModel", "first", "(I)I"⟩ prog_14_method_82_code 2 (some .int) ∈ lw_g := mg (List.mem_of_getElem? (i := 1937) (by decide +kernel)) rfl
theorem q1936 : Cond.instanceMethod ⟨"EbbWreckModel", "first", "(I)I"⟩ ∈ lw_g := mg (List.mem_of_getElem? (i := 1936) (by decide +kernel)) rfl
theorem q96 : Cond.selects "EbbWreckModel" ⟨"EbbWreckModel", "first", "(I)I"⟩ ⟨"EbbWreckModel", "first", "(I)I"⟩ ∈ lw_g := mg (List.mem_of_getElem? (i := 96) (by decide +kernel)) rfl
theorem q1934 : Cond.methodLink "EbbWreckModel" 358 ⟨"EbbWreckModel", "first", "(I)I"⟩ ∈ lw_g := mg (List.mem_of_getElem? (i := 1934) (by decide +kernel)) rfl
theorem q1961 : Cond.code ⟨"EbbWreckModel", "wardBy", "(IIII)I"⟩ prog_14_method_89_code 7 (some .int) ∈ lw_g := mg (List.mem_of_getElem? (i := 1961) (by decide +kernel)) rfl
theorem q1960 : Cond.instanceMethod ⟨"EbbWreckModel", "wardBy", "(IIII)I"⟩ ∈ lw_g := mg (List.mem_of_getElem? (i := 1960) (by decide +kernel)) rfl
theorem q98 : Cond.selects "EbbWreckModel" ⟨"EbbWreckModel", "wardBy", "(IIII)I"⟩ ⟨"EbbWreckModel", "wardBy", "(IIII)I"⟩ ∈ lw_g := mg (List.mem_of_getElem? (i := 98) (by decide +kernel)) rfl
theorem q1958 : Cond.methodLink "EbbWreckModel" 367 ⟨"EbbWreckModel", "wardBy", "(IIII)I"⟩ ∈ lw_g := mg (List.mem_of_getElem? (i := 1958) (by decide +kernel)) rfl
theorem q1799 : Cond.constantLong "EbbWreckModel" 284 1000000000 ∈ lw_g := mg (List.mem_of_getElem? (i := 1799) (by decide +kernel)) rfl
theorem q1819 : Cond.code ⟨"EbbWreckModel", "isSitter", "(I)Z"⟩ prog_14_method_43_code 2 (some .boolean) ∈ lw_g := mg (List.mem_of_getElem? (i := 1819) (by decide +kernel)) rfl
theorem q1818 : Cond.instanceMethod ⟨"EbbWreckModel", "isSitter", "(I)Z"⟩ ∈ lw_g := mg (List.mem_of_getElem? (i := 1818) (by decide +kernel)) rfl
theorem q81 : Cond.selects "EbbWreckModel" ⟨"EbbWreckModel", "isSitter", "(I)Z"⟩ ⟨"EbbWreckModel", "isSitter", "(I)Z"⟩ ∈ lw_g := mg (List.mem_of_getElem? (i := 81) (by decide +kernel)) rfl
theorem q1816 : Cond.methodLink "EbbWreckModel" 319 ⟨"EbbWreckModel", "isSitter", "(I)Z"⟩ ∈ lw_g := mg (List.mem_of_getElem? (i := 1816) (by decide +kernel)) rfl
theorem q1882 : Cond.code ⟨"EbbWreckModel", "hasOf", "(III)I"⟩ prog_14_method_71_code 6 (some .int) ∈ lw_g := mg (List.mem_of_getElem? (i := 1882) (by decide +kernel)) rfl
theorem q1881 : Cond.instanceMethod ⟨"EbbWreckModel", "hasOf", "(III)I"⟩ ∈ lw_g := mg (List.mem_of_getElem? (i := 1881) (by decide +kernel)) rfl
theorem q90 : Cond.selects "EbbWreckModel" ⟨"EbbWreckModel", "hasOf", "(III)I"⟩ ⟨"EbbWreckModel", "hasOf", "(III)I"⟩ ∈ lw_g := mg (List.mem_of_getElem? (i := 90) (by decide +kernel)) rfl
theorem q1879 : Cond.methodLink "EbbWreckModel" 339 ⟨"EbbWreckModel", "hasOf", "(III)I"⟩ ∈ lw_g := mg (List.mem_of_getElem? (i := 1879) (by decide +kernel)) rfl
theorem q2081 : Cond.code ⟨"EbbWreckModel", "restsNow", "()I"⟩ prog_14_method_120_code 1 (some .int) ∈ lw_g := mg (List.mem_of_getElem? (i := 2081) (by decide +kernel)) rfl
theorem q2080 : Cond.instanceMethod ⟨"EbbWreckModel", "restsNow", "()I"⟩ ∈ lw_g := mg (List.mem_of_getElem? (i := 2080) (by decide +kernel)) rfl
theorem q108 : Cond.selects "EbbWreckModel" ⟨"EbbWreckModel", "restsNow", "()I"⟩ ⟨"EbbWreckModel", "restsNow", "()I"⟩ ∈ lw_g := mg (List.mem_of_getElem? (i := 108) (by decide +kernel)) rfl
theorem q2078 : Cond.methodLink "EbbWreckModel" 422 ⟨"EbbWreckModel", "restsNow", "()I"⟩ ∈ lw_g := mg (List.mem_of_getElem? (i := 2078) (by decide +kernel)) rfl
theorem q2094 : Cond.constantLong "EbbWreckModel" 425 (-20) ∈ lw_g := mg (List.mem_of_getElem? (i := 2094) (by decide +kernel)) rfl
theorem q2095 : Cond.constantLong "EbbWreckModel" 427 20 ∈ lw_g := mg (List.mem_of_getElem? (i := 2095) (by decide +kernel)) rfl
theorem q2131 : Cond.code ⟨"EbbWreckModel", "isDraw", "(II)Z"⟩ prog_14_method_131_code 3 (some .boolean) ∈ lw_g := mg (List.mem_of_getElem? (i := 2131) (by decide +kernel)) rfl
theorem q2130 : Cond.instanceMethod ⟨"EbbWreckModel", "isDraw", "(II)Z"⟩ ∈ lw_g := mg (List.mem_of_getElem? (i := 2130) (by decide +kernel)) rfl
theorem q112 : Cond.selects "EbbWreckModel" ⟨"EbbWreckModel", "isDraw", "(II)Z"⟩ ⟨"EbbWreckModel", "isDraw", "(II)Z"⟩ ∈ lw_g := mg (List.mem_of_getElem? (i := 112) (by decide +kernel)) rfl
theorem q2128 : Cond.methodLink "EbbWreckModel" 436 ⟨"EbbWreckModel", "isDraw", "(II)Z"⟩ ∈ lw_g := mg (List.mem_of_getElem? (i := 2128) (by decide +kernel)) rfl
theorem q1505 : Cond.fieldLink "EbbWreckModel" 71 "EbbWreckModel" "often" "[I" ∈ lw_g := mg (List.mem_of_getElem? (i := 1505) (by decide +kernel)) rfl
theorem q2149 : Cond.constantLong "EbbWreckModel" 441 9 ∈ lw_g := mg (List.mem_of_getElem? (i := 2149) (by decide +kernel)) rfl
theorem q2144 : Cond.constantLong "EbbWreckModel" 439 999 ∈ lw_g := mg (List.mem_of_getElem? (i := 2144) (by decide +kernel)) rfl
theorem q1473 : Cond.fieldLink "EbbWreckModel" 23 "EbbWreckModel" "tape" "[B" ∈ lw_g := mg (List.mem_of_getElem? (i := 1473) (by decide +kernel)) rfl
theorem q1612 : Cond.code ⟨"EbbWreckModel", "four", "(I)V"⟩ prog_14_method_10_code 3 none ∈ lw_g := mg (List.mem_of_getElem? (i := 1612) (by decide +kernel)) rfl
theorem q1611 : Cond.instanceMethod ⟨"EbbWreckModel", "four", "(I)V"⟩ ∈ lw_g := mg (List.mem_of_getElem? (i := 1611) (by decide +kernel)) rfl
theorem q47 : Cond.selects "EbbWreckModel" ⟨"EbbWreckModel", "four", "(I)V"⟩ ⟨"EbbWreckModel", "four", "(I)V"⟩ ∈ lw_g := mg (List.mem_of_getElem? (i := 47) (by decide +kernel)) rfl
theorem q1609 : Cond.methodLink "EbbWreckModel" 94 ⟨"EbbWreckModel", "four", "(I)V"⟩ ∈ lw_g := mg (List.mem_of_getElem? (i := 1609) (by decide +kernel)) rfl
theorem q1475 : Cond.fieldLink "EbbWreckModel" 98 "EbbWreckModel" "at" "I" ∈ lw_g := mg (List.mem_of_getElem? (i := 1475) (by decide +kernel)) rfl
theorem q1644 : Cond.code ⟨"EbbWreckModel", "isByte", "(III)Z"⟩ prog_14_method_12_code 4 (some .boolean) ∈ lw_g := mg (List.mem_of_getElem? (i := 1644) (by decide +kernel)) rfl
theorem q1643 : Cond.instanceMethod ⟨"EbbWreckModel", "isByte", "(III)Z"⟩ ∈ lw_g := mg (List.mem_of_getElem? (i := 1643) (by decide +kernel)) rfl
theorem q52 : Cond.selects "EbbWreckModel" ⟨"EbbWreckModel", "isByte", "(III)Z"⟩ ⟨"EbbWreckModel", "isByte", "(III)Z"⟩ ∈ lw_g := mg (List.mem_of_getElem? (i := 52) (by decide +kernel)) rfl
theorem q1641 : Cond.methodLink "EbbWreckModel" 101 ⟨"EbbWreckModel", "isByte", "(III)Z"⟩ ∈ lw_g := mg (List.mem_of_getElem? (i := 1641) (by decide +kernel)) rfl
theorem q1477 : Cond.fieldLink "EbbWreckModel" 105 "EbbWreckModel" "place" "I" ∈ lw_g := mg (List.mem_of_getElem? (i := 1477) (by decide +kernel)) rfl
theorem q1478 : Cond.fieldLink "EbbWreckModel" 108 "EbbWreckModel" "value" "I" ∈ lw_g := mg (List.mem_of_getElem? (i := 1478) (by decide +kernel)) rfl
theorem q1479 : Cond.fieldLink "EbbWreckModel" 111 "EbbWreckModel" "word" "J" ∈ lw_g := mg (List.mem_of_getElem? (i := 1479) (by decide +kernel)) rfl
theorem q1476 : Cond.fieldLink "EbbWreckModel" 115 "EbbWreckModel" "token" "I" ∈ lw_g := mg (List.mem_of_getElem? (i := 1476) (by decide +kernel)) rfl
theorem q1649 : Cond.constant "EbbWreckModel" 125 1000000 ∈ lw_g := mg (List.mem_of_getElem? (i := 1649) (by decide +kernel)) rfl
theorem q1646 : Cond.constantLong "EbbWreckModel" 120 27 ∈ lw_g := mg (List.mem_of_getElem? (i := 1646) (by decide +kernel)) rfl
theorem q1647 : Cond.constantLong "EbbWreckModel" 122 96 ∈ lw_g := mg (List.mem_of_getElem? (i := 1647) (by decide +kernel)) rfl
theorem q1480 : Cond.fieldLink "EbbWreckModel" 126 "EbbWreckModel" "bad" "I" ∈ lw_g := mg (List.mem_of_getElem? (i := 1480) (by decide +kernel)) rfl
theorem q1481 : Cond.fieldLink "EbbWreckModel" 129 "EbbWreckModel" "badPlace" "I" ∈ lw_g := mg (List.mem_of_getElem? (i := 1481) (by decide +kernel)) rfl
theorem q1666 : Cond.code ⟨"EbbWreckModel", "is", "(J)Z"⟩ prog_14_method_16_code 3 (some .boolean) ∈ lw_g := mg (List.mem_of_getElem? (i := 1666) (by decide +kernel)) rfl
theorem q1665 : Cond.instanceMethod ⟨"EbbWreckModel", "is", "(J)Z"⟩ ∈ lw_g := mg (List.mem_of_getElem? (i := 1665) (by decide +kernel)) rfl
theorem q56 : Cond.selects "EbbWreckModel" ⟨"EbbWreckModel", "is", "(J)Z"⟩ ⟨"EbbWreckModel", "is", "(J)Z"⟩ ∈ lw_g := mg (List.mem_of_getElem? (i := 56) (by decide +kernel)) rfl
theorem q1663 : Cond.methodLink "EbbWreckModel" 132 ⟨"EbbWreckModel", "is", "(J)Z"⟩ ∈ lw_g := mg (List.mem_of_getElem? (i := 1663) (by decide +kernel)) rfl
theorem q1640 : Cond.code ⟨"EbbWreckModel", "next", "()V"⟩ prog_14_method_13_code 2 none ∈ lw_g := mg (List.mem_of_getElem? (i := 1640) (by decide +kernel)) rfl
theorem q1639 : Cond.instanceMethod ⟨"EbbWreckModel", "next", "()V"⟩ ∈ lw_g := mg (List.mem_of_getElem? (i := 1639) (by decide +kernel)) rfl
theorem q51 : Cond.selects "EbbWreckModel" ⟨"EbbWreckModel", "next", "()V"⟩ ⟨"EbbWreckModel", "next", "()V"⟩ ∈ lw_g := mg (List.mem_of_getElem? (i := 51) (by decide +kernel)) rfl
theorem q1637 : Cond.methodLink "EbbWreckModel" 136 ⟨"EbbWreckModel", "next", "()V"⟩ ∈ lw_g := mg (List.mem_of_getElem? (i := 1637) (by decide +kernel)) rfl
theorem q1662 : Cond.code ⟨"EbbWreckModel", "takes", "(J)Z"⟩ prog_14_method_17_code 3 (some .boolean) ∈ lw_g := mg (List.mem_of_getElem? (i := 1662) (by decide +kernel)) rfl
theorem q1661 : Cond.instanceMethod ⟨"EbbWreckModel", "takes", "(J)Z"⟩ ∈ lw_g := mg (List.mem_of_getElem? (i := 1661) (by decide +kernel)) rfl
theorem q55 : Cond.selects "EbbWreckModel" ⟨"EbbWreckModel", "takes", "(J)Z"⟩ ⟨"EbbWreckModel", "takes", "(J)Z"⟩ ∈ lw_g := mg (List.mem_of_getElem? (i := 55) (by decide +kernel)) rfl
theorem q1659 : Cond.methodLink "EbbWreckModel" 139 ⟨"EbbWreckModel", "takes", "(J)Z"⟩ ∈ lw_g := mg (List.mem_of_getElem? (i := 1659) (by decide +kernel)) rfl
theorem q1670 : Cond.code ⟨"EbbWreckModel", "fails", "(I)V"⟩ prog_14_method_15_code 2 none ∈ lw_g := mg (List.mem_of_getElem? (i := 1670) (by decide +kernel)) rfl
theorem q1669 : Cond.instanceMethod ⟨"EbbWreckModel", "fails", "(I)V"⟩ ∈ lw_g := mg (List.mem_of_getElem? (i := 1669) (by decide +kernel)) rfl
theorem q57 : Cond.selects "EbbWreckModel" ⟨"EbbWreckModel", "fails", "(I)V"⟩ ⟨"EbbWreckModel", "fails", "(I)V"⟩ ∈ lw_g := mg (List.mem_of_getElem? (i := 57) (by decide +kernel)) rfl
theorem q1667 : Cond.methodLink "EbbWreckModel" 142 ⟨"EbbWreckModel", "fails", "(I)V"⟩ ∈ lw_g := mg (List.mem_of_getElem? (i := 1667) (by decide +kernel)) rfl
theorem q1658 : Cond.code ⟨"EbbWreckModel", "asks", "(J)V"⟩ prog_14_method_18_code 3 none ∈ lw_g := mg (List.mem_of_getElem? (i := 1658) (by decide +kernel)) rfl
theorem q1657 : Cond.instanceMethod ⟨"EbbWreckModel", "asks", "(J)V"⟩ ∈ lw_g := mg (List.mem_of_getElem? (i := 1657) (by decide +kernel)) rfl
theorem q54 : Cond.selects "EbbWreckModel" ⟨"EbbWreckModel", "asks", "(J)V"⟩ ⟨"EbbWreckModel", "asks", "(J)V"⟩ ∈ lw_g := mg (List.mem_of_getElem? (i := 54) (by decide +kernel)) rfl
theorem q1655 : Cond.methodLink "EbbWreckModel" 145 ⟨"EbbWreckModel", "asks", "(J)V"⟩ ∈ lw_g := mg (List.mem_of_getElem? (i := 1655) (by decide +kernel)) rfl
theorem q1679 : Cond.code ⟨"EbbWreckModel", "number", "(II)I"⟩ prog_14_method_19_code 4 (some .int) ∈ lw_g := mg (List.mem_of_getElem? (i := 1679) (by decide +kernel)) rfl
theorem q1678 : Cond.instanceMethod ⟨"EbbWreckModel", "number", "(II)I"⟩ ∈ lw_g := mg (List.mem_of_getElem? (i := 1678) (by decide +kernel)) rfl
theorem q59 : Cond.selects "EbbWreckModel" ⟨"EbbWreckModel", "number", "(II)I"⟩ ⟨"EbbWreckModel", "number", "(II)I"⟩ ∈ lw_g := mg (List.mem_of_getElem? (i := 59) (by decide +kernel)) rfl
theorem q1676 : Cond.methodLink "EbbWreckModel" 149 ⟨"EbbWreckModel", "number", "(II)I"⟩ ∈ lw_g := mg (List.mem_of_getElem? (i := 1676) (by decide +kernel)) rfl
theorem q1700 : Cond.code ⟨"EbbWreckModel", "hasRead", "(I)I"⟩ prog_14_method_25_code 2 (some .int) ∈ lw_g := mg (List.mem_of_getElem? (i := 1700) (by decide +kernel)) rfl
theorem q1699 : Cond.instanceMethod ⟨"EbbWreckModel", "hasRead", "(I)I"⟩ ∈ lw_g := mg (List.mem_of_getElem? (i := 1699) (by decide +kernel)) rfl
theorem q63 : Cond.selects "EbbWreckModel" ⟨"EbbWreckModel", "hasRead", "(I)I"⟩ ⟨"EbbWreckModel", "hasRead", "(I)I"⟩ ∈ lw_g := mg (List.mem_of_getElem? (i := 63) (by decide +kernel)) rfl
theorem q1697 : Cond.methodLink "EbbWreckModel" 156 ⟨"EbbWreckModel", "hasRead", "(I)I"⟩ ∈ lw_g := mg (List.mem_of_getElem? (i := 1697) (by decide +kernel)) rfl
theorem q1705 : Cond.constantLong "EbbWreckModel" 160 40187 ∈ lw_g := mg (List.mem_of_getElem? (i := 1705) (by decide +kernel)) rfl
theorem q1696 : Cond.code ⟨"EbbWreckModel", "cellHere", "()I"⟩ prog_14_method_27_code 1 (some .int) ∈ lw_g := mg (List.mem_of_getElem? (i := 1696) (by decide +kernel)) rfl
theorem q1695 : Cond.instanceMethod ⟨"EbbWreckModel", "cellHere", "()I"⟩ ∈ lw_g := mg (List.mem_of_getElem? (i := 1695) (by decide +kernel)) rfl
theorem q62 : Cond.selects "EbbWreckModel" ⟨"EbbWreckModel", "cellHere", "()I"⟩ ⟨"EbbWreckModel", "cellHere", "()I"⟩ ∈ lw_g := mg (List.mem_of_getElem? (i := 62) (by decide +kernel)) rfl
theorem q1693 : Cond.methodLink "EbbWreckModel" 162 ⟨"EbbWreckModel", "cellHere", "()I"⟩ ∈ lw_g := mg (List.mem_of_getElem? (i := 1693) (by decide +kernel)) rfl
theorem q1680 : Cond.constantLong "EbbWreckModel" 166 3436186 ∈ lw_g := mg (List.mem_of_getElem? (i := 1680) (by decide +kernel)) rfl
theorem q1704 : Cond.code ⟨"EbbWreckModel", "stepsHere", "()I"⟩ prog_14_method_28_code 3 (some .int) ∈ lw_g := mg (List.mem_of_getElem? (i := 1704) (by decide +kernel)) rfl
theorem q1703 : Cond.instanceMethod ⟨"EbbWreckModel", "stepsHere", "()I"⟩ ∈ lw_g := mg (List.mem_of_getElem? (i := 1703) (by decide +kernel)) rfl
theorem q64 : Cond.selects "EbbWreckModel" ⟨"EbbWreckModel", "stepsHere", "()I"⟩ ⟨"EbbWreckModel", "stepsHere", "()I"⟩ ∈ lw_g := mg (List.mem_of_getElem? (i := 64) (by decide +kernel)) rfl
theorem q1701 : Cond.methodLink "EbbWreckModel" 168 ⟨"EbbWreckModel", "stepsHere", "()I"⟩ ∈ lw_g := mg (List.mem_of_getElem? (i := 1701) (by decide +kernel)) rfl
theorem q1682 : Cond.constantLong "EbbWreckModel" 171 3701 ∈ lw_g := mg (List.mem_of_getElem? (i := 1682) (by decide +kernel)) rfl
theorem q1653 : Cond.code ⟨"EbbWreckModel", "isGood", "()Z"⟩ prog_14_method_14_code 1 (some .boolean) ∈ lw_g := mg (List.mem_of_getElem? (i := 1653) (by decide +kernel)) rfl
theorem q1652 : Cond.instanceMethod ⟨"EbbWreckModel", "isGood", "()Z"⟩ ∈ lw_g := mg (List.mem_of_getElem? (i := 1652) (by decide +kernel)) rfl
theorem q53 : Cond.selects "EbbWreckModel" ⟨"EbbWreckModel", "isGood", "()Z"⟩ ⟨"EbbWreckModel", "isGood", "()Z"⟩ ∈ lw_g := mg (List.mem_of_getElem? (i := 53) (by decide +kernel)) rfl
theorem q1650 : Cond.methodLink "EbbWreckModel" 173 ⟨"EbbWreckModel", "isGood", "()Z"⟩ ∈ lw_g := mg (List.mem_of_getElem? (i := 1650) (by decide +kernel)) rfl
theorem q1716 : Cond.constantLong "EbbWreckModel" 177 12532058 ∈ lw_g := mg (List.mem_of_getElem? (i := 1716) (by decide +kernel)) rfl
theorem q1675 : Cond.code ⟨"EbbWreckModel", "number", "(JII)I"⟩ prog_14_method_20_code 5 (some .int) ∈ lw_g := mg (List.mem_of_getElem? (i := 1675) (by decide +kernel)) rfl
theorem q1674 : Cond.instanceMethod ⟨"EbbWreckModel", "number", "(JII)I"⟩ ∈ lw_g := mg (List.mem_of_getElem? (i := 1674) (by decide +kernel)) rfl
theorem q58 : Cond.selects "EbbWreckModel" ⟨"EbbWreckModel", "number", "(JII)I"⟩ ⟨"EbbWreckModel", "number", "(JII)I"⟩ ∈ lw_g := mg (List.mem_of_getElem? (i := 58) (by decide +kernel)) rfl
theorem q1672 : Cond.methodLink "EbbWreckModel" 179 ⟨"EbbWreckModel", "number", "(JII)I"⟩ ∈ lw_g := mg (List.mem_of_getElem? (i := 1672) (by decide +kernel)) rfl
theorem q1717 : Cond.constantLong "EbbWreckModel" 182 47 ∈ lw_g := mg (List.mem_of_getElem? (i := 1717) (by decide +kernel)) rfl
theorem q1718 : Cond.constantLong "EbbWreckModel" 184 131638 ∈ lw_g := mg (List.mem_of_getElem? (i := 1718) (by decide +kernel)) rfl
theorem q1632 : Cond.code ⟨"EbbWreckModel", "tells", "(II)V"⟩ prog_14_method_26_code 3 none ∈ lw_g := mg (List.mem_of_getElem? (i := 1632) (by decide +kernel)) rfl
theorem q1631 : Cond.instanceMethod ⟨"EbbWreckModel", "tells", "(II)V"⟩ ∈ lw_g := mg (List.mem_of_getElem? (i := 1631) (by decide +kernel)) rfl
theorem q49 : Cond.selects "EbbWreckModel" ⟨"EbbWreckModel", "tells", "(II)V"⟩ ⟨"EbbWreckModel", "tells", "(II)V"⟩ ∈ lw_g := mg (List.mem_of_getElem? (i := 49) (by decide +kernel)) rfl
theorem q1629 : Cond.methodLink "EbbWreckModel" 186 ⟨"EbbWreckModel", "tells", "(II)V"⟩ ∈ lw_g := mg (List.mem_of_getElem? (i := 1629) (by decide +kernel)) rfl
theorem q1681 : Cond.constantLong "EbbWreckModel" 190 10334396 ∈ lw_g := mg (List.mem_of_getElem? (i := 1681) (by decide +kernel)) rfl
theorem q1724 : Cond.constantLong "EbbWreckModel" 192 555 ∈ lw_g := mg (List.mem_of_getElem? (i := 1724) (by decide +kernel)) rfl
theorem q1725 : Cond.constantLong "EbbWreckModel" 194 419 ∈ lw_g := mg (List.mem_of_getElem? (i := 1725) (by decide +kernel)) rfl
theorem q1729 : Cond.code ⟨"EbbWreckModel", "phaseHere", "()I"⟩ prog_14_method_31_code 1 (some .int) ∈ lw_g := mg (List.mem_of_getElem? (i := 1729) (by decide +kernel)) rfl
theorem q1728 : Cond.instanceMethod ⟨"EbbWreckModel", "phaseHere", "()I"⟩ ∈ lw_g := mg (List.mem_of_getElem? (i := 1728) (by decide +kernel)) rfl
theorem q68 : Cond.selects "EbbWreckModel" ⟨"EbbWreckModel", "phaseHere", "()I"⟩ ⟨"EbbWreckModel", "phaseHere", "()I"⟩ ∈ lw_g := mg (List.mem_of_getElem? (i := 68) (by decide +kernel)) rfl
theorem q1726 : Cond.methodLink "EbbWreckModel" 196 ⟨"EbbWreckModel", "phaseHere", "()I"⟩ ∈ lw_g := mg (List.mem_of_getElem? (i := 1726) (by decide +kernel)) rfl
theorem q1688 : Cond.constantLong "EbbWreckModel" 199 1473512789 ∈ lw_g := mg (List.mem_of_getElem? (i := 1688) (by decide +kernel)) rfl
theorem q1706 : Cond.constantLong "EbbWreckModel" 204 1162115 ∈ lw_g := mg (List.mem_of_getElem? (i := 1706) (by decide +kernel)) rfl
theorem q1707 : Cond.constantLong "EbbWreckModel" 206 10793230 ∈ lw_g := mg (List.mem_of_getElem? (i := 1707) (by decide +kernel)) rfl
theorem q1711 : Cond.code ⟨"EbbWreckModel", "isRoom", "(ZII)Z"⟩ prog_14_method_33_code 4 (some .boolean) ∈ lw_g := mg (List.mem_of_getElem? (i := 1711) (by decide +kernel)) rfl
theorem q1710 : Cond.instanceMethod ⟨"EbbWreckModel", "isRoom", "(ZII)Z"⟩ ∈ lw_g := mg (List.mem_of_getElem? (i := 1710) (by decide +kernel)) rfl
theorem q65 : Cond.selects "EbbWreckModel" ⟨"EbbWreckModel", "isRoom", "(ZII)Z"⟩ ⟨"EbbWreckModel", "isRoom", "(ZII)Z"⟩ ∈ lw_g := mg (List.mem_of_getElem? (i := 65) (by decide +kernel)) rfl
theorem q1708 : Cond.methodLink "EbbWreckModel" 208 ⟨"EbbWreckModel", "isRoom", "(ZII)Z"⟩ ∈ lw_g := mg (List.mem_of_getElem? (i := 1708) (by decide +kernel)) rfl
theorem q1719 : Cond.constantLong "EbbWreckModel" 215 369932 ∈ lw_g := mg (List.mem_of_getElem? (i := 1719) (by decide +kernel)) rfl
theorem q1730 : Cond.constantLong "EbbWreckModel" 220 277820595 ∈ lw_g := mg (List.mem_of_getElem? (i := 1730) (by decide +kernel)) rfl
theorem q1723 : Cond.code ⟨"EbbWreckModel", "ruleLine", "()V"⟩ prog_14_method_32_code 4 none ∈ lw_g := mg (List.mem_of_getElem? (i := 1723) (by decide +kernel)) rfl
theorem q1722 : Cond.instanceMethod ⟨"EbbWreckModel", "ruleLine", "()V"⟩ ∈ lw_g := mg (List.mem_of_getElem? (i := 1722) (by decide +kernel)) rfl
theorem q67 : Cond.selects "EbbWreckModel" ⟨"EbbWreckModel", "ruleLine", "()V"⟩ ⟨"EbbWreckModel", "ruleLine", "()V"⟩ ∈ lw_g := mg (List.mem_of_getElem? (i := 67) (by decide +kernel)) rfl
theorem q1720 : Cond.methodLink "EbbWreckModel" 217 ⟨"EbbWreckModel", "ruleLine", "()V"⟩ ∈ lw_g := mg (List.mem_of_getElem? (i := 1720) (by decide +kernel)) rfl
theorem q1715 : Cond.code ⟨"EbbWreckModel", "thingLine", "()V"⟩ prog_14_method_30_code 2 none ∈ lw_g := mg (List.mem_of_getElem? (i := 1715) (by decide +kernel)) rfl
theorem q1714 : Cond.instanceMethod ⟨"EbbWreckModel", "thingLine", "()V"⟩ ∈ lw_g := mg (List.mem_of_getElem? (i := 1714) (by decide +kernel)) rfl
theorem q66 : Cond.selects "EbbWreckModel" ⟨"EbbWreckModel", "thingLine", "()V"⟩ ⟨"EbbWreckModel", "thingLine", "()V"⟩ ∈ lw_g := mg (List.mem_of_getElem? (i := 66) (by decide +kernel)) rfl
theorem q1712 : Cond.methodLink "EbbWreckModel" 212 ⟨"EbbWreckModel", "thingLine", "()V"⟩ ∈ lw_g := mg (List.mem_of_getElem? (i := 1712) (by decide +kernel)) rfl
theorem q1692 : Cond.code ⟨"EbbWreckModel", "currentLine", "()V"⟩ prog_14_method_29_code 4 none ∈ lw_g := mg (List.mem_of_getElem? (i := 1692) (by decide +kernel)) rfl
theorem q1691 : Cond.instanceMethod ⟨"EbbWreckModel", "currentLine", "()V"⟩ ∈ lw_g := mg (List.mem_of_getElem? (i := 1691) (by decide +kernel)) rfl
theorem q61 : Cond.selects "EbbWreckModel" ⟨"EbbWreckModel", "currentLine", "()V"⟩ ⟨"EbbWreckModel", "currentLine", "()V"⟩ ∈ lw_g := mg (List.mem_of_getElem? (i := 61) (by decide +kernel)) rfl
theorem q1689 : Cond.methodLink "EbbWreckModel" 201 ⟨"EbbWreckModel", "currentLine", "()V"⟩ ∈ lw_g := mg (List.mem_of_getElem? (i := 1689) (by decide +kernel)) rfl
theorem q1745 : Cond.code ⟨"EbbWreckModel", "copyRow", "([IIII)V"⟩ prog_14_method_37_code 5 none ∈ lw_g := mg (List.mem_of_getElem? (i := 1745) (by decide +kernel)) rfl
theorem q1744 : Cond.static ⟨"EbbWreckModel", "copyRow", "([IIII)V"⟩ ∈ lw_g := mg (List.mem_of_getElem? (i := 1744) (by decide +kernel)) rfl
theorem q1743 : Cond.methodLink "EbbWreckModel" 246 ⟨"EbbWreckModel", "copyRow", "([IIII)V"⟩ ∈ lw_g := mg (List.mem_of_getElem? (i := 1743) (by decide +kernel)) rfl
theorem q2107 : Cond.code ⟨"EbbWreckModel", "isFull", "()Z"⟩ prog_14_method_125_code 1 (some .boolean) ∈ lw_g := mg (List.mem_of_getElem? (i := 2107) (by decide +kernel)) rfl
theorem q2106 : Cond.instanceMethod ⟨"EbbWreckModel", "isFull", "()Z"⟩ ∈ lw_g := mg (List.mem_of_getElem? (i := 2106) (by decide +kernel)) rfl
theorem q110 : Cond.selects "EbbWreckModel" ⟨"EbbWreckModel", "isFull", "()Z"⟩ ⟨"EbbWreckModel", "isFull", "()Z"⟩ ∈ lw_g := mg (List.mem_of_getElem? (i := 110) (by decide +kernel)) rfl
theorem q2104 : Cond.methodLink "EbbWreckModel" 429 ⟨"EbbWreckModel", "isFull", "()Z"⟩ ∈ lw_g := mg (List.mem_of_getElem? (i := 2104) (by decide +kernel)) rfl
theorem q2111 : Cond.code ⟨"EbbWreckModel", "acts", "(IIII)V"⟩ prog_14_method_126_code 6 none ∈ lw_g := mg (List.mem_of_getElem? (i := 2111) (by decide +kernel)) rfl
theorem q2110 : Cond.instanceMethod ⟨"EbbWreckModel", "acts", "(IIII)V"⟩ ∈ lw_g := mg (List.mem_of_getElem? (i := 2110) (by decide +kernel)) rfl
theorem q111 : Cond.selects "EbbWreckModel" ⟨"EbbWreckModel", "acts", "(IIII)V"⟩ ⟨"EbbWreckModel", "acts", "(IIII)V"⟩ ∈ lw_g := mg (List.mem_of_getElem? (i := 111) (by decide +kernel)) rfl
theorem q2108 : Cond.methodLink "EbbWreckModel" 432 ⟨"EbbWreckModel", "acts", "(IIII)V"⟩ ∈ lw_g := mg (List.mem_of_getElem? (i := 2108) (by decide +kernel)) rfl
theorem q1742 : Cond.code ⟨"EbbWreckModel", "copyShore", "(II)V"⟩ prog_14_method_38_code 3 none ∈ lw_g := mg (List.mem_of_getElem? (i := 1742) (by decide +kernel)) rfl
theorem q1741 : Cond.instanceMethod ⟨"EbbWreckModel", "copyShore", "(II)V"⟩ ∈ lw_g := mg (List.mem_of_getElem? (i := 1741) (by decide +kernel)) rfl
theorem q71 : Cond.selects "EbbWreckModel" ⟨"EbbWreckModel", "copyShore", "(II)V"⟩ ⟨"EbbWreckModel", "copyShore", "(II)V"⟩ ∈ lw_g := mg (List.mem_of_getElem? (i := 71) (by decide +kernel)) rfl
theorem q1739 : Cond.methodLink "EbbWreckModel" 243 ⟨"EbbWreckModel", "copyShore", "(II)V"⟩ ∈ lw_g := mg (List.mem_of_getElem? (i := 1739) (by decide +kernel)) rfl
theorem q1491 : Cond.fieldLink "EbbWreckModel" 52 "EbbWreckModel" "isKept" "[Z" ∈ lw_g := mg (List.mem_of_getElem? (i := 1491) (by decide +kernel)) rfl
theorem q1628 : Cond.code ⟨"EbbWreckModel", "clears", "()V"⟩ prog_14_method_35_code 2 none ∈ lw_g := mg (List.mem_of_getElem? (i := 1628) (by decide +kernel)) rfl
theorem q1627 : Cond.instanceMethod ⟨"EbbWreckModel", "clears", "()V"⟩ ∈ lw_g := mg (List.mem_of_getElem? (i := 1627) (by decide +kernel)) rfl
theorem q48 : Cond.selects "EbbWreckModel" ⟨"EbbWreckModel", "clears", "()V"⟩ ⟨"EbbWreckModel", "clears", "()V"⟩ ∈ lw_g := mg (List.mem_of_getElem? (i := 48) (by decide +kernel)) rfl
theorem q1625 : Cond.methodLink "EbbWreckModel" 222 ⟨"EbbWreckModel", "clears", "()V"⟩ ∈ lw_g := mg (List.mem_of_getElem? (i := 1625) (by decide +kernel)) rfl
theorem q1636 : Cond.code ⟨"EbbWreckModel", "begins", "()V"⟩ prog_14_method_22_code 1 none ∈ lw_g := mg (List.mem_of_getElem? (i := 1636) (by decide +kernel)) rfl
theorem q1635 : Cond.instanceMethod ⟨"EbbWreckModel", "begins", "()V"⟩ ∈ lw_g := mg (List.mem_of_getElem? (i := 1635) (by decide +kernel)) rfl
theorem q50 : Cond.selects "EbbWreckModel" ⟨"EbbWreckModel", "begins", "()V"⟩ ⟨"EbbWreckModel", "begins", "()V"⟩ ∈ lw_g := mg (List.mem_of_getElem? (i := 50) (by decide +kernel)) rfl
theorem q1633 : Cond.methodLink "EbbWreckModel" 225 ⟨"EbbWreckModel", "begins", "()V"⟩ ∈ lw_g := mg (List.mem_of_getElem? (i := 1633) (by decide +kernel)) rfl
theorem q1738 : Cond.code ⟨"EbbWreckModel", "isOver", "()V"⟩ prog_14_method_23_code 1 none ∈ lw_g := mg (List.mem_of_getElem? (i := 1738) (by decide +kernel)) rfl
theorem q1737 : Cond.instanceMethod ⟨"EbbWreckModel", "isOver", "()V"⟩ ∈ lw_g := mg (List.mem_of_getElem? (i := 1737) (by decide +kernel)) rfl
theorem q70 : Cond.selects "EbbWreckModel" ⟨"EbbWreckModel", "isOver", "()V"⟩ ⟨"EbbWreckModel", "isOver", "()V"⟩ ∈ lw_g := mg (List.mem_of_getElem? (i := 70) (by decide +kernel)) rfl
theorem q1735 : Cond.methodLink "EbbWreckModel" 240 ⟨"EbbWreckModel", "isOver", "()V"⟩ ∈ lw_g := mg (List.mem_of_getElem? (i := 1735) (by decide +kernel)) rfl
theorem q1654 : Cond.constantLong "EbbWreckModel" 228 10266269 ∈ lw_g := mg (List.mem_of_getElem? (i := 1654) (by decide +kernel)) rfl
theorem q1671 : Cond.constantLong "EbbWreckModel" 230 1701829 ∈ lw_g := mg (List.mem_of_getElem? (i := 1671) (by decide +kernel)) rfl
theorem q1683 : Cond.constantLong "EbbWreckModel" 232 298288 ∈ lw_g := mg (List.mem_of_getElem? (i := 1683) (by decide +kernel)) rfl
theorem q1734 : Cond.code ⟨"EbbWreckModel", "ends", "()V"⟩ prog_14_method_21_code 1 none ∈ lw_g := mg (List.mem_of_getElem? (i := 1734) (by decide +kernel)) rfl
theorem q1733 : Cond.instanceMethod ⟨"EbbWreckModel", "ends", "()V"⟩ ∈ lw_g := mg (List.mem_of_getElem? (i := 1733) (by decide +kernel)) rfl
theorem q69 : Cond.selects "EbbWreckModel" ⟨"EbbWreckModel", "ends", "()V"⟩ ⟨"EbbWreckModel", "ends", "()V"⟩ ∈ lw_g := mg (List.mem_of_getElem? (i := 69) (by decide +kernel)) rfl
theorem q1731 : Cond.methodLink "EbbWreckModel" 237 ⟨"EbbWreckModel", "ends", "()V"⟩ ∈ lw_g := mg (List.mem_of_getElem? (i := 1731) (by decide +kernel)) rfl
theorem q1687 : Cond.code ⟨"EbbWreckModel", "line", "()V"⟩ prog_14_method_34_code 2 none ∈ lw_g := mg (List.mem_of_getElem? (i := 1687) (by decide +kernel)) rfl
theorem q1686 : Cond.instanceMethod ⟨"EbbWreckModel", "line", "()V"⟩ ∈ lw_g := mg (List.mem_of_getElem? (i := 1686) (by decide +kernel)) rfl
theorem q60 : Cond.selects "EbbWreckModel" ⟨"EbbWreckModel", "line", "()V"⟩ ⟨"EbbWreckModel", "line", "()V"⟩ ∈ lw_g := mg (List.mem_of_getElem? (i := 60) (by decide +kernel)) rfl
theorem q1684 : Cond.methodLink "EbbWreckModel" 234 ⟨"EbbWreckModel", "line", "()V"⟩ ∈ lw_g := mg (List.mem_of_getElem? (i := 1684) (by decide +kernel)) rfl
theorem q1600 : Cond.code ⟨"EbbWreckModel", "cut", "(JI)J"⟩ prog_14_method_6_code 3 (some .long) ∈ lw_g := mg (List.mem_of_getElem? (i := 1600) (by decide +kernel)) rfl
theorem q1599 : Cond.static ⟨"EbbWreckModel", "cut", "(JI)J"⟩ ∈ lw_g := mg (List.mem_of_getElem? (i := 1599) (by decide +kernel)) rfl
theorem q1598 : Cond.methodLink "EbbWreckModel" 87 ⟨"EbbWreckModel", "cut", "(JI)J"⟩ ∈ lw_g := mg (List.mem_of_getElem? (i := 1598) (by decide +kernel)) rfl
theorem q1472 : Cond.fieldLink "EbbWreckModel" 20 "EbbWreckModel" "moved" "[J" ∈ lw_g := mg (List.mem_of_getElem? (i := 1472) (by decide +kernel)) rfl
theorem q1497 : Cond.fieldLink "EbbWreckModel" 361 "EbbWreckModel" "pushHow" "I" ∈ lw_g := mg (List.mem_of_getElem? (i := 1497) (by decide +kernel)) rfl
theorem q1945 : Cond.code ⟨"EbbWreckModel", "pushOf", "(III)I"⟩ prog_14_method_85_code 8 (some .int) ∈ lw_g := mg (List.mem_of_getElem? (i := 1945) (by decide +kernel)) rfl
theorem q1944 : Cond.instanceMethod ⟨"EbbWreckModel", "pushOf", "(III)I"⟩ ∈ lw_g := mg (List.mem_of_getElem? (i := 1944) (by decide +kernel)) rfl
theorem q97 : Cond.selects "EbbWreckModel" ⟨"EbbWreckModel", "pushOf", "(III)I"⟩ ⟨"EbbWreckModel", "pushOf", "(III)I"⟩ ∈ lw_g := mg (List.mem_of_getElem? (i := 97) (by decide +kernel)) rfl
theorem q1942 : Cond.methodLink "EbbWreckModel" 364 ⟨"EbbWreckModel", "pushOf", "(III)I"⟩ ∈ lw_g := mg (List.mem_of_getElem? (i := 1942) (by decide +kernel)) rfl
theorem mX12_in : CmS yX12_in cX12_in 6 (some .boolean) 3 := ⟨q1592, q127, q1593, ⟨by decide, by decide, by decide +kernel⟩⟩
theorem mX12_isShore : CmV "EbbWreckModel" yX12_isShore cX12_isShore 1 (some .boolean) 0 := ⟨q1784, q76, q127, q1785, ⟨rfl, by decide, by decide, by decide +kernel⟩⟩
theorem mX12_isBit : CmS yX12_isBit cX12_isBit 2 (some .boolean) 2 := ⟨q1760, q127, q1761, ⟨by decide, by decide, by decide +kernel⟩⟩
theorem mX12_round : CmV "EbbWreckModel" yX12_round cX12_round 1 (some .int) 0 := ⟨q1793, q78, q127, q1794, ⟨rfl, by decide, by decide, by decide +kernel⟩⟩
theorem mX12_phaseOf : CmV "EbbWreckModel" yX12_phaseOf cX12_phaseOf 3 (some .int) 1 := ⟨q1789, q77, q127, q1790, ⟨rfl, by decide, by decide, by decide +kernel⟩⟩
theorem mX12_held : CmV "EbbWreckModel" yX12_held cX12_held 2 (some .int) 1 := ⟨q1810, q80, q127, q1811, ⟨rfl, by decide, by decide, by decide +kernel⟩⟩
theorem mX12_stands : CmV "EbbWreckModel" yX12_stands cX12_stands 4 (some .boolean) 3 := ⟨q1868, q88, q127, q1869, ⟨rfl, by decide, by decide, by decide +kernel⟩⟩
theorem mX12_shoved : CmV "EbbWreckModel" yX12_shoved cX12_shoved 3 (some .int) 2 := ⟨q1840, q84, q127, q1841, ⟨rfl, by decide, by decide, by decide +kernel⟩⟩
theorem mX12_on : CmV "EbbWreckModel" yX12_on cX12_on 4 (some .int) 2 := ⟨q1806, q79, q127, q1807, ⟨rfl, by decide, by decide, by decide +kernel⟩⟩
theorem mX12_isBeach : CmV "EbbWreckModel" yX12_isBeach cX12_isBeach 2 (some .boolean) 1 := ⟨q1757, q73, q127, q1758, ⟨rfl, by decide, by decide, by decide +kernel⟩⟩
theorem mX12_goes : CmV "EbbWreckModel" yX12_goes cX12_goes 8 none 3 := ⟨q1831, q83, q127, q1832, ⟨rfl, by decide, by decide, by decide +kernel⟩⟩
theorem mX12_partyOf : CmV "EbbWreckModel" yX12_partyOf cX12_partyOf 5 (some .int) 3 := ⟨q1864, q87, q127, q1865, ⟨rfl, by decide, by decide, by decide +kernel⟩⟩
theorem mX12_comesUp : CmV "EbbWreckModel" yX12_comesUp cX12_comesUp 2 none 1 := ⟨q1848, q85, q127, q1849, ⟨rfl, by decide, by decide, by decide +kernel⟩⟩
theorem mX12_whoseNow : CmV "EbbWreckModel" yX12_whoseNow cX12_whoseNow 3 (some .int) 2 := ⟨q1860, q86, q127, q1861, ⟨rfl, by decide, by decide, by decide +kernel⟩⟩
theorem mX12_worth : CmV "EbbWreckModel" yX12_worth cX12_worth 2 (some .int) 1 := ⟨q1885, q91, q127, q1886, ⟨rfl, by decide, by decide, by decide +kernel⟩⟩
theorem mX12_isThing : CmV "EbbWreckModel" yX12_isThing cX12_isThing 2 (some .boolean) 1 := ⟨q1768, q74, q127, q1769, ⟨rfl, by decide, by decide, by decide +kernel⟩⟩
theorem mX12_isParty : CmV "EbbWreckModel" yX12_isParty cX12_isParty 2 (some .boolean) 1 := ⟨q1876, q89, q127, q1877, ⟨rfl, by decide, by decide, by decide +kernel⟩⟩
theorem mX12_pushBy : CmV "EbbWreckModel" yX12_pushBy cX12_pushBy 7 (some .int) 4 := ⟨q1932, q95, q127, q1933, ⟨rfl, by decide, by decide, by decide +kernel⟩⟩
theorem mX12_floatsFrom : CmV "EbbWreckModel" yX12_floatsFrom cX12_floatsFrom 5 none 3 := ⟨q1988, q99, q127, q1989, ⟨rfl, by decide, by decide, by decide +kernel⟩⟩
theorem mX12_carried : CmV "EbbWreckModel" yX12_carried cX12_carried 9 (some .int) 5 := ⟨q2033, q104, q127, q2034, ⟨rfl, by decide, by decide, by decide +kernel⟩⟩
theorem mX12_areFit : CmV "EbbWreckModel" yX12_areFit cX12_areFit 6 (some .boolean) 3 := ⟨q2029, q103, q127, q2030, ⟨rfl, by decide, by decide, by decide +kernel⟩⟩
theorem mX12_isSlot : CmS yX12_isSlot cX12_isSlot 1 (some .boolean) 1 := ⟨q1588, q127, q1589, ⟨by decide, by decide, by decide +kernel⟩⟩
theorem mX12_isCell : CmV "EbbWreckModel" yX12_isCell cX12_isCell 3 (some .boolean) 1 := ⟨q1752, q72, q127, q1753, ⟨rfl, by decide, by decide, by decide +kernel⟩⟩
theorem mX12_fitsOf : CmV "EbbWreckModel" yX12_fitsOf cX12_fitsOf 5 (some .int) 1 := ⟨q2025, q102, q127, q2026, ⟨rfl, by decide, by decide, by decide +kernel⟩⟩
theorem mX12_lays : CmV "EbbWreckModel" yX12_lays cX12_lays 2 none 0 := ⟨q1822, q82, q127, q1823, ⟨rfl, by decide, by decide, by decide +kernel⟩⟩
theorem mX12_seatOf : CmV "EbbWreckModel" yX12_seatOf cX12_seatOf 6 (some .int) 2 := ⟨q2064, q107, q127, q2065, ⟨rfl, by decide, by decide, by decide +kernel⟩⟩
theorem mX12_rests : CmV "EbbWreckModel" yX12_rests cX12_rests 4 none 1 := ⟨q2084, q109, q127, q2085, ⟨rfl, by decide, by decide, by decide +kernel⟩⟩
theorem mX12_laysStrands : CmV "EbbWreckModel" yX12_laysStrands cX12_laysStrands 2 none 0 := ⟨q2060, q106, q127, q2061, ⟨rfl, by decide, by decide, by decide +kernel⟩⟩
theorem mX12_isRule : CmV "EbbWreckModel" yX12_isRule cX12_isRule 2 (some .boolean) 1 := ⟨q1776, q75, q127, q1777, ⟨rfl, by decide, by decide, by decide +kernel⟩⟩
theorem mX12_isIdle : CmV "EbbWreckModel" yX12_isIdle cX12_isIdle 6 (some .boolean) 1 := ⟨q1908, q92, q127, q1909, ⟨rfl, by decide, by decide, by decide +kernel⟩⟩
theorem mX12_dropOf : CmV "EbbWreckModel" yX12_dropOf cX12_dropOf 5 (some .int) 2 := ⟨q2001, q100, q127, q2002, ⟨rfl, by decide, by decide, by decide +kernel⟩⟩
theorem mX12_sizeOf : CmS yX12_sizeOf cX12_sizeOf 3 (some .int) 1 := ⟨q1896, q127, q1897, ⟨by decide, by decide, by decide +kernel⟩⟩
theorem mX12_whyNot : CmV "EbbWreckModel" yX12_whyNot cX12_whyNot 4 (some .int) 1 := ⟨q2021, q101, q127, q2022, ⟨rfl, by decide, by decide, by decide +kernel⟩⟩
theorem mX12_size : CmS yX12_size cX12_size 1 (some .int) 1 := ⟨q2040, q127, q2041, ⟨by decide, by decide, by decide +kernel⟩⟩
theorem mX12_laysAsk : CmV "EbbWreckModel" yX12_laysAsk cX12_laysAsk 8 none 1 := ⟨q2048, q105, q127, q2049, ⟨rfl, by decide, by decide, by decide +kernel⟩⟩
theorem mX12_isPush : CmV "EbbWreckModel" yX12_isPush cX12_isPush 3 (some .boolean) 2 := ⟨q1924, q93, q127, q1925, ⟨rfl, by decide, by decide, by decide +kernel⟩⟩
theorem mX12_laysPushes : CmV "EbbWreckModel" yX12_laysPushes cX12_laysPushes 6 none 1 := ⟨q1928, q94, q127, q1929, ⟨rfl, by decide, by decide, by decide +kernel⟩⟩
theorem mX12_first : CmV "EbbWreckModel" yX12_first cX12_first 2 (some .int) 1 := ⟨q1936, q96, q127, q1937, ⟨rfl, by decide, by decide, by decide +kernel⟩⟩
theorem mX12_wardBy : CmV "EbbWreckModel" yX12_wardBy cX12_wardBy 7 (some .int) 4 := ⟨q1960, q98, q127, q1961, ⟨rfl, by decide, by decide, by decide +kernel⟩⟩
theorem mX12_isSitter : CmV "EbbWreckModel" yX12_isSitter cX12_isSitter 2 (some .boolean) 1 := ⟨q1818, q81, q127, q1819, ⟨rfl, by decide, by decide, by decide +kernel⟩⟩
theorem mX12_hasOf : CmV "EbbWreckModel" yX12_hasOf cX12_hasOf 6 (some .int) 3 := ⟨q1881, q90, q127, q1882, ⟨rfl, by decide, by decide, by decide +kernel⟩⟩
theorem mX12_restsNow : CmV "EbbWreckModel" yX12_restsNow cX12_restsNow 1 (some .int) 0 := ⟨q2080, q108, q127, q2081, ⟨rfl, by decide, by decide, by decide +kernel⟩⟩
theorem mX12_isDraw : CmV "EbbWreckModel" yX12_isDraw cX12_isDraw 3 (some .boolean) 2 := ⟨q2130, q112, q127, q2131, ⟨rfl, by decide, by decide, by decide +kernel⟩⟩
theorem mX12_four : CmV "EbbWreckModel" yX12_four cX12_four 3 none 1 := ⟨q1611, q47, q127, q1612, ⟨rfl, by decide, by decide, by decide +kernel⟩⟩
theorem mX12_isByte : CmV "EbbWreckModel" yX12_isByte cX12_isByte 4 (some .boolean) 3 := ⟨q1643, q52, q127, q1644, ⟨rfl, by decide, by decide, by decide +kernel⟩⟩
theorem mX12_is : CmV "EbbWreckModel" yX12_is cX12_is 3 (some .boolean) 1 := ⟨q1665, q56, q127, q1666, ⟨rfl, by decide, by decide, by decide +kernel⟩⟩
theorem mX12_next : CmV "EbbWreckModel" yX12_next cX12_next 2 none 0 := ⟨q1639, q51, q127, q1640, ⟨rfl, by decide, by decide, by decide +kernel⟩⟩
theorem mX12_takes : CmV "EbbWreckModel" yX12_takes cX12_takes 3 (some .boolean) 1 := ⟨q1661, q55, q127, q1662, ⟨rfl, by decide, by decide, by decide +kernel⟩⟩
theorem mX12_fails : CmV "EbbWreckModel" yX12_fails cX12_fails 2 none 1 := ⟨q1669, q57, q127, q1670, ⟨rfl, by decide, by decide, by decide +kernel⟩⟩
theorem mX12_asks : CmV "EbbWreckModel" yX12_asks cX12_asks 3 none 1 := ⟨q1657, q54, q127, q1658, ⟨rfl, by decide, by decide, by decide +kernel⟩⟩
theorem mX12_number : CmV "EbbWreckModel" yX12_number cX12_number 4 (some .int) 2 := ⟨q1678, q59, q127, q1679, ⟨rfl, by decide, by decide, by decide +kernel⟩⟩
theorem mX12_hasRead : CmV "EbbWreckModel" yX12_hasRead cX12_hasRead 2 (some .int) 1 := ⟨q1699, q63, q127, q1700, ⟨rfl, by decide, by decide, by decide +kernel⟩⟩
theorem mX12_cellHere : CmV "EbbWreckModel" yX12_cellHere cX12_cellHere 1 (some .int) 0 := ⟨q1695, q62, q127, q1696, ⟨rfl, by decide, by decide, by decide +kernel⟩⟩
theorem mX12_stepsHere : CmV "EbbWreckModel" yX12_stepsHere cX12_stepsHere 3 (some .int) 0 := ⟨q1703, q64, q127, q1704, ⟨rfl, by decide, by decide, by decide +kernel⟩⟩
theorem mX12_isGood : CmV "EbbWreckModel" yX12_isGood cX12_isGood 1 (some .boolean) 0 := ⟨q1652, q53, q127, q1653, ⟨rfl, by decide, by decide, by decide +kernel⟩⟩
theorem mX12_number_ : CmV "EbbWreckModel" yX12_number_ cX12_number_ 5 (some .int) 3 := ⟨q1674, q58, q127, q1675, ⟨rfl, by decide, by decide, by decide +kernel⟩⟩
theorem mX12_tells : CmV "EbbWreckModel" yX12_tells cX12_tells 3 none 2 := ⟨q1631, q49, q127, q1632, ⟨rfl, by decide, by decide, by decide +kernel⟩⟩
theorem mX12_phaseHere : CmV "EbbWreckModel" yX12_phaseHere cX12_phaseHere 1 (some .int) 0 := ⟨q1728, q68, q127, q1729, ⟨rfl, by decide, by decide, by decide +kernel⟩⟩
theorem mX12_isRoom : CmV "EbbWreckModel" yX12_isRoom cX12_isRoom 4 (some .boolean) 3 := ⟨q1710, q65, q127, q1711, ⟨rfl, by decide, by decide, by decide +kernel⟩⟩
theorem mX12_ruleLine : CmV "EbbWreckModel" yX12_ruleLine cX12_ruleLine 4 none 0 := ⟨q1722, q67, q127, q1723, ⟨rfl, by decide, by decide, by decide +kernel⟩⟩
theorem mX12_thingLine : CmV "EbbWreckModel" yX12_thingLine cX12_thingLine 2 none 0 := ⟨q1714, q66, q127, q1715, ⟨rfl, by decide, by decide, by decide +kernel⟩⟩
theorem mX12_currentLine : CmV "EbbWreckModel" yX12_currentLine cX12_currentLine 4 none 0 := ⟨q1691, q61, q127, q1692, ⟨rfl, by decide, by decide, by decide +kernel⟩⟩
theorem mX12_copyRow : CmS yX12_copyRow cX12_copyRow 5 none 4 := ⟨q1744, q127, q1745, ⟨by decide, by decide, by decide +kernel⟩⟩
theorem mX12_isFull : CmV "EbbWreckModel" yX12_isFull cX12_isFull 1 (some .boolean) 0 := ⟨q2106, q110, q127, q2107, ⟨rfl, by decide, by decide, by decide +kernel⟩⟩
theorem mX12_acts : CmV "EbbWreckModel" yX12_acts cX12_acts 6 none 4 := ⟨q2110, q111, q127, q2111, ⟨rfl, by decide, by decide, by decide +kernel⟩⟩
theorem mX12_copyShore : CmV "EbbWreckModel" yX12_copyShore cX12_copyShore 3 none 2 := ⟨q1741, q71, q127, q1742, ⟨rfl, by decide, by decide, by decide +kernel⟩⟩
theorem mX12_clears : CmV "EbbWreckModel" yX12_clears cX12_clears 2 none 0 := ⟨q1627, q48, q127, q1628, ⟨rfl, by decide, by decide, by decide +kernel⟩⟩
theorem mX12_begins : CmV "EbbWreckModel" yX12_begins cX12_begins 1 none 0 := ⟨q1635, q50, q127, q1636, ⟨rfl, by decide, by decide, by decide +kernel⟩⟩
theorem mX12_isOver : CmV "EbbWreckModel" yX12_isOver cX12_isOver 1 none 0 := ⟨q1737, q70, q127, q1738, ⟨rfl, by decide, by decide, by decide +kernel⟩⟩
theorem mX12_ends : CmV "EbbWreckModel" yX12_ends cX12_ends 1 none 0 := ⟨q1733, q69, q127, q1734, ⟨rfl, by decide, by decide, by decide +kernel⟩⟩
theorem mX12_line : CmV "EbbWreckModel" yX12_line cX12_line 2 none 0 := ⟨q1686, q60, q127, q1687, ⟨rfl, by decide, by decide, by decide +kernel⟩⟩
theorem mX12_cut : CmS yX12_cut cX12_cut 3 (some .long) 2 := ⟨q1599, q127, q1600, ⟨by decide, by decide, by decide +kernel⟩⟩
theorem mX12_pushOf : CmV "EbbWreckModel" yX12_pushOf cX12_pushOf 8 (some .int) 3 := ⟨q1944, q97, q127, q1945, ⟨rfl, by decide, by decide, by decide +kernel⟩⟩
