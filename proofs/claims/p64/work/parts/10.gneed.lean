theorem dX1_isTold_0 : decode cX1_isTold 0 = .ok (.aload_n 0, 1) := by decide +kernel
theorem dX1_isTold_1 : decode cX1_isTold 1 = .ok (.getfield 51, 3) := by decide +kernel
theorem dX1_isTold_4 : decode cX1_isTold 4 = .ok (.ifCond .le 7, 3) := by decide +kernel
theorem dX1_isTold_11 : decode cX1_isTold 11 = .ok (.iconst 0, 1) := by decide +kernel
theorem dX1_isTold_12 : decode cX1_isTold 12 = .ok (.ireturn, 1) := by decide +kernel
theorem dX1_isTold_7 : decode cX1_isTold 7 = .ok (.iconst 1, 1) := by decide +kernel
theorem dX1_isTold_8 : decode cX1_isTold 8 = .ok (.goto 4, 3) := by decide +kernel
theorem dX1_isBeach_0 : decode cX1_isBeach 0 = .ok (.aload_n 0, 1) := by decide +kernel
theorem dX1_isBeach_1 : decode cX1_isBeach 1 = .ok (.getfield 71, 3) := by decide +kernel
theorem dX1_isBeach_4 : decode cX1_isBeach 4 = .ok (.iload_n 1, 1) := by decide +kernel
theorem dX1_isBeach_5 : decode cX1_isBeach 5 = .ok (.ishr, 1) := by decide +kernel
theorem dX1_isBeach_6 : decode cX1_isBeach 6 = .ok (.iconst 1, 1) := by decide +kernel
theorem dX1_isBeach_7 : decode cX1_isBeach 7 = .ok (.iand, 1) := by decide +kernel
theorem dX1_isBeach_8 : decode cX1_isBeach 8 = .ok (.iconst 1, 1) := by decide +kernel
theorem dX1_isBeach_9 : decode cX1_isBeach 9 = .ok (.if_icmp .ne 7, 3) := by decide +kernel
theorem dX1_isBeach_16 : decode cX1_isBeach 16 = .ok (.iconst 0, 1) := by decide +kernel
theorem dX1_isBeach_17 : decode cX1_isBeach 17 = .ok (.ireturn, 1) := by decide +kernel
theorem dX1_isBeach_12 : decode cX1_isBeach 12 = .ok (.iconst 1, 1) := by decide +kernel
theorem dX1_isBeach_13 : decode cX1_isBeach 13 = .ok (.goto 4, 3) := by decide +kernel
theorem dX1_hasCell_0 : decode cX1_hasCell 0 = .ok (.iload_n 1, 1) := by decide +kernel
theorem dX1_hasCell_1 : decode cX1_hasCell 1 = .ok (.ifCond .lt 15, 3) := by decide +kernel
theorem dX1_hasCell_16 : decode cX1_hasCell 16 = .ok (.iconst 0, 1) := by decide +kernel
theorem dX1_hasCell_17 : decode cX1_hasCell 17 = .ok (.ireturn, 1) := by decide +kernel
theorem dX1_hasCell_4 : decode cX1_hasCell 4 = .ok (.iload_n 1, 1) := by decide +kernel
theorem dX1_hasCell_5 : decode cX1_hasCell 5 = .ok (.aload_n 0, 1) := by decide +kernel
theorem dX1_hasCell_6 : decode cX1_hasCell 6 = .ok (.getfield 55, 3) := by decide +kernel
theorem dX1_hasCell_9 : decode cX1_hasCell 9 = .ok (.if_icmp .ge 7, 3) := by decide +kernel
theorem dX1_hasCell_12 : decode cX1_hasCell 12 = .ok (.iconst 1, 1) := by decide +kernel
theorem dX1_hasCell_13 : decode cX1_hasCell 13 = .ok (.goto 4, 3) := by decide +kernel
theorem dX1_hasThing_0 : decode cX1_hasThing 0 = .ok (.iload_n 1, 1) := by decide +kernel
theorem dX1_hasThing_1 : decode cX1_hasThing 1 = .ok (.ifCond .lt 15, 3) := by decide +kernel
theorem dX1_hasThing_16 : decode cX1_hasThing 16 = .ok (.iconst 0, 1) := by decide +kernel
theorem dX1_hasThing_17 : decode cX1_hasThing 17 = .ok (.ireturn, 1) := by decide +kernel
theorem dX1_hasThing_4 : decode cX1_hasThing 4 = .ok (.iload_n 1, 1) := by decide +kernel
theorem dX1_hasThing_5 : decode cX1_hasThing 5 = .ok (.aload_n 0, 1) := by decide +kernel
theorem dX1_hasThing_6 : decode cX1_hasThing 6 = .ok (.getfield 74, 3) := by decide +kernel
theorem dX1_hasThing_9 : decode cX1_hasThing 9 = .ok (.if_icmp .ge 7, 3) := by decide +kernel
theorem dX1_hasThing_12 : decode cX1_hasThing 12 = .ok (.iconst 1, 1) := by decide +kernel
theorem dX1_hasThing_13 : decode cX1_hasThing 13 = .ok (.goto 4, 3) := by decide +kernel
theorem dX1_hasSitter_0 : decode cX1_hasSitter 0 = .ok (.iload_n 1, 1) := by decide +kernel
theorem dX1_hasSitter_1 : decode cX1_hasSitter 1 = .ok (.ifCond .lt 15, 3) := by decide +kernel
theorem dX1_hasSitter_16 : decode cX1_hasSitter 16 = .ok (.iconst 0, 1) := by decide +kernel
theorem dX1_hasSitter_17 : decode cX1_hasSitter 17 = .ok (.ireturn, 1) := by decide +kernel
theorem dX1_hasSitter_4 : decode cX1_hasSitter 4 = .ok (.iload_n 1, 1) := by decide +kernel
theorem dX1_hasSitter_5 : decode cX1_hasSitter 5 = .ok (.aload_n 0, 1) := by decide +kernel
theorem dX1_hasSitter_6 : decode cX1_hasSitter 6 = .ok (.getfield 80, 3) := by decide +kernel
theorem dX1_hasSitter_9 : decode cX1_hasSitter 9 = .ok (.if_icmp .ge 7, 3) := by decide +kernel
theorem dX1_hasSitter_12 : decode cX1_hasSitter 12 = .ok (.iconst 1, 1) := by decide +kernel
theorem dX1_hasSitter_13 : decode cX1_hasSitter 13 = .ok (.goto 4, 3) := by decide +kernel
theorem dX10_phaseOf_0 : decode cX10_phaseOf 0 = .ok (.aload_n 0, 1) := by decide +kernel
theorem dX10_phaseOf_1 : decode cX10_phaseOf 1 = .ok (.getfield 25, 3) := by decide +kernel
theorem dX10_phaseOf_4 : decode cX10_phaseOf 4 = .ok (.iconst 1, 1) := by decide +kernel
theorem dX10_phaseOf_5 : decode cX10_phaseOf 5 = .ok (.if_icmp .lt 12, 3) := by decide +kernel
theorem dX10_phaseOf_17 : decode cX10_phaseOf 17 = .ok (.iconst 1, 1) := by decide +kernel
theorem dX10_phaseOf_18 : decode cX10_phaseOf 18 = .ok (.ireturn, 1) := by decide +kernel
theorem dX10_phaseOf_8 : decode cX10_phaseOf 8 = .ok (.aload_n 0, 1) := by decide +kernel
theorem dX10_phaseOf_9 : decode cX10_phaseOf 9 = .ok (.getfield 25, 3) := by decide +kernel
theorem dX10_phaseOf_12 : decode cX10_phaseOf 12 = .ok (.bipush 36, 2) := by decide +kernel
theorem dX10_phaseOf_14 : decode cX10_phaseOf 14 = .ok (.if_icmp .le 5, 3) := by decide +kernel
theorem dX10_phaseOf_19 : decode cX10_phaseOf 19 = .ok (.aload_n 0, 1) := by decide +kernel
theorem dX10_phaseOf_20 : decode cX10_phaseOf 20 = .ok (.getfield 9, 3) := by decide +kernel
theorem dX10_phaseOf_23 : decode cX10_phaseOf 23 = .ok (.iload_n 1, 1) := by decide +kernel
theorem dX10_phaseOf_24 : decode cX10_phaseOf 24 = .ok (.aload_n 0, 1) := by decide +kernel
theorem dX10_phaseOf_25 : decode cX10_phaseOf 25 = .ok (.getfield 25, 3) := by decide +kernel
theorem dX10_phaseOf_28 : decode cX10_phaseOf 28 = .ok (.irem, 1) := by decide +kernel
theorem dX10_phaseOf_29 : decode cX10_phaseOf 29 = .ok (.aload_n 0, 1) := by decide +kernel
theorem dX10_phaseOf_30 : decode cX10_phaseOf 30 = .ok (.getfield 25, 3) := by decide +kernel
theorem dX10_phaseOf_33 : decode cX10_phaseOf 33 = .ok (.iadd, 1) := by decide +kernel
theorem dX10_phaseOf_34 : decode cX10_phaseOf 34 = .ok (.aload_n 0, 1) := by decide +kernel
theorem dX10_phaseOf_35 : decode cX10_phaseOf 35 = .ok (.getfield 25, 3) := by decide +kernel
theorem dX10_phaseOf_38 : decode cX10_phaseOf 38 = .ok (.irem, 1) := by decide +kernel
theorem dX10_phaseOf_39 : decode cX10_phaseOf 39 = .ok (.iaload, 1) := by decide +kernel
theorem dX10_phaseOf_40 : decode cX10_phaseOf 40 = .ok (.ireturn, 1) := by decide +kernel
theorem dX10_hoursLeft_0 : decode cX10_hoursLeft 0 = .ok (.aload_n 0, 1) := by decide +kernel
theorem dX10_hoursLeft_1 : decode cX10_hoursLeft 1 = .ok (.getfield 25, 3) := by decide +kernel
theorem dX10_hoursLeft_4 : decode cX10_hoursLeft 4 = .ok (.iconst 1, 1) := by decide +kernel
theorem dX10_hoursLeft_5 : decode cX10_hoursLeft 5 = .ok (.if_icmp .ge 5, 3) := by decide +kernel
theorem dX10_hoursLeft_10 : decode cX10_hoursLeft 10 = .ok (.iload_n 1, 1) := by decide +kernel
theorem dX10_hoursLeft_11 : decode cX10_hoursLeft 11 = .ok (.aload_n 0, 1) := by decide +kernel
theorem dX10_hoursLeft_12 : decode cX10_hoursLeft 12 = .ok (.getfield 25, 3) := by decide +kernel
theorem dX10_hoursLeft_15 : decode cX10_hoursLeft 15 = .ok (.irem, 1) := by decide +kernel
theorem dX10_hoursLeft_16 : decode cX10_hoursLeft 16 = .ok (.istore_n 2, 1) := by decide +kernel
theorem dX10_hoursLeft_17 : decode cX10_hoursLeft 17 = .ok (.iload_n 2, 1) := by decide +kernel
theorem dX10_hoursLeft_18 : decode cX10_hoursLeft 18 = .ok (.aload_n 0, 1) := by decide +kernel
theorem dX10_hoursLeft_19 : decode cX10_hoursLeft 19 = .ok (.getfield 15, 3) := by decide +kernel
theorem dX10_hoursLeft_22 : decode cX10_hoursLeft 22 = .ok (.if_icmp .ge 10, 3) := by decide +kernel
theorem dX10_hoursLeft_32 : decode cX10_hoursLeft 32 = .ok (.iload_n 2, 1) := by decide +kernel
theorem dX10_hoursLeft_33 : decode cX10_hoursLeft 33 = .ok (.aload_n 0, 1) := by decide +kernel
theorem dX10_hoursLeft_34 : decode cX10_hoursLeft 34 = .ok (.getfield 15, 3) := by decide +kernel
theorem dX10_hoursLeft_37 : decode cX10_hoursLeft 37 = .ok (.aload_n 0, 1) := by decide +kernel
theorem dX10_hoursLeft_38 : decode cX10_hoursLeft 38 = .ok (.getfield 19, 3) := by decide +kernel
theorem dX10_hoursLeft_41 : decode cX10_hoursLeft 41 = .ok (.iadd, 1) := by decide +kernel
theorem dX10_hoursLeft_42 : decode cX10_hoursLeft 42 = .ok (.if_icmp .ge 15, 3) := by decide +kernel
theorem dX10_hoursLeft_57 : decode cX10_hoursLeft 57 = .ok (.iload_n 2, 1) := by decide +kernel
theorem dX10_hoursLeft_58 : decode cX10_hoursLeft 58 = .ok (.aload_n 0, 1) := by decide +kernel
theorem dX10_hoursLeft_59 : decode cX10_hoursLeft 59 = .ok (.getfield 25, 3) := by decide +kernel
theorem dX10_hoursLeft_62 : decode cX10_hoursLeft 62 = .ok (.aload_n 0, 1) := by decide +kernel
theorem dX10_hoursLeft_63 : decode cX10_hoursLeft 63 = .ok (.getfield 19, 3) := by decide +kernel
theorem dX10_hoursLeft_66 : decode cX10_hoursLeft 66 = .ok (.isub, 1) := by decide +kernel
theorem dX10_hoursLeft_67 : decode cX10_hoursLeft 67 = .ok (.if_icmp .ge 15, 3) := by decide +kernel
theorem dX10_hoursLeft_82 : decode cX10_hoursLeft 82 = .ok (.aload_n 0, 1) := by decide +kernel
theorem dX10_hoursLeft_83 : decode cX10_hoursLeft 83 = .ok (.getfield 25, 3) := by decide +kernel
theorem dX10_hoursLeft_86 : decode cX10_hoursLeft 86 = .ok (.iload_n 2, 1) := by decide +kernel
theorem dX10_hoursLeft_87 : decode cX10_hoursLeft 87 = .ok (.isub, 1) := by decide +kernel
theorem dX10_hoursLeft_88 : decode cX10_hoursLeft 88 = .ok (.ireturn, 1) := by decide +kernel
theorem dX10_hoursLeft_70 : decode cX10_hoursLeft 70 = .ok (.aload_n 0, 1) := by decide +kernel
theorem dX10_hoursLeft_71 : decode cX10_hoursLeft 71 = .ok (.getfield 25, 3) := by decide +kernel
theorem dX10_hoursLeft_74 : decode cX10_hoursLeft 74 = .ok (.aload_n 0, 1) := by decide +kernel
theorem dX10_hoursLeft_75 : decode cX10_hoursLeft 75 = .ok (.getfield 19, 3) := by decide +kernel
theorem dX10_hoursLeft_78 : decode cX10_hoursLeft 78 = .ok (.isub, 1) := by decide +kernel
theorem dX10_hoursLeft_79 : decode cX10_hoursLeft 79 = .ok (.iload_n 2, 1) := by decide +kernel
theorem dX10_hoursLeft_80 : decode cX10_hoursLeft 80 = .ok (.isub, 1) := by decide +kernel
theorem dX10_hoursLeft_81 : decode cX10_hoursLeft 81 = .ok (.ireturn, 1) := by decide +kernel
theorem dX10_hoursLeft_45 : decode cX10_hoursLeft 45 = .ok (.aload_n 0, 1) := by decide +kernel
theorem dX10_hoursLeft_46 : decode cX10_hoursLeft 46 = .ok (.getfield 15, 3) := by decide +kernel
theorem dX10_hoursLeft_49 : decode cX10_hoursLeft 49 = .ok (.aload_n 0, 1) := by decide +kernel
theorem dX10_hoursLeft_50 : decode cX10_hoursLeft 50 = .ok (.getfield 19, 3) := by decide +kernel
theorem dX10_hoursLeft_53 : decode cX10_hoursLeft 53 = .ok (.iadd, 1) := by decide +kernel
theorem dX10_hoursLeft_54 : decode cX10_hoursLeft 54 = .ok (.iload_n 2, 1) := by decide +kernel
theorem dX10_hoursLeft_55 : decode cX10_hoursLeft 55 = .ok (.isub, 1) := by decide +kernel
theorem dX10_hoursLeft_56 : decode cX10_hoursLeft 56 = .ok (.ireturn, 1) := by decide +kernel
theorem dX10_hoursLeft_25 : decode cX10_hoursLeft 25 = .ok (.aload_n 0, 1) := by decide +kernel
theorem dX10_hoursLeft_26 : decode cX10_hoursLeft 26 = .ok (.getfield 15, 3) := by decide +kernel
theorem dX10_hoursLeft_29 : decode cX10_hoursLeft 29 = .ok (.iload_n 2, 1) := by decide +kernel
theorem dX10_hoursLeft_30 : decode cX10_hoursLeft 30 = .ok (.isub, 1) := by decide +kernel
theorem dX10_hoursLeft_31 : decode cX10_hoursLeft 31 = .ok (.ireturn, 1) := by decide +kernel
theorem dX10_hoursLeft_8 : decode cX10_hoursLeft 8 = .ok (.iconst 1, 1) := by decide +kernel
theorem dX10_hoursLeft_9 : decode cX10_hoursLeft 9 = .ok (.ireturn, 1) := by decide +kernel
theorem dX10_slackHoursAhead_0 : decode cX10_slackHoursAhead 0 = .ok (.aload_n 0, 1) := by decide +kernel
theorem dX10_slackHoursAhead_1 : decode cX10_slackHoursAhead 1 = .ok (.getfield 25, 3) := by decide +kernel
theorem dX10_slackHoursAhead_4 : decode cX10_slackHoursAhead 4 = .ok (.iconst 1, 1) := by decide +kernel
theorem dX10_slackHoursAhead_5 : decode cX10_slackHoursAhead 5 = .ok (.if_icmp .ge 5, 3) := by decide +kernel
theorem dX10_slackHoursAhead_10 : decode cX10_slackHoursAhead 10 = .ok (.iload_n 1, 1) := by decide +kernel
theorem dX10_slackHoursAhead_11 : decode cX10_slackHoursAhead 11 = .ok (.aload_n 0, 1) := by decide +kernel
theorem dX10_slackHoursAhead_12 : decode cX10_slackHoursAhead 12 = .ok (.getfield 25, 3) := by decide +kernel
theorem dX10_slackHoursAhead_15 : decode cX10_slackHoursAhead 15 = .ok (.irem, 1) := by decide +kernel
theorem dX10_slackHoursAhead_16 : decode cX10_slackHoursAhead 16 = .ok (.istore_n 2, 1) := by decide +kernel
theorem dX10_slackHoursAhead_17 : decode cX10_slackHoursAhead 17 = .ok (.iload_n 2, 1) := by decide +kernel
theorem dX10_slackHoursAhead_18 : decode cX10_slackHoursAhead 18 = .ok (.aload_n 0, 1) := by decide +kernel
theorem dX10_slackHoursAhead_19 : decode cX10_slackHoursAhead 19 = .ok (.getfield 15, 3) := by decide +kernel
theorem dX10_slackHoursAhead_22 : decode cX10_slackHoursAhead 22 = .ok (.isub, 1) := by decide +kernel
theorem dX10_slackHoursAhead_23 : decode cX10_slackHoursAhead 23 = .ok (.iconst 0, 1) := by decide +kernel
theorem dX10_slackHoursAhead_24 : decode cX10_slackHoursAhead 24 = .ok (.invokestatic 34, 3) := by decide +kernel
theorem dX10_slackHoursAhead_27 : decode cX10_slackHoursAhead 27 = .ok (.aload_n 0, 1) := by decide +kernel
theorem dX10_slackHoursAhead_28 : decode cX10_slackHoursAhead 28 = .ok (.getfield 19, 3) := by decide +kernel
theorem dX10_slackHoursAhead_31 : decode cX10_slackHoursAhead 31 = .ok (.invokestatic 40, 3) := by decide +kernel
theorem dX10_slackHoursAhead_34 : decode cX10_slackHoursAhead 34 = .ok (.istore_n 3, 1) := by decide +kernel
theorem dX10_slackHoursAhead_35 : decode cX10_slackHoursAhead 35 = .ok (.iload_n 2, 1) := by decide +kernel
theorem dX10_slackHoursAhead_36 : decode cX10_slackHoursAhead 36 = .ok (.aload_n 0, 1) := by decide +kernel
theorem dX10_slackHoursAhead_37 : decode cX10_slackHoursAhead 37 = .ok (.getfield 15, 3) := by decide +kernel
theorem dX10_slackHoursAhead_40 : decode cX10_slackHoursAhead 40 = .ok (.isub, 1) := by decide +kernel
theorem dX10_slackHoursAhead_41 : decode cX10_slackHoursAhead 41 = .ok (.aload_n 0, 1) := by decide +kernel
theorem dX10_slackHoursAhead_42 : decode cX10_slackHoursAhead 42 = .ok (.getfield 19, 3) := by decide +kernel
theorem dX10_slackHoursAhead_45 : decode cX10_slackHoursAhead 45 = .ok (.isub, 1) := by decide +kernel
theorem dX10_slackHoursAhead_46 : decode cX10_slackHoursAhead 46 = .ok (.aload_n 0, 1) := by decide +kernel
theorem dX10_slackHoursAhead_47 : decode cX10_slackHoursAhead 47 = .ok (.getfield 22, 3) := by decide +kernel
theorem dX10_slackHoursAhead_50 : decode cX10_slackHoursAhead 50 = .ok (.isub, 1) := by decide +kernel
theorem dX10_slackHoursAhead_51 : decode cX10_slackHoursAhead 51 = .ok (.iconst 0, 1) := by decide +kernel
theorem dX10_slackHoursAhead_52 : decode cX10_slackHoursAhead 52 = .ok (.invokestatic 34, 3) := by decide +kernel
theorem dX10_slackHoursAhead_55 : decode cX10_slackHoursAhead 55 = .ok (.istore 4, 2) := by decide +kernel
theorem dX10_slackHoursAhead_57 : decode cX10_slackHoursAhead 57 = .ok (.iload_n 1, 1) := by decide +kernel
theorem dX10_slackHoursAhead_58 : decode cX10_slackHoursAhead 58 = .ok (.aload_n 0, 1) := by decide +kernel
theorem dX10_slackHoursAhead_59 : decode cX10_slackHoursAhead 59 = .ok (.getfield 25, 3) := by decide +kernel
theorem dX10_slackHoursAhead_62 : decode cX10_slackHoursAhead 62 = .ok (.idiv, 1) := by decide +kernel
theorem dX10_slackHoursAhead_63 : decode cX10_slackHoursAhead 63 = .ok (.iconst 2, 1) := by decide +kernel
theorem dX10_slackHoursAhead_64 : decode cX10_slackHoursAhead 64 = .ok (.imul, 1) := by decide +kernel
theorem dX10_slackHoursAhead_65 : decode cX10_slackHoursAhead 65 = .ok (.aload_n 0, 1) := by decide +kernel
theorem dX10_slackHoursAhead_66 : decode cX10_slackHoursAhead 66 = .ok (.getfield 19, 3) := by decide +kernel
theorem dX10_slackHoursAhead_69 : decode cX10_slackHoursAhead 69 = .ok (.imul, 1) := by decide +kernel
theorem dX10_slackHoursAhead_70 : decode cX10_slackHoursAhead 70 = .ok (.iload_n 3, 1) := by decide +kernel
theorem dX10_slackHoursAhead_71 : decode cX10_slackHoursAhead 71 = .ok (.iadd, 1) := by decide +kernel
theorem dX10_slackHoursAhead_72 : decode cX10_slackHoursAhead 72 = .ok (.iload 4, 2) := by decide +kernel
theorem dX10_slackHoursAhead_74 : decode cX10_slackHoursAhead 74 = .ok (.iadd, 1) := by decide +kernel
theorem dX10_slackHoursAhead_75 : decode cX10_slackHoursAhead 75 = .ok (.ireturn, 1) := by decide +kernel
theorem dX10_slackHoursAhead_8 : decode cX10_slackHoursAhead 8 = .ok (.iconst 0, 1) := by decide +kernel
theorem dX10_slackHoursAhead_9 : decode cX10_slackHoursAhead 9 = .ok (.ireturn, 1) := by decide +kernel
theorem dX10_firstOf_0 : decode cX10_firstOf 0 = .ok (.iconst 0, 1) := by decide +kernel
theorem dX10_firstOf_1 : decode cX10_firstOf 1 = .ok (.istore_n 3, 1) := by decide +kernel
theorem dX10_firstOf_2 : decode cX10_firstOf 2 = .ok (.iload_n 3, 1) := by decide +kernel
theorem dX10_firstOf_3 : decode cX10_firstOf 3 = .ok (.aload_n 0, 1) := by decide +kernel
theorem dX10_firstOf_4 : decode cX10_firstOf 4 = .ok (.getfield 25, 3) := by decide +kernel
theorem dX10_firstOf_7 : decode cX10_firstOf 7 = .ok (.if_icmp .ge 24, 3) := by decide +kernel
theorem dX10_firstOf_31 : decode cX10_firstOf 31 = .ok (.iconst (-1), 1) := by decide +kernel
theorem dX10_firstOf_32 : decode cX10_firstOf 32 = .ok (.ireturn, 1) := by decide +kernel
theorem dX10_firstOf_10 : decode cX10_firstOf 10 = .ok (.aload_n 0, 1) := by decide +kernel
theorem dX10_firstOf_11 : decode cX10_firstOf 11 = .ok (.iload_n 1, 1) := by decide +kernel
theorem dX10_firstOf_12 : decode cX10_firstOf 12 = .ok (.iload_n 3, 1) := by decide +kernel
theorem dX10_firstOf_13 : decode cX10_firstOf 13 = .ok (.iadd, 1) := by decide +kernel
theorem dX10_firstOf_14 : decode cX10_firstOf 14 = .ok (.invokevirtual 43, 3) := by decide +kernel
theorem dX10_firstOf_17 : decode cX10_firstOf 17 = .ok (.iload_n 2, 1) := by decide +kernel
theorem dX10_firstOf_18 : decode cX10_firstOf 18 = .ok (.if_icmp .ne 7, 3) := by decide +kernel
theorem dX10_firstOf_25 : decode cX10_firstOf 25 = .ok (.iinc 3 1, 3) := by decide +kernel
theorem dX10_firstOf_28 : decode cX10_firstOf 28 = .ok (.goto (-26), 3) := by decide +kernel
theorem dX10_firstOf_21 : decode cX10_firstOf 21 = .ok (.iload_n 1, 1) := by decide +kernel
theorem dX10_firstOf_22 : decode cX10_firstOf 22 = .ok (.iload_n 3, 1) := by decide +kernel
theorem dX10_firstOf_23 : decode cX10_firstOf 23 = .ok (.iadd, 1) := by decide +kernel
theorem dX10_firstOf_24 : decode cX10_firstOf 24 = .ok (.ireturn, 1) := by decide +kernel
theorem dX6_hasRule_0 : decode cX6_hasRule 0 = .ok (.iload_n 1, 1) := by decide +kernel
theorem dX6_hasRule_1 : decode cX6_hasRule 1 = .ok (.ifCond .lt 15, 3) := by decide +kernel
theorem dX6_hasRule_16 : decode cX6_hasRule 16 = .ok (.iconst 0, 1) := by decide +kernel
theorem dX6_hasRule_17 : decode cX6_hasRule 17 = .ok (.ireturn, 1) := by decide +kernel
theorem dX6_hasRule_4 : decode cX6_hasRule 4 = .ok (.iload_n 1, 1) := by decide +kernel
theorem dX6_hasRule_5 : decode cX6_hasRule 5 = .ok (.aload_n 0, 1) := by decide +kernel
theorem dX6_hasRule_6 : decode cX6_hasRule 6 = .ok (.getfield 24, 3) := by decide +kernel
theorem dX6_hasRule_9 : decode cX6_hasRule 9 = .ok (.if_icmp .ge 7, 3) := by decide +kernel
theorem dX6_hasRule_12 : decode cX6_hasRule 12 = .ok (.iconst 1, 1) := by decide +kernel
theorem dX6_hasRule_13 : decode cX6_hasRule 13 = .ok (.goto 4, 3) := by decide +kernel
theorem dX6_stands_0 : decode cX6_stands 0 = .ok (.iload_n 2, 1) := by decide +kernel
theorem dX6_stands_1 : decode cX6_stands 1 = .ok (.aload_n 0, 1) := by decide +kernel
theorem dX6_stands_2 : decode cX6_stands 2 = .ok (.getfield 9, 3) := by decide +kernel
theorem dX6_stands_5 : decode cX6_stands 5 = .ok (.iload_n 1, 1) := by decide +kernel
theorem dX6_stands_6 : decode cX6_stands 6 = .ok (.iaload, 1) := by decide +kernel
theorem dX6_stands_7 : decode cX6_stands 7 = .ok (.if_icmp .lt 31, 3) := by decide +kernel
theorem dX6_stands_38 : decode cX6_stands 38 = .ok (.iconst 0, 1) := by decide +kernel
theorem dX6_stands_39 : decode cX6_stands 39 = .ok (.ireturn, 1) := by decide +kernel
theorem dX6_stands_10 : decode cX6_stands 10 = .ok (.iload_n 2, 1) := by decide +kernel
theorem dX6_stands_11 : decode cX6_stands 11 = .ok (.aload_n 0, 1) := by decide +kernel
theorem dX6_stands_12 : decode cX6_stands 12 = .ok (.getfield 15, 3) := by decide +kernel
theorem dX6_stands_15 : decode cX6_stands 15 = .ok (.iload_n 1, 1) := by decide +kernel
theorem dX6_stands_16 : decode cX6_stands 16 = .ok (.iaload, 1) := by decide +kernel
theorem dX6_stands_17 : decode cX6_stands 17 = .ok (.if_icmp .gt 21, 3) := by decide +kernel
theorem dX6_stands_20 : decode cX6_stands 20 = .ok (.aload_n 0, 1) := by decide +kernel
theorem dX6_stands_21 : decode cX6_stands 21 = .ok (.getfield 18, 3) := by decide +kernel
theorem dX6_stands_24 : decode cX6_stands 24 = .ok (.iload_n 1, 1) := by decide +kernel
theorem dX6_stands_25 : decode cX6_stands 25 = .ok (.iaload, 1) := by decide +kernel
theorem dX6_stands_26 : decode cX6_stands 26 = .ok (.iload_n 3, 1) := by decide +kernel
theorem dX6_stands_27 : decode cX6_stands 27 = .ok (.ishr, 1) := by decide +kernel
theorem dX6_stands_28 : decode cX6_stands 28 = .ok (.iconst 1, 1) := by decide +kernel
theorem dX6_stands_29 : decode cX6_stands 29 = .ok (.iand, 1) := by decide +kernel
theorem dX6_stands_30 : decode cX6_stands 30 = .ok (.iconst 1, 1) := by decide +kernel
theorem dX6_stands_31 : decode cX6_stands 31 = .ok (.if_icmp .ne 7, 3) := by decide +kernel
theorem dX6_stands_34 : decode cX6_stands 34 = .ok (.iconst 1, 1) := by decide +kernel
theorem dX6_stands_35 : decode cX6_stands 35 = .ok (.goto 4, 3) := by decide +kernel
theorem dX6_decider_0 : decode cX6_decider 0 = .ok (.iconst 0, 1) := by decide +kernel
theorem dX6_decider_1 : decode cX6_decider 1 = .ok (.istore 4, 2) := by decide +kernel
theorem dX6_decider_3 : decode cX6_decider 3 = .ok (.iload 4, 2) := by decide +kernel
theorem dX6_decider_5 : decode cX6_decider 5 = .ok (.aload_n 0, 1) := by decide +kernel
theorem dX6_decider_6 : decode cX6_decider 6 = .ok (.getfield 24, 3) := by decide +kernel
theorem dX6_decider_9 : decode cX6_decider 9 = .ok (.if_icmp .ge 29, 3) := by decide +kernel
theorem dX6_decider_38 : decode cX6_decider 38 = .ok (.iconst (-1), 1) := by decide +kernel
theorem dX6_decider_39 : decode cX6_decider 39 = .ok (.ireturn, 1) := by decide +kernel
theorem dX6_decider_12 : decode cX6_decider 12 = .ok (.iload 4, 2) := by decide +kernel
theorem dX6_decider_14 : decode cX6_decider 14 = .ok (.iload_n 3, 1) := by decide +kernel
theorem dX6_decider_15 : decode cX6_decider 15 = .ok (.if_icmp .eq 17, 3) := by decide +kernel
theorem dX6_decider_32 : decode cX6_decider 32 = .ok (.iinc 4 1, 3) := by decide +kernel
theorem dX6_decider_35 : decode cX6_decider 35 = .ok (.goto (-32), 3) := by decide +kernel
theorem dX6_decider_18 : decode cX6_decider 18 = .ok (.aload_n 0, 1) := by decide +kernel
theorem dX6_decider_19 : decode cX6_decider 19 = .ok (.iload 4, 2) := by decide +kernel
theorem dX6_decider_21 : decode cX6_decider 21 = .ok (.iload_n 1, 1) := by decide +kernel
theorem dX6_decider_22 : decode cX6_decider 22 = .ok (.iload_n 2, 1) := by decide +kernel
theorem dX6_decider_23 : decode cX6_decider 23 = .ok (.invokevirtual 38, 3) := by decide +kernel
theorem dX6_decider_26 : decode cX6_decider 26 = .ok (.ifCond .eq 6, 3) := by decide +kernel
theorem dX6_decider_29 : decode cX6_decider 29 = .ok (.iload 4, 2) := by decide +kernel
theorem dX6_decider_31 : decode cX6_decider 31 = .ok (.ireturn, 1) := by decide +kernel
theorem dX6_saysTwoThings_0 : decode cX6_saysTwoThings 0 = .ok (.aload_n 0, 1) := by decide +kernel
theorem dX6_saysTwoThings_1 : decode cX6_saysTwoThings 1 = .ok (.iload_n 1, 1) := by decide +kernel
theorem dX6_saysTwoThings_2 : decode cX6_saysTwoThings 2 = .ok (.iload_n 2, 1) := by decide +kernel
theorem dX6_saysTwoThings_3 : decode cX6_saysTwoThings 3 = .ok (.iconst (-1), 1) := by decide +kernel
theorem dX6_saysTwoThings_4 : decode cX6_saysTwoThings 4 = .ok (.invokevirtual 42, 3) := by decide +kernel
theorem dX6_saysTwoThings_7 : decode cX6_saysTwoThings 7 = .ok (.istore_n 3, 1) := by decide +kernel
theorem dX6_saysTwoThings_8 : decode cX6_saysTwoThings 8 = .ok (.iload_n 3, 1) := by decide +kernel
theorem dX6_saysTwoThings_9 : decode cX6_saysTwoThings 9 = .ok (.istore 4, 2) := by decide +kernel
theorem dX6_saysTwoThings_11 : decode cX6_saysTwoThings 11 = .ok (.iload 4, 2) := by decide +kernel
theorem dX6_saysTwoThings_13 : decode cX6_saysTwoThings 13 = .ok (.ifCond .lt 47, 3) := by decide +kernel
theorem dX6_saysTwoThings_60 : decode cX6_saysTwoThings 60 = .ok (.iconst 0, 1) := by decide +kernel
theorem dX6_saysTwoThings_61 : decode cX6_saysTwoThings 61 = .ok (.ireturn, 1) := by decide +kernel
theorem dX6_saysTwoThings_16 : decode cX6_saysTwoThings 16 = .ok (.iload 4, 2) := by decide +kernel
theorem dX6_saysTwoThings_18 : decode cX6_saysTwoThings 18 = .ok (.aload_n 0, 1) := by decide +kernel
theorem dX6_saysTwoThings_19 : decode cX6_saysTwoThings 19 = .ok (.getfield 24, 3) := by decide +kernel
theorem dX6_saysTwoThings_22 : decode cX6_saysTwoThings 22 = .ok (.if_icmp .ge 38, 3) := by decide +kernel
theorem dX6_saysTwoThings_25 : decode cX6_saysTwoThings 25 = .ok (.aload_n 0, 1) := by decide +kernel
theorem dX6_saysTwoThings_26 : decode cX6_saysTwoThings 26 = .ok (.iload 4, 2) := by decide +kernel
theorem dX6_saysTwoThings_28 : decode cX6_saysTwoThings 28 = .ok (.iload_n 1, 1) := by decide +kernel
theorem dX6_saysTwoThings_29 : decode cX6_saysTwoThings 29 = .ok (.iload_n 2, 1) := by decide +kernel
theorem dX6_saysTwoThings_30 : decode cX6_saysTwoThings 30 = .ok (.invokevirtual 38, 3) := by decide +kernel
theorem dX6_saysTwoThings_33 : decode cX6_saysTwoThings 33 = .ok (.ifCond .eq 21, 3) := by decide +kernel
theorem dX6_saysTwoThings_54 : decode cX6_saysTwoThings 54 = .ok (.iinc 4 1, 3) := by decide +kernel
theorem dX6_saysTwoThings_57 : decode cX6_saysTwoThings 57 = .ok (.goto (-46), 3) := by decide +kernel
theorem dX6_saysTwoThings_36 : decode cX6_saysTwoThings 36 = .ok (.aload_n 0, 1) := by decide +kernel
theorem dX6_saysTwoThings_37 : decode cX6_saysTwoThings 37 = .ok (.getfield 21, 3) := by decide +kernel
theorem dX6_saysTwoThings_40 : decode cX6_saysTwoThings 40 = .ok (.iload 4, 2) := by decide +kernel
theorem dX6_saysTwoThings_42 : decode cX6_saysTwoThings 42 = .ok (.iaload, 1) := by decide +kernel
theorem dX6_saysTwoThings_43 : decode cX6_saysTwoThings 43 = .ok (.aload_n 0, 1) := by decide +kernel
theorem dX6_saysTwoThings_44 : decode cX6_saysTwoThings 44 = .ok (.getfield 21, 3) := by decide +kernel
theorem dX6_saysTwoThings_47 : decode cX6_saysTwoThings 47 = .ok (.iload_n 3, 1) := by decide +kernel
theorem dX6_saysTwoThings_48 : decode cX6_saysTwoThings 48 = .ok (.iaload, 1) := by decide +kernel
theorem dX6_saysTwoThings_49 : decode cX6_saysTwoThings 49 = .ok (.if_icmp .eq 5, 3) := by decide +kernel
theorem dX6_saysTwoThings_52 : decode cX6_saysTwoThings 52 = .ok (.iconst 1, 1) := by decide +kernel
theorem dX6_saysTwoThings_53 : decode cX6_saysTwoThings 53 = .ok (.ireturn, 1) := by decide +kernel
theorem dX0_isFull_0 : decode cX0_isFull 0 = .ok (.aload_n 0, 1) := by decide +kernel
theorem dX0_isFull_1 : decode cX0_isFull 1 = .ok (.getfield 21, 3) := by decide +kernel
theorem dX0_isFull_4 : decode cX0_isFull 4 = .ok (.bipush 40, 2) := by decide +kernel
theorem dX0_isFull_6 : decode cX0_isFull 6 = .ok (.if_icmp .lt 7, 3) := by decide +kernel
theorem dX0_isFull_13 : decode cX0_isFull 13 = .ok (.iconst 0, 1) := by decide +kernel
theorem dX0_isFull_14 : decode cX0_isFull 14 = .ok (.ireturn, 1) := by decide +kernel
theorem dX0_isFull_9 : decode cX0_isFull 9 = .ok (.iconst 1, 1) := by decide +kernel
theorem dX0_isFull_10 : decode cX0_isFull 10 = .ok (.goto 4, 3) := by decide +kernel
theorem dX0_isPushOf_0 : decode cX0_isPushOf 0 = .ok (.aload_n 0, 1) := by decide +kernel
theorem dX0_isPushOf_1 : decode cX0_isPushOf 1 = .ok (.getfield 9, 3) := by decide +kernel
theorem dX0_isPushOf_4 : decode cX0_isPushOf 4 = .ok (.iload_n 1, 1) := by decide +kernel
theorem dX0_isPushOf_5 : decode cX0_isPushOf 5 = .ok (.iaload, 1) := by decide +kernel
theorem dX0_isPushOf_6 : decode cX0_isPushOf 6 = .ok (.ifCond .eq 17, 3) := by decide +kernel
theorem dX0_isPushOf_23 : decode cX0_isPushOf 23 = .ok (.iconst 0, 1) := by decide +kernel
theorem dX0_isPushOf_24 : decode cX0_isPushOf 24 = .ok (.ireturn, 1) := by decide +kernel
theorem dX0_isPushOf_9 : decode cX0_isPushOf 9 = .ok (.aload_n 0, 1) := by decide +kernel
theorem dX0_isPushOf_10 : decode cX0_isPushOf 10 = .ok (.getfield 15, 3) := by decide +kernel
theorem dX0_isPushOf_13 : decode cX0_isPushOf 13 = .ok (.iload_n 1, 1) := by decide +kernel
theorem dX0_isPushOf_14 : decode cX0_isPushOf 14 = .ok (.iaload, 1) := by decide +kernel
theorem dX0_isPushOf_15 : decode cX0_isPushOf 15 = .ok (.iload_n 2, 1) := by decide +kernel
theorem dX0_isPushOf_16 : decode cX0_isPushOf 16 = .ok (.if_icmp .ne 7, 3) := by decide +kernel
theorem dX0_isPushOf_19 : decode cX0_isPushOf 19 = .ok (.iconst 1, 1) := by decide +kernel
theorem dX0_isPushOf_20 : decode cX0_isPushOf 20 = .ok (.goto 4, 3) := by decide +kernel
theorem dX0_isPushed_0 : decode cX0_isPushed 0 = .ok (.iconst 0, 1) := by decide +kernel
theorem dX0_isPushed_1 : decode cX0_isPushed 1 = .ok (.istore_n 3, 1) := by decide +kernel
theorem dX0_isPushed_2 : decode cX0_isPushed 2 = .ok (.iload_n 3, 1) := by decide +kernel
theorem dX0_isPushed_3 : decode cX0_isPushed 3 = .ok (.aload_n 0, 1) := by decide +kernel
theorem dX0_isPushed_4 : decode cX0_isPushed 4 = .ok (.getfield 21, 3) := by decide +kernel
theorem dX0_isPushed_7 : decode cX0_isPushed 7 = .ok (.if_icmp .ge 30, 3) := by decide +kernel
theorem dX0_isPushed_37 : decode cX0_isPushed 37 = .ok (.iconst 0, 1) := by decide +kernel
theorem dX0_isPushed_38 : decode cX0_isPushed 38 = .ok (.ireturn, 1) := by decide +kernel
theorem dX0_isPushed_10 : decode cX0_isPushed 10 = .ok (.aload_n 0, 1) := by decide +kernel
theorem dX0_isPushed_11 : decode cX0_isPushed 11 = .ok (.iload_n 3, 1) := by decide +kernel
theorem dX0_isPushed_12 : decode cX0_isPushed 12 = .ok (.iload_n 1, 1) := by decide +kernel
theorem dX0_isPushed_13 : decode cX0_isPushed 13 = .ok (.invokevirtual 39, 3) := by decide +kernel
theorem dX0_isPushed_16 : decode cX0_isPushed 16 = .ok (.ifCond .eq 15, 3) := by decide +kernel
theorem dX0_isPushed_31 : decode cX0_isPushed 31 = .ok (.iinc 3 1, 3) := by decide +kernel
theorem dX0_isPushed_34 : decode cX0_isPushed 34 = .ok (.goto (-32), 3) := by decide +kernel
theorem dX0_isPushed_19 : decode cX0_isPushed 19 = .ok (.aload_n 0, 1) := by decide +kernel
theorem dX0_isPushed_20 : decode cX0_isPushed 20 = .ok (.getfield 18, 3) := by decide +kernel
theorem dX0_isPushed_23 : decode cX0_isPushed 23 = .ok (.iload_n 3, 1) := by decide +kernel
theorem dX0_isPushed_24 : decode cX0_isPushed 24 = .ok (.iaload, 1) := by decide +kernel
theorem dX0_isPushed_25 : decode cX0_isPushed 25 = .ok (.iload_n 2, 1) := by decide +kernel
theorem dX0_isPushed_26 : decode cX0_isPushed 26 = .ok (.if_icmp .ne 5, 3) := by decide +kernel
theorem dX0_isPushed_29 : decode cX0_isPushed 29 = .ok (.iconst 1, 1) := by decide +kernel
theorem dX0_isPushed_30 : decode cX0_isPushed 30 = .ok (.ireturn, 1) := by decide +kernel
theorem dX0_pushesOf_0 : decode cX0_pushesOf 0 = .ok (.iconst 0, 1) := by decide +kernel
theorem dX0_pushesOf_1 : decode cX0_pushesOf 1 = .ok (.istore_n 2, 1) := by decide +kernel
theorem dX0_pushesOf_2 : decode cX0_pushesOf 2 = .ok (.iconst 0, 1) := by decide +kernel
theorem dX0_pushesOf_3 : decode cX0_pushesOf 3 = .ok (.istore_n 3, 1) := by decide +kernel
theorem dX0_pushesOf_4 : decode cX0_pushesOf 4 = .ok (.iload_n 3, 1) := by decide +kernel
theorem dX0_pushesOf_5 : decode cX0_pushesOf 5 = .ok (.aload_n 0, 1) := by decide +kernel
theorem dX0_pushesOf_6 : decode cX0_pushesOf 6 = .ok (.getfield 21, 3) := by decide +kernel
theorem dX0_pushesOf_9 : decode cX0_pushesOf 9 = .ok (.if_icmp .ge 21, 3) := by decide +kernel
theorem dX0_pushesOf_30 : decode cX0_pushesOf 30 = .ok (.iload_n 2, 1) := by decide +kernel
theorem dX0_pushesOf_31 : decode cX0_pushesOf 31 = .ok (.ireturn, 1) := by decide +kernel
theorem dX0_pushesOf_12 : decode cX0_pushesOf 12 = .ok (.aload_n 0, 1) := by decide +kernel
theorem dX0_pushesOf_13 : decode cX0_pushesOf 13 = .ok (.iload_n 3, 1) := by decide +kernel
theorem dX0_pushesOf_14 : decode cX0_pushesOf 14 = .ok (.iload_n 1, 1) := by decide +kernel
theorem dX0_pushesOf_15 : decode cX0_pushesOf 15 = .ok (.invokevirtual 39, 3) := by decide +kernel
theorem dX0_pushesOf_18 : decode cX0_pushesOf 18 = .ok (.ifCond .eq 6, 3) := by decide +kernel
theorem dX0_pushesOf_24 : decode cX0_pushesOf 24 = .ok (.iinc 3 1, 3) := by decide +kernel
theorem dX0_pushesOf_27 : decode cX0_pushesOf 27 = .ok (.goto (-23), 3) := by decide +kernel
theorem dX0_pushesOf_21 : decode cX0_pushesOf 21 = .ok (.iinc 2 1, 3) := by decide +kernel
theorem dX1_shifted_0 : decode cX1_shifted 0 = .ok (.iload_n 1, 1) := by decide +kernel
theorem dX1_shifted_1 : decode cX1_shifted 1 = .ok (.iload_n 2, 1) := by decide +kernel
theorem dX1_shifted_2 : decode cX1_shifted 2 = .ok (.iadd, 1) := by decide +kernel
theorem dX1_shifted_3 : decode cX1_shifted 3 = .ok (.istore_n 3, 1) := by decide +kernel
theorem dX1_shifted_4 : decode cX1_shifted 4 = .ok (.iload_n 3, 1) := by decide +kernel
theorem dX1_shifted_5 : decode cX1_shifted 5 = .ok (.ifCond .ge 5, 3) := by decide +kernel
theorem dX1_shifted_10 : decode cX1_shifted 10 = .ok (.iload_n 3, 1) := by decide +kernel
theorem dX1_shifted_11 : decode cX1_shifted 11 = .ok (.aload_n 0, 1) := by decide +kernel
theorem dX1_shifted_12 : decode cX1_shifted 12 = .ok (.getfield 55, 3) := by decide +kernel
theorem dX1_shifted_15 : decode cX1_shifted 15 = .ok (.if_icmp .ge 7, 3) := by decide +kernel
theorem dX1_shifted_22 : decode cX1_shifted 22 = .ok (.aload_n 0, 1) := by decide +kernel
theorem dX1_shifted_23 : decode cX1_shifted 23 = .ok (.getfield 55, 3) := by decide +kernel
theorem dX1_shifted_26 : decode cX1_shifted 26 = .ok (.iconst 1, 1) := by decide +kernel
theorem dX1_shifted_27 : decode cX1_shifted 27 = .ok (.isub, 1) := by decide +kernel
theorem dX1_shifted_28 : decode cX1_shifted 28 = .ok (.ireturn, 1) := by decide +kernel
theorem dX1_shifted_18 : decode cX1_shifted 18 = .ok (.iload_n 3, 1) := by decide +kernel
theorem dX1_shifted_19 : decode cX1_shifted 19 = .ok (.goto 9, 3) := by decide +kernel
theorem dX1_shifted_8 : decode cX1_shifted 8 = .ok (.iconst 0, 1) := by decide +kernel
theorem dX1_shifted_9 : decode cX1_shifted 9 = .ok (.ireturn, 1) := by decide +kernel
theorem dX1_drifted_0 : decode cX1_drifted 0 = .ok (.aload_n 0, 1) := by decide +kernel
theorem dX1_drifted_1 : decode cX1_drifted 1 = .ok (.getfield 12, 3) := by decide +kernel
theorem dX1_drifted_4 : decode cX1_drifted 4 = .ok (.iload_n 2, 1) := by decide +kernel
theorem dX1_drifted_5 : decode cX1_drifted 5 = .ok (.invokevirtual 106, 3) := by decide +kernel
theorem dX1_drifted_8 : decode cX1_drifted 8 = .ok (.lookupswitch 52 #[(0, 28), (2, 40)], 28) := by decide +kernel
theorem dX1_drifted_36 : decode cX1_drifted 36 = .ok (.aload_n 0, 1) := by decide +kernel
theorem dX1_drifted_37 : decode cX1_drifted 37 = .ok (.iload_n 1, 1) := by decide +kernel
theorem dX1_drifted_38 : decode cX1_drifted 38 = .ok (.aload_n 0, 1) := by decide +kernel
theorem dX1_drifted_39 : decode cX1_drifted 39 = .ok (.getfield 18, 3) := by decide +kernel
theorem dX1_drifted_42 : decode cX1_drifted 42 = .ok (.iload_n 1, 1) := by decide +kernel
theorem dX1_drifted_43 : decode cX1_drifted 43 = .ok (.iaload, 1) := by decide +kernel
theorem dX1_drifted_44 : decode cX1_drifted 44 = .ok (.invokevirtual 110, 3) := by decide +kernel
theorem dX1_drifted_47 : decode cX1_drifted 47 = .ok (.ireturn, 1) := by decide +kernel
theorem dX1_drifted_48 : decode cX1_drifted 48 = .ok (.aload_n 0, 1) := by decide +kernel
theorem dX1_drifted_49 : decode cX1_drifted 49 = .ok (.iload_n 1, 1) := by decide +kernel
theorem dX1_drifted_50 : decode cX1_drifted 50 = .ok (.aload_n 0, 1) := by decide +kernel
theorem dX1_drifted_51 : decode cX1_drifted 51 = .ok (.getfield 22, 3) := by decide +kernel
theorem dX1_drifted_54 : decode cX1_drifted 54 = .ok (.iload_n 1, 1) := by decide +kernel
theorem dX1_drifted_55 : decode cX1_drifted 55 = .ok (.iaload, 1) := by decide +kernel
theorem dX1_drifted_56 : decode cX1_drifted 56 = .ok (.invokevirtual 110, 3) := by decide +kernel
theorem dX1_drifted_59 : decode cX1_drifted 59 = .ok (.ireturn, 1) := by decide +kernel
theorem dX1_drifted_60 : decode cX1_drifted 60 = .ok (.iload_n 1, 1) := by decide +kernel
theorem dX1_drifted_61 : decode cX1_drifted 61 = .ok (.ireturn, 1) := by decide +kernel
theorem dX1_pushedAndDrifted_0 : decode cX1_pushedAndDrifted 0 = .ok (.aload_n 0, 1) := by decide +kernel
theorem dX1_pushedAndDrifted_1 : decode cX1_pushedAndDrifted 1 = .ok (.aload_n 0, 1) := by decide +kernel
theorem dX1_pushedAndDrifted_2 : decode cX1_pushedAndDrifted 2 = .ok (.iload_n 1, 1) := by decide +kernel
theorem dX1_pushedAndDrifted_3 : decode cX1_pushedAndDrifted 3 = .ok (.iload_n 2, 1) := by decide +kernel
theorem dX1_pushedAndDrifted_4 : decode cX1_pushedAndDrifted 4 = .ok (.invokevirtual 110, 3) := by decide +kernel
theorem dX1_pushedAndDrifted_7 : decode cX1_pushedAndDrifted 7 = .ok (.iload_n 3, 1) := by decide +kernel
theorem dX1_pushedAndDrifted_8 : decode cX1_pushedAndDrifted 8 = .ok (.invokevirtual 114, 3) := by decide +kernel
theorem dX1_pushedAndDrifted_11 : decode cX1_pushedAndDrifted 11 = .ok (.ireturn, 1) := by decide +kernel
theorem dX1_ownerIn_0 : decode cX1_ownerIn 0 = .ok (.aload_n 0, 1) := by decide +kernel
theorem dX1_ownerIn_1 : decode cX1_ownerIn 1 = .ok (.getfield 37, 3) := by decide +kernel
theorem dX1_ownerIn_4 : decode cX1_ownerIn 4 = .ok (.iload_n 1, 1) := by decide +kernel
theorem dX1_ownerIn_5 : decode cX1_ownerIn 5 = .ok (.aload_n 0, 1) := by decide +kernel
theorem dX1_ownerIn_6 : decode cX1_ownerIn 6 = .ok (.getfield 12, 3) := by decide +kernel
theorem dX1_ownerIn_9 : decode cX1_ownerIn 9 = .ok (.iload_n 2, 1) := by decide +kernel
theorem dX1_ownerIn_10 : decode cX1_ownerIn 10 = .ok (.invokevirtual 106, 3) := by decide +kernel
theorem dX1_ownerIn_13 : decode cX1_ownerIn 13 = .ok (.iload_n 3, 1) := by decide +kernel
theorem dX1_ownerIn_14 : decode cX1_ownerIn 14 = .ok (.invokevirtual 117, 3) := by decide +kernel
theorem dX1_ownerIn_17 : decode cX1_ownerIn 17 = .ok (.istore 4, 2) := by decide +kernel
theorem dX1_ownerIn_19 : decode cX1_ownerIn 19 = .ok (.iload 4, 2) := by decide +kernel
theorem dX1_ownerIn_21 : decode cX1_ownerIn 21 = .ok (.iconst (-1), 1) := by decide +kernel
theorem dX1_ownerIn_22 : decode cX1_ownerIn 22 = .ok (.if_icmp .ne 7, 3) := by decide +kernel
theorem dX1_ownerIn_29 : decode cX1_ownerIn 29 = .ok (.aload_n 0, 1) := by decide +kernel
theorem dX1_ownerIn_30 : decode cX1_ownerIn 30 = .ok (.getfield 37, 3) := by decide +kernel
theorem dX1_ownerIn_33 : decode cX1_ownerIn 33 = .ok (.getfield 121, 3) := by decide +kernel
theorem dX1_ownerIn_36 : decode cX1_ownerIn 36 = .ok (.iload 4, 2) := by decide +kernel
theorem dX1_ownerIn_38 : decode cX1_ownerIn 38 = .ok (.iaload, 1) := by decide +kernel
theorem dX1_ownerIn_39 : decode cX1_ownerIn 39 = .ok (.ireturn, 1) := by decide +kernel
theorem dX1_ownerIn_25 : decode cX1_ownerIn 25 = .ok (.iconst (-1), 1) := by decide +kernel
theorem dX1_ownerIn_26 : decode cX1_ownerIn 26 = .ok (.goto 13, 3) := by decide +kernel
theorem dX11_isWithin_0 : decode cX11_isWithin 0 = .ok (.iload_n 0, 1) := by decide +kernel
theorem dX11_isWithin_1 : decode cX11_isWithin 1 = .ok (.ifCond .lt 12, 3) := by decide +kernel
theorem dX11_isWithin_13 : decode cX11_isWithin 13 = .ok (.iconst 0, 1) := by decide +kernel
theorem dX11_isWithin_14 : decode cX11_isWithin 14 = .ok (.ireturn, 1) := by decide +kernel
theorem dX11_isWithin_4 : decode cX11_isWithin 4 = .ok (.iload_n 0, 1) := by decide +kernel
theorem dX11_isWithin_5 : decode cX11_isWithin 5 = .ok (.iload_n 1, 1) := by decide +kernel
theorem dX11_isWithin_6 : decode cX11_isWithin 6 = .ok (.if_icmp .gt 7, 3) := by decide +kernel
theorem dX11_isWithin_9 : decode cX11_isWithin 9 = .ok (.iconst 1, 1) := by decide +kernel
theorem dX11_isWithin_10 : decode cX11_isWithin 10 = .ok (.goto 4, 3) := by decide +kernel
theorem dX11_isPhase_0 : decode cX11_isPhase 0 = .ok (.iload_n 0, 1) := by decide +kernel
theorem dX11_isPhase_1 : decode cX11_isPhase 1 = .ok (.ifCond .lt 12, 3) := by decide +kernel
theorem dX11_isPhase_13 : decode cX11_isPhase 13 = .ok (.iconst 0, 1) := by decide +kernel
theorem dX11_isPhase_14 : decode cX11_isPhase 14 = .ok (.ireturn, 1) := by decide +kernel
theorem dX11_isPhase_4 : decode cX11_isPhase 4 = .ok (.iload_n 0, 1) := by decide +kernel
theorem dX11_isPhase_5 : decode cX11_isPhase 5 = .ok (.iconst 3, 1) := by decide +kernel
theorem dX11_isPhase_6 : decode cX11_isPhase 6 = .ok (.if_icmp .ge 7, 3) := by decide +kernel
theorem dX11_isPhase_9 : decode cX11_isPhase 9 = .ok (.iconst 1, 1) := by decide +kernel
theorem dX11_isPhase_10 : decode cX11_isPhase 10 = .ok (.goto 4, 3) := by decide +kernel
theorem dX11_isTideHour_0 : decode cX11_isTideHour 0 = .ok (.aload_n 0, 1) := by decide +kernel
theorem dX11_isTideHour_1 : decode cX11_isTideHour 1 = .ok (.getfield 26, 3) := by decide +kernel
theorem dX11_isTideHour_4 : decode cX11_isTideHour 4 = .ok (.invokevirtual 225, 3) := by decide +kernel
theorem dX11_isTideHour_7 : decode cX11_isTideHour 7 = .ok (.ifCond .eq 16, 3) := by decide +kernel
theorem dX11_isTideHour_23 : decode cX11_isTideHour 23 = .ok (.iconst 0, 1) := by decide +kernel
theorem dX11_isTideHour_24 : decode cX11_isTideHour 24 = .ok (.ireturn, 1) := by decide +kernel
theorem dX11_isTideHour_10 : decode cX11_isTideHour 10 = .ok (.iload_n 1, 1) := by decide +kernel
theorem dX11_isTideHour_11 : decode cX11_isTideHour 11 = .ok (.ldc 250, 2) := by decide +kernel
theorem dX11_isTideHour_13 : decode cX11_isTideHour 13 = .ok (.invokestatic 230, 3) := by decide +kernel
theorem dX11_isTideHour_16 : decode cX11_isTideHour 16 = .ok (.ifCond .eq 7, 3) := by decide +kernel
theorem dX11_isTideHour_19 : decode cX11_isTideHour 19 = .ok (.iconst 1, 1) := by decide +kernel
theorem dX11_isTideHour_20 : decode cX11_isTideHour 20 = .ok (.goto 4, 3) := by decide +kernel
theorem dX11_isAskedParty_0 : decode cX11_isAskedParty 0 = .ok (.aload_n 0, 1) := by decide +kernel
theorem dX11_isAskedParty_1 : decode cX11_isAskedParty 1 = .ok (.getfield 26, 3) := by decide +kernel
theorem dX11_isAskedParty_4 : decode cX11_isAskedParty 4 = .ok (.invokevirtual 225, 3) := by decide +kernel
theorem dX11_isAskedParty_7 : decode cX11_isAskedParty 7 = .ok (.ifCond .eq 17, 3) := by decide +kernel
theorem dX11_isAskedParty_24 : decode cX11_isAskedParty 24 = .ok (.iconst 0, 1) := by decide +kernel
theorem dX11_isAskedParty_25 : decode cX11_isAskedParty 25 = .ok (.ireturn, 1) := by decide +kernel
theorem dX11_isAskedParty_10 : decode cX11_isAskedParty 10 = .ok (.iload_n 1, 1) := by decide +kernel
theorem dX11_isAskedParty_11 : decode cX11_isAskedParty 11 = .ok (.ifCond .lt 13, 3) := by decide +kernel
theorem dX11_isAskedParty_14 : decode cX11_isAskedParty 14 = .ok (.iload_n 1, 1) := by decide +kernel
theorem dX11_isAskedParty_15 : decode cX11_isAskedParty 15 = .ok (.bipush 6, 2) := by decide +kernel
theorem dX11_isAskedParty_17 : decode cX11_isAskedParty 17 = .ok (.if_icmp .ge 7, 3) := by decide +kernel
theorem dX11_isAskedParty_20 : decode cX11_isAskedParty 20 = .ok (.iconst 1, 1) := by decide +kernel
theorem dX11_isAskedParty_21 : decode cX11_isAskedParty 21 = .ok (.goto 4, 3) := by decide +kernel
theorem dX11_isWish_0 : decode cX11_isWish 0 = .ok (.aload_n 0, 1) := by decide +kernel
theorem dX11_isWish_1 : decode cX11_isWish 1 = .ok (.getfield 26, 3) := by decide +kernel
theorem dX11_isWish_4 : decode cX11_isWish 4 = .ok (.iload_n 1, 1) := by decide +kernel
theorem dX11_isWish_5 : decode cX11_isWish 5 = .ok (.invokevirtual 130, 3) := by decide +kernel
theorem dX11_isWish_8 : decode cX11_isWish 8 = .ok (.ifCond .eq 15, 3) := by decide +kernel
theorem dX11_isWish_23 : decode cX11_isWish 23 = .ok (.iconst 0, 1) := by decide +kernel
theorem dX11_isWish_24 : decode cX11_isWish 24 = .ok (.ireturn, 1) := by decide +kernel
theorem dX11_isWish_11 : decode cX11_isWish 11 = .ok (.aload_n 0, 1) := by decide +kernel
theorem dX11_isWish_12 : decode cX11_isWish 12 = .ok (.iload_n 2, 1) := by decide +kernel
theorem dX11_isWish_13 : decode cX11_isWish 13 = .ok (.invokevirtual 264, 3) := by decide +kernel
theorem dX11_isWish_16 : decode cX11_isWish 16 = .ok (.ifCond .eq 7, 3) := by decide +kernel
theorem dX11_isWish_19 : decode cX11_isWish 19 = .ok (.iconst 1, 1) := by decide +kernel
theorem dX11_isWish_20 : decode cX11_isWish 20 = .ok (.goto 4, 3) := by decide +kernel
theorem dX11_isGale_0 : decode cX11_isGale 0 = .ok (.aload_n 0, 1) := by decide +kernel
theorem dX11_isGale_1 : decode cX11_isGale 1 = .ok (.getfield 26, 3) := by decide +kernel
theorem dX11_isGale_4 : decode cX11_isGale 4 = .ok (.iload_n 2, 1) := by decide +kernel
theorem dX11_isGale_5 : decode cX11_isGale 5 = .ok (.invokevirtual 130, 3) := by decide +kernel
theorem dX11_isGale_8 : decode cX11_isGale 8 = .ok (.ifCond .eq 16, 3) := by decide +kernel
theorem dX11_isGale_24 : decode cX11_isGale 24 = .ok (.iconst 0, 1) := by decide +kernel
theorem dX11_isGale_25 : decode cX11_isGale 25 = .ok (.ireturn, 1) := by decide +kernel
theorem dX11_isGale_11 : decode cX11_isGale 11 = .ok (.iload_n 1, 1) := by decide +kernel
theorem dX11_isGale_12 : decode cX11_isGale 12 = .ok (.ldc 250, 2) := by decide +kernel
theorem dX11_isGale_14 : decode cX11_isGale 14 = .ok (.invokestatic 230, 3) := by decide +kernel
theorem dX11_isGale_17 : decode cX11_isGale 17 = .ok (.ifCond .eq 7, 3) := by decide +kernel
theorem dX11_isGale_20 : decode cX11_isGale 20 = .ok (.iconst 1, 1) := by decide +kernel
theorem dX11_isGale_21 : decode cX11_isGale 21 = .ok (.goto 4, 3) := by decide +kernel
theorem dX11_isDrawnOften_0 : decode cX11_isDrawnOften 0 = .ok (.iload_n 0, 1) := by decide +kernel
theorem dX11_isDrawnOften_1 : decode cX11_isDrawnOften 1 = .ok (.iconst 1, 1) := by decide +kernel
theorem dX11_isDrawnOften_2 : decode cX11_isDrawnOften 2 = .ok (.if_icmp .lt 13, 3) := by decide +kernel
theorem dX11_isDrawnOften_15 : decode cX11_isDrawnOften 15 = .ok (.iconst 0, 1) := by decide +kernel
theorem dX11_isDrawnOften_16 : decode cX11_isDrawnOften 16 = .ok (.ireturn, 1) := by decide +kernel
theorem dX11_isDrawnOften_5 : decode cX11_isDrawnOften 5 = .ok (.iload_n 0, 1) := by decide +kernel
theorem dX11_isDrawnOften_6 : decode cX11_isDrawnOften 6 = .ok (.bipush 20, 2) := by decide +kernel
theorem dX11_isDrawnOften_8 : decode cX11_isDrawnOften 8 = .ok (.if_icmp .gt 7, 3) := by decide +kernel
theorem dX11_isDrawnOften_11 : decode cX11_isDrawnOften 11 = .ok (.iconst 1, 1) := by decide +kernel
theorem dX11_isDrawnOften_12 : decode cX11_isDrawnOften 12 = .ok (.goto 4, 3) := by decide +kernel
theorem dX2_runBeach_0 : decode cX2_runBeach 0 = .ok (.aload_n 0, 1) := by decide +kernel
theorem dX2_runBeach_1 : decode cX2_runBeach 1 = .ok (.getfield 49, 3) := by decide +kernel
theorem dX2_runBeach_4 : decode cX2_runBeach 4 = .ok (.iconst (-1), 1) := by decide +kernel
theorem dX2_runBeach_5 : decode cX2_runBeach 5 = .ok (.if_icmp .ne 7, 3) := by decide +kernel
theorem dX2_runBeach_12 : decode cX2_runBeach 12 = .ok (.aload_n 0, 1) := by decide +kernel
theorem dX2_runBeach_13 : decode cX2_runBeach 13 = .ok (.getfield 86, 3) := by decide +kernel
theorem dX2_runBeach_16 : decode cX2_runBeach 16 = .ok (.ireturn, 1) := by decide +kernel
theorem dX2_runBeach_8 : decode cX2_runBeach 8 = .ok (.iconst (-1), 1) := by decide +kernel
theorem dX2_runBeach_9 : decode cX2_runBeach 9 = .ok (.goto 7, 3) := by decide +kernel
theorem dX2_runOwner_0 : decode cX2_runOwner 0 = .ok (.aload_n 0, 1) := by decide +kernel
theorem dX2_runOwner_1 : decode cX2_runOwner 1 = .ok (.getfield 49, 3) := by decide +kernel
theorem dX2_runOwner_4 : decode cX2_runOwner 4 = .ok (.iconst (-1), 1) := by decide +kernel
theorem dX2_runOwner_5 : decode cX2_runOwner 5 = .ok (.if_icmp .ne 7, 3) := by decide +kernel
theorem dX2_runOwner_12 : decode cX2_runOwner 12 = .ok (.aload_n 0, 1) := by decide +kernel
theorem dX2_runOwner_13 : decode cX2_runOwner 13 = .ok (.getfield 31, 3) := by decide +kernel
theorem dX2_runOwner_16 : decode cX2_runOwner 16 = .ok (.aload_n 0, 1) := by decide +kernel
theorem dX2_runOwner_17 : decode cX2_runOwner 17 = .ok (.getfield 86, 3) := by decide +kernel
theorem dX2_runOwner_20 : decode cX2_runOwner 20 = .ok (.aload_n 0, 1) := by decide +kernel
theorem dX2_runOwner_21 : decode cX2_runOwner 21 = .ok (.getfield 49, 3) := by decide +kernel
theorem dX2_runOwner_24 : decode cX2_runOwner 24 = .ok (.iconst (-1), 1) := by decide +kernel
theorem dX2_runOwner_25 : decode cX2_runOwner 25 = .ok (.invokevirtual 117, 3) := by decide +kernel
theorem dX2_runOwner_28 : decode cX2_runOwner 28 = .ok (.ireturn, 1) := by decide +kernel
theorem dX2_runOwner_8 : decode cX2_runOwner 8 = .ok (.iconst (-1), 1) := by decide +kernel
theorem dX2_runOwner_9 : decode cX2_runOwner 9 = .ok (.goto 19, 3) := by decide +kernel
theorem dX2_ownerOf_0 : decode cX2_ownerOf 0 = .ok (.aload_n 0, 1) := by decide +kernel
theorem dX2_ownerOf_1 : decode cX2_ownerOf 1 = .ok (.getfield 9, 3) := by decide +kernel
theorem dX2_ownerOf_4 : decode cX2_ownerOf 4 = .ok (.iload_n 1, 1) := by decide +kernel
theorem dX2_ownerOf_5 : decode cX2_ownerOf 5 = .ok (.iaload, 1) := by decide +kernel
theorem dX2_ownerOf_6 : decode cX2_ownerOf 6 = .ok (.iconst (-1), 1) := by decide +kernel
theorem dX2_ownerOf_7 : decode cX2_ownerOf 7 = .ok (.if_icmp .ne 5, 3) := by decide +kernel
theorem dX2_ownerOf_12 : decode cX2_ownerOf 12 = .ok (.aload_n 0, 1) := by decide +kernel
theorem dX2_ownerOf_13 : decode cX2_ownerOf 13 = .ok (.getfield 31, 3) := by decide +kernel
theorem dX2_ownerOf_16 : decode cX2_ownerOf 16 = .ok (.aload_n 0, 1) := by decide +kernel
theorem dX2_ownerOf_17 : decode cX2_ownerOf 17 = .ok (.getfield 15, 3) := by decide +kernel
theorem dX2_ownerOf_20 : decode cX2_ownerOf 20 = .ok (.iload_n 1, 1) := by decide +kernel
theorem dX2_ownerOf_21 : decode cX2_ownerOf 21 = .ok (.iaload, 1) := by decide +kernel
theorem dX2_ownerOf_22 : decode cX2_ownerOf 22 = .ok (.aload_n 0, 1) := by decide +kernel
theorem dX2_ownerOf_23 : decode cX2_ownerOf 23 = .ok (.getfield 9, 3) := by decide +kernel
theorem dX2_ownerOf_26 : decode cX2_ownerOf 26 = .ok (.iload_n 1, 1) := by decide +kernel
theorem dX2_ownerOf_27 : decode cX2_ownerOf 27 = .ok (.iaload, 1) := by decide +kernel
theorem dX2_ownerOf_28 : decode cX2_ownerOf 28 = .ok (.iload_n 2, 1) := by decide +kernel
theorem dX2_ownerOf_29 : decode cX2_ownerOf 29 = .ok (.iadd, 1) := by decide +kernel
theorem dX2_ownerOf_30 : decode cX2_ownerOf 30 = .ok (.iload_n 3, 1) := by decide +kernel
theorem dX2_ownerOf_31 : decode cX2_ownerOf 31 = .ok (.invokevirtual 117, 3) := by decide +kernel
theorem dX2_ownerOf_34 : decode cX2_ownerOf 34 = .ok (.ireturn, 1) := by decide +kernel
theorem dX2_ownerOf_10 : decode cX2_ownerOf 10 = .ok (.iconst (-1), 1) := by decide +kernel
theorem dX2_ownerOf_11 : decode cX2_ownerOf 11 = .ok (.ireturn, 1) := by decide +kernel
theorem dX2_worthOf_0 : decode cX2_worthOf 0 = .ok (.iconst 0, 1) := by decide +kernel
theorem dX2_worthOf_1 : decode cX2_worthOf 1 = .ok (.istore 4, 2) := by decide +kernel
theorem dX2_worthOf_3 : decode cX2_worthOf 3 = .ok (.iconst 0, 1) := by decide +kernel
theorem dX2_worthOf_4 : decode cX2_worthOf 4 = .ok (.istore 5, 2) := by decide +kernel
theorem dX2_worthOf_6 : decode cX2_worthOf 6 = .ok (.iload 5, 2) := by decide +kernel
theorem dX2_worthOf_8 : decode cX2_worthOf 8 = .ok (.aload_n 0, 1) := by decide +kernel
theorem dX2_worthOf_9 : decode cX2_worthOf 9 = .ok (.getfield 31, 3) := by decide +kernel
theorem dX2_worthOf_12 : decode cX2_worthOf 12 = .ok (.getfield 35, 3) := by decide +kernel
theorem dX2_worthOf_15 : decode cX2_worthOf 15 = .ok (.if_icmp .ge 36, 3) := by decide +kernel
theorem dX2_worthOf_51 : decode cX2_worthOf 51 = .ok (.iload 4, 2) := by decide +kernel
theorem dX2_worthOf_53 : decode cX2_worthOf 53 = .ok (.ireturn, 1) := by decide +kernel
theorem dX2_worthOf_18 : decode cX2_worthOf 18 = .ok (.aload_n 0, 1) := by decide +kernel
theorem dX2_worthOf_19 : decode cX2_worthOf 19 = .ok (.iload 5, 2) := by decide +kernel
theorem dX2_worthOf_21 : decode cX2_worthOf 21 = .ok (.iload_n 2, 1) := by decide +kernel
theorem dX2_worthOf_22 : decode cX2_worthOf 22 = .ok (.iload_n 3, 1) := by decide +kernel
theorem dX2_worthOf_23 : decode cX2_worthOf 23 = .ok (.invokevirtual 120, 3) := by decide +kernel
theorem dX2_worthOf_26 : decode cX2_worthOf 26 = .ok (.iload_n 1, 1) := by decide +kernel
theorem dX2_worthOf_27 : decode cX2_worthOf 27 = .ok (.if_icmp .ne 18, 3) := by decide +kernel
theorem dX2_worthOf_45 : decode cX2_worthOf 45 = .ok (.iinc 5 1, 3) := by decide +kernel
theorem dX2_worthOf_48 : decode cX2_worthOf 48 = .ok (.goto (-42), 3) := by decide +kernel
theorem dX2_worthOf_30 : decode cX2_worthOf 30 = .ok (.iload 4, 2) := by decide +kernel
theorem dX2_worthOf_32 : decode cX2_worthOf 32 = .ok (.aload_n 0, 1) := by decide +kernel
theorem dX2_worthOf_33 : decode cX2_worthOf 33 = .ok (.getfield 31, 3) := by decide +kernel
theorem dX2_worthOf_36 : decode cX2_worthOf 36 = .ok (.getfield 123, 3) := by decide +kernel
theorem dX2_worthOf_39 : decode cX2_worthOf 39 = .ok (.iload 5, 2) := by decide +kernel
theorem dX2_worthOf_41 : decode cX2_worthOf 41 = .ok (.iaload, 1) := by decide +kernel
theorem dX2_worthOf_42 : decode cX2_worthOf 42 = .ok (.iadd, 1) := by decide +kernel
theorem dX2_worthOf_43 : decode cX2_worthOf 43 = .ok (.istore 4, 2) := by decide +kernel
theorem dX2_thingsUpOn_0 : decode cX2_thingsUpOn 0 = .ok (.iconst 0, 1) := by decide +kernel
theorem dX2_thingsUpOn_1 : decode cX2_thingsUpOn 1 = .ok (.istore_n 2, 1) := by decide +kernel
theorem dX2_thingsUpOn_2 : decode cX2_thingsUpOn 2 = .ok (.iconst 0, 1) := by decide +kernel
theorem dX2_thingsUpOn_3 : decode cX2_thingsUpOn 3 = .ok (.istore_n 3, 1) := by decide +kernel
theorem dX2_thingsUpOn_4 : decode cX2_thingsUpOn 4 = .ok (.iload_n 3, 1) := by decide +kernel
theorem dX2_thingsUpOn_5 : decode cX2_thingsUpOn 5 = .ok (.aload_n 0, 1) := by decide +kernel
theorem dX2_thingsUpOn_6 : decode cX2_thingsUpOn 6 = .ok (.getfield 31, 3) := by decide +kernel
theorem dX2_thingsUpOn_9 : decode cX2_thingsUpOn 9 = .ok (.getfield 35, 3) := by decide +kernel
theorem dX2_thingsUpOn_12 : decode cX2_thingsUpOn 12 = .ok (.if_icmp .ge 25, 3) := by decide +kernel
theorem dX2_thingsUpOn_37 : decode cX2_thingsUpOn 37 = .ok (.iload_n 2, 1) := by decide +kernel
theorem dX2_thingsUpOn_38 : decode cX2_thingsUpOn 38 = .ok (.ireturn, 1) := by decide +kernel
theorem dX2_thingsUpOn_15 : decode cX2_thingsUpOn 15 = .ok (.aload_n 0, 1) := by decide +kernel
theorem dX2_thingsUpOn_16 : decode cX2_thingsUpOn 16 = .ok (.getfield 15, 3) := by decide +kernel
theorem dX2_thingsUpOn_19 : decode cX2_thingsUpOn 19 = .ok (.iload_n 3, 1) := by decide +kernel
theorem dX2_thingsUpOn_20 : decode cX2_thingsUpOn 20 = .ok (.iaload, 1) := by decide +kernel
theorem dX2_thingsUpOn_21 : decode cX2_thingsUpOn 21 = .ok (.iload_n 1, 1) := by decide +kernel
theorem dX2_thingsUpOn_22 : decode cX2_thingsUpOn 22 = .ok (.if_icmp .ne 9, 3) := by decide +kernel
theorem dX2_thingsUpOn_31 : decode cX2_thingsUpOn 31 = .ok (.iinc 3 1, 3) := by decide +kernel
theorem dX2_thingsUpOn_34 : decode cX2_thingsUpOn 34 = .ok (.goto (-30), 3) := by decide +kernel
theorem dX2_thingsUpOn_25 : decode cX2_thingsUpOn 25 = .ok (.iload_n 2, 1) := by decide +kernel
theorem dX2_thingsUpOn_26 : decode cX2_thingsUpOn 26 = .ok (.iconst 1, 1) := by decide +kernel
theorem dX2_thingsUpOn_27 : decode cX2_thingsUpOn 27 = .ok (.iload_n 3, 1) := by decide +kernel
theorem dX2_thingsUpOn_28 : decode cX2_thingsUpOn 28 = .ok (.ishl, 1) := by decide +kernel
theorem dX2_thingsUpOn_29 : decode cX2_thingsUpOn 29 = .ok (.ior, 1) := by decide +kernel
theorem dX2_thingsUpOn_30 : decode cX2_thingsUpOn 30 = .ok (.istore_n 2, 1) := by decide +kernel
theorem dX2_upPhase_0 : decode cX2_upPhase 0 = .ok (.aload_n 0, 1) := by decide +kernel
theorem dX2_upPhase_1 : decode cX2_upPhase 1 = .ok (.getfield 31, 3) := by decide +kernel
theorem dX2_upPhase_4 : decode cX2_upPhase 4 = .ok (.getfield 139, 3) := by decide +kernel
theorem dX2_upPhase_7 : decode cX2_upPhase 7 = .ok (.aload_n 0, 1) := by decide +kernel
theorem dX2_upPhase_8 : decode cX2_upPhase 8 = .ok (.getfield 9, 3) := by decide +kernel
theorem dX2_upPhase_11 : decode cX2_upPhase 11 = .ok (.iload_n 1, 1) := by decide +kernel
theorem dX2_upPhase_12 : decode cX2_upPhase 12 = .ok (.iaload, 1) := by decide +kernel
theorem dX2_upPhase_13 : decode cX2_upPhase 13 = .ok (.invokevirtual 143, 3) := by decide +kernel
theorem dX2_upPhase_16 : decode cX2_upPhase 16 = .ok (.ireturn, 1) := by decide +kernel
theorem dX2_arguedThings_0 : decode cX2_arguedThings 0 = .ok (.iconst 0, 1) := by decide +kernel
theorem dX2_arguedThings_1 : decode cX2_arguedThings 1 = .ok (.istore_n 1, 1) := by decide +kernel
theorem dX2_arguedThings_2 : decode cX2_arguedThings 2 = .ok (.iconst 0, 1) := by decide +kernel
theorem dX2_arguedThings_3 : decode cX2_arguedThings 3 = .ok (.istore_n 2, 1) := by decide +kernel
theorem dX2_arguedThings_4 : decode cX2_arguedThings 4 = .ok (.iload_n 2, 1) := by decide +kernel
theorem dX2_arguedThings_5 : decode cX2_arguedThings 5 = .ok (.aload_n 0, 1) := by decide +kernel
theorem dX2_arguedThings_6 : decode cX2_arguedThings 6 = .ok (.getfield 31, 3) := by decide +kernel
theorem dX2_arguedThings_9 : decode cX2_arguedThings 9 = .ok (.getfield 35, 3) := by decide +kernel
theorem dX2_arguedThings_12 : decode cX2_arguedThings 12 = .ok (.if_icmp .ge 49, 3) := by decide +kernel
theorem dX2_arguedThings_61 : decode cX2_arguedThings 61 = .ok (.iload_n 1, 1) := by decide +kernel
theorem dX2_arguedThings_62 : decode cX2_arguedThings 62 = .ok (.ireturn, 1) := by decide +kernel
theorem dX2_arguedThings_15 : decode cX2_arguedThings 15 = .ok (.aload_n 0, 1) := by decide +kernel
theorem dX2_arguedThings_16 : decode cX2_arguedThings 16 = .ok (.getfield 9, 3) := by decide +kernel
theorem dX2_arguedThings_19 : decode cX2_arguedThings 19 = .ok (.iload_n 2, 1) := by decide +kernel
theorem dX2_arguedThings_20 : decode cX2_arguedThings 20 = .ok (.iaload, 1) := by decide +kernel
theorem dX2_arguedThings_21 : decode cX2_arguedThings 21 = .ok (.iconst (-1), 1) := by decide +kernel
theorem dX2_arguedThings_22 : decode cX2_arguedThings 22 = .ok (.if_icmp .eq 33, 3) := by decide +kernel
theorem dX2_arguedThings_55 : decode cX2_arguedThings 55 = .ok (.iinc 2 1, 3) := by decide +kernel
theorem dX2_arguedThings_58 : decode cX2_arguedThings 58 = .ok (.goto (-54), 3) := by decide +kernel
theorem dX2_arguedThings_25 : decode cX2_arguedThings 25 = .ok (.aload_n 0, 1) := by decide +kernel
theorem dX2_arguedThings_26 : decode cX2_arguedThings 26 = .ok (.getfield 31, 3) := by decide +kernel
theorem dX2_arguedThings_29 : decode cX2_arguedThings 29 = .ok (.getfield 126, 3) := by decide +kernel
theorem dX2_arguedThings_32 : decode cX2_arguedThings 32 = .ok (.aload_n 0, 1) := by decide +kernel
theorem dX2_arguedThings_33 : decode cX2_arguedThings 33 = .ok (.getfield 15, 3) := by decide +kernel
theorem dX2_arguedThings_36 : decode cX2_arguedThings 36 = .ok (.iload_n 2, 1) := by decide +kernel
theorem dX2_arguedThings_37 : decode cX2_arguedThings 37 = .ok (.iaload, 1) := by decide +kernel
theorem dX2_arguedThings_38 : decode cX2_arguedThings 38 = .ok (.aload_n 0, 1) := by decide +kernel
theorem dX2_arguedThings_39 : decode cX2_arguedThings 39 = .ok (.iload_n 2, 1) := by decide +kernel
theorem dX2_arguedThings_40 : decode cX2_arguedThings 40 = .ok (.invokevirtual 130, 3) := by decide +kernel
theorem dX2_arguedThings_43 : decode cX2_arguedThings 43 = .ok (.invokevirtual 134, 3) := by decide +kernel
theorem dX2_arguedThings_46 : decode cX2_arguedThings 46 = .ok (.ifCond .eq 9, 3) := by decide +kernel
theorem dX2_arguedThings_49 : decode cX2_arguedThings 49 = .ok (.iload_n 1, 1) := by decide +kernel
theorem dX2_arguedThings_50 : decode cX2_arguedThings 50 = .ok (.iconst 1, 1) := by decide +kernel
theorem dX2_arguedThings_51 : decode cX2_arguedThings 51 = .ok (.iload_n 2, 1) := by decide +kernel
theorem dX2_arguedThings_52 : decode cX2_arguedThings 52 = .ok (.ishl, 1) := by decide +kernel
theorem dX2_arguedThings_53 : decode cX2_arguedThings 53 = .ok (.ior, 1) := by decide +kernel
theorem dX2_arguedThings_54 : decode cX2_arguedThings 54 = .ok (.istore_n 1, 1) := by decide +kernel
theorem dX2_thingsLeftToSitters_0 : decode cX2_thingsLeftToSitters 0 = .ok (.iconst 0, 1) := by decide +kernel
theorem dX2_thingsLeftToSitters_1 : decode cX2_thingsLeftToSitters 1 = .ok (.istore_n 1, 1) := by decide +kernel
theorem dX2_thingsLeftToSitters_2 : decode cX2_thingsLeftToSitters 2 = .ok (.iconst 0, 1) := by decide +kernel
theorem dX2_thingsLeftToSitters_3 : decode cX2_thingsLeftToSitters 3 = .ok (.istore_n 2, 1) := by decide +kernel
theorem dX2_thingsLeftToSitters_4 : decode cX2_thingsLeftToSitters 4 = .ok (.iload_n 2, 1) := by decide +kernel
theorem dX2_thingsLeftToSitters_5 : decode cX2_thingsLeftToSitters 5 = .ok (.aload_n 0, 1) := by decide +kernel
theorem dX2_thingsLeftToSitters_6 : decode cX2_thingsLeftToSitters 6 = .ok (.getfield 31, 3) := by decide +kernel
theorem dX2_thingsLeftToSitters_9 : decode cX2_thingsLeftToSitters 9 = .ok (.getfield 35, 3) := by decide +kernel
theorem dX2_thingsLeftToSitters_12 : decode cX2_thingsLeftToSitters 12 = .ok (.if_icmp .ge 56, 3) := by decide +kernel
theorem dX2_thingsLeftToSitters_68 : decode cX2_thingsLeftToSitters 68 = .ok (.iload_n 1, 1) := by decide +kernel
theorem dX2_thingsLeftToSitters_69 : decode cX2_thingsLeftToSitters 69 = .ok (.ireturn, 1) := by decide +kernel
theorem dX2_thingsLeftToSitters_15 : decode cX2_thingsLeftToSitters 15 = .ok (.aload_n 0, 1) := by decide +kernel
theorem dX2_thingsLeftToSitters_16 : decode cX2_thingsLeftToSitters 16 = .ok (.getfield 9, 3) := by decide +kernel
theorem dX2_thingsLeftToSitters_19 : decode cX2_thingsLeftToSitters 19 = .ok (.iload_n 2, 1) := by decide +kernel
theorem dX2_thingsLeftToSitters_20 : decode cX2_thingsLeftToSitters 20 = .ok (.iaload, 1) := by decide +kernel
theorem dX2_thingsLeftToSitters_21 : decode cX2_thingsLeftToSitters 21 = .ok (.iconst (-1), 1) := by decide +kernel
theorem dX2_thingsLeftToSitters_22 : decode cX2_thingsLeftToSitters 22 = .ok (.if_icmp .eq 40, 3) := by decide +kernel
theorem dX2_thingsLeftToSitters_62 : decode cX2_thingsLeftToSitters 62 = .ok (.iinc 2 1, 3) := by decide +kernel
theorem dX2_thingsLeftToSitters_65 : decode cX2_thingsLeftToSitters 65 = .ok (.goto (-61), 3) := by decide +kernel
theorem dX2_thingsLeftToSitters_25 : decode cX2_thingsLeftToSitters 25 = .ok (.aload_n 0, 1) := by decide +kernel
theorem dX2_thingsLeftToSitters_26 : decode cX2_thingsLeftToSitters 26 = .ok (.iload_n 2, 1) := by decide +kernel
theorem dX2_thingsLeftToSitters_27 : decode cX2_thingsLeftToSitters 27 = .ok (.invokevirtual 130, 3) := by decide +kernel
theorem dX2_thingsLeftToSitters_30 : decode cX2_thingsLeftToSitters 30 = .ok (.iconst 1, 1) := by decide +kernel
theorem dX2_thingsLeftToSitters_31 : decode cX2_thingsLeftToSitters 31 = .ok (.if_icmp .ne 31, 3) := by decide +kernel
theorem dX2_thingsLeftToSitters_34 : decode cX2_thingsLeftToSitters 34 = .ok (.aload_n 0, 1) := by decide +kernel
theorem dX2_thingsLeftToSitters_35 : decode cX2_thingsLeftToSitters 35 = .ok (.getfield 31, 3) := by decide +kernel
theorem dX2_thingsLeftToSitters_38 : decode cX2_thingsLeftToSitters 38 = .ok (.getfield 126, 3) := by decide +kernel
theorem dX2_thingsLeftToSitters_41 : decode cX2_thingsLeftToSitters 41 = .ok (.aload_n 0, 1) := by decide +kernel
theorem dX2_thingsLeftToSitters_42 : decode cX2_thingsLeftToSitters 42 = .ok (.getfield 15, 3) := by decide +kernel
theorem dX2_thingsLeftToSitters_45 : decode cX2_thingsLeftToSitters 45 = .ok (.iload_n 2, 1) := by decide +kernel
theorem dX2_thingsLeftToSitters_46 : decode cX2_thingsLeftToSitters 46 = .ok (.iaload, 1) := by decide +kernel
theorem dX2_thingsLeftToSitters_47 : decode cX2_thingsLeftToSitters 47 = .ok (.iconst 1, 1) := by decide +kernel
theorem dX2_thingsLeftToSitters_48 : decode cX2_thingsLeftToSitters 48 = .ok (.iconst (-1), 1) := by decide +kernel
theorem dX2_thingsLeftToSitters_49 : decode cX2_thingsLeftToSitters 49 = .ok (.invokevirtual 148, 3) := by decide +kernel
theorem dX2_thingsLeftToSitters_52 : decode cX2_thingsLeftToSitters 52 = .ok (.iconst (-1), 1) := by decide +kernel
theorem dX2_thingsLeftToSitters_53 : decode cX2_thingsLeftToSitters 53 = .ok (.if_icmp .ne 9, 3) := by decide +kernel
theorem dX2_thingsLeftToSitters_56 : decode cX2_thingsLeftToSitters 56 = .ok (.iload_n 1, 1) := by decide +kernel
theorem dX2_thingsLeftToSitters_57 : decode cX2_thingsLeftToSitters 57 = .ok (.iconst 1, 1) := by decide +kernel
theorem dX2_thingsLeftToSitters_58 : decode cX2_thingsLeftToSitters 58 = .ok (.iload_n 2, 1) := by decide +kernel
theorem dX2_thingsLeftToSitters_59 : decode cX2_thingsLeftToSitters 59 = .ok (.ishl, 1) := by decide +kernel
theorem dX2_thingsLeftToSitters_60 : decode cX2_thingsLeftToSitters 60 = .ok (.ior, 1) := by decide +kernel
theorem dX2_thingsLeftToSitters_61 : decode cX2_thingsLeftToSitters 61 = .ok (.istore_n 1, 1) := by decide +kernel
theorem dX4_placeIn_0 : decode cX4_placeIn 0 = .ok (.iload_n 1, 1) := by decide +kernel
theorem dX4_placeIn_1 : decode cX4_placeIn 1 = .ok (.bipush 12, 2) := by decide +kernel
theorem dX4_placeIn_3 : decode cX4_placeIn 3 = .ok (.imul, 1) := by decide +kernel
theorem dX4_placeIn_4 : decode cX4_placeIn 4 = .ok (.iload_n 0, 1) := by decide +kernel
theorem dX4_placeIn_5 : decode cX4_placeIn 5 = .ok (.iadd, 1) := by decide +kernel
theorem dX4_placeIn_6 : decode cX4_placeIn 6 = .ok (.ireturn, 1) := by decide +kernel
theorem dX4_costBy_0 : decode cX4_costBy 0 = .ok (.aload_n 0, 1) := by decide +kernel
theorem dX4_costBy_1 : decode cX4_costBy 1 = .ok (.getfield 15, 3) := by decide +kernel
theorem dX4_costBy_4 : decode cX4_costBy 4 = .ok (.iload_n 1, 1) := by decide +kernel
theorem dX4_costBy_5 : decode cX4_costBy 5 = .ok (.iload_n 2, 1) := by decide +kernel
theorem dX4_costBy_6 : decode cX4_costBy 6 = .ok (.iload_n 3, 1) := by decide +kernel
theorem dX4_costBy_7 : decode cX4_costBy 7 = .ok (.invokevirtual 52, 3) := by decide +kernel
theorem dX4_costBy_10 : decode cX4_costBy 10 = .ok (.istore 4, 2) := by decide +kernel
theorem dX4_costBy_12 : decode cX4_costBy 12 = .ok (.iload_n 2, 1) := by decide +kernel
theorem dX4_costBy_13 : decode cX4_costBy 13 = .ok (.ifCond .ne 7, 3) := by decide +kernel
theorem dX4_costBy_20 : decode cX4_costBy 20 = .ok (.iconst 1, 1) := by decide +kernel
theorem dX4_costBy_21 : decode cX4_costBy 21 = .ok (.istore 5, 2) := by decide +kernel
theorem dX4_costBy_23 : decode cX4_costBy 23 = .ok (.aload_n 0, 1) := by decide +kernel
theorem dX4_costBy_24 : decode cX4_costBy 24 = .ok (.getfield 15, 3) := by decide +kernel
theorem dX4_costBy_27 : decode cX4_costBy 27 = .ok (.iload 4, 2) := by decide +kernel
theorem dX4_costBy_29 : decode cX4_costBy 29 = .ok (.invokevirtual 55, 3) := by decide +kernel
theorem dX4_costBy_32 : decode cX4_costBy 32 = .ok (.ifCond .ne 20, 3) := by decide +kernel
theorem dX4_costBy_52 : decode cX4_costBy 52 = .ok (.aload_n 0, 1) := by decide +kernel
theorem dX4_costBy_53 : decode cX4_costBy 53 = .ok (.getfield 15, 3) := by decide +kernel
theorem dX4_costBy_56 : decode cX4_costBy 56 = .ok (.iload 4, 2) := by decide +kernel
theorem dX4_costBy_58 : decode cX4_costBy 58 = .ok (.iload_n 3, 1) := by decide +kernel
theorem dX4_costBy_59 : decode cX4_costBy 59 = .ok (.iconst 1, 1) := by decide +kernel
theorem dX4_costBy_60 : decode cX4_costBy 60 = .ok (.iadd, 1) := by decide +kernel
theorem dX4_costBy_61 : decode cX4_costBy 61 = .ok (.iconst (-1), 1) := by decide +kernel
theorem dX4_costBy_62 : decode cX4_costBy 62 = .ok (.invokevirtual 59, 3) := by decide +kernel
theorem dX4_costBy_65 : decode cX4_costBy 65 = .ok (.aload_n 0, 1) := by decide +kernel
theorem dX4_costBy_66 : decode cX4_costBy 66 = .ok (.getfield 19, 3) := by decide +kernel
theorem dX4_costBy_69 : decode cX4_costBy 69 = .ok (.if_icmp .ne 7, 3) := by decide +kernel
theorem dX4_costBy_76 : decode cX4_costBy 76 = .ok (.iconst 0, 1) := by decide +kernel
theorem dX4_costBy_77 : decode cX4_costBy 77 = .ok (.istore 6, 2) := by decide +kernel
theorem dX4_costBy_79 : decode cX4_costBy 79 = .ok (.iload 6, 2) := by decide +kernel
theorem dX4_costBy_81 : decode cX4_costBy 81 = .ok (.aload_n 0, 1) := by decide +kernel
theorem dX4_costBy_82 : decode cX4_costBy 82 = .ok (.getfield 23, 3) := by decide +kernel
theorem dX4_costBy_85 : decode cX4_costBy 85 = .ok (.if_icmp .ne 8, 3) := by decide +kernel
theorem dX4_costBy_93 : decode cX4_costBy 93 = .ok (.iload 5, 2) := by decide +kernel
theorem dX4_costBy_95 : decode cX4_costBy 95 = .ok (.ireturn, 1) := by decide +kernel
theorem dX4_costBy_88 : decode cX4_costBy 88 = .ok (.ldc 27, 2) := by decide +kernel
theorem dX4_costBy_90 : decode cX4_costBy 90 = .ok (.goto 5, 3) := by decide +kernel
theorem dX4_costBy_72 : decode cX4_costBy 72 = .ok (.iconst 1, 1) := by decide +kernel
theorem dX4_costBy_73 : decode cX4_costBy 73 = .ok (.goto 4, 3) := by decide +kernel
theorem dX4_costBy_35 : decode cX4_costBy 35 = .ok (.aload_n 0, 1) := by decide +kernel
theorem dX4_costBy_36 : decode cX4_costBy 36 = .ok (.getfield 9, 3) := by decide +kernel
theorem dX4_costBy_39 : decode cX4_costBy 39 = .ok (.iload 4, 2) := by decide +kernel
theorem dX4_costBy_41 : decode cX4_costBy 41 = .ok (.iload_n 3, 1) := by decide +kernel
theorem dX4_costBy_42 : decode cX4_costBy 42 = .ok (.iconst 1, 1) := by decide +kernel
theorem dX4_costBy_43 : decode cX4_costBy 43 = .ok (.iadd, 1) := by decide +kernel
theorem dX4_costBy_44 : decode cX4_costBy 44 = .ok (.invokestatic 49, 3) := by decide +kernel
theorem dX4_costBy_47 : decode cX4_costBy 47 = .ok (.iaload, 1) := by decide +kernel
theorem dX4_costBy_48 : decode cX4_costBy 48 = .ok (.iload 5, 2) := by decide +kernel
theorem dX4_costBy_50 : decode cX4_costBy 50 = .ok (.iadd, 1) := by decide +kernel
theorem dX4_costBy_51 : decode cX4_costBy 51 = .ok (.ireturn, 1) := by decide +kernel
theorem dX4_costBy_16 : decode cX4_costBy 16 = .ok (.iconst 0, 1) := by decide +kernel
theorem dX4_costBy_17 : decode cX4_costBy 17 = .ok (.goto 4, 3) := by decide +kernel
theorem dX4_costOf_0 : decode cX4_costOf 0 = .ok (.aload_n 0, 1) := by decide +kernel
theorem dX4_costOf_1 : decode cX4_costOf 1 = .ok (.getfield 9, 3) := by decide +kernel
theorem dX4_costOf_4 : decode cX4_costOf 4 = .ok (.aload_n 0, 1) := by decide +kernel
theorem dX4_costOf_5 : decode cX4_costOf 5 = .ok (.getfield 15, 3) := by decide +kernel
theorem dX4_costOf_8 : decode cX4_costOf 8 = .ok (.getfield 62, 3) := by decide +kernel
theorem dX4_costOf_11 : decode cX4_costOf 11 = .ok (.iload_n 1, 1) := by decide +kernel
theorem dX4_costOf_12 : decode cX4_costOf 12 = .ok (.iaload, 1) := by decide +kernel
theorem dX4_costOf_13 : decode cX4_costOf 13 = .ok (.aload_n 0, 1) := by decide +kernel
theorem dX4_costOf_14 : decode cX4_costOf 14 = .ok (.getfield 15, 3) := by decide +kernel
theorem dX4_costOf_17 : decode cX4_costOf 17 = .ok (.getfield 65, 3) := by decide +kernel
theorem dX4_costOf_20 : decode cX4_costOf 20 = .ok (.iload_n 1, 1) := by decide +kernel
theorem dX4_costOf_21 : decode cX4_costOf 21 = .ok (.iaload, 1) := by decide +kernel
theorem dX4_costOf_22 : decode cX4_costOf 22 = .ok (.invokestatic 49, 3) := by decide +kernel
theorem dX4_costOf_25 : decode cX4_costOf 25 = .ok (.iaload, 1) := by decide +kernel
theorem dX4_costOf_26 : decode cX4_costOf 26 = .ok (.ireturn, 1) := by decide +kernel
theorem dX4_firstWay_0 : decode cX4_firstWay 0 = .ok (.aload_n 0, 1) := by decide +kernel
theorem dX4_firstWay_1 : decode cX4_firstWay 1 = .ok (.getfield 9, 3) := by decide +kernel
theorem dX4_firstWay_4 : decode cX4_firstWay 4 = .ok (.iload_n 1, 1) := by decide +kernel
theorem dX4_firstWay_5 : decode cX4_firstWay 5 = .ok (.iload_n 2, 1) := by decide +kernel
theorem dX4_firstWay_6 : decode cX4_firstWay 6 = .ok (.invokestatic 49, 3) := by decide +kernel
theorem dX4_firstWay_9 : decode cX4_firstWay 9 = .ok (.iaload, 1) := by decide +kernel
theorem dX4_firstWay_10 : decode cX4_firstWay 10 = .ok (.istore_n 3, 1) := by decide +kernel
theorem dX4_firstWay_11 : decode cX4_firstWay 11 = .ok (.aload_n 0, 1) := by decide +kernel
theorem dX4_firstWay_12 : decode cX4_firstWay 12 = .ok (.iload_n 1, 1) := by decide +kernel
theorem dX4_firstWay_13 : decode cX4_firstWay 13 = .ok (.iconst 1, 1) := by decide +kernel
theorem dX4_firstWay_14 : decode cX4_firstWay 14 = .ok (.iload_n 2, 1) := by decide +kernel
theorem dX4_firstWay_15 : decode cX4_firstWay 15 = .ok (.invokevirtual 39, 3) := by decide +kernel
theorem dX4_firstWay_18 : decode cX4_firstWay 18 = .ok (.iload_n 3, 1) := by decide +kernel
theorem dX4_firstWay_19 : decode cX4_firstWay 19 = .ok (.if_icmp .ne 5, 3) := by decide +kernel
theorem dX4_firstWay_24 : decode cX4_firstWay 24 = .ok (.aload_n 0, 1) := by decide +kernel
theorem dX4_firstWay_25 : decode cX4_firstWay 25 = .ok (.iload_n 1, 1) := by decide +kernel
theorem dX4_firstWay_26 : decode cX4_firstWay 26 = .ok (.iconst (-1), 1) := by decide +kernel
theorem dX4_firstWay_27 : decode cX4_firstWay 27 = .ok (.iload_n 2, 1) := by decide +kernel
theorem dX4_firstWay_28 : decode cX4_firstWay 28 = .ok (.invokevirtual 39, 3) := by decide +kernel
theorem dX4_firstWay_31 : decode cX4_firstWay 31 = .ok (.iload_n 3, 1) := by decide +kernel
theorem dX4_firstWay_32 : decode cX4_firstWay 32 = .ok (.if_icmp .ne 7, 3) := by decide +kernel
theorem dX4_firstWay_39 : decode cX4_firstWay 39 = .ok (.iconst 0, 1) := by decide +kernel
theorem dX4_firstWay_40 : decode cX4_firstWay 40 = .ok (.ireturn, 1) := by decide +kernel
theorem dX4_firstWay_35 : decode cX4_firstWay 35 = .ok (.iconst (-1), 1) := by decide +kernel
theorem dX4_firstWay_36 : decode cX4_firstWay 36 = .ok (.goto 4, 3) := by decide +kernel
theorem dX4_firstWay_22 : decode cX4_firstWay 22 = .ok (.iconst 1, 1) := by decide +kernel
theorem dX4_firstWay_23 : decode cX4_firstWay 23 = .ok (.ireturn, 1) := by decide +kernel
theorem dX4_reachedFrom_0 : decode cX4_reachedFrom 0 = .ok (.iconst 0, 1) := by decide +kernel
theorem dX4_reachedFrom_1 : decode cX4_reachedFrom 1 = .ok (.istore_n 3, 1) := by decide +kernel
theorem dX4_reachedFrom_2 : decode cX4_reachedFrom 2 = .ok (.iconst 0, 1) := by decide +kernel
theorem dX4_reachedFrom_3 : decode cX4_reachedFrom 3 = .ok (.istore 4, 2) := by decide +kernel
theorem dX4_reachedFrom_5 : decode cX4_reachedFrom 5 = .ok (.iload 4, 2) := by decide +kernel
theorem dX4_reachedFrom_7 : decode cX4_reachedFrom 7 = .ok (.aload_n 0, 1) := by decide +kernel
theorem dX4_reachedFrom_8 : decode cX4_reachedFrom 8 = .ok (.getfield 15, 3) := by decide +kernel
theorem dX4_reachedFrom_11 : decode cX4_reachedFrom 11 = .ok (.getfield 34, 3) := by decide +kernel
theorem dX4_reachedFrom_14 : decode cX4_reachedFrom 14 = .ok (.if_icmp .ge 67, 3) := by decide +kernel
theorem dX4_reachedFrom_17 : decode cX4_reachedFrom 17 = .ok (.iload_n 1, 1) := by decide +kernel
theorem dX4_reachedFrom_18 : decode cX4_reachedFrom 18 = .ok (.iload 4, 2) := by decide +kernel
theorem dX4_reachedFrom_20 : decode cX4_reachedFrom 20 = .ok (.ishr, 1) := by decide +kernel
theorem dX4_reachedFrom_21 : decode cX4_reachedFrom 21 = .ok (.iconst 1, 1) := by decide +kernel
theorem dX4_reachedFrom_22 : decode cX4_reachedFrom 22 = .ok (.iand, 1) := by decide +kernel
theorem dX4_reachedFrom_23 : decode cX4_reachedFrom 23 = .ok (.iconst 1, 1) := by decide +kernel
theorem dX4_reachedFrom_24 : decode cX4_reachedFrom 24 = .ok (.if_icmp .ne 51, 3) := by decide +kernel
theorem dX4_reachedFrom_75 : decode cX4_reachedFrom 75 = .ok (.iinc 4 1, 3) := by decide +kernel
theorem dX4_reachedFrom_78 : decode cX4_reachedFrom 78 = .ok (.goto (-73), 3) := by decide +kernel
theorem dX4_reachedFrom_27 : decode cX4_reachedFrom 27 = .ok (.iload_n 3, 1) := by decide +kernel
theorem dX4_reachedFrom_28 : decode cX4_reachedFrom 28 = .ok (.iconst 1, 1) := by decide +kernel
theorem dX4_reachedFrom_29 : decode cX4_reachedFrom 29 = .ok (.aload_n 0, 1) := by decide +kernel
theorem dX4_reachedFrom_30 : decode cX4_reachedFrom 30 = .ok (.getfield 15, 3) := by decide +kernel
theorem dX4_reachedFrom_33 : decode cX4_reachedFrom 33 = .ok (.iload 4, 2) := by decide +kernel
theorem dX4_reachedFrom_35 : decode cX4_reachedFrom 35 = .ok (.iconst 0, 1) := by decide +kernel
theorem dX4_reachedFrom_36 : decode cX4_reachedFrom 36 = .ok (.iload_n 2, 1) := by decide +kernel
theorem dX4_reachedFrom_37 : decode cX4_reachedFrom 37 = .ok (.invokevirtual 52, 3) := by decide +kernel
theorem dX4_reachedFrom_40 : decode cX4_reachedFrom 40 = .ok (.ishl, 1) := by decide +kernel
theorem dX4_reachedFrom_41 : decode cX4_reachedFrom 41 = .ok (.ior, 1) := by decide +kernel
theorem dX4_reachedFrom_42 : decode cX4_reachedFrom 42 = .ok (.istore_n 3, 1) := by decide +kernel
theorem dX4_reachedFrom_43 : decode cX4_reachedFrom 43 = .ok (.iload_n 3, 1) := by decide +kernel
theorem dX4_reachedFrom_44 : decode cX4_reachedFrom 44 = .ok (.iconst 1, 1) := by decide +kernel
theorem dX4_reachedFrom_45 : decode cX4_reachedFrom 45 = .ok (.aload_n 0, 1) := by decide +kernel
theorem dX4_reachedFrom_46 : decode cX4_reachedFrom 46 = .ok (.getfield 15, 3) := by decide +kernel
theorem dX4_reachedFrom_49 : decode cX4_reachedFrom 49 = .ok (.iload 4, 2) := by decide +kernel
theorem dX4_reachedFrom_51 : decode cX4_reachedFrom 51 = .ok (.iconst 1, 1) := by decide +kernel
theorem dX4_reachedFrom_52 : decode cX4_reachedFrom 52 = .ok (.iload_n 2, 1) := by decide +kernel
theorem dX4_reachedFrom_53 : decode cX4_reachedFrom 53 = .ok (.invokevirtual 52, 3) := by decide +kernel
theorem dX4_reachedFrom_56 : decode cX4_reachedFrom 56 = .ok (.ishl, 1) := by decide +kernel
theorem dX4_reachedFrom_57 : decode cX4_reachedFrom 57 = .ok (.ior, 1) := by decide +kernel
theorem dX4_reachedFrom_58 : decode cX4_reachedFrom 58 = .ok (.istore_n 3, 1) := by decide +kernel
theorem dX4_reachedFrom_59 : decode cX4_reachedFrom 59 = .ok (.iload_n 3, 1) := by decide +kernel
theorem dX4_reachedFrom_60 : decode cX4_reachedFrom 60 = .ok (.iconst 1, 1) := by decide +kernel
theorem dX4_reachedFrom_61 : decode cX4_reachedFrom 61 = .ok (.aload_n 0, 1) := by decide +kernel
theorem dX4_reachedFrom_62 : decode cX4_reachedFrom 62 = .ok (.getfield 15, 3) := by decide +kernel
theorem dX4_reachedFrom_65 : decode cX4_reachedFrom 65 = .ok (.iload 4, 2) := by decide +kernel
theorem dX4_reachedFrom_67 : decode cX4_reachedFrom 67 = .ok (.iconst (-1), 1) := by decide +kernel
theorem dX4_reachedFrom_68 : decode cX4_reachedFrom 68 = .ok (.iload_n 2, 1) := by decide +kernel
theorem dX4_reachedFrom_69 : decode cX4_reachedFrom 69 = .ok (.invokevirtual 52, 3) := by decide +kernel
theorem dX4_reachedFrom_72 : decode cX4_reachedFrom 72 = .ok (.ishl, 1) := by decide +kernel
theorem dX4_reachedFrom_73 : decode cX4_reachedFrom 73 = .ok (.ior, 1) := by decide +kernel
theorem dX4_reachedFrom_74 : decode cX4_reachedFrom 74 = .ok (.istore_n 3, 1) := by decide +kernel
theorem dX4_reachedFrom_81 : decode cX4_reachedFrom 81 = .ok (.iload_n 3, 1) := by decide +kernel
theorem dX4_reachedFrom_82 : decode cX4_reachedFrom 82 = .ok (.ireturn, 1) := by decide +kernel
theorem dX4_isWonBy_0 : decode cX4_isWonBy 0 = .ok (.iconst 0, 1) := by decide +kernel
theorem dX4_isWonBy_1 : decode cX4_isWonBy 1 = .ok (.istore 4, 2) := by decide +kernel
theorem dX4_isWonBy_3 : decode cX4_isWonBy 3 = .ok (.iload 4, 2) := by decide +kernel
theorem dX4_isWonBy_5 : decode cX4_isWonBy 5 = .ok (.aload_n 0, 1) := by decide +kernel
theorem dX4_isWonBy_6 : decode cX4_isWonBy 6 = .ok (.getfield 15, 3) := by decide +kernel
theorem dX4_isWonBy_9 : decode cX4_isWonBy 9 = .ok (.getfield 34, 3) := by decide +kernel
theorem dX4_isWonBy_12 : decode cX4_isWonBy 12 = .ok (.if_icmp .ge 36, 3) := by decide +kernel
theorem dX4_isWonBy_48 : decode cX4_isWonBy 48 = .ok (.iconst 0, 1) := by decide +kernel
theorem dX4_isWonBy_49 : decode cX4_isWonBy 49 = .ok (.ireturn, 1) := by decide +kernel
theorem dX4_isWonBy_15 : decode cX4_isWonBy 15 = .ok (.iload_n 2, 1) := by decide +kernel
theorem dX4_isWonBy_16 : decode cX4_isWonBy 16 = .ok (.iload 4, 2) := by decide +kernel
theorem dX4_isWonBy_18 : decode cX4_isWonBy 18 = .ok (.ishr, 1) := by decide +kernel
theorem dX4_isWonBy_19 : decode cX4_isWonBy 19 = .ok (.iconst 1, 1) := by decide +kernel
theorem dX4_isWonBy_20 : decode cX4_isWonBy 20 = .ok (.iand, 1) := by decide +kernel
theorem dX4_isWonBy_21 : decode cX4_isWonBy 21 = .ok (.iconst 1, 1) := by decide +kernel
theorem dX4_isWonBy_22 : decode cX4_isWonBy 22 = .ok (.if_icmp .ne 20, 3) := by decide +kernel
theorem dX4_isWonBy_42 : decode cX4_isWonBy 42 = .ok (.iinc 4 1, 3) := by decide +kernel
theorem dX4_isWonBy_45 : decode cX4_isWonBy 45 = .ok (.goto (-42), 3) := by decide +kernel
theorem dX4_isWonBy_25 : decode cX4_isWonBy 25 = .ok (.aload_n 0, 1) := by decide +kernel
theorem dX4_isWonBy_26 : decode cX4_isWonBy 26 = .ok (.getfield 15, 3) := by decide +kernel
theorem dX4_isWonBy_29 : decode cX4_isWonBy 29 = .ok (.iload 4, 2) := by decide +kernel
theorem dX4_isWonBy_31 : decode cX4_isWonBy 31 = .ok (.iload_n 3, 1) := by decide +kernel
theorem dX4_isWonBy_32 : decode cX4_isWonBy 32 = .ok (.iconst (-1), 1) := by decide +kernel
theorem dX4_isWonBy_33 : decode cX4_isWonBy 33 = .ok (.invokevirtual 59, 3) := by decide +kernel
theorem dX4_isWonBy_36 : decode cX4_isWonBy 36 = .ok (.iload_n 1, 1) := by decide +kernel
theorem dX4_isWonBy_37 : decode cX4_isWonBy 37 = .ok (.if_icmp .ne 5, 3) := by decide +kernel
theorem dX4_isWonBy_40 : decode cX4_isWonBy 40 = .ok (.iconst 1, 1) := by decide +kernel
theorem dX4_isWonBy_41 : decode cX4_isWonBy 41 = .ok (.ireturn, 1) := by decide +kernel
theorem dX9_tidesToReturn_0 : decode cX9_tidesToReturn 0 = .ok (.aload_n 0, 1) := by decide +kernel
theorem dX9_tidesToReturn_1 : decode cX9_tidesToReturn 1 = .ok (.getfield 18, 3) := by decide +kernel
theorem dX9_tidesToReturn_4 : decode cX9_tidesToReturn 4 = .ok (.getfield 22, 3) := by decide +kernel
theorem dX9_tidesToReturn_7 : decode cX9_tidesToReturn 7 = .ok (.getfield 28, 3) := by decide +kernel
theorem dX9_tidesToReturn_10 : decode cX9_tidesToReturn 10 = .ok (.istore_n 2, 1) := by decide +kernel
theorem dX9_tidesToReturn_11 : decode cX9_tidesToReturn 11 = .ok (.iconst 1, 1) := by decide +kernel
theorem dX9_tidesToReturn_12 : decode cX9_tidesToReturn 12 = .ok (.iload_n 1, 1) := by decide +kernel
theorem dX9_tidesToReturn_13 : decode cX9_tidesToReturn 13 = .ok (.ishl, 1) := by decide +kernel
theorem dX9_tidesToReturn_14 : decode cX9_tidesToReturn 14 = .ok (.istore_n 3, 1) := by decide +kernel
theorem dX9_tidesToReturn_15 : decode cX9_tidesToReturn 15 = .ok (.iload_n 1, 1) := by decide +kernel
theorem dX9_tidesToReturn_16 : decode cX9_tidesToReturn 16 = .ok (.istore 4, 2) := by decide +kernel
theorem dX9_tidesToReturn_18 : decode cX9_tidesToReturn 18 = .ok (.iconst 1, 1) := by decide +kernel
theorem dX9_tidesToReturn_19 : decode cX9_tidesToReturn 19 = .ok (.istore 5, 2) := by decide +kernel
theorem dX9_tidesToReturn_21 : decode cX9_tidesToReturn 21 = .ok (.iload 5, 2) := by decide +kernel
theorem dX9_tidesToReturn_23 : decode cX9_tidesToReturn 23 = .ok (.aload_n 0, 1) := by decide +kernel
theorem dX9_tidesToReturn_24 : decode cX9_tidesToReturn 24 = .ok (.getfield 18, 3) := by decide +kernel
theorem dX9_tidesToReturn_27 : decode cX9_tidesToReturn 27 = .ok (.getfield 34, 3) := by decide +kernel
theorem dX9_tidesToReturn_30 : decode cX9_tidesToReturn 30 = .ok (.if_icmp .gt 71, 3) := by decide +kernel
theorem dX9_tidesToReturn_33 : decode cX9_tidesToReturn 33 = .ok (.iconst 0, 1) := by decide +kernel
theorem dX9_tidesToReturn_34 : decode cX9_tidesToReturn 34 = .ok (.istore 6, 2) := by decide +kernel
theorem dX9_tidesToReturn_36 : decode cX9_tidesToReturn 36 = .ok (.iload 6, 2) := by decide +kernel
theorem dX9_tidesToReturn_38 : decode cX9_tidesToReturn 38 = .ok (.iload_n 2, 1) := by decide +kernel
theorem dX9_tidesToReturn_39 : decode cX9_tidesToReturn 39 = .ok (.if_icmp .ge 36, 3) := by decide +kernel
theorem dX9_tidesToReturn_75 : decode cX9_tidesToReturn 75 = .ok (.iload_n 3, 1) := by decide +kernel
theorem dX9_tidesToReturn_76 : decode cX9_tidesToReturn 76 = .ok (.iload 4, 2) := by decide +kernel
theorem dX9_tidesToReturn_78 : decode cX9_tidesToReturn 78 = .ok (.ishr, 1) := by decide +kernel
theorem dX9_tidesToReturn_79 : decode cX9_tidesToReturn 79 = .ok (.iconst 1, 1) := by decide +kernel
theorem dX9_tidesToReturn_80 : decode cX9_tidesToReturn 80 = .ok (.iand, 1) := by decide +kernel
theorem dX9_tidesToReturn_81 : decode cX9_tidesToReturn 81 = .ok (.iconst 1, 1) := by decide +kernel
theorem dX9_tidesToReturn_82 : decode cX9_tidesToReturn 82 = .ok (.if_icmp .ne 6, 3) := by decide +kernel
theorem dX9_tidesToReturn_88 : decode cX9_tidesToReturn 88 = .ok (.iload_n 3, 1) := by decide +kernel
theorem dX9_tidesToReturn_89 : decode cX9_tidesToReturn 89 = .ok (.iconst 1, 1) := by decide +kernel
theorem dX9_tidesToReturn_90 : decode cX9_tidesToReturn 90 = .ok (.iload 4, 2) := by decide +kernel
theorem dX9_tidesToReturn_92 : decode cX9_tidesToReturn 92 = .ok (.ishl, 1) := by decide +kernel
theorem dX9_tidesToReturn_93 : decode cX9_tidesToReturn 93 = .ok (.ior, 1) := by decide +kernel
theorem dX9_tidesToReturn_94 : decode cX9_tidesToReturn 94 = .ok (.istore_n 3, 1) := by decide +kernel
theorem dX9_tidesToReturn_95 : decode cX9_tidesToReturn 95 = .ok (.iinc 5 1, 3) := by decide +kernel
theorem dX9_tidesToReturn_98 : decode cX9_tidesToReturn 98 = .ok (.goto (-77), 3) := by decide +kernel
theorem dX9_tidesToReturn_85 : decode cX9_tidesToReturn 85 = .ok (.iload 5, 2) := by decide +kernel
theorem dX9_tidesToReturn_87 : decode cX9_tidesToReturn 87 = .ok (.ireturn, 1) := by decide +kernel
theorem dX9_tidesToReturn_42 : decode cX9_tidesToReturn 42 = .ok (.aload_n 0, 1) := by decide +kernel
theorem dX9_tidesToReturn_43 : decode cX9_tidesToReturn 43 = .ok (.getfield 18, 3) := by decide +kernel
theorem dX9_tidesToReturn_46 : decode cX9_tidesToReturn 46 = .ok (.iload 4, 2) := by decide +kernel
theorem dX9_tidesToReturn_48 : decode cX9_tidesToReturn 48 = .ok (.iload 6, 2) := by decide +kernel
theorem dX9_tidesToReturn_50 : decode cX9_tidesToReturn 50 = .ok (.invokevirtual 37, 3) := by decide +kernel
theorem dX9_tidesToReturn_53 : decode cX9_tidesToReturn 53 = .ok (.istore 4, 2) := by decide +kernel
theorem dX9_tidesToReturn_55 : decode cX9_tidesToReturn 55 = .ok (.aload_n 0, 1) := by decide +kernel
theorem dX9_tidesToReturn_56 : decode cX9_tidesToReturn 56 = .ok (.getfield 18, 3) := by decide +kernel
theorem dX9_tidesToReturn_59 : decode cX9_tidesToReturn 59 = .ok (.iload 4, 2) := by decide +kernel
theorem dX9_tidesToReturn_61 : decode cX9_tidesToReturn 61 = .ok (.invokevirtual 41, 3) := by decide +kernel
theorem dX9_tidesToReturn_64 : decode cX9_tidesToReturn 64 = .ok (.ifCond .eq 5, 3) := by decide +kernel
theorem dX9_tidesToReturn_69 : decode cX9_tidesToReturn 69 = .ok (.iinc 6 1, 3) := by decide +kernel
theorem dX9_tidesToReturn_72 : decode cX9_tidesToReturn 72 = .ok (.goto (-36), 3) := by decide +kernel
theorem dX9_tidesToReturn_67 : decode cX9_tidesToReturn 67 = .ok (.iconst (-1), 1) := by decide +kernel
theorem dX9_tidesToReturn_68 : decode cX9_tidesToReturn 68 = .ok (.ireturn, 1) := by decide +kernel
theorem dX9_tidesToReturn_101 : decode cX9_tidesToReturn 101 = .ok (.iconst (-1), 1) := by decide +kernel
theorem dX9_tidesToReturn_102 : decode cX9_tidesToReturn 102 = .ok (.ireturn, 1) := by decide +kernel
theorem dX9_stepFates_0 : decode cX9_stepFates 0 = .ok (.aload_n 0, 1) := by decide +kernel
theorem dX9_stepFates_1 : decode cX9_stepFates 1 = .ok (.getfield 9, 3) := by decide +kernel
theorem dX9_stepFates_4 : decode cX9_stepFates 4 = .ok (.iconst 0, 1) := by decide +kernel
theorem dX9_stepFates_5 : decode cX9_stepFates 5 = .ok (.aload_n 0, 1) := by decide +kernel
theorem dX9_stepFates_6 : decode cX9_stepFates 6 = .ok (.getfield 15, 3) := by decide +kernel
theorem dX9_stepFates_9 : decode cX9_stepFates 9 = .ok (.iconst 0, 1) := by decide +kernel
theorem dX9_stepFates_10 : decode cX9_stepFates 10 = .ok (.bipush 12, 2) := by decide +kernel
theorem dX9_stepFates_12 : decode cX9_stepFates 12 = .ok (.invokestatic 51, 3) := by decide +kernel
theorem dX9_stepFates_15 : decode cX9_stepFates 15 = .ok (.iconst 0, 1) := by decide +kernel
theorem dX9_stepFates_16 : decode cX9_stepFates 16 = .ok (.istore_n 2, 1) := by decide +kernel
theorem dX9_stepFates_17 : decode cX9_stepFates 17 = .ok (.iload_n 2, 1) := by decide +kernel
theorem dX9_stepFates_18 : decode cX9_stepFates 18 = .ok (.aload_n 0, 1) := by decide +kernel
theorem dX9_stepFates_19 : decode cX9_stepFates 19 = .ok (.getfield 18, 3) := by decide +kernel
theorem dX9_stepFates_22 : decode cX9_stepFates 22 = .ok (.getfield 34, 3) := by decide +kernel
theorem dX9_stepFates_25 : decode cX9_stepFates 25 = .ok (.if_icmp .ge 57, 3) := by decide +kernel
theorem dX9_stepFates_28 : decode cX9_stepFates 28 = .ok (.aload_n 0, 1) := by decide +kernel
theorem dX9_stepFates_29 : decode cX9_stepFates 29 = .ok (.getfield 18, 3) := by decide +kernel
theorem dX9_stepFates_32 : decode cX9_stepFates 32 = .ok (.iload_n 2, 1) := by decide +kernel
theorem dX9_stepFates_33 : decode cX9_stepFates 33 = .ok (.iload_n 1, 1) := by decide +kernel
theorem dX9_stepFates_34 : decode cX9_stepFates 34 = .ok (.invokevirtual 37, 3) := by decide +kernel
theorem dX9_stepFates_37 : decode cX9_stepFates 37 = .ok (.istore_n 3, 1) := by decide +kernel
theorem dX9_stepFates_38 : decode cX9_stepFates 38 = .ok (.aload_n 0, 1) := by decide +kernel
theorem dX9_stepFates_39 : decode cX9_stepFates 39 = .ok (.getfield 9, 3) := by decide +kernel
theorem dX9_stepFates_42 : decode cX9_stepFates 42 = .ok (.iload_n 2, 1) := by decide +kernel
theorem dX9_stepFates_43 : decode cX9_stepFates 43 = .ok (.aload_n 0, 1) := by decide +kernel
theorem dX9_stepFates_44 : decode cX9_stepFates 44 = .ok (.getfield 18, 3) := by decide +kernel
theorem dX9_stepFates_47 : decode cX9_stepFates 47 = .ok (.iload_n 3, 1) := by decide +kernel
theorem dX9_stepFates_48 : decode cX9_stepFates 48 = .ok (.invokevirtual 41, 3) := by decide +kernel
theorem dX9_stepFates_51 : decode cX9_stepFates 51 = .ok (.ifCond .eq 18, 3) := by decide +kernel
theorem dX9_stepFates_69 : decode cX9_stepFates 69 = .ok (.aload_n 0, 1) := by decide +kernel
theorem dX9_stepFates_70 : decode cX9_stepFates 70 = .ok (.getfield 15, 3) := by decide +kernel
theorem dX9_stepFates_73 : decode cX9_stepFates 73 = .ok (.iload_n 3, 1) := by decide +kernel
theorem dX9_stepFates_74 : decode cX9_stepFates 74 = .ok (.iaload, 1) := by decide +kernel
theorem dX9_stepFates_75 : decode cX9_stepFates 75 = .ok (.iastore, 1) := by decide +kernel
theorem dX9_stepFates_76 : decode cX9_stepFates 76 = .ok (.iinc 2 1, 3) := by decide +kernel
theorem dX9_stepFates_79 : decode cX9_stepFates 79 = .ok (.goto (-62), 3) := by decide +kernel
theorem dX9_stepFates_54 : decode cX9_stepFates 54 = .ok (.aload_n 0, 1) := by decide +kernel
theorem dX9_stepFates_55 : decode cX9_stepFates 55 = .ok (.getfield 18, 3) := by decide +kernel
theorem dX9_stepFates_58 : decode cX9_stepFates 58 = .ok (.iload_n 3, 1) := by decide +kernel
theorem dX9_stepFates_59 : decode cX9_stepFates 59 = .ok (.iload_n 1, 1) := by decide +kernel
theorem dX9_stepFates_60 : decode cX9_stepFates 60 = .ok (.iconst 1, 1) := by decide +kernel
theorem dX9_stepFates_61 : decode cX9_stepFates 61 = .ok (.iadd, 1) := by decide +kernel
theorem dX9_stepFates_62 : decode cX9_stepFates 62 = .ok (.iconst (-1), 1) := by decide +kernel
theorem dX9_stepFates_63 : decode cX9_stepFates 63 = .ok (.invokevirtual 57, 3) := by decide +kernel
theorem dX9_stepFates_66 : decode cX9_stepFates 66 = .ok (.goto 9, 3) := by decide +kernel
theorem dX9_stepFates_82 : decode cX9_stepFates 82 = .ok (.return_, 1) := by decide +kernel
theorem dX11_phase_0 : decode cX11_phase 0 = .ok (.aload_n 0, 1) := by decide +kernel
theorem dX11_phase_1 : decode cX11_phase 1 = .ok (.iload_n 1, 1) := by decide +kernel
theorem dX11_phase_2 : decode cX11_phase 2 = .ok (.invokevirtual 219, 3) := by decide +kernel
theorem dX11_phase_5 : decode cX11_phase 5 = .ok (.ifCond .eq 17, 3) := by decide +kernel
theorem dX11_phase_22 : decode cX11_phase 22 = .ok (.bipush (-2), 2) := by decide +kernel
theorem dX11_phase_24 : decode cX11_phase 24 = .ok (.ireturn, 1) := by decide +kernel
theorem dX11_phase_8 : decode cX11_phase 8 = .ok (.aload_n 0, 1) := by decide +kernel
theorem dX11_phase_9 : decode cX11_phase 9 = .ok (.getfield 26, 3) := by decide +kernel
theorem dX11_phase_12 : decode cX11_phase 12 = .ok (.getfield 172, 3) := by decide +kernel
theorem dX11_phase_15 : decode cX11_phase 15 = .ok (.iload_n 1, 1) := by decide +kernel
theorem dX11_phase_16 : decode cX11_phase 16 = .ok (.invokevirtual 222, 3) := by decide +kernel
theorem dX11_phase_19 : decode cX11_phase 19 = .ok (.goto 5, 3) := by decide +kernel
theorem dX11_next_0 : decode cX11_next 0 = .ok (.aload_n 0, 1) := by decide +kernel
theorem dX11_next_1 : decode cX11_next 1 = .ok (.getfield 26, 3) := by decide +kernel
theorem dX11_next_4 : decode cX11_next 4 = .ok (.invokevirtual 225, 3) := by decide +kernel
theorem dX11_next_7 : decode cX11_next 7 = .ok (.ifCond .eq 19, 3) := by decide +kernel
theorem dX11_next_26 : decode cX11_next 26 = .ok (.bipush (-2), 2) := by decide +kernel
theorem dX11_next_28 : decode cX11_next 28 = .ok (.ireturn, 1) := by decide +kernel
theorem dX11_next_10 : decode cX11_next 10 = .ok (.iload_n 1, 1) := by decide +kernel
theorem dX11_next_11 : decode cX11_next 11 = .ok (.ldc 229, 2) := by decide +kernel
theorem dX11_next_13 : decode cX11_next 13 = .ok (.invokestatic 230, 3) := by decide +kernel
theorem dX11_next_16 : decode cX11_next 16 = .ok (.ifCond .eq 10, 3) := by decide +kernel
theorem dX11_next_19 : decode cX11_next 19 = .ok (.iload_n 2, 1) := by decide +kernel
theorem dX11_next_20 : decode cX11_next 20 = .ok (.invokestatic 234, 3) := by decide +kernel
theorem dX11_next_23 : decode cX11_next 23 = .ok (.ifCond .ne 6, 3) := by decide +kernel
theorem dX11_next_29 : decode cX11_next 29 = .ok (.aload_n 0, 1) := by decide +kernel
theorem dX11_next_30 : decode cX11_next 30 = .ok (.getfield 26, 3) := by decide +kernel
theorem dX11_next_33 : decode cX11_next 33 = .ok (.getfield 172, 3) := by decide +kernel
theorem dX11_next_36 : decode cX11_next 36 = .ok (.iload_n 1, 1) := by decide +kernel
theorem dX11_next_37 : decode cX11_next 37 = .ok (.iload_n 2, 1) := by decide +kernel
theorem dX11_next_38 : decode cX11_next 38 = .ok (.invokevirtual 237, 3) := by decide +kernel
theorem dX11_next_41 : decode cX11_next 41 = .ok (.ireturn, 1) := by decide +kernel
theorem dX11_lasts_0 : decode cX11_lasts 0 = .ok (.aload_n 0, 1) := by decide +kernel
theorem dX11_lasts_1 : decode cX11_lasts 1 = .ok (.iload_n 1, 1) := by decide +kernel
theorem dX11_lasts_2 : decode cX11_lasts 2 = .ok (.invokevirtual 219, 3) := by decide +kernel
theorem dX11_lasts_5 : decode cX11_lasts 5 = .ok (.ifCond .eq 17, 3) := by decide +kernel
theorem dX11_lasts_22 : decode cX11_lasts 22 = .ok (.bipush (-2), 2) := by decide +kernel
theorem dX11_lasts_24 : decode cX11_lasts 24 = .ok (.ireturn, 1) := by decide +kernel
theorem dX11_lasts_8 : decode cX11_lasts 8 = .ok (.aload_n 0, 1) := by decide +kernel
theorem dX11_lasts_9 : decode cX11_lasts 9 = .ok (.getfield 26, 3) := by decide +kernel
theorem dX11_lasts_12 : decode cX11_lasts 12 = .ok (.getfield 172, 3) := by decide +kernel
theorem dX11_lasts_15 : decode cX11_lasts 15 = .ok (.iload_n 1, 1) := by decide +kernel
theorem dX11_lasts_16 : decode cX11_lasts 16 = .ok (.invokevirtual 241, 3) := by decide +kernel
theorem dX11_lasts_19 : decode cX11_lasts 19 = .ok (.goto 5, 3) := by decide +kernel
theorem dX11_slacks_0 : decode cX11_slacks 0 = .ok (.aload_n 0, 1) := by decide +kernel
theorem dX11_slacks_1 : decode cX11_slacks 1 = .ok (.iload_n 1, 1) := by decide +kernel
theorem dX11_slacks_2 : decode cX11_slacks 2 = .ok (.invokevirtual 219, 3) := by decide +kernel
theorem dX11_slacks_5 : decode cX11_slacks 5 = .ok (.ifCond .eq 17, 3) := by decide +kernel
theorem dX11_slacks_22 : decode cX11_slacks 22 = .ok (.bipush (-2), 2) := by decide +kernel
theorem dX11_slacks_24 : decode cX11_slacks 24 = .ok (.ireturn, 1) := by decide +kernel
theorem dX11_slacks_8 : decode cX11_slacks 8 = .ok (.aload_n 0, 1) := by decide +kernel
theorem dX11_slacks_9 : decode cX11_slacks 9 = .ok (.getfield 26, 3) := by decide +kernel
theorem dX11_slacks_12 : decode cX11_slacks 12 = .ok (.getfield 172, 3) := by decide +kernel
theorem dX11_slacks_15 : decode cX11_slacks 15 = .ok (.iload_n 1, 1) := by decide +kernel
theorem dX11_slacks_16 : decode cX11_slacks 16 = .ok (.invokevirtual 244, 3) := by decide +kernel
theorem dX11_slacks_19 : decode cX11_slacks 19 = .ok (.goto 5, 3) := by decide +kernel
theorem dX11_cell_0 : decode cX11_cell 0 = .ok (.aload_n 0, 1) := by decide +kernel
theorem dX11_cell_1 : decode cX11_cell 1 = .ok (.getfield 26, 3) := by decide +kernel
theorem dX11_cell_4 : decode cX11_cell 4 = .ok (.iload_n 1, 1) := by decide +kernel
theorem dX11_cell_5 : decode cX11_cell 5 = .ok (.invokevirtual 116, 3) := by decide +kernel
theorem dX11_cell_8 : decode cX11_cell 8 = .ok (.ifCond .ne 7, 3) := by decide +kernel
theorem dX11_cell_15 : decode cX11_cell 15 = .ok (.iload_n 2, 1) := by decide +kernel
theorem dX11_cell_16 : decode cX11_cell 16 = .ok (.tableswitch 65 0 2 #[28, 38, 48], 28) := by decide +kernel
theorem dX11_cell_81 : decode cX11_cell 81 = .ok (.sipush (-1000), 3) := by decide +kernel
theorem dX11_cell_84 : decode cX11_cell 84 = .ok (.ireturn, 1) := by decide +kernel
theorem dX11_cell_44 : decode cX11_cell 44 = .ok (.aload_n 0, 1) := by decide +kernel
theorem dX11_cell_45 : decode cX11_cell 45 = .ok (.getfield 26, 3) := by decide +kernel
theorem dX11_cell_48 : decode cX11_cell 48 = .ok (.getfield 120, 3) := by decide +kernel
theorem dX11_cell_51 : decode cX11_cell 51 = .ok (.iload_n 1, 1) := by decide +kernel
theorem dX11_cell_52 : decode cX11_cell 52 = .ok (.iaload, 1) := by decide +kernel
theorem dX11_cell_53 : decode cX11_cell 53 = .ok (.ireturn, 1) := by decide +kernel
theorem dX11_cell_54 : decode cX11_cell 54 = .ok (.aload_n 0, 1) := by decide +kernel
theorem dX11_cell_55 : decode cX11_cell 55 = .ok (.getfield 26, 3) := by decide +kernel
theorem dX11_cell_58 : decode cX11_cell 58 = .ok (.getfield 124, 3) := by decide +kernel
theorem dX11_cell_61 : decode cX11_cell 61 = .ok (.iload_n 1, 1) := by decide +kernel
theorem dX11_cell_62 : decode cX11_cell 62 = .ok (.iaload, 1) := by decide +kernel
theorem dX11_cell_63 : decode cX11_cell 63 = .ok (.ireturn, 1) := by decide +kernel
theorem dX11_cell_64 : decode cX11_cell 64 = .ok (.aload_n 0, 1) := by decide +kernel
theorem dX11_cell_65 : decode cX11_cell 65 = .ok (.getfield 26, 3) := by decide +kernel
theorem dX11_cell_68 : decode cX11_cell 68 = .ok (.iload_n 1, 1) := by decide +kernel
theorem dX11_cell_69 : decode cX11_cell 69 = .ok (.invokevirtual 127, 3) := by decide +kernel
theorem dX11_cell_72 : decode cX11_cell 72 = .ok (.ifCond .eq 7, 3) := by decide +kernel
theorem dX11_cell_79 : decode cX11_cell 79 = .ok (.iconst 0, 1) := by decide +kernel
theorem dX11_cell_80 : decode cX11_cell 80 = .ok (.ireturn, 1) := by decide +kernel
theorem dX11_cell_75 : decode cX11_cell 75 = .ok (.iconst 1, 1) := by decide +kernel
theorem dX11_cell_76 : decode cX11_cell 76 = .ok (.goto 4, 3) := by decide +kernel
theorem dX11_cell_11 : decode cX11_cell 11 = .ok (.sipush (-1000), 3) := by decide +kernel
theorem dX11_cell_14 : decode cX11_cell 14 = .ok (.ireturn, 1) := by decide +kernel
theorem dX11_thing_0 : decode cX11_thing 0 = .ok (.aload_n 0, 1) := by decide +kernel
theorem dX11_thing_1 : decode cX11_thing 1 = .ok (.getfield 26, 3) := by decide +kernel
theorem dX11_thing_4 : decode cX11_thing 4 = .ok (.iload_n 1, 1) := by decide +kernel
theorem dX11_thing_5 : decode cX11_thing 5 = .ok (.invokevirtual 130, 3) := by decide +kernel
theorem dX11_thing_8 : decode cX11_thing 8 = .ok (.ifCond .ne 6, 3) := by decide +kernel
theorem dX11_thing_14 : decode cX11_thing 14 = .ok (.iload_n 2, 1) := by decide +kernel
theorem dX11_thing_15 : decode cX11_thing 15 = .ok (.tableswitch 55 0 2 #[25, 35, 45], 25) := by decide +kernel
theorem dX11_thing_70 : decode cX11_thing 70 = .ok (.bipush (-2), 2) := by decide +kernel
theorem dX11_thing_72 : decode cX11_thing 72 = .ok (.ireturn, 1) := by decide +kernel
theorem dX11_thing_40 : decode cX11_thing 40 = .ok (.aload_n 0, 1) := by decide +kernel
theorem dX11_thing_41 : decode cX11_thing 41 = .ok (.getfield 26, 3) := by decide +kernel
theorem dX11_thing_44 : decode cX11_thing 44 = .ok (.getfield 133, 3) := by decide +kernel
theorem dX11_thing_47 : decode cX11_thing 47 = .ok (.iload_n 1, 1) := by decide +kernel
theorem dX11_thing_48 : decode cX11_thing 48 = .ok (.iaload, 1) := by decide +kernel
theorem dX11_thing_49 : decode cX11_thing 49 = .ok (.ireturn, 1) := by decide +kernel
theorem dX11_thing_50 : decode cX11_thing 50 = .ok (.aload_n 0, 1) := by decide +kernel
theorem dX11_thing_51 : decode cX11_thing 51 = .ok (.getfield 26, 3) := by decide +kernel
theorem dX11_thing_54 : decode cX11_thing 54 = .ok (.getfield 136, 3) := by decide +kernel
theorem dX11_thing_57 : decode cX11_thing 57 = .ok (.iload_n 1, 1) := by decide +kernel
theorem dX11_thing_58 : decode cX11_thing 58 = .ok (.iaload, 1) := by decide +kernel
theorem dX11_thing_59 : decode cX11_thing 59 = .ok (.ireturn, 1) := by decide +kernel
theorem dX11_thing_60 : decode cX11_thing 60 = .ok (.aload_n 0, 1) := by decide +kernel
theorem dX11_thing_61 : decode cX11_thing 61 = .ok (.getfield 26, 3) := by decide +kernel
theorem dX11_thing_64 : decode cX11_thing 64 = .ok (.getfield 139, 3) := by decide +kernel
theorem dX11_thing_67 : decode cX11_thing 67 = .ok (.iload_n 1, 1) := by decide +kernel
theorem dX11_thing_68 : decode cX11_thing 68 = .ok (.iaload, 1) := by decide +kernel
theorem dX11_thing_69 : decode cX11_thing 69 = .ok (.ireturn, 1) := by decide +kernel
theorem dX11_thing_11 : decode cX11_thing 11 = .ok (.bipush (-2), 2) := by decide +kernel
theorem dX11_thing_13 : decode cX11_thing 13 = .ok (.ireturn, 1) := by decide +kernel
theorem dX11_rule_0 : decode cX11_rule 0 = .ok (.aload_n 0, 1) := by decide +kernel
theorem dX11_rule_1 : decode cX11_rule 1 = .ok (.getfield 26, 3) := by decide +kernel
theorem dX11_rule_4 : decode cX11_rule 4 = .ok (.getfield 142, 3) := by decide +kernel
theorem dX11_rule_7 : decode cX11_rule 7 = .ok (.astore_n 3, 1) := by decide +kernel
theorem dX11_rule_8 : decode cX11_rule 8 = .ok (.aload_n 3, 1) := by decide +kernel
theorem dX11_rule_9 : decode cX11_rule 9 = .ok (.iload_n 1, 1) := by decide +kernel
theorem dX11_rule_10 : decode cX11_rule 10 = .ok (.invokevirtual 146, 3) := by decide +kernel
theorem dX11_rule_13 : decode cX11_rule 13 = .ok (.ifCond .ne 6, 3) := by decide +kernel
theorem dX11_rule_19 : decode cX11_rule 19 = .ok (.iload_n 2, 1) := by decide +kernel
theorem dX11_rule_20 : decode cX11_rule 20 = .ok (.tableswitch 60 0 3 #[32, 39, 46, 53], 32) := by decide +kernel
theorem dX11_rule_80 : decode cX11_rule 80 = .ok (.bipush (-2), 2) := by decide +kernel
theorem dX11_rule_82 : decode cX11_rule 82 = .ok (.ireturn, 1) := by decide +kernel
theorem dX11_rule_52 : decode cX11_rule 52 = .ok (.aload_n 3, 1) := by decide +kernel
theorem dX11_rule_53 : decode cX11_rule 53 = .ok (.getfield 151, 3) := by decide +kernel
theorem dX11_rule_56 : decode cX11_rule 56 = .ok (.iload_n 1, 1) := by decide +kernel
theorem dX11_rule_57 : decode cX11_rule 57 = .ok (.iaload, 1) := by decide +kernel
theorem dX11_rule_58 : decode cX11_rule 58 = .ok (.ireturn, 1) := by decide +kernel
theorem dX11_rule_59 : decode cX11_rule 59 = .ok (.aload_n 3, 1) := by decide +kernel
theorem dX11_rule_60 : decode cX11_rule 60 = .ok (.getfield 154, 3) := by decide +kernel
theorem dX11_rule_63 : decode cX11_rule 63 = .ok (.iload_n 1, 1) := by decide +kernel
theorem dX11_rule_64 : decode cX11_rule 64 = .ok (.iaload, 1) := by decide +kernel
theorem dX11_rule_65 : decode cX11_rule 65 = .ok (.ireturn, 1) := by decide +kernel
theorem dX11_rule_66 : decode cX11_rule 66 = .ok (.aload_n 3, 1) := by decide +kernel
theorem dX11_rule_67 : decode cX11_rule 67 = .ok (.getfield 157, 3) := by decide +kernel
theorem dX11_rule_70 : decode cX11_rule 70 = .ok (.iload_n 1, 1) := by decide +kernel
theorem dX11_rule_71 : decode cX11_rule 71 = .ok (.iaload, 1) := by decide +kernel
theorem dX11_rule_72 : decode cX11_rule 72 = .ok (.ireturn, 1) := by decide +kernel
theorem dX11_rule_73 : decode cX11_rule 73 = .ok (.aload_n 3, 1) := by decide +kernel
theorem dX11_rule_74 : decode cX11_rule 74 = .ok (.getfield 160, 3) := by decide +kernel
theorem dX11_rule_77 : decode cX11_rule 77 = .ok (.iload_n 1, 1) := by decide +kernel
theorem dX11_rule_78 : decode cX11_rule 78 = .ok (.iaload, 1) := by decide +kernel
theorem dX11_rule_79 : decode cX11_rule 79 = .ok (.ireturn, 1) := by decide +kernel
theorem dX11_rule_16 : decode cX11_rule 16 = .ok (.bipush (-2), 2) := by decide +kernel
theorem dX11_rule_18 : decode cX11_rule 18 = .ok (.ireturn, 1) := by decide +kernel
theorem dX11_sitter_0 : decode cX11_sitter 0 = .ok (.aload_n 0, 1) := by decide +kernel
theorem dX11_sitter_1 : decode cX11_sitter 1 = .ok (.getfield 26, 3) := by decide +kernel
theorem dX11_sitter_4 : decode cX11_sitter 4 = .ok (.iload_n 1, 1) := by decide +kernel
theorem dX11_sitter_5 : decode cX11_sitter 5 = .ok (.invokevirtual 163, 3) := by decide +kernel
theorem dX11_sitter_8 : decode cX11_sitter 8 = .ok (.ifCond .eq 15, 3) := by decide +kernel
theorem dX11_sitter_23 : decode cX11_sitter 23 = .ok (.bipush (-2), 2) := by decide +kernel
theorem dX11_sitter_25 : decode cX11_sitter 25 = .ok (.ireturn, 1) := by decide +kernel
theorem dX11_sitter_11 : decode cX11_sitter 11 = .ok (.aload_n 0, 1) := by decide +kernel
theorem dX11_sitter_12 : decode cX11_sitter 12 = .ok (.getfield 26, 3) := by decide +kernel
theorem dX11_sitter_15 : decode cX11_sitter 15 = .ok (.getfield 166, 3) := by decide +kernel
theorem dX11_sitter_18 : decode cX11_sitter 18 = .ok (.iload_n 1, 1) := by decide +kernel
theorem dX11_sitter_19 : decode cX11_sitter 19 = .ok (.iaload, 1) := by decide +kernel
theorem dX11_sitter_20 : decode cX11_sitter 20 = .ok (.goto 5, 3) := by decide +kernel
theorem dX11_fault_0 : decode cX11_fault 0 = .ok (.iload_n 1, 1) := by decide +kernel
theorem dX11_fault_1 : decode cX11_fault 1 = .ok (.ifCond .ne 8, 3) := by decide +kernel
theorem dX11_fault_9 : decode cX11_fault 9 = .ok (.iload_n 1, 1) := by decide +kernel
theorem dX11_fault_10 : decode cX11_fault 10 = .ok (.iconst 1, 1) := by decide +kernel
theorem dX11_fault_11 : decode cX11_fault 11 = .ok (.if_icmp .ne 10, 3) := by decide +kernel
theorem dX11_fault_21 : decode cX11_fault 21 = .ok (.iconst (-1), 1) := by decide +kernel
theorem dX11_fault_22 : decode cX11_fault 22 = .ok (.ireturn, 1) := by decide +kernel
theorem dX11_fault_14 : decode cX11_fault 14 = .ok (.aload_n 0, 1) := by decide +kernel
theorem dX11_fault_15 : decode cX11_fault 15 = .ok (.getfield 20, 3) := by decide +kernel
theorem dX11_fault_18 : decode cX11_fault 18 = .ok (.goto 4, 3) := by decide +kernel
theorem dX11_fault_4 : decode cX11_fault 4 = .ok (.aload_n 0, 1) := by decide +kernel
theorem dX11_fault_5 : decode cX11_fault 5 = .ok (.getfield 17, 3) := by decide +kernel
theorem dX11_fault_8 : decode cX11_fault 8 = .ok (.ireturn, 1) := by decide +kernel
theorem dX11_end_0 : decode cX11_end 0 = .ok (.iload_n 1, 1) := by decide +kernel
theorem dX11_end_1 : decode cX11_end 1 = .ok (.ifCond .lt 11, 3) := by decide +kernel
theorem dX11_end_12 : decode cX11_end 12 = .ok (.iconst (-1), 1) := by decide +kernel
theorem dX11_end_13 : decode cX11_end 13 = .ok (.ireturn, 1) := by decide +kernel
theorem dX11_end_4 : decode cX11_end 4 = .ok (.iload_n 1, 1) := by decide +kernel
theorem dX11_end_5 : decode cX11_end 5 = .ok (.aload_n 0, 1) := by decide +kernel
theorem dX11_end_6 : decode cX11_end 6 = .ok (.getfield 13, 3) := by decide +kernel
theorem dX11_end_9 : decode cX11_end 9 = .ok (.if_icmp .le 5, 3) := by decide +kernel
theorem dX11_end_14 : decode cX11_end 14 = .ok (.aload_n 0, 1) := by decide +kernel
theorem dX11_end_15 : decode cX11_end 15 = .ok (.iload_n 1, 1) := by decide +kernel
theorem dX11_end_16 : decode cX11_end 16 = .ok (.putfield 13, 3) := by decide +kernel
theorem dX11_end_19 : decode cX11_end 19 = .ok (.iload_n 1, 1) := by decide +kernel
theorem dX11_end_20 : decode cX11_end 20 = .ok (.ireturn, 1) := by decide +kernel
theorem dX11_comes_0 : decode cX11_comes 0 = .ok (.aload_n 0, 1) := by decide +kernel
theorem dX11_comes_1 : decode cX11_comes 1 = .ok (.getfield 26, 3) := by decide +kernel
theorem dX11_comes_4 : decode cX11_comes 4 = .ok (.iload_n 1, 1) := by decide +kernel
theorem dX11_comes_5 : decode cX11_comes 5 = .ok (.invokevirtual 130, 3) := by decide +kernel
theorem dX11_comes_8 : decode cX11_comes 8 = .ok (.ifCond .eq 15, 3) := by decide +kernel
theorem dX11_comes_23 : decode cX11_comes 23 = .ok (.bipush (-2), 2) := by decide +kernel
theorem dX11_comes_25 : decode cX11_comes 25 = .ok (.ireturn, 1) := by decide +kernel
theorem dX11_comes_11 : decode cX11_comes 11 = .ok (.aload_n 0, 1) := by decide +kernel
theorem dX11_comes_12 : decode cX11_comes 12 = .ok (.getfield 55, 3) := by decide +kernel
theorem dX11_comes_15 : decode cX11_comes 15 = .ok (.getfield 254, 3) := by decide +kernel
theorem dX11_comes_18 : decode cX11_comes 18 = .ok (.iload_n 1, 1) := by decide +kernel
theorem dX11_comes_19 : decode cX11_comes 19 = .ok (.iaload, 1) := by decide +kernel
theorem dX11_comes_20 : decode cX11_comes 20 = .ok (.goto 5, 3) := by decide +kernel
theorem dX11_beach_0 : decode cX11_beach 0 = .ok (.aload_n 0, 1) := by decide +kernel
theorem dX11_beach_1 : decode cX11_beach 1 = .ok (.getfield 26, 3) := by decide +kernel
theorem dX11_beach_4 : decode cX11_beach 4 = .ok (.iload_n 1, 1) := by decide +kernel
theorem dX11_beach_5 : decode cX11_beach 5 = .ok (.invokevirtual 130, 3) := by decide +kernel
theorem dX11_beach_8 : decode cX11_beach 8 = .ok (.ifCond .eq 15, 3) := by decide +kernel
theorem dX11_beach_23 : decode cX11_beach 23 = .ok (.bipush (-2), 2) := by decide +kernel
theorem dX11_beach_25 : decode cX11_beach 25 = .ok (.ireturn, 1) := by decide +kernel
theorem dX11_beach_11 : decode cX11_beach 11 = .ok (.aload_n 0, 1) := by decide +kernel
theorem dX11_beach_12 : decode cX11_beach 12 = .ok (.getfield 55, 3) := by decide +kernel
theorem dX11_beach_15 : decode cX11_beach 15 = .ok (.getfield 257, 3) := by decide +kernel
theorem dX11_beach_18 : decode cX11_beach 18 = .ok (.iload_n 1, 1) := by decide +kernel
theorem dX11_beach_19 : decode cX11_beach 19 = .ok (.iaload, 1) := by decide +kernel
theorem dX11_beach_20 : decode cX11_beach 20 = .ok (.goto 5, 3) := by decide +kernel
theorem dX11_whose_0 : decode cX11_whose 0 = .ok (.aload_n 0, 1) := by decide +kernel
theorem dX11_whose_1 : decode cX11_whose 1 = .ok (.getfield 26, 3) := by decide +kernel
theorem dX11_whose_4 : decode cX11_whose 4 = .ok (.iload_n 1, 1) := by decide +kernel
theorem dX11_whose_5 : decode cX11_whose 5 = .ok (.invokevirtual 130, 3) := by decide +kernel
theorem dX11_whose_8 : decode cX11_whose 8 = .ok (.ifCond .eq 16, 3) := by decide +kernel
theorem dX11_whose_24 : decode cX11_whose 24 = .ok (.bipush (-2), 2) := by decide +kernel
theorem dX11_whose_26 : decode cX11_whose 26 = .ok (.ireturn, 1) := by decide +kernel
theorem dX11_whose_11 : decode cX11_whose 11 = .ok (.aload_n 0, 1) := by decide +kernel
theorem dX11_whose_12 : decode cX11_whose 12 = .ok (.getfield 55, 3) := by decide +kernel
theorem dX11_whose_15 : decode cX11_whose 15 = .ok (.iload_n 1, 1) := by decide +kernel
theorem dX11_whose_16 : decode cX11_whose 16 = .ok (.iconst 0, 1) := by decide +kernel
theorem dX11_whose_17 : decode cX11_whose 17 = .ok (.iconst (-1), 1) := by decide +kernel
theorem dX11_whose_18 : decode cX11_whose 18 = .ok (.invokevirtual 260, 3) := by decide +kernel
theorem dX11_whose_21 : decode cX11_whose 21 = .ok (.goto 5, 3) := by decide +kernel
theorem dX11_has_0 : decode cX11_has 0 = .ok (.aload_n 0, 1) := by decide +kernel
theorem dX11_has_1 : decode cX11_has 1 = .ok (.iload_n 1, 1) := by decide +kernel
theorem dX11_has_2 : decode cX11_has 2 = .ok (.invokevirtual 264, 3) := by decide +kernel
theorem dX11_has_5 : decode cX11_has 5 = .ok (.ifCond .eq 16, 3) := by decide +kernel
theorem dX11_has_21 : decode cX11_has 21 = .ok (.bipush (-2), 2) := by decide +kernel
theorem dX11_has_23 : decode cX11_has 23 = .ok (.ireturn, 1) := by decide +kernel
theorem dX11_has_8 : decode cX11_has 8 = .ok (.aload_n 0, 1) := by decide +kernel
theorem dX11_has_9 : decode cX11_has 9 = .ok (.getfield 55, 3) := by decide +kernel
theorem dX11_has_12 : decode cX11_has 12 = .ok (.iload_n 1, 1) := by decide +kernel
theorem dX11_has_13 : decode cX11_has 13 = .ok (.iconst 0, 1) := by decide +kernel
theorem dX11_has_14 : decode cX11_has 14 = .ok (.iconst (-1), 1) := by decide +kernel
theorem dX11_has_15 : decode cX11_has 15 = .ok (.invokevirtual 267, 3) := by decide +kernel
theorem dX11_has_18 : decode cX11_has 18 = .ok (.goto 5, 3) := by decide +kernel
theorem dX11_line_0 : decode cX11_line 0 = .ok (.aload_n 0, 1) := by decide +kernel
theorem dX11_line_1 : decode cX11_line 1 = .ok (.getfield 26, 3) := by decide +kernel
theorem dX11_line_4 : decode cX11_line 4 = .ok (.iload_n 1, 1) := by decide +kernel
theorem dX11_line_5 : decode cX11_line 5 = .ok (.invokevirtual 116, 3) := by decide +kernel
theorem dX11_line_8 : decode cX11_line 8 = .ok (.ifCond .eq 14, 3) := by decide +kernel
theorem dX11_line_22 : decode cX11_line 22 = .ok (.bipush (-2), 2) := by decide +kernel
theorem dX11_line_24 : decode cX11_line 24 = .ok (.ireturn, 1) := by decide +kernel
theorem dX11_line_11 : decode cX11_line 11 = .ok (.aload_n 0, 1) := by decide +kernel
theorem dX11_line_12 : decode cX11_line 12 = .ok (.getfield 55, 3) := by decide +kernel
theorem dX11_line_15 : decode cX11_line 15 = .ok (.iload_n 1, 1) := by decide +kernel
theorem dX11_line_16 : decode cX11_line 16 = .ok (.invokevirtual 270, 3) := by decide +kernel
theorem dX11_line_19 : decode cX11_line 19 = .ok (.goto 5, 3) := by decide +kernel
theorem dX11_richest_0 : decode cX11_richest 0 = .ok (.aload_n 0, 1) := by decide +kernel
theorem dX11_richest_1 : decode cX11_richest 1 = .ok (.getfield 26, 3) := by decide +kernel
theorem dX11_richest_4 : decode cX11_richest 4 = .ok (.invokevirtual 225, 3) := by decide +kernel
theorem dX11_richest_7 : decode cX11_richest 7 = .ok (.ifCond .ne 6, 3) := by decide +kernel
theorem dX11_richest_13 : decode cX11_richest 13 = .ok (.iconst 0, 1) := by decide +kernel
theorem dX11_richest_14 : decode cX11_richest 14 = .ok (.istore_n 1, 1) := by decide +kernel
theorem dX11_richest_15 : decode cX11_richest 15 = .ok (.aload_n 0, 1) := by decide +kernel
theorem dX11_richest_16 : decode cX11_richest 16 = .ok (.getfield 55, 3) := by decide +kernel
theorem dX11_richest_19 : decode cX11_richest 19 = .ok (.iconst 0, 1) := by decide +kernel
theorem dX11_richest_20 : decode cX11_richest 20 = .ok (.iconst 0, 1) := by decide +kernel
theorem dX11_richest_21 : decode cX11_richest 21 = .ok (.iconst (-1), 1) := by decide +kernel
theorem dX11_richest_22 : decode cX11_richest 22 = .ok (.invokevirtual 267, 3) := by decide +kernel
theorem dX11_richest_25 : decode cX11_richest 25 = .ok (.istore_n 2, 1) := by decide +kernel
theorem dX11_richest_26 : decode cX11_richest 26 = .ok (.iconst 1, 1) := by decide +kernel
theorem dX11_richest_27 : decode cX11_richest 27 = .ok (.istore_n 3, 1) := by decide +kernel
theorem dX11_richest_28 : decode cX11_richest 28 = .ok (.iload_n 3, 1) := by decide +kernel
theorem dX11_richest_29 : decode cX11_richest 29 = .ok (.bipush 6, 2) := by decide +kernel
theorem dX11_richest_31 : decode cX11_richest 31 = .ok (.if_icmp .ge 32, 3) := by decide +kernel
theorem dX11_richest_34 : decode cX11_richest 34 = .ok (.aload_n 0, 1) := by decide +kernel
theorem dX11_richest_35 : decode cX11_richest 35 = .ok (.getfield 55, 3) := by decide +kernel
theorem dX11_richest_38 : decode cX11_richest 38 = .ok (.iload_n 3, 1) := by decide +kernel
theorem dX11_richest_39 : decode cX11_richest 39 = .ok (.iconst 0, 1) := by decide +kernel
theorem dX11_richest_40 : decode cX11_richest 40 = .ok (.iconst (-1), 1) := by decide +kernel
theorem dX11_richest_41 : decode cX11_richest 41 = .ok (.invokevirtual 267, 3) := by decide +kernel
theorem dX11_richest_44 : decode cX11_richest 44 = .ok (.istore 4, 2) := by decide +kernel
theorem dX11_richest_46 : decode cX11_richest 46 = .ok (.iload 4, 2) := by decide +kernel
theorem dX11_richest_48 : decode cX11_richest 48 = .ok (.iload_n 2, 1) := by decide +kernel
theorem dX11_richest_49 : decode cX11_richest 49 = .ok (.if_icmp .le 8, 3) := by decide +kernel
theorem dX11_richest_57 : decode cX11_richest 57 = .ok (.iinc 3 1, 3) := by decide +kernel
theorem dX11_richest_60 : decode cX11_richest 60 = .ok (.goto (-32), 3) := by decide +kernel
theorem dX11_richest_52 : decode cX11_richest 52 = .ok (.iload 4, 2) := by decide +kernel
theorem dX11_richest_54 : decode cX11_richest 54 = .ok (.istore_n 2, 1) := by decide +kernel
theorem dX11_richest_55 : decode cX11_richest 55 = .ok (.iload_n 3, 1) := by decide +kernel
theorem dX11_richest_56 : decode cX11_richest 56 = .ok (.istore_n 1, 1) := by decide +kernel
theorem dX11_richest_63 : decode cX11_richest 63 = .ok (.iload_n 1, 1) := by decide +kernel
theorem dX11_richest_64 : decode cX11_richest 64 = .ok (.ireturn, 1) := by decide +kernel
theorem dX11_richest_10 : decode cX11_richest 10 = .ok (.bipush (-2), 2) := by decide +kernel
theorem dX11_richest_12 : decode cX11_richest 12 = .ok (.ireturn, 1) := by decide +kernel
theorem dX11_argued_0 : decode cX11_argued 0 = .ok (.aload_n 0, 1) := by decide +kernel
theorem dX11_argued_1 : decode cX11_argued 1 = .ok (.getfield 26, 3) := by decide +kernel
theorem dX11_argued_4 : decode cX11_argued 4 = .ok (.invokevirtual 225, 3) := by decide +kernel
theorem dX11_argued_7 : decode cX11_argued 7 = .ok (.ifCond .eq 13, 3) := by decide +kernel
theorem dX11_argued_20 : decode cX11_argued 20 = .ok (.bipush (-2), 2) := by decide +kernel
theorem dX11_argued_22 : decode cX11_argued 22 = .ok (.ireturn, 1) := by decide +kernel
theorem dX11_argued_10 : decode cX11_argued 10 = .ok (.aload_n 0, 1) := by decide +kernel
theorem dX11_argued_11 : decode cX11_argued 11 = .ok (.getfield 55, 3) := by decide +kernel
theorem dX11_argued_14 : decode cX11_argued 14 = .ok (.invokevirtual 276, 3) := by decide +kernel
theorem dX11_argued_17 : decode cX11_argued 17 = .ok (.goto 5, 3) := by decide +kernel
theorem dX11_gaps_0 : decode cX11_gaps 0 = .ok (.aload_n 0, 1) := by decide +kernel
theorem dX11_gaps_1 : decode cX11_gaps 1 = .ok (.getfield 26, 3) := by decide +kernel
theorem dX11_gaps_4 : decode cX11_gaps 4 = .ok (.invokevirtual 225, 3) := by decide +kernel
theorem dX11_gaps_7 : decode cX11_gaps 7 = .ok (.ifCond .eq 10, 3) := by decide +kernel
theorem dX11_gaps_17 : decode cX11_gaps 17 = .ok (.bipush (-2), 2) := by decide +kernel
theorem dX11_gaps_19 : decode cX11_gaps 19 = .ok (.ireturn, 1) := by decide +kernel
theorem dX11_gaps_10 : decode cX11_gaps 10 = .ok (.iload_n 1, 1) := by decide +kernel
theorem dX11_gaps_11 : decode cX11_gaps 11 = .ok (.invokestatic 234, 3) := by decide +kernel
theorem dX11_gaps_14 : decode cX11_gaps 14 = .ok (.ifCond .ne 6, 3) := by decide +kernel
theorem dX11_gaps_20 : decode cX11_gaps 20 = .ok (.iconst 0, 1) := by decide +kernel
theorem dX11_gaps_21 : decode cX11_gaps 21 = .ok (.istore_n 2, 1) := by decide +kernel
theorem dX11_gaps_22 : decode cX11_gaps 22 = .ok (.iconst 0, 1) := by decide +kernel
theorem dX11_gaps_23 : decode cX11_gaps 23 = .ok (.istore_n 3, 1) := by decide +kernel
theorem dX11_gaps_24 : decode cX11_gaps 24 = .ok (.iload_n 3, 1) := by decide +kernel
theorem dX11_gaps_25 : decode cX11_gaps 25 = .ok (.aload_n 0, 1) := by decide +kernel
theorem dX11_gaps_26 : decode cX11_gaps 26 = .ok (.getfield 26, 3) := by decide +kernel
theorem dX11_gaps_29 : decode cX11_gaps 29 = .ok (.getfield 169, 3) := by decide +kernel
theorem dX11_gaps_32 : decode cX11_gaps 32 = .ok (.if_icmp .ge 43, 3) := by decide +kernel
theorem dX11_gaps_75 : decode cX11_gaps 75 = .ok (.iload_n 2, 1) := by decide +kernel
theorem dX11_gaps_76 : decode cX11_gaps 76 = .ok (.ireturn, 1) := by decide +kernel
theorem dX11_gaps_35 : decode cX11_gaps 35 = .ok (.aload_n 0, 1) := by decide +kernel
theorem dX11_gaps_36 : decode cX11_gaps 36 = .ok (.getfield 26, 3) := by decide +kernel
theorem dX11_gaps_39 : decode cX11_gaps 39 = .ok (.iload_n 3, 1) := by decide +kernel
theorem dX11_gaps_40 : decode cX11_gaps 40 = .ok (.invokevirtual 127, 3) := by decide +kernel
theorem dX11_gaps_43 : decode cX11_gaps 43 = .ok (.ifCond .eq 26, 3) := by decide +kernel
theorem dX11_gaps_69 : decode cX11_gaps 69 = .ok (.iinc 3 1, 3) := by decide +kernel
theorem dX11_gaps_72 : decode cX11_gaps 72 = .ok (.goto (-48), 3) := by decide +kernel
theorem dX11_gaps_46 : decode cX11_gaps 46 = .ok (.aload_n 0, 1) := by decide +kernel
theorem dX11_gaps_47 : decode cX11_gaps 47 = .ok (.getfield 26, 3) := by decide +kernel
theorem dX11_gaps_50 : decode cX11_gaps 50 = .ok (.getfield 142, 3) := by decide +kernel
theorem dX11_gaps_53 : decode cX11_gaps 53 = .ok (.iload_n 3, 1) := by decide +kernel
theorem dX11_gaps_54 : decode cX11_gaps 54 = .ok (.iload_n 1, 1) := by decide +kernel
theorem dX11_gaps_55 : decode cX11_gaps 55 = .ok (.iconst (-1), 1) := by decide +kernel
theorem dX11_gaps_56 : decode cX11_gaps 56 = .ok (.invokevirtual 279, 3) := by decide +kernel
theorem dX11_gaps_59 : decode cX11_gaps 59 = .ok (.iconst (-1), 1) := by decide +kernel
theorem dX11_gaps_60 : decode cX11_gaps 60 = .ok (.if_icmp .ne 9, 3) := by decide +kernel
theorem dX11_gaps_63 : decode cX11_gaps 63 = .ok (.iload_n 2, 1) := by decide +kernel
theorem dX11_gaps_64 : decode cX11_gaps 64 = .ok (.iconst 1, 1) := by decide +kernel
theorem dX11_gaps_65 : decode cX11_gaps 65 = .ok (.iload_n 3, 1) := by decide +kernel
theorem dX11_gaps_66 : decode cX11_gaps 66 = .ok (.ishl, 1) := by decide +kernel
theorem dX11_gaps_67 : decode cX11_gaps 67 = .ok (.ior, 1) := by decide +kernel
theorem dX11_gaps_68 : decode cX11_gaps 68 = .ok (.istore_n 2, 1) := by decide +kernel
theorem dX11_idle_0 : decode cX11_idle 0 = .ok (.aload_n 0, 1) := by decide +kernel
theorem dX11_idle_1 : decode cX11_idle 1 = .ok (.getfield 26, 3) := by decide +kernel
theorem dX11_idle_4 : decode cX11_idle 4 = .ok (.invokevirtual 225, 3) := by decide +kernel
theorem dX11_idle_7 : decode cX11_idle 7 = .ok (.ifCond .ne 6, 3) := by decide +kernel
theorem dX11_idle_13 : decode cX11_idle 13 = .ok (.iconst 1, 1) := by decide +kernel
theorem dX11_idle_14 : decode cX11_idle 14 = .ok (.aload_n 0, 1) := by decide +kernel
theorem dX11_idle_15 : decode cX11_idle 15 = .ok (.getfield 26, 3) := by decide +kernel
theorem dX11_idle_18 : decode cX11_idle 18 = .ok (.getfield 142, 3) := by decide +kernel
theorem dX11_idle_21 : decode cX11_idle 21 = .ok (.getfield 202, 3) := by decide +kernel
theorem dX11_idle_24 : decode cX11_idle 24 = .ok (.ishl, 1) := by decide +kernel
theorem dX11_idle_25 : decode cX11_idle 25 = .ok (.iconst 1, 1) := by decide +kernel
theorem dX11_idle_26 : decode cX11_idle 26 = .ok (.isub, 1) := by decide +kernel
theorem dX11_idle_27 : decode cX11_idle 27 = .ok (.istore_n 1, 1) := by decide +kernel
theorem dX11_idle_28 : decode cX11_idle 28 = .ok (.iconst 0, 1) := by decide +kernel
theorem dX11_idle_29 : decode cX11_idle 29 = .ok (.istore_n 2, 1) := by decide +kernel
theorem dX11_idle_30 : decode cX11_idle 30 = .ok (.iload_n 2, 1) := by decide +kernel
theorem dX11_idle_31 : decode cX11_idle 31 = .ok (.aload_n 0, 1) := by decide +kernel
theorem dX11_idle_32 : decode cX11_idle 32 = .ok (.getfield 26, 3) := by decide +kernel
theorem dX11_idle_35 : decode cX11_idle 35 = .ok (.getfield 169, 3) := by decide +kernel
theorem dX11_idle_38 : decode cX11_idle 38 = .ok (.if_icmp .ge 63, 3) := by decide +kernel
theorem dX11_idle_101 : decode cX11_idle 101 = .ok (.iload_n 1, 1) := by decide +kernel
theorem dX11_idle_102 : decode cX11_idle 102 = .ok (.ireturn, 1) := by decide +kernel
theorem dX11_idle_41 : decode cX11_idle 41 = .ok (.iconst 0, 1) := by decide +kernel
theorem dX11_idle_42 : decode cX11_idle 42 = .ok (.istore_n 3, 1) := by decide +kernel
theorem dX11_idle_43 : decode cX11_idle 43 = .ok (.iload_n 3, 1) := by decide +kernel
theorem dX11_idle_44 : decode cX11_idle 44 = .ok (.iconst 3, 1) := by decide +kernel
theorem dX11_idle_45 : decode cX11_idle 45 = .ok (.if_icmp .ge 50, 3) := by decide +kernel
theorem dX11_idle_48 : decode cX11_idle 48 = .ok (.aload_n 0, 1) := by decide +kernel
theorem dX11_idle_49 : decode cX11_idle 49 = .ok (.getfield 26, 3) := by decide +kernel
theorem dX11_idle_52 : decode cX11_idle 52 = .ok (.iload_n 2, 1) := by decide +kernel
theorem dX11_idle_53 : decode cX11_idle 53 = .ok (.invokevirtual 127, 3) := by decide +kernel
theorem dX11_idle_56 : decode cX11_idle 56 = .ok (.ifCond .eq 39, 3) := by decide +kernel
theorem dX11_idle_95 : decode cX11_idle 95 = .ok (.iinc 2 1, 3) := by decide +kernel
theorem dX11_idle_98 : decode cX11_idle 98 = .ok (.goto (-68), 3) := by decide +kernel
theorem dX11_idle_59 : decode cX11_idle 59 = .ok (.aload_n 0, 1) := by decide +kernel
theorem dX11_idle_60 : decode cX11_idle 60 = .ok (.getfield 26, 3) := by decide +kernel
theorem dX11_idle_63 : decode cX11_idle 63 = .ok (.getfield 142, 3) := by decide +kernel
theorem dX11_idle_66 : decode cX11_idle 66 = .ok (.iload_n 2, 1) := by decide +kernel
theorem dX11_idle_67 : decode cX11_idle 67 = .ok (.iload_n 3, 1) := by decide +kernel
theorem dX11_idle_68 : decode cX11_idle 68 = .ok (.iconst (-1), 1) := by decide +kernel
theorem dX11_idle_69 : decode cX11_idle 69 = .ok (.invokevirtual 279, 3) := by decide +kernel
theorem dX11_idle_72 : decode cX11_idle 72 = .ok (.istore 4, 2) := by decide +kernel
theorem dX11_idle_74 : decode cX11_idle 74 = .ok (.iload 4, 2) := by decide +kernel
theorem dX11_idle_76 : decode cX11_idle 76 = .ok (.iconst (-1), 1) := by decide +kernel
theorem dX11_idle_77 : decode cX11_idle 77 = .ok (.if_icmp .eq 12, 3) := by decide +kernel
theorem dX11_idle_89 : decode cX11_idle 89 = .ok (.iinc 3 1, 3) := by decide +kernel
theorem dX11_idle_92 : decode cX11_idle 92 = .ok (.goto (-49), 3) := by decide +kernel
theorem dX11_idle_80 : decode cX11_idle 80 = .ok (.iload_n 1, 1) := by decide +kernel
theorem dX11_idle_81 : decode cX11_idle 81 = .ok (.iconst 1, 1) := by decide +kernel
theorem dX11_idle_82 : decode cX11_idle 82 = .ok (.iload 4, 2) := by decide +kernel
theorem dX11_idle_84 : decode cX11_idle 84 = .ok (.ishl, 1) := by decide +kernel
theorem dX11_idle_85 : decode cX11_idle 85 = .ok (.iconst (-1), 1) := by decide +kernel
theorem dX11_idle_86 : decode cX11_idle 86 = .ok (.ixor, 1) := by decide +kernel
theorem dX11_idle_87 : decode cX11_idle 87 = .ok (.iand, 1) := by decide +kernel
theorem dX11_idle_88 : decode cX11_idle 88 = .ok (.istore_n 1, 1) := by decide +kernel
theorem dX11_idle_10 : decode cX11_idle 10 = .ok (.bipush (-2), 2) := by decide +kernel
theorem dX11_idle_12 : decode cX11_idle 12 = .ok (.ireturn, 1) := by decide +kernel
theorem dX11_without_0 : decode cX11_without 0 = .ok (.aload_n 0, 1) := by decide +kernel
theorem dX11_without_1 : decode cX11_without 1 = .ok (.getfield 26, 3) := by decide +kernel
theorem dX11_without_4 : decode cX11_without 4 = .ok (.getfield 142, 3) := by decide +kernel
theorem dX11_without_7 : decode cX11_without 7 = .ok (.iload_n 1, 1) := by decide +kernel
theorem dX11_without_8 : decode cX11_without 8 = .ok (.invokevirtual 146, 3) := by decide +kernel
theorem dX11_without_11 : decode cX11_without 11 = .ok (.ifCond .eq 11, 3) := by decide +kernel
theorem dX11_without_22 : decode cX11_without 22 = .ok (.bipush (-2), 2) := by decide +kernel
theorem dX11_without_24 : decode cX11_without 24 = .ok (.ireturn, 1) := by decide +kernel
theorem dX11_without_14 : decode cX11_without 14 = .ok (.aload_n 0, 1) := by decide +kernel
theorem dX11_without_15 : decode cX11_without 15 = .ok (.iload_n 2, 1) := by decide +kernel
theorem dX11_without_16 : decode cX11_without 16 = .ok (.invokevirtual 264, 3) := by decide +kernel
theorem dX11_without_19 : decode cX11_without 19 = .ok (.ifCond .ne 6, 3) := by decide +kernel
theorem dX11_without_25 : decode cX11_without 25 = .ok (.aload_n 0, 1) := by decide +kernel
theorem dX11_without_26 : decode cX11_without 26 = .ok (.getfield 55, 3) := by decide +kernel
theorem dX11_without_29 : decode cX11_without 29 = .ok (.iload_n 2, 1) := by decide +kernel
theorem dX11_without_30 : decode cX11_without 30 = .ok (.iconst 0, 1) := by decide +kernel
theorem dX11_without_31 : decode cX11_without 31 = .ok (.iload_n 1, 1) := by decide +kernel
theorem dX11_without_32 : decode cX11_without 32 = .ok (.invokevirtual 267, 3) := by decide +kernel
theorem dX11_without_35 : decode cX11_without 35 = .ok (.ireturn, 1) := by decide +kernel
theorem dX11_strike_0 : decode cX11_strike 0 = .ok (.aload_n 0, 1) := by decide +kernel
theorem dX11_strike_1 : decode cX11_strike 1 = .ok (.iload_n 1, 1) := by decide +kernel
theorem dX11_strike_2 : decode cX11_strike 2 = .ok (.invokevirtual 264, 3) := by decide +kernel
theorem dX11_strike_5 : decode cX11_strike 5 = .ok (.ifCond .ne 6, 3) := by decide +kernel
theorem dX11_strike_11 : decode cX11_strike 11 = .ok (.iconst (-1), 1) := by decide +kernel
theorem dX11_strike_12 : decode cX11_strike 12 = .ok (.istore_n 2, 1) := by decide +kernel
theorem dX11_strike_13 : decode cX11_strike 13 = .ok (.aload_n 0, 1) := by decide +kernel
theorem dX11_strike_14 : decode cX11_strike 14 = .ok (.getfield 55, 3) := by decide +kernel
theorem dX11_strike_17 : decode cX11_strike 17 = .ok (.iload_n 1, 1) := by decide +kernel
theorem dX11_strike_18 : decode cX11_strike 18 = .ok (.iconst 0, 1) := by decide +kernel
theorem dX11_strike_19 : decode cX11_strike 19 = .ok (.iconst (-1), 1) := by decide +kernel
theorem dX11_strike_20 : decode cX11_strike 20 = .ok (.invokevirtual 267, 3) := by decide +kernel
theorem dX11_strike_23 : decode cX11_strike 23 = .ok (.istore_n 3, 1) := by decide +kernel
theorem dX11_strike_24 : decode cX11_strike 24 = .ok (.iconst 0, 1) := by decide +kernel
theorem dX11_strike_25 : decode cX11_strike 25 = .ok (.istore 4, 2) := by decide +kernel
theorem dX11_strike_27 : decode cX11_strike 27 = .ok (.iload 4, 2) := by decide +kernel
theorem dX11_strike_29 : decode cX11_strike 29 = .ok (.aload_n 0, 1) := by decide +kernel
theorem dX11_strike_30 : decode cX11_strike 30 = .ok (.getfield 26, 3) := by decide +kernel
theorem dX11_strike_33 : decode cX11_strike 33 = .ok (.getfield 142, 3) := by decide +kernel
theorem dX11_strike_36 : decode cX11_strike 36 = .ok (.getfield 202, 3) := by decide +kernel
theorem dX11_strike_39 : decode cX11_strike 39 = .ok (.if_icmp .ge 34, 3) := by decide +kernel
theorem dX11_strike_73 : decode cX11_strike 73 = .ok (.iload_n 2, 1) := by decide +kernel
theorem dX11_strike_74 : decode cX11_strike 74 = .ok (.ireturn, 1) := by decide +kernel
theorem dX11_strike_42 : decode cX11_strike 42 = .ok (.aload_n 0, 1) := by decide +kernel
theorem dX11_strike_43 : decode cX11_strike 43 = .ok (.getfield 55, 3) := by decide +kernel
theorem dX11_strike_46 : decode cX11_strike 46 = .ok (.iload_n 1, 1) := by decide +kernel
theorem dX11_strike_47 : decode cX11_strike 47 = .ok (.iconst 0, 1) := by decide +kernel
theorem dX11_strike_48 : decode cX11_strike 48 = .ok (.iload 4, 2) := by decide +kernel
theorem dX11_strike_50 : decode cX11_strike 50 = .ok (.invokevirtual 267, 3) := by decide +kernel
theorem dX11_strike_53 : decode cX11_strike 53 = .ok (.istore 5, 2) := by decide +kernel
theorem dX11_strike_55 : decode cX11_strike 55 = .ok (.iload 5, 2) := by decide +kernel
theorem dX11_strike_57 : decode cX11_strike 57 = .ok (.iload_n 3, 1) := by decide +kernel
theorem dX11_strike_58 : decode cX11_strike 58 = .ok (.if_icmp .le 9, 3) := by decide +kernel
theorem dX11_strike_67 : decode cX11_strike 67 = .ok (.iinc 4 1, 3) := by decide +kernel
theorem dX11_strike_70 : decode cX11_strike 70 = .ok (.goto (-43), 3) := by decide +kernel
theorem dX11_strike_61 : decode cX11_strike 61 = .ok (.iload 5, 2) := by decide +kernel
theorem dX11_strike_63 : decode cX11_strike 63 = .ok (.istore_n 3, 1) := by decide +kernel
theorem dX11_strike_64 : decode cX11_strike 64 = .ok (.iload 4, 2) := by decide +kernel
theorem dX11_strike_66 : decode cX11_strike 66 = .ok (.istore_n 2, 1) := by decide +kernel
theorem dX11_strike_8 : decode cX11_strike 8 = .ok (.bipush (-2), 2) := by decide +kernel
theorem dX11_strike_10 : decode cX11_strike 10 = .ok (.ireturn, 1) := by decide +kernel
theorem dX11_clock_0 : decode cX11_clock 0 = .ok (.aload_n 0, 1) := by decide +kernel
theorem dX11_clock_1 : decode cX11_clock 1 = .ok (.iload_n 1, 1) := by decide +kernel
theorem dX11_clock_2 : decode cX11_clock 2 = .ok (.invokevirtual 264, 3) := by decide +kernel
theorem dX11_clock_5 : decode cX11_clock 5 = .ok (.ifCond .eq 15, 3) := by decide +kernel
theorem dX11_clock_20 : decode cX11_clock 20 = .ok (.bipush (-2), 2) := by decide +kernel
theorem dX11_clock_22 : decode cX11_clock 22 = .ok (.ireturn, 1) := by decide +kernel
theorem dX11_clock_8 : decode cX11_clock 8 = .ok (.iload_n 2, 1) := by decide +kernel
theorem dX11_clock_9 : decode cX11_clock 9 = .ok (.bipush (-20), 2) := by decide +kernel
theorem dX11_clock_11 : decode cX11_clock 11 = .ok (.if_icmp .lt 9, 3) := by decide +kernel
theorem dX11_clock_14 : decode cX11_clock 14 = .ok (.iload_n 2, 1) := by decide +kernel
theorem dX11_clock_15 : decode cX11_clock 15 = .ok (.bipush 20, 2) := by decide +kernel
theorem dX11_clock_17 : decode cX11_clock 17 = .ok (.if_icmp .le 6, 3) := by decide +kernel
theorem dX11_clock_23 : decode cX11_clock 23 = .ok (.aload_n 0, 1) := by decide +kernel
theorem dX11_clock_24 : decode cX11_clock 24 = .ok (.getfield 55, 3) := by decide +kernel
theorem dX11_clock_27 : decode cX11_clock 27 = .ok (.iload_n 1, 1) := by decide +kernel
theorem dX11_clock_28 : decode cX11_clock 28 = .ok (.iload_n 2, 1) := by decide +kernel
theorem dX11_clock_29 : decode cX11_clock 29 = .ok (.iconst (-1), 1) := by decide +kernel
theorem dX11_clock_30 : decode cX11_clock 30 = .ok (.invokevirtual 267, 3) := by decide +kernel
theorem dX11_clock_33 : decode cX11_clock 33 = .ok (.ireturn, 1) := by decide +kernel
theorem dX11_set_0 : decode cX11_set 0 = .ok (.aload_n 0, 1) := by decide +kernel
theorem dX11_set_1 : decode cX11_set 1 = .ok (.iload_n 1, 1) := by decide +kernel
theorem dX11_set_2 : decode cX11_set 2 = .ok (.invokevirtual 264, 3) := by decide +kernel
theorem dX11_set_5 : decode cX11_set 5 = .ok (.ifCond .ne 7, 3) := by decide +kernel
theorem dX11_set_12 : decode cX11_set 12 = .ok (.iconst 0, 1) := by decide +kernel
theorem dX11_set_13 : decode cX11_set 13 = .ok (.istore_n 2, 1) := by decide +kernel
theorem dX11_set_14 : decode cX11_set 14 = .ok (.aload_n 0, 1) := by decide +kernel
theorem dX11_set_15 : decode cX11_set 15 = .ok (.getfield 55, 3) := by decide +kernel
theorem dX11_set_18 : decode cX11_set 18 = .ok (.iload_n 1, 1) := by decide +kernel
theorem dX11_set_19 : decode cX11_set 19 = .ok (.iconst 0, 1) := by decide +kernel
theorem dX11_set_20 : decode cX11_set 20 = .ok (.iconst (-1), 1) := by decide +kernel
theorem dX11_set_21 : decode cX11_set 21 = .ok (.invokevirtual 267, 3) := by decide +kernel
theorem dX11_set_24 : decode cX11_set 24 = .ok (.istore_n 3, 1) := by decide +kernel
theorem dX11_set_25 : decode cX11_set 25 = .ok (.iconst 1, 1) := by decide +kernel
theorem dX11_set_26 : decode cX11_set 26 = .ok (.istore 4, 2) := by decide +kernel
theorem dX11_set_28 : decode cX11_set 28 = .ok (.iload 4, 2) := by decide +kernel
theorem dX11_set_30 : decode cX11_set 30 = .ok (.bipush 20, 2) := by decide +kernel
theorem dX11_set_32 : decode cX11_set 32 = .ok (.if_icmp .gt 61, 3) := by decide +kernel
theorem dX11_set_35 : decode cX11_set 35 = .ok (.aload_n 0, 1) := by decide +kernel
theorem dX11_set_36 : decode cX11_set 36 = .ok (.getfield 55, 3) := by decide +kernel
theorem dX11_set_39 : decode cX11_set 39 = .ok (.iload_n 1, 1) := by decide +kernel
theorem dX11_set_40 : decode cX11_set 40 = .ok (.iload 4, 2) := by decide +kernel
theorem dX11_set_42 : decode cX11_set 42 = .ok (.ineg, 1) := by decide +kernel
theorem dX11_set_43 : decode cX11_set 43 = .ok (.iconst (-1), 1) := by decide +kernel
theorem dX11_set_44 : decode cX11_set 44 = .ok (.invokevirtual 267, 3) := by decide +kernel
theorem dX11_set_47 : decode cX11_set 47 = .ok (.istore 5, 2) := by decide +kernel
theorem dX11_set_49 : decode cX11_set 49 = .ok (.iload 5, 2) := by decide +kernel
theorem dX11_set_51 : decode cX11_set 51 = .ok (.iload_n 3, 1) := by decide +kernel
theorem dX11_set_52 : decode cX11_set 52 = .ok (.if_icmp .le 10, 3) := by decide +kernel
theorem dX11_set_62 : decode cX11_set 62 = .ok (.aload_n 0, 1) := by decide +kernel
theorem dX11_set_63 : decode cX11_set 63 = .ok (.getfield 55, 3) := by decide +kernel
theorem dX11_set_66 : decode cX11_set 66 = .ok (.iload_n 1, 1) := by decide +kernel
theorem dX11_set_67 : decode cX11_set 67 = .ok (.iload 4, 2) := by decide +kernel
theorem dX11_set_69 : decode cX11_set 69 = .ok (.iconst (-1), 1) := by decide +kernel
theorem dX11_set_70 : decode cX11_set 70 = .ok (.invokevirtual 267, 3) := by decide +kernel
theorem dX11_set_73 : decode cX11_set 73 = .ok (.istore 6, 2) := by decide +kernel
theorem dX11_set_75 : decode cX11_set 75 = .ok (.iload 6, 2) := by decide +kernel
theorem dX11_set_77 : decode cX11_set 77 = .ok (.iload_n 3, 1) := by decide +kernel
theorem dX11_set_78 : decode cX11_set 78 = .ok (.if_icmp .le 9, 3) := by decide +kernel
theorem dX11_set_87 : decode cX11_set 87 = .ok (.iinc 4 1, 3) := by decide +kernel
theorem dX11_set_90 : decode cX11_set 90 = .ok (.goto (-62), 3) := by decide +kernel
theorem dX11_set_81 : decode cX11_set 81 = .ok (.iload 6, 2) := by decide +kernel
theorem dX11_set_83 : decode cX11_set 83 = .ok (.istore_n 3, 1) := by decide +kernel
theorem dX11_set_84 : decode cX11_set 84 = .ok (.iload 4, 2) := by decide +kernel
theorem dX11_set_86 : decode cX11_set 86 = .ok (.istore_n 2, 1) := by decide +kernel
theorem dX11_set_55 : decode cX11_set 55 = .ok (.iload 5, 2) := by decide +kernel
theorem dX11_set_57 : decode cX11_set 57 = .ok (.istore_n 3, 1) := by decide +kernel
theorem dX11_set_58 : decode cX11_set 58 = .ok (.iload 4, 2) := by decide +kernel
theorem dX11_set_60 : decode cX11_set 60 = .ok (.ineg, 1) := by decide +kernel
theorem dX11_set_61 : decode cX11_set 61 = .ok (.istore_n 2, 1) := by decide +kernel
theorem dX11_set_93 : decode cX11_set 93 = .ok (.iload_n 2, 1) := by decide +kernel
theorem dX11_set_94 : decode cX11_set 94 = .ok (.ireturn, 1) := by decide +kernel
theorem dX11_set_8 : decode cX11_set 8 = .ok (.sipush (-1000), 3) := by decide +kernel
theorem dX11_set_11 : decode cX11_set 11 = .ok (.ireturn, 1) := by decide +kernel
theorem dJ6_bitCount_0f7a4_0 : decode cJ6_bitCount_0f7a4 0 = .ok (.iload_n 0, 1) := by decide +kernel
theorem dJ6_bitCount_0f7a4_1 : decode cJ6_bitCount_0f7a4 1 = .ok (.iload_n 0, 1) := by decide +kernel
theorem dJ6_bitCount_0f7a4_2 : decode cJ6_bitCount_0f7a4 2 = .ok (.iconst 1, 1) := by decide +kernel
theorem dJ6_bitCount_0f7a4_3 : decode cJ6_bitCount_0f7a4 3 = .ok (.iushr, 1) := by decide +kernel
theorem dJ6_bitCount_0f7a4_4 : decode cJ6_bitCount_0f7a4 4 = .ok (.ldc_w 265, 3) := by decide +kernel
theorem dJ6_bitCount_0f7a4_7 : decode cJ6_bitCount_0f7a4 7 = .ok (.iand, 1) := by decide +kernel
theorem dJ6_bitCount_0f7a4_8 : decode cJ6_bitCount_0f7a4 8 = .ok (.isub, 1) := by decide +kernel
theorem dJ6_bitCount_0f7a4_9 : decode cJ6_bitCount_0f7a4 9 = .ok (.istore_n 0, 1) := by decide +kernel
theorem dJ6_bitCount_0f7a4_10 : decode cJ6_bitCount_0f7a4 10 = .ok (.iload_n 0, 1) := by decide +kernel
theorem dJ6_bitCount_0f7a4_11 : decode cJ6_bitCount_0f7a4 11 = .ok (.ldc_w 266, 3) := by decide +kernel
theorem dJ6_bitCount_0f7a4_14 : decode cJ6_bitCount_0f7a4 14 = .ok (.iand, 1) := by decide +kernel
theorem dJ6_bitCount_0f7a4_15 : decode cJ6_bitCount_0f7a4 15 = .ok (.iload_n 0, 1) := by decide +kernel
theorem dJ6_bitCount_0f7a4_16 : decode cJ6_bitCount_0f7a4 16 = .ok (.iconst 2, 1) := by decide +kernel
theorem dJ6_bitCount_0f7a4_17 : decode cJ6_bitCount_0f7a4 17 = .ok (.iushr, 1) := by decide +kernel
theorem dJ6_bitCount_0f7a4_18 : decode cJ6_bitCount_0f7a4 18 = .ok (.ldc_w 266, 3) := by decide +kernel
theorem dJ6_bitCount_0f7a4_21 : decode cJ6_bitCount_0f7a4 21 = .ok (.iand, 1) := by decide +kernel
theorem dJ6_bitCount_0f7a4_22 : decode cJ6_bitCount_0f7a4 22 = .ok (.iadd, 1) := by decide +kernel
theorem dJ6_bitCount_0f7a4_23 : decode cJ6_bitCount_0f7a4 23 = .ok (.istore_n 0, 1) := by decide +kernel
theorem dJ6_bitCount_0f7a4_24 : decode cJ6_bitCount_0f7a4 24 = .ok (.iload_n 0, 1) := by decide +kernel
theorem dJ6_bitCount_0f7a4_25 : decode cJ6_bitCount_0f7a4 25 = .ok (.iload_n 0, 1) := by decide +kernel
theorem dJ6_bitCount_0f7a4_26 : decode cJ6_bitCount_0f7a4 26 = .ok (.iconst 4, 1) := by decide +kernel
theorem dJ6_bitCount_0f7a4_27 : decode cJ6_bitCount_0f7a4 27 = .ok (.iushr, 1) := by decide +kernel
theorem dJ6_bitCount_0f7a4_28 : decode cJ6_bitCount_0f7a4 28 = .ok (.iadd, 1) := by decide +kernel
theorem dJ6_bitCount_0f7a4_29 : decode cJ6_bitCount_0f7a4 29 = .ok (.ldc_w 267, 3) := by decide +kernel
theorem dJ6_bitCount_0f7a4_32 : decode cJ6_bitCount_0f7a4 32 = .ok (.iand, 1) := by decide +kernel
theorem dJ6_bitCount_0f7a4_33 : decode cJ6_bitCount_0f7a4 33 = .ok (.istore_n 0, 1) := by decide +kernel
theorem dJ6_bitCount_0f7a4_34 : decode cJ6_bitCount_0f7a4 34 = .ok (.iload_n 0, 1) := by decide +kernel
theorem dJ6_bitCount_0f7a4_35 : decode cJ6_bitCount_0f7a4 35 = .ok (.iload_n 0, 1) := by decide +kernel
theorem dJ6_bitCount_0f7a4_36 : decode cJ6_bitCount_0f7a4 36 = .ok (.bipush 8, 2) := by decide +kernel
theorem dJ6_bitCount_0f7a4_38 : decode cJ6_bitCount_0f7a4 38 = .ok (.iushr, 1) := by decide +kernel
theorem dJ6_bitCount_0f7a4_39 : decode cJ6_bitCount_0f7a4 39 = .ok (.iadd, 1) := by decide +kernel
theorem dJ6_bitCount_0f7a4_40 : decode cJ6_bitCount_0f7a4 40 = .ok (.istore_n 0, 1) := by decide +kernel
theorem dJ6_bitCount_0f7a4_41 : decode cJ6_bitCount_0f7a4 41 = .ok (.iload_n 0, 1) := by decide +kernel
theorem dJ6_bitCount_0f7a4_42 : decode cJ6_bitCount_0f7a4 42 = .ok (.iload_n 0, 1) := by decide +kernel
theorem dJ6_bitCount_0f7a4_43 : decode cJ6_bitCount_0f7a4 43 = .ok (.bipush 16, 2) := by decide +kernel
theorem dJ6_bitCount_0f7a4_45 : decode cJ6_bitCount_0f7a4 45 = .ok (.iushr, 1) := by decide +kernel
theorem dJ6_bitCount_0f7a4_46 : decode cJ6_bitCount_0f7a4 46 = .ok (.iadd, 1) := by decide +kernel
theorem dJ6_bitCount_0f7a4_47 : decode cJ6_bitCount_0f7a4 47 = .ok (.istore_n 0, 1) := by decide +kernel
theorem dJ6_bitCount_0f7a4_48 : decode cJ6_bitCount_0f7a4 48 = .ok (.iload_n 0, 1) := by decide +kernel
theorem dJ6_bitCount_0f7a4_49 : decode cJ6_bitCount_0f7a4 49 = .ok (.bipush 63, 2) := by decide +kernel
theorem dJ6_bitCount_0f7a4_51 : decode cJ6_bitCount_0f7a4 51 = .ok (.iand, 1) := by decide +kernel
theorem dJ6_bitCount_0f7a4_52 : decode cJ6_bitCount_0f7a4 52 = .ok (.ireturn, 1) := by decide +kernel
theorem dX8_isSlot_0 : decode cX8_isSlot 0 = .ok (.iload_n 0, 1) := by decide +kernel
theorem dX8_isSlot_1 : decode cX8_isSlot 1 = .ok (.ifCond .lt 12, 3) := by decide +kernel
theorem dX8_isSlot_13 : decode cX8_isSlot 13 = .ok (.iconst 0, 1) := by decide +kernel
theorem dX8_isSlot_14 : decode cX8_isSlot 14 = .ok (.ireturn, 1) := by decide +kernel
theorem dX8_isSlot_4 : decode cX8_isSlot 4 = .ok (.iload_n 0, 1) := by decide +kernel
theorem dX8_isSlot_5 : decode cX8_isSlot 5 = .ok (.iconst 4, 1) := by decide +kernel
theorem dX8_isSlot_6 : decode cX8_isSlot 6 = .ok (.if_icmp .ge 7, 3) := by decide +kernel
theorem dX8_isSlot_9 : decode cX8_isSlot 9 = .ok (.iconst 1, 1) := by decide +kernel
theorem dX8_isSlot_10 : decode cX8_isSlot 10 = .ok (.goto 4, 3) := by decide +kernel
theorem dX8_hasRow_0 : decode cX8_hasRow 0 = .ok (.aload_n 0, 1) := by decide +kernel
theorem dX8_hasRow_1 : decode cX8_hasRow 1 = .ok (.getfield 20, 3) := by decide +kernel
theorem dX8_hasRow_4 : decode cX8_hasRow 4 = .ok (.iload_n 1, 1) := by decide +kernel
theorem dX8_hasRow_5 : decode cX8_hasRow 5 = .ok (.iaload, 1) := by decide +kernel
theorem dX8_hasRow_6 : decode cX8_hasRow 6 = .ok (.iconst (-1), 1) := by decide +kernel
theorem dX8_hasRow_7 : decode cX8_hasRow 7 = .ok (.if_icmp .eq 7, 3) := by decide +kernel
theorem dX8_hasRow_14 : decode cX8_hasRow 14 = .ok (.iconst 0, 1) := by decide +kernel
theorem dX8_hasRow_15 : decode cX8_hasRow 15 = .ok (.ireturn, 1) := by decide +kernel
theorem dX8_hasRow_10 : decode cX8_hasRow 10 = .ok (.iconst 1, 1) := by decide +kernel
theorem dX8_hasRow_11 : decode cX8_hasRow 11 = .ok (.goto 4, 3) := by decide +kernel
theorem dX8_filled_0 : decode cX8_filled 0 = .ok (.iconst 0, 1) := by decide +kernel
theorem dX8_filled_1 : decode cX8_filled 1 = .ok (.istore_n 1, 1) := by decide +kernel
theorem dX8_filled_2 : decode cX8_filled 2 = .ok (.iconst 0, 1) := by decide +kernel
theorem dX8_filled_3 : decode cX8_filled 3 = .ok (.istore_n 2, 1) := by decide +kernel
theorem dX8_filled_4 : decode cX8_filled 4 = .ok (.iload_n 2, 1) := by decide +kernel
theorem dX8_filled_5 : decode cX8_filled 5 = .ok (.iconst 4, 1) := by decide +kernel
theorem dX8_filled_6 : decode cX8_filled 6 = .ok (.if_icmp .ge 20, 3) := by decide +kernel
theorem dX8_filled_9 : decode cX8_filled 9 = .ok (.aload_n 0, 1) := by decide +kernel
theorem dX8_filled_10 : decode cX8_filled 10 = .ok (.iload_n 2, 1) := by decide +kernel
theorem dX8_filled_11 : decode cX8_filled 11 = .ok (.invokevirtual 29, 3) := by decide +kernel
theorem dX8_filled_14 : decode cX8_filled 14 = .ok (.ifCond .eq 6, 3) := by decide +kernel
theorem dX8_filled_20 : decode cX8_filled 20 = .ok (.iinc 2 1, 3) := by decide +kernel
theorem dX8_filled_23 : decode cX8_filled 23 = .ok (.goto (-19), 3) := by decide +kernel
theorem dX8_filled_17 : decode cX8_filled 17 = .ok (.iinc 1 1, 3) := by decide +kernel
theorem dX8_filled_26 : decode cX8_filled 26 = .ok (.iload_n 1, 1) := by decide +kernel
theorem dX8_filled_27 : decode cX8_filled 27 = .ok (.ireturn, 1) := by decide +kernel
theorem dX8_cut_0 : decode cX8_cut 0 = .ok (.iload_n 2, 1) := by decide +kernel
theorem dX8_cut_1 : decode cX8_cut 1 = .ok (.tableswitch 41 0 2 #[27, 32, 37], 27) := by decide +kernel
theorem dX8_cut_42 : decode cX8_cut 42 = .ok (.lload_n 0, 1) := by decide +kernel
theorem dX8_cut_43 : decode cX8_cut 43 = .ok (.lreturn, 1) := by decide +kernel
theorem dX8_cut_28 : decode cX8_cut 28 = .ok (.lload_n 0, 1) := by decide +kernel
theorem dX8_cut_29 : decode cX8_cut 29 = .ok (.l2i, 1) := by decide +kernel
theorem dX8_cut_30 : decode cX8_cut 30 = .ok (.i2b, 1) := by decide +kernel
theorem dX8_cut_31 : decode cX8_cut 31 = .ok (.i2l, 1) := by decide +kernel
theorem dX8_cut_32 : decode cX8_cut 32 = .ok (.lreturn, 1) := by decide +kernel
theorem dX8_cut_33 : decode cX8_cut 33 = .ok (.lload_n 0, 1) := by decide +kernel
theorem dX8_cut_34 : decode cX8_cut 34 = .ok (.l2i, 1) := by decide +kernel
theorem dX8_cut_35 : decode cX8_cut 35 = .ok (.i2s, 1) := by decide +kernel
theorem dX8_cut_36 : decode cX8_cut 36 = .ok (.i2l, 1) := by decide +kernel
theorem dX8_cut_37 : decode cX8_cut 37 = .ok (.lreturn, 1) := by decide +kernel
theorem dX8_cut_38 : decode cX8_cut 38 = .ok (.lload_n 0, 1) := by decide +kernel
theorem dX8_cut_39 : decode cX8_cut 39 = .ok (.l2i, 1) := by decide +kernel
theorem dX8_cut_40 : decode cX8_cut 40 = .ok (.i2l, 1) := by decide +kernel
theorem dX8_cut_41 : decode cX8_cut 41 = .ok (.lreturn, 1) := by decide +kernel
theorem dX8_lay_0 : decode cX8_lay 0 = .ok (.aload_n 0, 1) := by decide +kernel
theorem dX8_lay_1 : decode cX8_lay 1 = .ok (.getfield 16, 3) := by decide +kernel
theorem dX8_lay_4 : decode cX8_lay 4 = .ok (.iload_n 1, 1) := by decide +kernel
theorem dX8_lay_5 : decode cX8_lay 5 = .ok (.iload_n 2, 1) := by decide +kernel
theorem dX8_lay_6 : decode cX8_lay 6 = .ok (.iastore, 1) := by decide +kernel
theorem dX8_lay_7 : decode cX8_lay 7 = .ok (.aload_n 0, 1) := by decide +kernel
theorem dX8_lay_8 : decode cX8_lay 8 = .ok (.getfield 20, 3) := by decide +kernel
theorem dX8_lay_11 : decode cX8_lay 11 = .ok (.iload_n 1, 1) := by decide +kernel
theorem dX8_lay_12 : decode cX8_lay 12 = .ok (.iload_n 3, 1) := by decide +kernel
theorem dX8_lay_13 : decode cX8_lay 13 = .ok (.iastore, 1) := by decide +kernel
theorem dX8_lay_14 : decode cX8_lay 14 = .ok (.aload_n 0, 1) := by decide +kernel
theorem dX8_lay_15 : decode cX8_lay 15 = .ok (.getfield 11, 3) := by decide +kernel
theorem dX8_lay_18 : decode cX8_lay 18 = .ok (.iload_n 1, 1) := by decide +kernel
theorem dX8_lay_19 : decode cX8_lay 19 = .ok (.aaload, 1) := by decide +kernel
theorem dX8_lay_20 : decode cX8_lay 20 = .ok (.lconst 0, 1) := by decide +kernel
theorem dX8_lay_21 : decode cX8_lay 21 = .ok (.invokestatic 33, 3) := by decide +kernel
theorem dX8_lay_24 : decode cX8_lay 24 = .ok (.return_, 1) := by decide +kernel
theorem dX8_put_0 : decode cX8_put 0 = .ok (.aload_n 0, 1) := by decide +kernel
theorem dX8_put_1 : decode cX8_put 1 = .ok (.getfield 11, 3) := by decide +kernel
theorem dX8_put_4 : decode cX8_put 4 = .ok (.iload_n 1, 1) := by decide +kernel
theorem dX8_put_5 : decode cX8_put 5 = .ok (.aaload, 1) := by decide +kernel
theorem dX8_put_6 : decode cX8_put 6 = .ok (.iload_n 2, 1) := by decide +kernel
theorem dX8_put_7 : decode cX8_put 7 = .ok (.lload_n 3, 1) := by decide +kernel
theorem dX8_put_8 : decode cX8_put 8 = .ok (.aload_n 0, 1) := by decide +kernel
theorem dX8_put_9 : decode cX8_put 9 = .ok (.getfield 16, 3) := by decide +kernel
theorem dX8_put_12 : decode cX8_put 12 = .ok (.iload_n 1, 1) := by decide +kernel
theorem dX8_put_13 : decode cX8_put 13 = .ok (.iaload, 1) := by decide +kernel
theorem dX8_put_14 : decode cX8_put 14 = .ok (.invokestatic 36, 3) := by decide +kernel
theorem dX8_put_17 : decode cX8_put 17 = .ok (.lastore, 1) := by decide +kernel
theorem dX8_put_18 : decode cX8_put 18 = .ok (.return_, 1) := by decide +kernel
theorem dX8_holds_0 : decode cX8_holds 0 = .ok (.iload_n 2, 1) := by decide +kernel
theorem dX8_holds_1 : decode cX8_holds 1 = .ok (.ifCond .lt 23, 3) := by decide +kernel
theorem dX8_holds_24 : decode cX8_holds 24 = .ok (.iconst 0, 1) := by decide +kernel
theorem dX8_holds_25 : decode cX8_holds 25 = .ok (.ireturn, 1) := by decide +kernel
theorem dX8_holds_4 : decode cX8_holds 4 = .ok (.iload_n 3, 1) := by decide +kernel
theorem dX8_holds_5 : decode cX8_holds 5 = .ok (.ifCond .lt 19, 3) := by decide +kernel
theorem dX8_holds_8 : decode cX8_holds 8 = .ok (.iload_n 2, 1) := by decide +kernel
theorem dX8_holds_9 : decode cX8_holds 9 = .ok (.aload_n 0, 1) := by decide +kernel
theorem dX8_holds_10 : decode cX8_holds 10 = .ok (.getfield 20, 3) := by decide +kernel
theorem dX8_holds_13 : decode cX8_holds 13 = .ok (.iload_n 1, 1) := by decide +kernel
theorem dX8_holds_14 : decode cX8_holds 14 = .ok (.iaload, 1) := by decide +kernel
theorem dX8_holds_15 : decode cX8_holds 15 = .ok (.iload_n 3, 1) := by decide +kernel
theorem dX8_holds_16 : decode cX8_holds 16 = .ok (.isub, 1) := by decide +kernel
theorem dX8_holds_17 : decode cX8_holds 17 = .ok (.if_icmp .gt 7, 3) := by decide +kernel
theorem dX8_holds_20 : decode cX8_holds 20 = .ok (.iconst 1, 1) := by decide +kernel
theorem dX8_holds_21 : decode cX8_holds 21 = .ok (.goto 4, 3) := by decide +kernel
theorem dX11_row_0 : decode cX11_row 0 = .ok (.iload_n 1, 1) := by decide +kernel
theorem dX11_row_1 : decode cX11_row 1 = .ok (.invokestatic 389, 3) := by decide +kernel
theorem dX11_row_4 : decode cX11_row 4 = .ok (.ifCond .eq 18, 3) := by decide +kernel
theorem dX11_row_22 : decode cX11_row 22 = .ok (.bipush (-2), 2) := by decide +kernel
theorem dX11_row_24 : decode cX11_row 24 = .ok (.ireturn, 1) := by decide +kernel
theorem dX11_row_7 : decode cX11_row 7 = .ok (.iload_n 2, 1) := by decide +kernel
theorem dX11_row_8 : decode cX11_row 8 = .ok (.ifCond .lt 14, 3) := by decide +kernel
theorem dX11_row_11 : decode cX11_row 11 = .ok (.iload_n 2, 1) := by decide +kernel
theorem dX11_row_12 : decode cX11_row 12 = .ok (.iconst 4, 1) := by decide +kernel
theorem dX11_row_13 : decode cX11_row 13 = .ok (.if_icmp .ge 9, 3) := by decide +kernel
theorem dX11_row_16 : decode cX11_row 16 = .ok (.iload_n 3, 1) := by decide +kernel
theorem dX11_row_17 : decode cX11_row 17 = .ok (.bipush 60, 2) := by decide +kernel
theorem dX11_row_19 : decode cX11_row 19 = .ok (.if_icmp .le 6, 3) := by decide +kernel
theorem dX11_row_25 : decode cX11_row 25 = .ok (.iload_n 3, 1) := by decide +kernel
theorem dX11_row_26 : decode cX11_row 26 = .ok (.ifCond .ge 6, 3) := by decide +kernel
theorem dX11_row_32 : decode cX11_row 32 = .ok (.aload_n 0, 1) := by decide +kernel
theorem dX11_row_33 : decode cX11_row 33 = .ok (.getfield 85, 3) := by decide +kernel
theorem dX11_row_36 : decode cX11_row 36 = .ok (.iload_n 1, 1) := by decide +kernel
theorem dX11_row_37 : decode cX11_row 37 = .ok (.iload_n 2, 1) := by decide +kernel
theorem dX11_row_38 : decode cX11_row 38 = .ok (.iload_n 3, 1) := by decide +kernel
theorem dX11_row_39 : decode cX11_row 39 = .ok (.invokevirtual 392, 3) := by decide +kernel
theorem dX11_row_42 : decode cX11_row 42 = .ok (.iconst 0, 1) := by decide +kernel
theorem dX11_row_43 : decode cX11_row 43 = .ok (.ireturn, 1) := by decide +kernel
theorem dX11_row_29 : decode cX11_row 29 = .ok (.bipush (-3), 2) := by decide +kernel
theorem dX11_row_31 : decode cX11_row 31 = .ok (.ireturn, 1) := by decide +kernel
theorem dX11_write_0 : decode cX11_write 0 = .ok (.iload_n 1, 1) := by decide +kernel
theorem dX11_write_1 : decode cX11_write 1 = .ok (.invokestatic 389, 3) := by decide +kernel
theorem dX11_write_4 : decode cX11_write 4 = .ok (.ifCond .ne 6, 3) := by decide +kernel
theorem dX11_write_10 : decode cX11_write 10 = .ok (.aload_n 0, 1) := by decide +kernel
theorem dX11_write_11 : decode cX11_write 11 = .ok (.getfield 85, 3) := by decide +kernel
theorem dX11_write_14 : decode cX11_write 14 = .ok (.iload_n 1, 1) := by decide +kernel
theorem dX11_write_15 : decode cX11_write 15 = .ok (.invokevirtual 395, 3) := by decide +kernel
theorem dX11_write_18 : decode cX11_write 18 = .ok (.ifCond .ne 6, 3) := by decide +kernel
theorem dX11_write_24 : decode cX11_write 24 = .ok (.iload_n 2, 1) := by decide +kernel
theorem dX11_write_25 : decode cX11_write 25 = .ok (.ifCond .lt 16, 3) := by decide +kernel
theorem dX11_write_41 : decode cX11_write 41 = .ok (.bipush (-7), 2) := by decide +kernel
theorem dX11_write_43 : decode cX11_write 43 = .ok (.ireturn, 1) := by decide +kernel
theorem dX11_write_28 : decode cX11_write 28 = .ok (.iload_n 2, 1) := by decide +kernel
theorem dX11_write_29 : decode cX11_write 29 = .ok (.aload_n 0, 1) := by decide +kernel
theorem dX11_write_30 : decode cX11_write 30 = .ok (.getfield 85, 3) := by decide +kernel
theorem dX11_write_33 : decode cX11_write 33 = .ok (.getfield 398, 3) := by decide +kernel
theorem dX11_write_36 : decode cX11_write 36 = .ok (.iload_n 1, 1) := by decide +kernel
theorem dX11_write_37 : decode cX11_write 37 = .ok (.iaload, 1) := by decide +kernel
theorem dX11_write_38 : decode cX11_write 38 = .ok (.if_icmp .lt 6, 3) := by decide +kernel
theorem dX11_write_44 : decode cX11_write 44 = .ok (.aload_n 0, 1) := by decide +kernel
theorem dX11_write_45 : decode cX11_write 45 = .ok (.getfield 85, 3) := by decide +kernel
theorem dX11_write_48 : decode cX11_write 48 = .ok (.iload_n 1, 1) := by decide +kernel
theorem dX11_write_49 : decode cX11_write 49 = .ok (.iload_n 2, 1) := by decide +kernel
theorem dX11_write_50 : decode cX11_write 50 = .ok (.lload_n 3, 1) := by decide +kernel
theorem dX11_write_51 : decode cX11_write 51 = .ok (.invokevirtual 401, 3) := by decide +kernel
theorem dX11_write_54 : decode cX11_write 54 = .ok (.iconst 0, 1) := by decide +kernel
theorem dX11_write_55 : decode cX11_write 55 = .ok (.ireturn, 1) := by decide +kernel
theorem dX11_write_21 : decode cX11_write 21 = .ok (.bipush (-6), 2) := by decide +kernel
theorem dX11_write_23 : decode cX11_write 23 = .ok (.ireturn, 1) := by decide +kernel
theorem dX11_write_7 : decode cX11_write 7 = .ok (.bipush (-2), 2) := by decide +kernel
theorem dX11_write_9 : decode cX11_write 9 = .ok (.ireturn, 1) := by decide +kernel
theorem dX11_paste_0 : decode cX11_paste 0 = .ok (.iload_n 1, 1) := by decide +kernel
theorem dX11_paste_1 : decode cX11_paste 1 = .ok (.invokestatic 389, 3) := by decide +kernel
theorem dX11_paste_4 : decode cX11_paste 4 = .ok (.ifCond .eq 10, 3) := by decide +kernel
theorem dX11_paste_14 : decode cX11_paste 14 = .ok (.bipush (-2), 2) := by decide +kernel
theorem dX11_paste_16 : decode cX11_paste 16 = .ok (.ireturn, 1) := by decide +kernel
theorem dX11_paste_7 : decode cX11_paste 7 = .ok (.iload_n 3, 1) := by decide +kernel
theorem dX11_paste_8 : decode cX11_paste 8 = .ok (.invokestatic 389, 3) := by decide +kernel
theorem dX11_paste_11 : decode cX11_paste 11 = .ok (.ifCond .ne 6, 3) := by decide +kernel
theorem dX11_paste_17 : decode cX11_paste 17 = .ok (.aload_n 0, 1) := by decide +kernel
theorem dX11_paste_18 : decode cX11_paste 18 = .ok (.getfield 85, 3) := by decide +kernel
theorem dX11_paste_21 : decode cX11_paste 21 = .ok (.iload_n 1, 1) := by decide +kernel
theorem dX11_paste_22 : decode cX11_paste 22 = .ok (.invokevirtual 395, 3) := by decide +kernel
theorem dX11_paste_25 : decode cX11_paste 25 = .ok (.ifCond .eq 14, 3) := by decide +kernel
theorem dX11_paste_39 : decode cX11_paste 39 = .ok (.bipush (-6), 2) := by decide +kernel
theorem dX11_paste_41 : decode cX11_paste 41 = .ok (.ireturn, 1) := by decide +kernel
theorem dX11_paste_28 : decode cX11_paste 28 = .ok (.aload_n 0, 1) := by decide +kernel
theorem dX11_paste_29 : decode cX11_paste 29 = .ok (.getfield 85, 3) := by decide +kernel
theorem dX11_paste_32 : decode cX11_paste 32 = .ok (.iload_n 3, 1) := by decide +kernel
theorem dX11_paste_33 : decode cX11_paste 33 = .ok (.invokevirtual 395, 3) := by decide +kernel
theorem dX11_paste_36 : decode cX11_paste 36 = .ok (.ifCond .ne 6, 3) := by decide +kernel
theorem dX11_paste_42 : decode cX11_paste 42 = .ok (.aload_n 0, 1) := by decide +kernel
theorem dX11_paste_43 : decode cX11_paste 43 = .ok (.getfield 85, 3) := by decide +kernel
theorem dX11_paste_46 : decode cX11_paste 46 = .ok (.getfield 405, 3) := by decide +kernel
theorem dX11_paste_49 : decode cX11_paste 49 = .ok (.iload_n 1, 1) := by decide +kernel
theorem dX11_paste_50 : decode cX11_paste 50 = .ok (.iaload, 1) := by decide +kernel
theorem dX11_paste_51 : decode cX11_paste 51 = .ok (.aload_n 0, 1) := by decide +kernel
theorem dX11_paste_52 : decode cX11_paste 52 = .ok (.getfield 85, 3) := by decide +kernel
theorem dX11_paste_55 : decode cX11_paste 55 = .ok (.getfield 405, 3) := by decide +kernel
theorem dX11_paste_58 : decode cX11_paste 58 = .ok (.iload_n 3, 1) := by decide +kernel
theorem dX11_paste_59 : decode cX11_paste 59 = .ok (.iaload, 1) := by decide +kernel
theorem dX11_paste_60 : decode cX11_paste 60 = .ok (.if_icmp .eq 6, 3) := by decide +kernel
theorem dX11_paste_66 : decode cX11_paste 66 = .ok (.aload_n 0, 1) := by decide +kernel
theorem dX11_paste_67 : decode cX11_paste 67 = .ok (.getfield 85, 3) := by decide +kernel
theorem dX11_paste_70 : decode cX11_paste 70 = .ok (.iload_n 1, 1) := by decide +kernel
theorem dX11_paste_71 : decode cX11_paste 71 = .ok (.iload_n 2, 1) := by decide +kernel
theorem dX11_paste_72 : decode cX11_paste 72 = .ok (.iload 5, 2) := by decide +kernel
theorem dX11_paste_74 : decode cX11_paste 74 = .ok (.invokevirtual 408, 3) := by decide +kernel
theorem dX11_paste_77 : decode cX11_paste 77 = .ok (.ifCond .eq 18, 3) := by decide +kernel
theorem dX11_paste_95 : decode cX11_paste 95 = .ok (.bipush (-7), 2) := by decide +kernel
theorem dX11_paste_97 : decode cX11_paste 97 = .ok (.ireturn, 1) := by decide +kernel
theorem dX11_paste_80 : decode cX11_paste 80 = .ok (.aload_n 0, 1) := by decide +kernel
theorem dX11_paste_81 : decode cX11_paste 81 = .ok (.getfield 85, 3) := by decide +kernel
theorem dX11_paste_84 : decode cX11_paste 84 = .ok (.iload_n 3, 1) := by decide +kernel
theorem dX11_paste_85 : decode cX11_paste 85 = .ok (.iload 4, 2) := by decide +kernel
theorem dX11_paste_87 : decode cX11_paste 87 = .ok (.iload 5, 2) := by decide +kernel
theorem dX11_paste_89 : decode cX11_paste 89 = .ok (.invokevirtual 408, 3) := by decide +kernel
theorem dX11_paste_92 : decode cX11_paste 92 = .ok (.ifCond .ne 6, 3) := by decide +kernel
theorem dX11_paste_98 : decode cX11_paste 98 = .ok (.aload_n 0, 1) := by decide +kernel
theorem dX11_paste_99 : decode cX11_paste 99 = .ok (.getfield 85, 3) := by decide +kernel
theorem dX11_paste_102 : decode cX11_paste 102 = .ok (.getfield 412, 3) := by decide +kernel
theorem dX11_paste_105 : decode cX11_paste 105 = .ok (.iload_n 1, 1) := by decide +kernel
theorem dX11_paste_106 : decode cX11_paste 106 = .ok (.aaload, 1) := by decide +kernel
theorem dX11_paste_107 : decode cX11_paste 107 = .ok (.iload_n 2, 1) := by decide +kernel
theorem dX11_paste_108 : decode cX11_paste 108 = .ok (.aload_n 0, 1) := by decide +kernel
theorem dX11_paste_109 : decode cX11_paste 109 = .ok (.getfield 85, 3) := by decide +kernel
theorem dX11_paste_112 : decode cX11_paste 112 = .ok (.getfield 412, 3) := by decide +kernel
theorem dX11_paste_115 : decode cX11_paste 115 = .ok (.iload_n 3, 1) := by decide +kernel
theorem dX11_paste_116 : decode cX11_paste 116 = .ok (.aaload, 1) := by decide +kernel
theorem dX11_paste_117 : decode cX11_paste 117 = .ok (.iload 4, 2) := by decide +kernel
theorem dX11_paste_119 : decode cX11_paste 119 = .ok (.iload 5, 2) := by decide +kernel
theorem dX11_paste_121 : decode cX11_paste 121 = .ok (.invokestatic 416, 3) := by decide +kernel
theorem dX11_paste_124 : decode cX11_paste 124 = .ok (.iconst 0, 1) := by decide +kernel
theorem dX11_paste_125 : decode cX11_paste 125 = .ok (.ireturn, 1) := by decide +kernel
theorem dX11_paste_63 : decode cX11_paste 63 = .ok (.bipush (-8), 2) := by decide +kernel
theorem dX11_paste_65 : decode cX11_paste 65 = .ok (.ireturn, 1) := by decide +kernel
theorem dX11_putNumber_0 : decode cX11_putNumber 0 = .ok (.bipush 24, 2) := by decide +kernel
theorem dX11_putNumber_2 : decode cX11_putNumber 2 = .ok (.istore_n 2, 1) := by decide +kernel
theorem dX11_putNumber_3 : decode cX11_putNumber 3 = .ok (.iload_n 2, 1) := by decide +kernel
theorem dX11_putNumber_4 : decode cX11_putNumber 4 = .ok (.ifCond .lt 42, 3) := by decide +kernel
theorem dX11_putNumber_7 : decode cX11_putNumber 7 = .ok (.aload_n 0, 1) := by decide +kernel
theorem dX11_putNumber_8 : decode cX11_putNumber 8 = .ok (.getfield 13, 3) := by decide +kernel
theorem dX11_putNumber_11 : decode cX11_putNumber 11 = .ok (.sipush 1200, 3) := by decide +kernel
theorem dX11_putNumber_14 : decode cX11_putNumber 14 = .ok (.if_icmp .ge 26, 3) := by decide +kernel
theorem dX11_putNumber_40 : decode cX11_putNumber 40 = .ok (.iinc 2 (-8), 3) := by decide +kernel
theorem dX11_putNumber_43 : decode cX11_putNumber 43 = .ok (.goto (-40), 3) := by decide +kernel
theorem dX11_putNumber_17 : decode cX11_putNumber 17 = .ok (.aload_n 0, 1) := by decide +kernel
theorem dX11_putNumber_18 : decode cX11_putNumber 18 = .ok (.getfield 9, 3) := by decide +kernel
theorem dX11_putNumber_21 : decode cX11_putNumber 21 = .ok (.aload_n 0, 1) := by decide +kernel
theorem dX11_putNumber_22 : decode cX11_putNumber 22 = .ok (.getfield 13, 3) := by decide +kernel
theorem dX11_putNumber_25 : decode cX11_putNumber 25 = .ok (.iload_n 1, 1) := by decide +kernel
theorem dX11_putNumber_26 : decode cX11_putNumber 26 = .ok (.iload_n 2, 1) := by decide +kernel
theorem dX11_putNumber_27 : decode cX11_putNumber 27 = .ok (.ishr, 1) := by decide +kernel
theorem dX11_putNumber_28 : decode cX11_putNumber 28 = .ok (.i2b, 1) := by decide +kernel
theorem dX11_putNumber_29 : decode cX11_putNumber 29 = .ok (.bastore, 1) := by decide +kernel
theorem dX11_putNumber_30 : decode cX11_putNumber 30 = .ok (.aload_n 0, 1) := by decide +kernel
theorem dX11_putNumber_31 : decode cX11_putNumber 31 = .ok (.dup, 1) := by decide +kernel
theorem dX11_putNumber_32 : decode cX11_putNumber 32 = .ok (.getfield 13, 3) := by decide +kernel
theorem dX11_putNumber_35 : decode cX11_putNumber 35 = .ok (.iconst 1, 1) := by decide +kernel
theorem dX11_putNumber_36 : decode cX11_putNumber 36 = .ok (.iadd, 1) := by decide +kernel
theorem dX11_putNumber_37 : decode cX11_putNumber 37 = .ok (.putfield 13, 3) := by decide +kernel
theorem dX11_putNumber_46 : decode cX11_putNumber 46 = .ok (.return_, 1) := by decide +kernel
theorem dX11_feed_0 : decode cX11_feed 0 = .ok (.aload_n 0, 1) := by decide +kernel
theorem dX11_feed_1 : decode cX11_feed 1 = .ok (.getfield 13, 3) := by decide +kernel
theorem dX11_feed_4 : decode cX11_feed 4 = .ok (.bipush 20, 2) := by decide +kernel
theorem dX11_feed_6 : decode cX11_feed 6 = .ok (.iadd, 1) := by decide +kernel
theorem dX11_feed_7 : decode cX11_feed 7 = .ok (.sipush 1200, 3) := by decide +kernel
theorem dX11_feed_10 : decode cX11_feed 10 = .ok (.if_icmp .le 5, 3) := by decide +kernel
theorem dX11_feed_15 : decode cX11_feed 15 = .ok (.aload_n 0, 1) := by decide +kernel
theorem dX11_feed_16 : decode cX11_feed 16 = .ok (.iload_n 1, 1) := by decide +kernel
theorem dX11_feed_17 : decode cX11_feed 17 = .ok (.invokevirtual 98, 3) := by decide +kernel
theorem dX11_feed_20 : decode cX11_feed 20 = .ok (.aload_n 0, 1) := by decide +kernel
theorem dX11_feed_21 : decode cX11_feed 21 = .ok (.iload_n 2, 1) := by decide +kernel
theorem dX11_feed_22 : decode cX11_feed 22 = .ok (.invokevirtual 98, 3) := by decide +kernel
theorem dX11_feed_25 : decode cX11_feed 25 = .ok (.aload_n 0, 1) := by decide +kernel
theorem dX11_feed_26 : decode cX11_feed 26 = .ok (.iload_n 3, 1) := by decide +kernel
theorem dX11_feed_27 : decode cX11_feed 27 = .ok (.invokevirtual 98, 3) := by decide +kernel
theorem dX11_feed_30 : decode cX11_feed 30 = .ok (.aload_n 0, 1) := by decide +kernel
theorem dX11_feed_31 : decode cX11_feed 31 = .ok (.iload 4, 2) := by decide +kernel
theorem dX11_feed_33 : decode cX11_feed 33 = .ok (.invokevirtual 98, 3) := by decide +kernel
theorem dX11_feed_36 : decode cX11_feed 36 = .ok (.aload_n 0, 1) := by decide +kernel
theorem dX11_feed_37 : decode cX11_feed 37 = .ok (.iload 5, 2) := by decide +kernel
theorem dX11_feed_39 : decode cX11_feed 39 = .ok (.invokevirtual 98, 3) := by decide +kernel
theorem dX11_feed_42 : decode cX11_feed 42 = .ok (.aload_n 0, 1) := by decide +kernel
theorem dX11_feed_43 : decode cX11_feed 43 = .ok (.getfield 13, 3) := by decide +kernel
theorem dX11_feed_46 : decode cX11_feed 46 = .ok (.ireturn, 1) := by decide +kernel
theorem dX11_feed_13 : decode cX11_feed 13 = .ok (.iconst (-1), 1) := by decide +kernel
theorem dX11_feed_14 : decode cX11_feed 14 = .ok (.ireturn, 1) := by decide +kernel
theorem dX11_count_0 : decode cX11_count 0 = .ok (.iload_n 1, 1) := by decide +kernel
theorem dX11_count_1 : decode cX11_count 1 = .ok (.tableswitch 186 0 12 #[67, 75, 86, 97, 108, 116, 127, 135, 146, 154, 165, 173, 178], 67) := by decide +kernel
theorem dX11_count_187 : decode cX11_count 187 = .ok (.iconst (-1), 1) := by decide +kernel
theorem dX11_count_188 : decode cX11_count 188 = .ok (.ireturn, 1) := by decide +kernel
theorem dX11_count_68 : decode cX11_count 68 = .ok (.aload_n 0, 1) := by decide +kernel
theorem dX11_count_69 : decode cX11_count 69 = .ok (.getfield 26, 3) := by decide +kernel
theorem dX11_count_72 : decode cX11_count 72 = .ok (.getfield 169, 3) := by decide +kernel
theorem dX11_count_75 : decode cX11_count 75 = .ok (.ireturn, 1) := by decide +kernel
theorem dX11_count_76 : decode cX11_count 76 = .ok (.aload_n 0, 1) := by decide +kernel
theorem dX11_count_77 : decode cX11_count 77 = .ok (.getfield 26, 3) := by decide +kernel
theorem dX11_count_80 : decode cX11_count 80 = .ok (.getfield 172, 3) := by decide +kernel
theorem dX11_count_83 : decode cX11_count 83 = .ok (.getfield 176, 3) := by decide +kernel
theorem dX11_count_86 : decode cX11_count 86 = .ok (.ireturn, 1) := by decide +kernel
theorem dX11_count_87 : decode cX11_count 87 = .ok (.aload_n 0, 1) := by decide +kernel
theorem dX11_count_88 : decode cX11_count 88 = .ok (.getfield 26, 3) := by decide +kernel
theorem dX11_count_91 : decode cX11_count 91 = .ok (.getfield 172, 3) := by decide +kernel
theorem dX11_count_94 : decode cX11_count 94 = .ok (.getfield 181, 3) := by decide +kernel
theorem dX11_count_97 : decode cX11_count 97 = .ok (.ireturn, 1) := by decide +kernel
theorem dX11_count_98 : decode cX11_count 98 = .ok (.aload_n 0, 1) := by decide +kernel
theorem dX11_count_99 : decode cX11_count 99 = .ok (.getfield 26, 3) := by decide +kernel
theorem dX11_count_102 : decode cX11_count 102 = .ok (.getfield 172, 3) := by decide +kernel
theorem dX11_count_105 : decode cX11_count 105 = .ok (.getfield 184, 3) := by decide +kernel
theorem dX11_count_108 : decode cX11_count 108 = .ok (.ireturn, 1) := by decide +kernel
theorem dX11_count_109 : decode cX11_count 109 = .ok (.aload_n 0, 1) := by decide +kernel
theorem dX11_count_110 : decode cX11_count 110 = .ok (.getfield 26, 3) := by decide +kernel
theorem dX11_count_113 : decode cX11_count 113 = .ok (.getfield 187, 3) := by decide +kernel
theorem dX11_count_116 : decode cX11_count 116 = .ok (.ireturn, 1) := by decide +kernel
theorem dX11_count_117 : decode cX11_count 117 = .ok (.aload_n 0, 1) := by decide +kernel
theorem dX11_count_118 : decode cX11_count 118 = .ok (.getfield 26, 3) := by decide +kernel
theorem dX11_count_121 : decode cX11_count 121 = .ok (.getfield 190, 3) := by decide +kernel
theorem dX11_count_124 : decode cX11_count 124 = .ok (.invokestatic 193, 3) := by decide +kernel
theorem dX11_count_127 : decode cX11_count 127 = .ok (.ireturn, 1) := by decide +kernel
theorem dX11_count_128 : decode cX11_count 128 = .ok (.aload_n 0, 1) := by decide +kernel
theorem dX11_count_129 : decode cX11_count 129 = .ok (.getfield 26, 3) := by decide +kernel
theorem dX11_count_132 : decode cX11_count 132 = .ok (.getfield 199, 3) := by decide +kernel
theorem dX11_count_135 : decode cX11_count 135 = .ok (.ireturn, 1) := by decide +kernel
theorem dX11_count_136 : decode cX11_count 136 = .ok (.aload_n 0, 1) := by decide +kernel
theorem dX11_count_137 : decode cX11_count 137 = .ok (.getfield 26, 3) := by decide +kernel
theorem dX11_count_140 : decode cX11_count 140 = .ok (.getfield 142, 3) := by decide +kernel
theorem dX11_count_143 : decode cX11_count 143 = .ok (.getfield 202, 3) := by decide +kernel
theorem dX11_count_146 : decode cX11_count 146 = .ok (.ireturn, 1) := by decide +kernel
theorem dX11_count_147 : decode cX11_count 147 = .ok (.aload_n 0, 1) := by decide +kernel
theorem dX11_count_148 : decode cX11_count 148 = .ok (.getfield 26, 3) := by decide +kernel
theorem dX11_count_151 : decode cX11_count 151 = .ok (.getfield 205, 3) := by decide +kernel
theorem dX11_count_154 : decode cX11_count 154 = .ok (.ireturn, 1) := by decide +kernel
theorem dX11_count_155 : decode cX11_count 155 = .ok (.aload_n 0, 1) := by decide +kernel
theorem dX11_count_156 : decode cX11_count 156 = .ok (.getfield 26, 3) := by decide +kernel
theorem dX11_count_159 : decode cX11_count 159 = .ok (.getfield 208, 3) := by decide +kernel
theorem dX11_count_162 : decode cX11_count 162 = .ok (.getfield 212, 3) := by decide +kernel
theorem dX11_count_165 : decode cX11_count 165 = .ok (.ireturn, 1) := by decide +kernel
theorem dX11_count_166 : decode cX11_count 166 = .ok (.aload_n 0, 1) := by decide +kernel
theorem dX11_count_167 : decode cX11_count 167 = .ok (.getfield 26, 3) := by decide +kernel
theorem dX11_count_170 : decode cX11_count 170 = .ok (.getfield 113, 3) := by decide +kernel
theorem dX11_count_173 : decode cX11_count 173 = .ok (.ireturn, 1) := by decide +kernel
theorem dX11_count_174 : decode cX11_count 174 = .ok (.aload_n 0, 1) := by decide +kernel
theorem dX11_count_175 : decode cX11_count 175 = .ok (.getfield 13, 3) := by decide +kernel
theorem dX11_count_178 : decode cX11_count 178 = .ok (.ireturn, 1) := by decide +kernel
theorem dX11_count_179 : decode cX11_count 179 = .ok (.aload_n 0, 1) := by decide +kernel
theorem dX11_count_180 : decode cX11_count 180 = .ok (.getfield 85, 3) := by decide +kernel
theorem dX11_count_183 : decode cX11_count 183 = .ok (.invokevirtual 215, 3) := by decide +kernel
theorem dX11_count_186 : decode cX11_count 186 = .ok (.ireturn, 1) := by decide +kernel
theorem dX11_rate_0 : decode cX11_rate 0 = .ok (.aload_n 0, 1) := by decide +kernel
theorem dX11_rate_1 : decode cX11_rate 1 = .ok (.getfield 26, 3) := by decide +kernel
theorem dX11_rate_4 : decode cX11_rate 4 = .ok (.iload_n 1, 1) := by decide +kernel
theorem dX11_rate_5 : decode cX11_rate 5 = .ok (.invokevirtual 130, 3) := by decide +kernel
theorem dX11_rate_8 : decode cX11_rate 8 = .ok (.ifCond .eq 13, 3) := by decide +kernel
theorem dX11_rate_21 : decode cX11_rate 21 = .ok (.bipush (-2), 2) := by decide +kernel
theorem dX11_rate_23 : decode cX11_rate 23 = .ok (.ireturn, 1) := by decide +kernel
theorem dX11_rate_11 : decode cX11_rate 11 = .ok (.iload_n 2, 1) := by decide +kernel
theorem dX11_rate_12 : decode cX11_rate 12 = .ok (.sipush 999, 3) := by decide +kernel
theorem dX11_rate_15 : decode cX11_rate 15 = .ok (.invokestatic 230, 3) := by decide +kernel
theorem dX11_rate_18 : decode cX11_rate 18 = .ok (.ifCond .ne 6, 3) := by decide +kernel
theorem dX11_rate_24 : decode cX11_rate 24 = .ok (.aload_n 0, 1) := by decide +kernel
theorem dX11_rate_25 : decode cX11_rate 25 = .ok (.getfield 26, 3) := by decide +kernel
theorem dX11_rate_28 : decode cX11_rate 28 = .ok (.getfield 208, 3) := by decide +kernel
theorem dX11_rate_31 : decode cX11_rate 31 = .ok (.getfield 212, 3) := by decide +kernel
theorem dX11_rate_34 : decode cX11_rate 34 = .ok (.ifCond .le 6, 3) := by decide +kernel
theorem dX11_rate_40 : decode cX11_rate 40 = .ok (.aload_n 0, 1) := by decide +kernel
theorem dX11_rate_41 : decode cX11_rate 41 = .ok (.getfield 26, 3) := by decide +kernel
theorem dX11_rate_44 : decode cX11_rate 44 = .ok (.getfield 133, 3) := by decide +kernel
theorem dX11_rate_47 : decode cX11_rate 47 = .ok (.iload_n 1, 1) := by decide +kernel
theorem dX11_rate_48 : decode cX11_rate 48 = .ok (.iaload, 1) := by decide +kernel
theorem dX11_rate_49 : decode cX11_rate 49 = .ok (.istore_n 3, 1) := by decide +kernel
theorem dX11_rate_50 : decode cX11_rate 50 = .ok (.aload_n 0, 1) := by decide +kernel
theorem dX11_rate_51 : decode cX11_rate 51 = .ok (.getfield 26, 3) := by decide +kernel
theorem dX11_rate_54 : decode cX11_rate 54 = .ok (.getfield 133, 3) := by decide +kernel
theorem dX11_rate_57 : decode cX11_rate 57 = .ok (.iload_n 1, 1) := by decide +kernel
theorem dX11_rate_58 : decode cX11_rate 58 = .ok (.iload_n 2, 1) := by decide +kernel
theorem dX11_rate_59 : decode cX11_rate 59 = .ok (.iastore, 1) := by decide +kernel
theorem dX11_rate_60 : decode cX11_rate 60 = .ok (.iload_n 3, 1) := by decide +kernel
theorem dX11_rate_61 : decode cX11_rate 61 = .ok (.ireturn, 1) := by decide +kernel
theorem dX11_rate_37 : decode cX11_rate 37 = .ok (.bipush (-5), 2) := by decide +kernel
theorem dX11_rate_39 : decode cX11_rate 39 = .ok (.ireturn, 1) := by decide +kernel
theorem dX9_startFates_0 : decode cX9_startFates 0 = .ok (.aload_n 0, 1) := by decide +kernel
theorem dX9_startFates_1 : decode cX9_startFates 1 = .ok (.getfield 9, 3) := by decide +kernel
theorem dX9_startFates_4 : decode cX9_startFates 4 = .ok (.bipush (-3), 2) := by decide +kernel
theorem dX9_startFates_6 : decode cX9_startFates 6 = .ok (.invokestatic 45, 3) := by decide +kernel
theorem dX9_startFates_9 : decode cX9_startFates 9 = .ok (.return_, 1) := by decide +kernel
theorem dX9_findFates_0 : decode cX9_findFates 0 = .ok (.aload_n 0, 1) := by decide +kernel
theorem dX9_findFates_1 : decode cX9_findFates 1 = .ok (.invokevirtual 61, 3) := by decide +kernel
theorem dX9_findFates_4 : decode cX9_findFates 4 = .ok (.sipush 399, 3) := by decide +kernel
theorem dX9_findFates_7 : decode cX9_findFates 7 = .ok (.istore_n 2, 1) := by decide +kernel
theorem dX9_findFates_8 : decode cX9_findFates 8 = .ok (.iload_n 2, 1) := by decide +kernel
theorem dX9_findFates_9 : decode cX9_findFates 9 = .ok (.iload_n 1, 1) := by decide +kernel
theorem dX9_findFates_10 : decode cX9_findFates 10 = .ok (.if_icmp .lt 14, 3) := by decide +kernel
theorem dX9_findFates_13 : decode cX9_findFates 13 = .ok (.aload_n 0, 1) := by decide +kernel
theorem dX9_findFates_14 : decode cX9_findFates 14 = .ok (.iload_n 2, 1) := by decide +kernel
theorem dX9_findFates_15 : decode cX9_findFates 15 = .ok (.invokevirtual 64, 3) := by decide +kernel
theorem dX9_findFates_18 : decode cX9_findFates 18 = .ok (.iinc 2 (-1), 3) := by decide +kernel
theorem dX9_findFates_21 : decode cX9_findFates 21 = .ok (.goto (-13), 3) := by decide +kernel
theorem dX9_findFates_24 : decode cX9_findFates 24 = .ok (.return_, 1) := by decide +kernel
theorem dX9_cellsOf_0 : decode cX9_cellsOf 0 = .ok (.iconst 0, 1) := by decide +kernel
theorem dX9_cellsOf_1 : decode cX9_cellsOf 1 = .ok (.istore_n 2, 1) := by decide +kernel
theorem dX9_cellsOf_2 : decode cX9_cellsOf 2 = .ok (.iconst 0, 1) := by decide +kernel
theorem dX9_cellsOf_3 : decode cX9_cellsOf 3 = .ok (.istore_n 3, 1) := by decide +kernel
theorem dX9_cellsOf_4 : decode cX9_cellsOf 4 = .ok (.iload_n 3, 1) := by decide +kernel
theorem dX9_cellsOf_5 : decode cX9_cellsOf 5 = .ok (.aload_n 0, 1) := by decide +kernel
theorem dX9_cellsOf_6 : decode cX9_cellsOf 6 = .ok (.getfield 18, 3) := by decide +kernel
theorem dX9_cellsOf_9 : decode cX9_cellsOf 9 = .ok (.getfield 34, 3) := by decide +kernel
theorem dX9_cellsOf_12 : decode cX9_cellsOf 12 = .ok (.if_icmp .ge 25, 3) := by decide +kernel
theorem dX9_cellsOf_37 : decode cX9_cellsOf 37 = .ok (.iload_n 2, 1) := by decide +kernel
theorem dX9_cellsOf_38 : decode cX9_cellsOf 38 = .ok (.ireturn, 1) := by decide +kernel
theorem dX9_cellsOf_15 : decode cX9_cellsOf 15 = .ok (.aload_n 0, 1) := by decide +kernel
theorem dX9_cellsOf_16 : decode cX9_cellsOf 16 = .ok (.getfield 9, 3) := by decide +kernel
theorem dX9_cellsOf_19 : decode cX9_cellsOf 19 = .ok (.iload_n 3, 1) := by decide +kernel
theorem dX9_cellsOf_20 : decode cX9_cellsOf 20 = .ok (.iaload, 1) := by decide +kernel
theorem dX9_cellsOf_21 : decode cX9_cellsOf 21 = .ok (.iload_n 1, 1) := by decide +kernel
theorem dX9_cellsOf_22 : decode cX9_cellsOf 22 = .ok (.if_icmp .ne 9, 3) := by decide +kernel
theorem dX9_cellsOf_31 : decode cX9_cellsOf 31 = .ok (.iinc 3 1, 3) := by decide +kernel
theorem dX9_cellsOf_34 : decode cX9_cellsOf 34 = .ok (.goto (-30), 3) := by decide +kernel
theorem dX9_cellsOf_25 : decode cX9_cellsOf 25 = .ok (.iload_n 2, 1) := by decide +kernel
theorem dX9_cellsOf_26 : decode cX9_cellsOf 26 = .ok (.iconst 1, 1) := by decide +kernel
theorem dX9_cellsOf_27 : decode cX9_cellsOf 27 = .ok (.iload_n 3, 1) := by decide +kernel
theorem dX9_cellsOf_28 : decode cX9_cellsOf 28 = .ok (.ishl, 1) := by decide +kernel
theorem dX9_cellsOf_29 : decode cX9_cellsOf 29 = .ok (.ior, 1) := by decide +kernel
theorem dX9_cellsOf_30 : decode cX9_cellsOf 30 = .ok (.istore_n 2, 1) := by decide +kernel
theorem dX9_neverUp_0 : decode cX9_neverUp 0 = .ok (.aload_n 0, 1) := by decide +kernel
theorem dX9_neverUp_1 : decode cX9_neverUp 1 = .ok (.iconst 0, 1) := by decide +kernel
theorem dX9_neverUp_2 : decode cX9_neverUp 2 = .ok (.invokevirtual 68, 3) := by decide +kernel
theorem dX9_neverUp_5 : decode cX9_neverUp 5 = .ok (.aload_n 0, 1) := by decide +kernel
theorem dX9_neverUp_6 : decode cX9_neverUp 6 = .ok (.bipush (-3), 2) := by decide +kernel
theorem dX9_neverUp_8 : decode cX9_neverUp 8 = .ok (.invokevirtual 71, 3) := by decide +kernel
theorem dX9_neverUp_11 : decode cX9_neverUp 11 = .ok (.ireturn, 1) := by decide +kernel
theorem dX9_wonFrom_0 : decode cX9_wonFrom 0 = .ok (.aload_n 0, 1) := by decide +kernel
theorem dX9_wonFrom_1 : decode cX9_wonFrom 1 = .ok (.iload_n 2, 1) := by decide +kernel
theorem dX9_wonFrom_2 : decode cX9_wonFrom 2 = .ok (.invokevirtual 68, 3) := by decide +kernel
theorem dX9_wonFrom_5 : decode cX9_wonFrom 5 = .ok (.aload_n 0, 1) := by decide +kernel
theorem dX9_wonFrom_6 : decode cX9_wonFrom 6 = .ok (.iload_n 1, 1) := by decide +kernel
theorem dX9_wonFrom_7 : decode cX9_wonFrom 7 = .ok (.invokevirtual 71, 3) := by decide +kernel
theorem dX9_wonFrom_10 : decode cX9_wonFrom 10 = .ok (.ireturn, 1) := by decide +kernel
theorem dX9_bestHour_0 : decode cX9_bestHour 0 = .ok (.aload_n 0, 1) := by decide +kernel
theorem dX9_bestHour_1 : decode cX9_bestHour 1 = .ok (.bipush 100, 2) := by decide +kernel
theorem dX9_bestHour_3 : decode cX9_bestHour 3 = .ok (.invokevirtual 68, 3) := by decide +kernel
theorem dX9_bestHour_6 : decode cX9_bestHour 6 = .ok (.iconst (-1), 1) := by decide +kernel
theorem dX9_bestHour_7 : decode cX9_bestHour 7 = .ok (.istore_n 2, 1) := by decide +kernel
theorem dX9_bestHour_8 : decode cX9_bestHour 8 = .ok (.iconst 1, 1) := by decide +kernel
theorem dX9_bestHour_9 : decode cX9_bestHour 9 = .ok (.istore_n 3, 1) := by decide +kernel
theorem dX9_bestHour_10 : decode cX9_bestHour 10 = .ok (.bipush 99, 2) := by decide +kernel
theorem dX9_bestHour_12 : decode cX9_bestHour 12 = .ok (.istore 4, 2) := by decide +kernel
theorem dX9_bestHour_14 : decode cX9_bestHour 14 = .ok (.iload 4, 2) := by decide +kernel
theorem dX9_bestHour_16 : decode cX9_bestHour 16 = .ok (.ifCond .lt 37, 3) := by decide +kernel
theorem dX9_bestHour_19 : decode cX9_bestHour 19 = .ok (.aload_n 0, 1) := by decide +kernel
theorem dX9_bestHour_20 : decode cX9_bestHour 20 = .ok (.iload 4, 2) := by decide +kernel
theorem dX9_bestHour_22 : decode cX9_bestHour 22 = .ok (.invokevirtual 64, 3) := by decide +kernel
theorem dX9_bestHour_25 : decode cX9_bestHour 25 = .ok (.aload_n 0, 1) := by decide +kernel
theorem dX9_bestHour_26 : decode cX9_bestHour 26 = .ok (.iload_n 1, 1) := by decide +kernel
theorem dX9_bestHour_27 : decode cX9_bestHour 27 = .ok (.invokevirtual 71, 3) := by decide +kernel
theorem dX9_bestHour_30 : decode cX9_bestHour 30 = .ok (.invokestatic 75, 3) := by decide +kernel
theorem dX9_bestHour_33 : decode cX9_bestHour 33 = .ok (.istore 5, 2) := by decide +kernel
theorem dX9_bestHour_35 : decode cX9_bestHour 35 = .ok (.iload 5, 2) := by decide +kernel
theorem dX9_bestHour_37 : decode cX9_bestHour 37 = .ok (.iload_n 3, 1) := by decide +kernel
theorem dX9_bestHour_38 : decode cX9_bestHour 38 = .ok (.if_icmp .lt 9, 3) := by decide +kernel
theorem dX9_bestHour_47 : decode cX9_bestHour 47 = .ok (.iinc 4 (-1), 3) := by decide +kernel
theorem dX9_bestHour_50 : decode cX9_bestHour 50 = .ok (.goto (-36), 3) := by decide +kernel
theorem dX9_bestHour_41 : decode cX9_bestHour 41 = .ok (.iload 5, 2) := by decide +kernel
theorem dX9_bestHour_43 : decode cX9_bestHour 43 = .ok (.istore_n 3, 1) := by decide +kernel
theorem dX9_bestHour_44 : decode cX9_bestHour 44 = .ok (.iload 4, 2) := by decide +kernel
theorem dX9_bestHour_46 : decode cX9_bestHour 46 = .ok (.istore_n 2, 1) := by decide +kernel
theorem dX9_bestHour_53 : decode cX9_bestHour 53 = .ok (.iload_n 2, 1) := by decide +kernel
theorem dX9_bestHour_54 : decode cX9_bestHour 54 = .ok (.ireturn, 1) := by decide +kernel
theorem dX9_cellsInto_0 : decode cX9_cellsInto 0 = .ok (.iconst 0, 1) := by decide +kernel
theorem dX9_cellsInto_1 : decode cX9_cellsInto 1 = .ok (.istore_n 3, 1) := by decide +kernel
theorem dX9_cellsInto_2 : decode cX9_cellsInto 2 = .ok (.iconst 0, 1) := by decide +kernel
theorem dX9_cellsInto_3 : decode cX9_cellsInto 3 = .ok (.istore 4, 2) := by decide +kernel
theorem dX9_cellsInto_5 : decode cX9_cellsInto 5 = .ok (.iload 4, 2) := by decide +kernel
theorem dX9_cellsInto_7 : decode cX9_cellsInto 7 = .ok (.aload_n 0, 1) := by decide +kernel
theorem dX9_cellsInto_8 : decode cX9_cellsInto 8 = .ok (.getfield 18, 3) := by decide +kernel
theorem dX9_cellsInto_11 : decode cX9_cellsInto 11 = .ok (.getfield 34, 3) := by decide +kernel
theorem dX9_cellsInto_14 : decode cX9_cellsInto 14 = .ok (.if_icmp .ge 34, 3) := by decide +kernel
theorem dX9_cellsInto_17 : decode cX9_cellsInto 17 = .ok (.iload_n 1, 1) := by decide +kernel
theorem dX9_cellsInto_18 : decode cX9_cellsInto 18 = .ok (.aload_n 0, 1) := by decide +kernel
theorem dX9_cellsInto_19 : decode cX9_cellsInto 19 = .ok (.getfield 18, 3) := by decide +kernel
theorem dX9_cellsInto_22 : decode cX9_cellsInto 22 = .ok (.iload 4, 2) := by decide +kernel
theorem dX9_cellsInto_24 : decode cX9_cellsInto 24 = .ok (.iload_n 2, 1) := by decide +kernel
theorem dX9_cellsInto_25 : decode cX9_cellsInto 25 = .ok (.invokevirtual 37, 3) := by decide +kernel
theorem dX9_cellsInto_28 : decode cX9_cellsInto 28 = .ok (.ishr, 1) := by decide +kernel
theorem dX9_cellsInto_29 : decode cX9_cellsInto 29 = .ok (.iconst 1, 1) := by decide +kernel
theorem dX9_cellsInto_30 : decode cX9_cellsInto 30 = .ok (.iand, 1) := by decide +kernel
theorem dX9_cellsInto_31 : decode cX9_cellsInto 31 = .ok (.iconst 1, 1) := by decide +kernel
theorem dX9_cellsInto_32 : decode cX9_cellsInto 32 = .ok (.if_icmp .ne 10, 3) := by decide +kernel
theorem dX9_cellsInto_42 : decode cX9_cellsInto 42 = .ok (.iinc 4 1, 3) := by decide +kernel
theorem dX9_cellsInto_45 : decode cX9_cellsInto 45 = .ok (.goto (-40), 3) := by decide +kernel
theorem dX9_cellsInto_35 : decode cX9_cellsInto 35 = .ok (.iload_n 3, 1) := by decide +kernel
theorem dX9_cellsInto_36 : decode cX9_cellsInto 36 = .ok (.iconst 1, 1) := by decide +kernel
theorem dX9_cellsInto_37 : decode cX9_cellsInto 37 = .ok (.iload 4, 2) := by decide +kernel
theorem dX9_cellsInto_39 : decode cX9_cellsInto 39 = .ok (.ishl, 1) := by decide +kernel
theorem dX9_cellsInto_40 : decode cX9_cellsInto 40 = .ok (.ior, 1) := by decide +kernel
theorem dX9_cellsInto_41 : decode cX9_cellsInto 41 = .ok (.istore_n 3, 1) := by decide +kernel
theorem dX9_cellsInto_48 : decode cX9_cellsInto 48 = .ok (.iload_n 3, 1) := by decide +kernel
theorem dX9_cellsInto_49 : decode cX9_cellsInto 49 = .ok (.ireturn, 1) := by decide +kernel
theorem dX9_cellsBehind_0 : decode cX9_cellsBehind 0 = .ok (.iconst 1, 1) := by decide +kernel
theorem dX9_cellsBehind_1 : decode cX9_cellsBehind 1 = .ok (.iload_n 3, 1) := by decide +kernel
theorem dX9_cellsBehind_2 : decode cX9_cellsBehind 2 = .ok (.ishl, 1) := by decide +kernel
theorem dX9_cellsBehind_3 : decode cX9_cellsBehind 3 = .ok (.istore 4, 2) := by decide +kernel
theorem dX9_cellsBehind_5 : decode cX9_cellsBehind 5 = .ok (.iload_n 2, 1) := by decide +kernel
theorem dX9_cellsBehind_6 : decode cX9_cellsBehind 6 = .ok (.iconst 1, 1) := by decide +kernel
theorem dX9_cellsBehind_7 : decode cX9_cellsBehind 7 = .ok (.isub, 1) := by decide +kernel
theorem dX9_cellsBehind_8 : decode cX9_cellsBehind 8 = .ok (.istore 5, 2) := by decide +kernel
theorem dX9_cellsBehind_10 : decode cX9_cellsBehind 10 = .ok (.iload 5, 2) := by decide +kernel
theorem dX9_cellsBehind_12 : decode cX9_cellsBehind 12 = .ok (.iload_n 1, 1) := by decide +kernel
theorem dX9_cellsBehind_13 : decode cX9_cellsBehind 13 = .ok (.if_icmp .lt 46, 3) := by decide +kernel
theorem dX9_cellsBehind_59 : decode cX9_cellsBehind 59 = .ok (.iload 4, 2) := by decide +kernel
theorem dX9_cellsBehind_61 : decode cX9_cellsBehind 61 = .ok (.ireturn, 1) := by decide +kernel
theorem dX9_cellsBehind_16 : decode cX9_cellsBehind 16 = .ok (.iload 5, 2) := by decide +kernel
theorem dX9_cellsBehind_18 : decode cX9_cellsBehind 18 = .ok (.iload_n 2, 1) := by decide +kernel
theorem dX9_cellsBehind_19 : decode cX9_cellsBehind 19 = .ok (.iconst 1, 1) := by decide +kernel
theorem dX9_cellsBehind_20 : decode cX9_cellsBehind 20 = .ok (.isub, 1) := by decide +kernel
theorem dX9_cellsBehind_21 : decode cX9_cellsBehind 21 = .ok (.if_icmp .ne 8, 3) := by decide +kernel
theorem dX9_cellsBehind_29 : decode cX9_cellsBehind 29 = .ok (.iload 4, 2) := by decide +kernel
theorem dX9_cellsBehind_31 : decode cX9_cellsBehind 31 = .ok (.aload_n 0, 1) := by decide +kernel
theorem dX9_cellsBehind_32 : decode cX9_cellsBehind 32 = .ok (.getfield 18, 3) := by decide +kernel
theorem dX9_cellsBehind_35 : decode cX9_cellsBehind 35 = .ok (.getfield 80, 3) := by decide +kernel
theorem dX9_cellsBehind_38 : decode cX9_cellsBehind 38 = .ok (.iconst (-1), 1) := by decide +kernel
theorem dX9_cellsBehind_39 : decode cX9_cellsBehind 39 = .ok (.ixor, 1) := by decide +kernel
theorem dX9_cellsBehind_40 : decode cX9_cellsBehind 40 = .ok (.iand, 1) := by decide +kernel
theorem dX9_cellsBehind_41 : decode cX9_cellsBehind 41 = .ok (.istore 6, 2) := by decide +kernel
theorem dX9_cellsBehind_43 : decode cX9_cellsBehind 43 = .ok (.aload_n 0, 1) := by decide +kernel
theorem dX9_cellsBehind_44 : decode cX9_cellsBehind 44 = .ok (.iload 6, 2) := by decide +kernel
theorem dX9_cellsBehind_46 : decode cX9_cellsBehind 46 = .ok (.iload 5, 2) := by decide +kernel
theorem dX9_cellsBehind_48 : decode cX9_cellsBehind 48 = .ok (.invokevirtual 83, 3) := by decide +kernel
theorem dX9_cellsBehind_51 : decode cX9_cellsBehind 51 = .ok (.istore 4, 2) := by decide +kernel
theorem dX9_cellsBehind_53 : decode cX9_cellsBehind 53 = .ok (.iinc 5 (-1), 3) := by decide +kernel
theorem dX9_cellsBehind_56 : decode cX9_cellsBehind 56 = .ok (.goto (-46), 3) := by decide +kernel
theorem dX9_cellsBehind_24 : decode cX9_cellsBehind 24 = .ok (.iload 4, 2) := by decide +kernel
theorem dX9_cellsBehind_26 : decode cX9_cellsBehind 26 = .ok (.goto 15, 3) := by decide +kernel
theorem dX9_latestThrow_0 : decode cX9_latestThrow 0 = .ok (.iconst 1, 1) := by decide +kernel
theorem dX9_latestThrow_1 : decode cX9_latestThrow 1 = .ok (.iload_n 3, 1) := by decide +kernel
theorem dX9_latestThrow_2 : decode cX9_latestThrow 2 = .ok (.ishl, 1) := by decide +kernel
theorem dX9_latestThrow_3 : decode cX9_latestThrow 3 = .ok (.aload_n 0, 1) := by decide +kernel
theorem dX9_latestThrow_4 : decode cX9_latestThrow 4 = .ok (.getfield 18, 3) := by decide +kernel
theorem dX9_latestThrow_7 : decode cX9_latestThrow 7 = .ok (.getfield 80, 3) := by decide +kernel
theorem dX9_latestThrow_10 : decode cX9_latestThrow 10 = .ok (.iand, 1) := by decide +kernel
theorem dX9_latestThrow_11 : decode cX9_latestThrow 11 = .ok (.istore 4, 2) := by decide +kernel
theorem dX9_latestThrow_13 : decode cX9_latestThrow 13 = .ok (.iload_n 2, 1) := by decide +kernel
theorem dX9_latestThrow_14 : decode cX9_latestThrow 14 = .ok (.iconst 1, 1) := by decide +kernel
theorem dX9_latestThrow_15 : decode cX9_latestThrow 15 = .ok (.isub, 1) := by decide +kernel
theorem dX9_latestThrow_16 : decode cX9_latestThrow 16 = .ok (.istore 5, 2) := by decide +kernel
theorem dX9_latestThrow_18 : decode cX9_latestThrow 18 = .ok (.iload 5, 2) := by decide +kernel
theorem dX9_latestThrow_20 : decode cX9_latestThrow 20 = .ok (.ifCond .lt 51, 3) := by decide +kernel
theorem dX9_latestThrow_71 : decode cX9_latestThrow 71 = .ok (.iconst (-1), 1) := by decide +kernel
theorem dX9_latestThrow_72 : decode cX9_latestThrow 72 = .ok (.ireturn, 1) := by decide +kernel
theorem dX9_latestThrow_23 : decode cX9_latestThrow 23 = .ok (.iload 4, 2) := by decide +kernel
theorem dX9_latestThrow_25 : decode cX9_latestThrow 25 = .ok (.ifCond .eq 46, 3) := by decide +kernel
theorem dX9_latestThrow_28 : decode cX9_latestThrow 28 = .ok (.aload_n 0, 1) := by decide +kernel
theorem dX9_latestThrow_29 : decode cX9_latestThrow 29 = .ok (.iload 4, 2) := by decide +kernel
theorem dX9_latestThrow_31 : decode cX9_latestThrow 31 = .ok (.iload 5, 2) := by decide +kernel
theorem dX9_latestThrow_33 : decode cX9_latestThrow 33 = .ok (.invokevirtual 83, 3) := by decide +kernel
theorem dX9_latestThrow_36 : decode cX9_latestThrow 36 = .ok (.istore 6, 2) := by decide +kernel
theorem dX9_latestThrow_38 : decode cX9_latestThrow 38 = .ok (.iload 6, 2) := by decide +kernel
theorem dX9_latestThrow_40 : decode cX9_latestThrow 40 = .ok (.iload_n 1, 1) := by decide +kernel
theorem dX9_latestThrow_41 : decode cX9_latestThrow 41 = .ok (.ishr, 1) := by decide +kernel
theorem dX9_latestThrow_42 : decode cX9_latestThrow 42 = .ok (.iconst 1, 1) := by decide +kernel
theorem dX9_latestThrow_43 : decode cX9_latestThrow 43 = .ok (.iand, 1) := by decide +kernel
theorem dX9_latestThrow_44 : decode cX9_latestThrow 44 = .ok (.iconst 1, 1) := by decide +kernel
theorem dX9_latestThrow_45 : decode cX9_latestThrow 45 = .ok (.if_icmp .ne 6, 3) := by decide +kernel
theorem dX9_latestThrow_51 : decode cX9_latestThrow 51 = .ok (.iload 6, 2) := by decide +kernel
theorem dX9_latestThrow_53 : decode cX9_latestThrow 53 = .ok (.aload_n 0, 1) := by decide +kernel
theorem dX9_latestThrow_54 : decode cX9_latestThrow 54 = .ok (.getfield 18, 3) := by decide +kernel
theorem dX9_latestThrow_57 : decode cX9_latestThrow 57 = .ok (.getfield 80, 3) := by decide +kernel
theorem dX9_latestThrow_60 : decode cX9_latestThrow 60 = .ok (.iconst (-1), 1) := by decide +kernel
theorem dX9_latestThrow_61 : decode cX9_latestThrow 61 = .ok (.ixor, 1) := by decide +kernel
theorem dX9_latestThrow_62 : decode cX9_latestThrow 62 = .ok (.iand, 1) := by decide +kernel
theorem dX9_latestThrow_63 : decode cX9_latestThrow 63 = .ok (.istore 4, 2) := by decide +kernel
theorem dX9_latestThrow_65 : decode cX9_latestThrow 65 = .ok (.iinc 5 (-1), 3) := by decide +kernel
theorem dX9_latestThrow_68 : decode cX9_latestThrow 68 = .ok (.goto (-50), 3) := by decide +kernel
theorem dX9_latestThrow_48 : decode cX9_latestThrow 48 = .ok (.iload 5, 2) := by decide +kernel
theorem dX9_latestThrow_50 : decode cX9_latestThrow 50 = .ok (.ireturn, 1) := by decide +kernel
theorem dX11_drifts_0 : decode cX11_drifts 0 = .ok (.aload_n 0, 1) := by decide +kernel
theorem dX11_drifts_1 : decode cX11_drifts 1 = .ok (.getfield 26, 3) := by decide +kernel
theorem dX11_drifts_4 : decode cX11_drifts 4 = .ok (.iload_n 1, 1) := by decide +kernel
theorem dX11_drifts_5 : decode cX11_drifts 5 = .ok (.invokevirtual 116, 3) := by decide +kernel
theorem dX11_drifts_8 : decode cX11_drifts 8 = .ok (.ifCond .eq 11, 3) := by decide +kernel
theorem dX11_drifts_19 : decode cX11_drifts 19 = .ok (.bipush (-2), 2) := by decide +kernel
theorem dX11_drifts_21 : decode cX11_drifts 21 = .ok (.ireturn, 1) := by decide +kernel
theorem dX11_drifts_11 : decode cX11_drifts 11 = .ok (.aload_n 0, 1) := by decide +kernel
theorem dX11_drifts_12 : decode cX11_drifts 12 = .ok (.iload_n 2, 1) := by decide +kernel
theorem dX11_drifts_13 : decode cX11_drifts 13 = .ok (.invokevirtual 219, 3) := by decide +kernel
theorem dX11_drifts_16 : decode cX11_drifts 16 = .ok (.ifCond .ne 6, 3) := by decide +kernel
theorem dX11_drifts_22 : decode cX11_drifts 22 = .ok (.aload_n 0, 1) := by decide +kernel
theorem dX11_drifts_23 : decode cX11_drifts 23 = .ok (.getfield 26, 3) := by decide +kernel
theorem dX11_drifts_26 : decode cX11_drifts 26 = .ok (.iload_n 1, 1) := by decide +kernel
theorem dX11_drifts_27 : decode cX11_drifts 27 = .ok (.iload_n 2, 1) := by decide +kernel
theorem dX11_drifts_28 : decode cX11_drifts 28 = .ok (.invokevirtual 247, 3) := by decide +kernel
theorem dX11_drifts_31 : decode cX11_drifts 31 = .ok (.ireturn, 1) := by decide +kernel
theorem dX11_eddy_0 : decode cX11_eddy 0 = .ok (.aload_n 0, 1) := by decide +kernel
theorem dX11_eddy_1 : decode cX11_eddy 1 = .ok (.getfield 26, 3) := by decide +kernel
theorem dX11_eddy_4 : decode cX11_eddy 4 = .ok (.iload_n 1, 1) := by decide +kernel
theorem dX11_eddy_5 : decode cX11_eddy 5 = .ok (.invokevirtual 116, 3) := by decide +kernel
theorem dX11_eddy_8 : decode cX11_eddy 8 = .ok (.ifCond .eq 14, 3) := by decide +kernel
theorem dX11_eddy_22 : decode cX11_eddy 22 = .ok (.bipush (-2), 2) := by decide +kernel
theorem dX11_eddy_24 : decode cX11_eddy 24 = .ok (.ireturn, 1) := by decide +kernel
theorem dX11_eddy_11 : decode cX11_eddy 11 = .ok (.aload_n 0, 1) := by decide +kernel
theorem dX11_eddy_12 : decode cX11_eddy 12 = .ok (.getfield 69, 3) := by decide +kernel
theorem dX11_eddy_15 : decode cX11_eddy 15 = .ok (.iload_n 1, 1) := by decide +kernel
theorem dX11_eddy_16 : decode cX11_eddy 16 = .ok (.invokevirtual 298, 3) := by decide +kernel
theorem dX11_eddy_19 : decode cX11_eddy 19 = .ok (.goto 5, 3) := by decide +kernel
theorem dX11_stuck_0 : decode cX11_stuck 0 = .ok (.aload_n 0, 1) := by decide +kernel
theorem dX11_stuck_1 : decode cX11_stuck 1 = .ok (.getfield 26, 3) := by decide +kernel
theorem dX11_stuck_4 : decode cX11_stuck 4 = .ok (.invokevirtual 225, 3) := by decide +kernel
theorem dX11_stuck_7 : decode cX11_stuck 7 = .ok (.ifCond .eq 13, 3) := by decide +kernel
theorem dX11_stuck_20 : decode cX11_stuck 20 = .ok (.bipush (-2), 2) := by decide +kernel
theorem dX11_stuck_22 : decode cX11_stuck 22 = .ok (.ireturn, 1) := by decide +kernel
theorem dX11_stuck_10 : decode cX11_stuck 10 = .ok (.aload_n 0, 1) := by decide +kernel
theorem dX11_stuck_11 : decode cX11_stuck 11 = .ok (.getfield 69, 3) := by decide +kernel
theorem dX11_stuck_14 : decode cX11_stuck 14 = .ok (.invokevirtual 301, 3) := by decide +kernel
theorem dX11_stuck_17 : decode cX11_stuck 17 = .ok (.goto 5, 3) := by decide +kernel
theorem dX11_drop_0 : decode cX11_drop 0 = .ok (.aload_n 0, 1) := by decide +kernel
theorem dX11_drop_1 : decode cX11_drop 1 = .ok (.iload_n 1, 1) := by decide +kernel
theorem dX11_drop_2 : decode cX11_drop 2 = .ok (.invokevirtual 264, 3) := by decide +kernel
theorem dX11_drop_5 : decode cX11_drop 5 = .ok (.ifCond .eq 12, 3) := by decide +kernel
theorem dX11_drop_17 : decode cX11_drop 17 = .ok (.bipush (-2), 2) := by decide +kernel
theorem dX11_drop_19 : decode cX11_drop 19 = .ok (.ireturn, 1) := by decide +kernel
theorem dX11_drop_8 : decode cX11_drop 8 = .ok (.iload_n 2, 1) := by decide +kernel
theorem dX11_drop_9 : decode cX11_drop 9 = .ok (.bipush 99, 2) := by decide +kernel
theorem dX11_drop_11 : decode cX11_drop 11 = .ok (.invokestatic 230, 3) := by decide +kernel
theorem dX11_drop_14 : decode cX11_drop 14 = .ok (.ifCond .ne 6, 3) := by decide +kernel
theorem dX11_drop_20 : decode cX11_drop 20 = .ok (.aload_n 0, 1) := by decide +kernel
theorem dX11_drop_21 : decode cX11_drop 21 = .ok (.getfield 69, 3) := by decide +kernel
theorem dX11_drop_24 : decode cX11_drop 24 = .ok (.iload_n 1, 1) := by decide +kernel
theorem dX11_drop_25 : decode cX11_drop 25 = .ok (.iload_n 2, 1) := by decide +kernel
theorem dX11_drop_26 : decode cX11_drop 26 = .ok (.invokevirtual 304, 3) := by decide +kernel
theorem dX11_drop_29 : decode cX11_drop 29 = .ok (.ireturn, 1) := by decide +kernel
theorem dX11_drops_0 : decode cX11_drops 0 = .ok (.aload_n 0, 1) := by decide +kernel
theorem dX11_drops_1 : decode cX11_drops 1 = .ok (.iload_n 1, 1) := by decide +kernel
theorem dX11_drops_2 : decode cX11_drops 2 = .ok (.invokevirtual 264, 3) := by decide +kernel
theorem dX11_drops_5 : decode cX11_drops 5 = .ok (.ifCond .eq 14, 3) := by decide +kernel
theorem dX11_drops_19 : decode cX11_drops 19 = .ok (.bipush (-2), 2) := by decide +kernel
theorem dX11_drops_21 : decode cX11_drops 21 = .ok (.ireturn, 1) := by decide +kernel
theorem dX11_drops_8 : decode cX11_drops 8 = .ok (.aload_n 0, 1) := by decide +kernel
theorem dX11_drops_9 : decode cX11_drops 9 = .ok (.getfield 69, 3) := by decide +kernel
theorem dX11_drops_12 : decode cX11_drops 12 = .ok (.iload_n 1, 1) := by decide +kernel
theorem dX11_drops_13 : decode cX11_drops 13 = .ok (.invokevirtual 307, 3) := by decide +kernel
theorem dX11_drops_16 : decode cX11_drops 16 = .ok (.goto 5, 3) := by decide +kernel
theorem dX11_origins_0 : decode cX11_origins 0 = .ok (.aload_n 0, 1) := by decide +kernel
theorem dX11_origins_1 : decode cX11_origins 1 = .ok (.getfield 26, 3) := by decide +kernel
theorem dX11_origins_4 : decode cX11_origins 4 = .ok (.iload_n 3, 1) := by decide +kernel
theorem dX11_origins_5 : decode cX11_origins 5 = .ok (.invokevirtual 116, 3) := by decide +kernel
theorem dX11_origins_8 : decode cX11_origins 8 = .ok (.ifCond .eq 21, 3) := by decide +kernel
theorem dX11_origins_29 : decode cX11_origins 29 = .ok (.bipush (-2), 2) := by decide +kernel
theorem dX11_origins_31 : decode cX11_origins 31 = .ok (.ireturn, 1) := by decide +kernel
theorem dX11_origins_11 : decode cX11_origins 11 = .ok (.iload_n 2, 1) := by decide +kernel
theorem dX11_origins_12 : decode cX11_origins 12 = .ok (.sipush 400, 3) := by decide +kernel
theorem dX11_origins_15 : decode cX11_origins 15 = .ok (.invokestatic 230, 3) := by decide +kernel
theorem dX11_origins_18 : decode cX11_origins 18 = .ok (.ifCond .eq 11, 3) := by decide +kernel
theorem dX11_origins_21 : decode cX11_origins 21 = .ok (.iload_n 1, 1) := by decide +kernel
theorem dX11_origins_22 : decode cX11_origins 22 = .ok (.iload_n 2, 1) := by decide +kernel
theorem dX11_origins_23 : decode cX11_origins 23 = .ok (.invokestatic 230, 3) := by decide +kernel
theorem dX11_origins_26 : decode cX11_origins 26 = .ok (.ifCond .ne 6, 3) := by decide +kernel
theorem dX11_origins_32 : decode cX11_origins 32 = .ok (.aload_n 0, 1) := by decide +kernel
theorem dX11_origins_33 : decode cX11_origins 33 = .ok (.getfield 69, 3) := by decide +kernel
theorem dX11_origins_36 : decode cX11_origins 36 = .ok (.iload_n 1, 1) := by decide +kernel
theorem dX11_origins_37 : decode cX11_origins 37 = .ok (.iload_n 2, 1) := by decide +kernel
theorem dX11_origins_38 : decode cX11_origins 38 = .ok (.iload_n 3, 1) := by decide +kernel
theorem dX11_origins_39 : decode cX11_origins 39 = .ok (.invokevirtual 310, 3) := by decide +kernel
theorem dX11_origins_42 : decode cX11_origins 42 = .ok (.ireturn, 1) := by decide +kernel
theorem dX11_when_0 : decode cX11_when 0 = .ok (.aload_n 0, 1) := by decide +kernel
theorem dX11_when_1 : decode cX11_when 1 = .ok (.getfield 26, 3) := by decide +kernel
theorem dX11_when_4 : decode cX11_when 4 = .ok (.iload_n 1, 1) := by decide +kernel
theorem dX11_when_5 : decode cX11_when 5 = .ok (.invokevirtual 116, 3) := by decide +kernel
theorem dX11_when_8 : decode cX11_when 8 = .ok (.ifCond .eq 24, 3) := by decide +kernel
theorem dX11_when_32 : decode cX11_when 32 = .ok (.bipush (-2), 2) := by decide +kernel
theorem dX11_when_34 : decode cX11_when 34 = .ok (.ireturn, 1) := by decide +kernel
theorem dX11_when_11 : decode cX11_when 11 = .ok (.aload_n 0, 1) := by decide +kernel
theorem dX11_when_12 : decode cX11_when 12 = .ok (.getfield 26, 3) := by decide +kernel
theorem dX11_when_15 : decode cX11_when 15 = .ok (.iload_n 3, 1) := by decide +kernel
theorem dX11_when_16 : decode cX11_when 16 = .ok (.invokevirtual 116, 3) := by decide +kernel
theorem dX11_when_19 : decode cX11_when 19 = .ok (.ifCond .eq 13, 3) := by decide +kernel
theorem dX11_when_22 : decode cX11_when 22 = .ok (.iload_n 2, 1) := by decide +kernel
theorem dX11_when_23 : decode cX11_when 23 = .ok (.sipush 400, 3) := by decide +kernel
theorem dX11_when_26 : decode cX11_when 26 = .ok (.invokestatic 230, 3) := by decide +kernel
theorem dX11_when_29 : decode cX11_when 29 = .ok (.ifCond .ne 6, 3) := by decide +kernel
theorem dX11_when_35 : decode cX11_when 35 = .ok (.aload_n 0, 1) := by decide +kernel
theorem dX11_when_36 : decode cX11_when 36 = .ok (.getfield 69, 3) := by decide +kernel
theorem dX11_when_39 : decode cX11_when 39 = .ok (.iload_n 1, 1) := by decide +kernel
theorem dX11_when_40 : decode cX11_when 40 = .ok (.iload_n 2, 1) := by decide +kernel
theorem dX11_when_41 : decode cX11_when 41 = .ok (.iload_n 3, 1) := by decide +kernel
theorem dX11_when_42 : decode cX11_when 42 = .ok (.invokevirtual 313, 3) := by decide +kernel
theorem dX11_when_45 : decode cX11_when 45 = .ok (.ireturn, 1) := by decide +kernel
theorem dX4_plan_0 : decode cX4_plan 0 = .ok (.aload_n 0, 1) := by decide +kernel
theorem dX4_plan_1 : decode cX4_plan 1 = .ok (.iload_n 1, 1) := by decide +kernel
theorem dX4_plan_2 : decode cX4_plan 2 = .ok (.putfield 19, 3) := by decide +kernel
theorem dX4_plan_5 : decode cX4_plan 5 = .ok (.aload_n 0, 1) := by decide +kernel
theorem dX4_plan_6 : decode cX4_plan 6 = .ok (.iload_n 2, 1) := by decide +kernel
theorem dX4_plan_7 : decode cX4_plan 7 = .ok (.putfield 23, 3) := by decide +kernel
theorem dX4_plan_10 : decode cX4_plan 10 = .ok (.aload_n 0, 1) := by decide +kernel
theorem dX4_plan_11 : decode cX4_plan 11 = .ok (.getfield 9, 3) := by decide +kernel
theorem dX4_plan_14 : decode cX4_plan 14 = .ok (.iload_n 2, 1) := by decide +kernel
theorem dX4_plan_15 : decode cX4_plan 15 = .ok (.ifCond .eq 7, 3) := by decide +kernel
theorem dX4_plan_22 : decode cX4_plan 22 = .ok (.ldc 27, 2) := by decide +kernel
theorem dX4_plan_24 : decode cX4_plan 24 = .ok (.invokestatic 28, 3) := by decide +kernel
theorem dX4_plan_27 : decode cX4_plan 27 = .ok (.bipush 99, 2) := by decide +kernel
theorem dX4_plan_29 : decode cX4_plan 29 = .ok (.istore 4, 2) := by decide +kernel
theorem dX4_plan_31 : decode cX4_plan 31 = .ok (.iload 4, 2) := by decide +kernel
theorem dX4_plan_33 : decode cX4_plan 33 = .ok (.iload_n 3, 1) := by decide +kernel
theorem dX4_plan_34 : decode cX4_plan 34 = .ok (.if_icmp .lt 79, 3) := by decide +kernel
theorem dX4_plan_37 : decode cX4_plan 37 = .ok (.iconst 0, 1) := by decide +kernel
theorem dX4_plan_38 : decode cX4_plan 38 = .ok (.istore 5, 2) := by decide +kernel
theorem dX4_plan_40 : decode cX4_plan 40 = .ok (.iload 5, 2) := by decide +kernel
theorem dX4_plan_42 : decode cX4_plan 42 = .ok (.aload_n 0, 1) := by decide +kernel
theorem dX4_plan_43 : decode cX4_plan 43 = .ok (.getfield 15, 3) := by decide +kernel
theorem dX4_plan_46 : decode cX4_plan 46 = .ok (.getfield 34, 3) := by decide +kernel
theorem dX4_plan_49 : decode cX4_plan 49 = .ok (.if_icmp .ge 58, 3) := by decide +kernel
theorem dX4_plan_52 : decode cX4_plan 52 = .ok (.aload_n 0, 1) := by decide +kernel
theorem dX4_plan_53 : decode cX4_plan 53 = .ok (.iload 5, 2) := by decide +kernel
theorem dX4_plan_55 : decode cX4_plan 55 = .ok (.iconst 1, 1) := by decide +kernel
theorem dX4_plan_56 : decode cX4_plan 56 = .ok (.iload 4, 2) := by decide +kernel
theorem dX4_plan_58 : decode cX4_plan 58 = .ok (.invokevirtual 39, 3) := by decide +kernel
theorem dX4_plan_61 : decode cX4_plan 61 = .ok (.aload_n 0, 1) := by decide +kernel
theorem dX4_plan_62 : decode cX4_plan 62 = .ok (.iload 5, 2) := by decide +kernel
theorem dX4_plan_64 : decode cX4_plan 64 = .ok (.iconst (-1), 1) := by decide +kernel
theorem dX4_plan_65 : decode cX4_plan 65 = .ok (.iload 4, 2) := by decide +kernel
theorem dX4_plan_67 : decode cX4_plan 67 = .ok (.invokevirtual 39, 3) := by decide +kernel
theorem dX4_plan_70 : decode cX4_plan 70 = .ok (.invokestatic 43, 3) := by decide +kernel
theorem dX4_plan_73 : decode cX4_plan 73 = .ok (.istore 6, 2) := by decide +kernel
theorem dX4_plan_75 : decode cX4_plan 75 = .ok (.aload_n 0, 1) := by decide +kernel
theorem dX4_plan_76 : decode cX4_plan 76 = .ok (.getfield 9, 3) := by decide +kernel
theorem dX4_plan_79 : decode cX4_plan 79 = .ok (.iload 5, 2) := by decide +kernel
theorem dX4_plan_81 : decode cX4_plan 81 = .ok (.iload 4, 2) := by decide +kernel
theorem dX4_plan_83 : decode cX4_plan 83 = .ok (.invokestatic 49, 3) := by decide +kernel
theorem dX4_plan_86 : decode cX4_plan 86 = .ok (.aload_n 0, 1) := by decide +kernel
theorem dX4_plan_87 : decode cX4_plan 87 = .ok (.iload 5, 2) := by decide +kernel
theorem dX4_plan_89 : decode cX4_plan 89 = .ok (.iconst 0, 1) := by decide +kernel
theorem dX4_plan_90 : decode cX4_plan 90 = .ok (.iload 4, 2) := by decide +kernel
theorem dX4_plan_92 : decode cX4_plan 92 = .ok (.invokevirtual 39, 3) := by decide +kernel
theorem dX4_plan_95 : decode cX4_plan 95 = .ok (.iload 6, 2) := by decide +kernel
theorem dX4_plan_97 : decode cX4_plan 97 = .ok (.invokestatic 43, 3) := by decide +kernel
theorem dX4_plan_100 : decode cX4_plan 100 = .ok (.iastore, 1) := by decide +kernel
theorem dX4_plan_101 : decode cX4_plan 101 = .ok (.iinc 5 1, 3) := by decide +kernel
theorem dX4_plan_104 : decode cX4_plan 104 = .ok (.goto (-64), 3) := by decide +kernel
theorem dX4_plan_107 : decode cX4_plan 107 = .ok (.iinc 4 (-1), 3) := by decide +kernel
theorem dX4_plan_110 : decode cX4_plan 110 = .ok (.goto (-79), 3) := by decide +kernel
theorem dX4_plan_113 : decode cX4_plan 113 = .ok (.return_, 1) := by decide +kernel
theorem dX4_plan_18 : decode cX4_plan 18 = .ok (.iconst 0, 1) := by decide +kernel
theorem dX4_plan_19 : decode cX4_plan 19 = .ok (.goto 5, 3) := by decide +kernel
theorem dX4_fewest_0 : decode cX4_fewest 0 = .ok (.aload_n 0, 1) := by decide +kernel
theorem dX4_fewest_1 : decode cX4_fewest 1 = .ok (.iload_n 2, 1) := by decide +kernel
theorem dX4_fewest_2 : decode cX4_fewest 2 = .ok (.iload_n 3, 1) := by decide +kernel
theorem dX4_fewest_3 : decode cX4_fewest 3 = .ok (.aload_n 0, 1) := by decide +kernel
theorem dX4_fewest_4 : decode cX4_fewest 4 = .ok (.getfield 15, 3) := by decide +kernel
theorem dX4_fewest_7 : decode cX4_fewest 7 = .ok (.getfield 65, 3) := by decide +kernel
theorem dX4_fewest_10 : decode cX4_fewest 10 = .ok (.iload_n 1, 1) := by decide +kernel
theorem dX4_fewest_11 : decode cX4_fewest 11 = .ok (.iaload, 1) := by decide +kernel
theorem dX4_fewest_12 : decode cX4_fewest 12 = .ok (.invokevirtual 68, 3) := by decide +kernel
theorem dX4_fewest_15 : decode cX4_fewest 15 = .ok (.aload_n 0, 1) := by decide +kernel
theorem dX4_fewest_16 : decode cX4_fewest 16 = .ok (.iload_n 1, 1) := by decide +kernel
theorem dX4_fewest_17 : decode cX4_fewest 17 = .ok (.invokevirtual 72, 3) := by decide +kernel
theorem dX4_fewest_20 : decode cX4_fewest 20 = .ok (.istore 4, 2) := by decide +kernel
theorem dX4_fewest_22 : decode cX4_fewest 22 = .ok (.iload 4, 2) := by decide +kernel
theorem dX4_fewest_24 : decode cX4_fewest 24 = .ok (.ldc 27, 2) := by decide +kernel
theorem dX4_fewest_26 : decode cX4_fewest 26 = .ok (.if_icmp .lt 7, 3) := by decide +kernel
theorem dX4_fewest_33 : decode cX4_fewest 33 = .ok (.iload 4, 2) := by decide +kernel
theorem dX4_fewest_35 : decode cX4_fewest 35 = .ok (.ireturn, 1) := by decide +kernel
theorem dX4_fewest_29 : decode cX4_fewest 29 = .ok (.iconst (-1), 1) := by decide +kernel
theorem dX4_fewest_30 : decode cX4_fewest 30 = .ok (.goto 5, 3) := by decide +kernel
theorem dX4_fewestOfAll_0 : decode cX4_fewestOfAll 0 = .ok (.aload_n 0, 1) := by decide +kernel
theorem dX4_fewestOfAll_1 : decode cX4_fewestOfAll 1 = .ok (.iload_n 1, 1) := by decide +kernel
theorem dX4_fewestOfAll_2 : decode cX4_fewestOfAll 2 = .ok (.iconst 0, 1) := by decide +kernel
theorem dX4_fewestOfAll_3 : decode cX4_fewestOfAll 3 = .ok (.iconst 0, 1) := by decide +kernel
theorem dX4_fewestOfAll_4 : decode cX4_fewestOfAll 4 = .ok (.invokevirtual 68, 3) := by decide +kernel
theorem dX4_fewestOfAll_7 : decode cX4_fewestOfAll 7 = .ok (.iconst 0, 1) := by decide +kernel
theorem dX4_fewestOfAll_8 : decode cX4_fewestOfAll 8 = .ok (.istore_n 2, 1) := by decide +kernel
theorem dX4_fewestOfAll_9 : decode cX4_fewestOfAll 9 = .ok (.iconst 0, 1) := by decide +kernel
theorem dX4_fewestOfAll_10 : decode cX4_fewestOfAll 10 = .ok (.istore_n 3, 1) := by decide +kernel
theorem dX4_fewestOfAll_11 : decode cX4_fewestOfAll 11 = .ok (.iload_n 3, 1) := by decide +kernel
theorem dX4_fewestOfAll_12 : decode cX4_fewestOfAll 12 = .ok (.aload_n 0, 1) := by decide +kernel
theorem dX4_fewestOfAll_13 : decode cX4_fewestOfAll 13 = .ok (.getfield 15, 3) := by decide +kernel
theorem dX4_fewestOfAll_16 : decode cX4_fewestOfAll 16 = .ok (.getfield 76, 3) := by decide +kernel
theorem dX4_fewestOfAll_19 : decode cX4_fewestOfAll 19 = .ok (.if_icmp .ge 30, 3) := by decide +kernel
theorem dX4_fewestOfAll_49 : decode cX4_fewestOfAll 49 = .ok (.iload_n 2, 1) := by decide +kernel
theorem dX4_fewestOfAll_50 : decode cX4_fewestOfAll 50 = .ok (.ireturn, 1) := by decide +kernel
theorem dX4_fewestOfAll_22 : decode cX4_fewestOfAll 22 = .ok (.aload_n 0, 1) := by decide +kernel
theorem dX4_fewestOfAll_23 : decode cX4_fewestOfAll 23 = .ok (.iload_n 3, 1) := by decide +kernel
theorem dX4_fewestOfAll_24 : decode cX4_fewestOfAll 24 = .ok (.invokevirtual 72, 3) := by decide +kernel
theorem dX4_fewestOfAll_27 : decode cX4_fewestOfAll 27 = .ok (.istore 4, 2) := by decide +kernel
theorem dX4_fewestOfAll_29 : decode cX4_fewestOfAll 29 = .ok (.iload 4, 2) := by decide +kernel
theorem dX4_fewestOfAll_31 : decode cX4_fewestOfAll 31 = .ok (.ldc 27, 2) := by decide +kernel
theorem dX4_fewestOfAll_33 : decode cX4_fewestOfAll 33 = .ok (.if_icmp .lt 5, 3) := by decide +kernel
theorem dX4_fewestOfAll_38 : decode cX4_fewestOfAll 38 = .ok (.iload_n 2, 1) := by decide +kernel
theorem dX4_fewestOfAll_39 : decode cX4_fewestOfAll 39 = .ok (.iload 4, 2) := by decide +kernel
theorem dX4_fewestOfAll_41 : decode cX4_fewestOfAll 41 = .ok (.iadd, 1) := by decide +kernel
theorem dX4_fewestOfAll_42 : decode cX4_fewestOfAll 42 = .ok (.istore_n 2, 1) := by decide +kernel
theorem dX4_fewestOfAll_43 : decode cX4_fewestOfAll 43 = .ok (.iinc 3 1, 3) := by decide +kernel
theorem dX4_fewestOfAll_46 : decode cX4_fewestOfAll 46 = .ok (.goto (-35), 3) := by decide +kernel
theorem dX4_fewestOfAll_36 : decode cX4_fewestOfAll 36 = .ok (.iconst (-1), 1) := by decide +kernel
theorem dX4_fewestOfAll_37 : decode cX4_fewestOfAll 37 = .ok (.ireturn, 1) := by decide +kernel
theorem dX4_markOf_0 : decode cX4_markOf 0 = .ok (.aload_n 0, 1) := by decide +kernel
theorem dX4_markOf_1 : decode cX4_markOf 1 = .ok (.iload_n 2, 1) := by decide +kernel
theorem dX4_markOf_2 : decode cX4_markOf 2 = .ok (.iconst 0, 1) := by decide +kernel
theorem dX4_markOf_3 : decode cX4_markOf 3 = .ok (.aload_n 0, 1) := by decide +kernel
theorem dX4_markOf_4 : decode cX4_markOf 4 = .ok (.getfield 15, 3) := by decide +kernel
theorem dX4_markOf_7 : decode cX4_markOf 7 = .ok (.getfield 65, 3) := by decide +kernel
theorem dX4_markOf_10 : decode cX4_markOf 10 = .ok (.iload_n 1, 1) := by decide +kernel
theorem dX4_markOf_11 : decode cX4_markOf 11 = .ok (.iaload, 1) := by decide +kernel
theorem dX4_markOf_12 : decode cX4_markOf 12 = .ok (.invokevirtual 68, 3) := by decide +kernel
theorem dX4_markOf_15 : decode cX4_markOf 15 = .ok (.aload_n 0, 1) := by decide +kernel
theorem dX4_markOf_16 : decode cX4_markOf 16 = .ok (.iload_n 1, 1) := by decide +kernel
theorem dX4_markOf_17 : decode cX4_markOf 17 = .ok (.invokevirtual 72, 3) := by decide +kernel
theorem dX4_markOf_20 : decode cX4_markOf 20 = .ok (.istore 4, 2) := by decide +kernel
theorem dX4_markOf_22 : decode cX4_markOf 22 = .ok (.iload 4, 2) := by decide +kernel
theorem dX4_markOf_24 : decode cX4_markOf 24 = .ok (.ldc 27, 2) := by decide +kernel
theorem dX4_markOf_26 : decode cX4_markOf 26 = .ok (.if_icmp .ge 13, 3) := by decide +kernel
theorem dX4_markOf_39 : decode cX4_markOf 39 = .ok (.iconst (-1), 1) := by decide +kernel
theorem dX4_markOf_40 : decode cX4_markOf 40 = .ok (.ireturn, 1) := by decide +kernel
theorem dX4_markOf_29 : decode cX4_markOf 29 = .ok (.iload_n 3, 1) := by decide +kernel
theorem dX4_markOf_30 : decode cX4_markOf 30 = .ok (.ifCond .lt 9, 3) := by decide +kernel
theorem dX4_markOf_33 : decode cX4_markOf 33 = .ok (.iload_n 3, 1) := by decide +kernel
theorem dX4_markOf_34 : decode cX4_markOf 34 = .ok (.iload 4, 2) := by decide +kernel
theorem dX4_markOf_36 : decode cX4_markOf 36 = .ok (.if_icmp .lt 5, 3) := by decide +kernel
theorem dX4_markOf_41 : decode cX4_markOf 41 = .ok (.aload_n 0, 1) := by decide +kernel
theorem dX4_markOf_42 : decode cX4_markOf 42 = .ok (.getfield 15, 3) := by decide +kernel
theorem dX4_markOf_45 : decode cX4_markOf 45 = .ok (.getfield 62, 3) := by decide +kernel
theorem dX4_markOf_48 : decode cX4_markOf 48 = .ok (.iload_n 1, 1) := by decide +kernel
theorem dX4_markOf_49 : decode cX4_markOf 49 = .ok (.iaload, 1) := by decide +kernel
theorem dX4_markOf_50 : decode cX4_markOf 50 = .ok (.istore 5, 2) := by decide +kernel
theorem dX4_markOf_52 : decode cX4_markOf 52 = .ok (.iconst 0, 1) := by decide +kernel
theorem dX4_markOf_53 : decode cX4_markOf 53 = .ok (.istore 6, 2) := by decide +kernel
theorem dX4_markOf_55 : decode cX4_markOf 55 = .ok (.aload_n 0, 1) := by decide +kernel
theorem dX4_markOf_56 : decode cX4_markOf 56 = .ok (.getfield 15, 3) := by decide +kernel
theorem dX4_markOf_59 : decode cX4_markOf 59 = .ok (.getfield 65, 3) := by decide +kernel
theorem dX4_markOf_62 : decode cX4_markOf 62 = .ok (.iload_n 1, 1) := by decide +kernel
theorem dX4_markOf_63 : decode cX4_markOf 63 = .ok (.iaload, 1) := by decide +kernel
theorem dX4_markOf_64 : decode cX4_markOf 64 = .ok (.istore 7, 2) := by decide +kernel
theorem dX4_markOf_66 : decode cX4_markOf 66 = .ok (.iload 7, 2) := by decide +kernel
theorem dX4_markOf_68 : decode cX4_markOf 68 = .ok (.bipush 100, 2) := by decide +kernel
theorem dX4_markOf_70 : decode cX4_markOf 70 = .ok (.if_icmp .ge 69, 3) := by decide +kernel
theorem dX4_markOf_73 : decode cX4_markOf 73 = .ok (.aload_n 0, 1) := by decide +kernel
theorem dX4_markOf_74 : decode cX4_markOf 74 = .ok (.iload 5, 2) := by decide +kernel
theorem dX4_markOf_76 : decode cX4_markOf 76 = .ok (.iload 7, 2) := by decide +kernel
theorem dX4_markOf_78 : decode cX4_markOf 78 = .ok (.invokevirtual 79, 3) := by decide +kernel
theorem dX4_markOf_81 : decode cX4_markOf 81 = .ok (.istore 8, 2) := by decide +kernel
theorem dX4_markOf_83 : decode cX4_markOf 83 = .ok (.iload 8, 2) := by decide +kernel
theorem dX4_markOf_85 : decode cX4_markOf 85 = .ok (.ifCond .eq 25, 3) := by decide +kernel
theorem dX4_markOf_110 : decode cX4_markOf 110 = .ok (.iload 8, 2) := by decide +kernel
theorem dX4_markOf_112 : decode cX4_markOf 112 = .ok (.ifCond .eq 6, 3) := by decide +kernel
theorem dX4_markOf_118 : decode cX4_markOf 118 = .ok (.aload_n 0, 1) := by decide +kernel
theorem dX4_markOf_119 : decode cX4_markOf 119 = .ok (.getfield 15, 3) := by decide +kernel
theorem dX4_markOf_122 : decode cX4_markOf 122 = .ok (.iload 5, 2) := by decide +kernel
theorem dX4_markOf_124 : decode cX4_markOf 124 = .ok (.iload 8, 2) := by decide +kernel
theorem dX4_markOf_126 : decode cX4_markOf 126 = .ok (.iload 7, 2) := by decide +kernel
theorem dX4_markOf_128 : decode cX4_markOf 128 = .ok (.invokevirtual 52, 3) := by decide +kernel
theorem dX4_markOf_131 : decode cX4_markOf 131 = .ok (.istore 5, 2) := by decide +kernel
theorem dX4_markOf_133 : decode cX4_markOf 133 = .ok (.iinc 7 1, 3) := by decide +kernel
theorem dX4_markOf_136 : decode cX4_markOf 136 = .ok (.goto (-70), 3) := by decide +kernel
theorem dX4_markOf_88 : decode cX4_markOf 88 = .ok (.iload 6, 2) := by decide +kernel
theorem dX4_markOf_90 : decode cX4_markOf 90 = .ok (.iload_n 3, 1) := by decide +kernel
theorem dX4_markOf_91 : decode cX4_markOf 91 = .ok (.if_icmp .ne 19, 3) := by decide +kernel
theorem dX4_markOf_115 : decode cX4_markOf 115 = .ok (.iinc 6 1, 3) := by decide +kernel
theorem dX4_markOf_94 : decode cX4_markOf 94 = .ok (.iconst 2, 1) := by decide +kernel
theorem dX4_markOf_95 : decode cX4_markOf 95 = .ok (.iload 7, 2) := by decide +kernel
theorem dX4_markOf_97 : decode cX4_markOf 97 = .ok (.imul, 1) := by decide +kernel
theorem dX4_markOf_98 : decode cX4_markOf 98 = .ok (.iload 8, 2) := by decide +kernel
theorem dX4_markOf_100 : decode cX4_markOf 100 = .ok (.ifCond .ge 7, 3) := by decide +kernel
theorem dX4_markOf_107 : decode cX4_markOf 107 = .ok (.iconst 0, 1) := by decide +kernel
theorem dX4_markOf_108 : decode cX4_markOf 108 = .ok (.iadd, 1) := by decide +kernel
theorem dX4_markOf_109 : decode cX4_markOf 109 = .ok (.ireturn, 1) := by decide +kernel
theorem dX4_markOf_103 : decode cX4_markOf 103 = .ok (.iconst 1, 1) := by decide +kernel
theorem dX4_markOf_104 : decode cX4_markOf 104 = .ok (.goto 4, 3) := by decide +kernel
theorem dX4_markOf_139 : decode cX4_markOf 139 = .ok (.iconst (-1), 1) := by decide +kernel
theorem dX4_markOf_140 : decode cX4_markOf 140 = .ok (.ireturn, 1) := by decide +kernel
theorem dX4_firstHour_0 : decode cX4_firstHour 0 = .ok (.iconst 1, 1) := by decide +kernel
theorem dX4_firstHour_1 : decode cX4_firstHour 1 = .ok (.aload_n 0, 1) := by decide +kernel
theorem dX4_firstHour_2 : decode cX4_firstHour 2 = .ok (.getfield 15, 3) := by decide +kernel
theorem dX4_firstHour_5 : decode cX4_firstHour 5 = .ok (.getfield 62, 3) := by decide +kernel
theorem dX4_firstHour_8 : decode cX4_firstHour 8 = .ok (.iload_n 1, 1) := by decide +kernel
theorem dX4_firstHour_9 : decode cX4_firstHour 9 = .ok (.iaload, 1) := by decide +kernel
theorem dX4_firstHour_10 : decode cX4_firstHour 10 = .ok (.ishl, 1) := by decide +kernel
theorem dX4_firstHour_11 : decode cX4_firstHour 11 = .ok (.istore_n 3, 1) := by decide +kernel
theorem dX4_firstHour_12 : decode cX4_firstHour 12 = .ok (.aload_n 0, 1) := by decide +kernel
theorem dX4_firstHour_13 : decode cX4_firstHour 13 = .ok (.getfield 15, 3) := by decide +kernel
theorem dX4_firstHour_16 : decode cX4_firstHour 16 = .ok (.getfield 65, 3) := by decide +kernel
theorem dX4_firstHour_19 : decode cX4_firstHour 19 = .ok (.iload_n 1, 1) := by decide +kernel
theorem dX4_firstHour_20 : decode cX4_firstHour 20 = .ok (.iaload, 1) := by decide +kernel
theorem dX4_firstHour_21 : decode cX4_firstHour 21 = .ok (.istore 4, 2) := by decide +kernel
theorem dX4_firstHour_23 : decode cX4_firstHour 23 = .ok (.iload 4, 2) := by decide +kernel
theorem dX4_firstHour_25 : decode cX4_firstHour 25 = .ok (.bipush 100, 2) := by decide +kernel
theorem dX4_firstHour_27 : decode cX4_firstHour 27 = .ok (.if_icmp .ge 58, 3) := by decide +kernel
theorem dX4_firstHour_30 : decode cX4_firstHour 30 = .ok (.aload_n 0, 1) := by decide +kernel
theorem dX4_firstHour_31 : decode cX4_firstHour 31 = .ok (.iload_n 3, 1) := by decide +kernel
theorem dX4_firstHour_32 : decode cX4_firstHour 32 = .ok (.iload 4, 2) := by decide +kernel
theorem dX4_firstHour_34 : decode cX4_firstHour 34 = .ok (.invokevirtual 82, 3) := by decide +kernel
theorem dX4_firstHour_37 : decode cX4_firstHour 37 = .ok (.istore 5, 2) := by decide +kernel
theorem dX4_firstHour_39 : decode cX4_firstHour 39 = .ok (.aload_n 0, 1) := by decide +kernel
theorem dX4_firstHour_40 : decode cX4_firstHour 40 = .ok (.iload_n 2, 1) := by decide +kernel
theorem dX4_firstHour_41 : decode cX4_firstHour 41 = .ok (.iload 5, 2) := by decide +kernel
theorem dX4_firstHour_43 : decode cX4_firstHour 43 = .ok (.aload_n 0, 1) := by decide +kernel
theorem dX4_firstHour_44 : decode cX4_firstHour 44 = .ok (.getfield 15, 3) := by decide +kernel
theorem dX4_firstHour_47 : decode cX4_firstHour 47 = .ok (.getfield 85, 3) := by decide +kernel
theorem dX4_firstHour_50 : decode cX4_firstHour 50 = .ok (.iand, 1) := by decide +kernel
theorem dX4_firstHour_51 : decode cX4_firstHour 51 = .ok (.iload 4, 2) := by decide +kernel
theorem dX4_firstHour_53 : decode cX4_firstHour 53 = .ok (.iconst 1, 1) := by decide +kernel
theorem dX4_firstHour_54 : decode cX4_firstHour 54 = .ok (.iadd, 1) := by decide +kernel
theorem dX4_firstHour_55 : decode cX4_firstHour 55 = .ok (.invokevirtual 88, 3) := by decide +kernel
theorem dX4_firstHour_58 : decode cX4_firstHour 58 = .ok (.ifCond .eq 8, 3) := by decide +kernel
theorem dX4_firstHour_66 : decode cX4_firstHour 66 = .ok (.iload 5, 2) := by decide +kernel
theorem dX4_firstHour_68 : decode cX4_firstHour 68 = .ok (.aload_n 0, 1) := by decide +kernel
theorem dX4_firstHour_69 : decode cX4_firstHour 69 = .ok (.getfield 15, 3) := by decide +kernel
theorem dX4_firstHour_72 : decode cX4_firstHour 72 = .ok (.getfield 85, 3) := by decide +kernel
theorem dX4_firstHour_75 : decode cX4_firstHour 75 = .ok (.iconst (-1), 1) := by decide +kernel
theorem dX4_firstHour_76 : decode cX4_firstHour 76 = .ok (.ixor, 1) := by decide +kernel
theorem dX4_firstHour_77 : decode cX4_firstHour 77 = .ok (.iand, 1) := by decide +kernel
theorem dX4_firstHour_78 : decode cX4_firstHour 78 = .ok (.istore_n 3, 1) := by decide +kernel
theorem dX4_firstHour_79 : decode cX4_firstHour 79 = .ok (.iinc 4 1, 3) := by decide +kernel
theorem dX4_firstHour_82 : decode cX4_firstHour 82 = .ok (.goto (-59), 3) := by decide +kernel
theorem dX4_firstHour_61 : decode cX4_firstHour 61 = .ok (.iload 4, 2) := by decide +kernel
theorem dX4_firstHour_63 : decode cX4_firstHour 63 = .ok (.iconst 1, 1) := by decide +kernel
theorem dX4_firstHour_64 : decode cX4_firstHour 64 = .ok (.iadd, 1) := by decide +kernel
theorem dX4_firstHour_65 : decode cX4_firstHour 65 = .ok (.ireturn, 1) := by decide +kernel
theorem dX4_firstHour_85 : decode cX4_firstHour 85 = .ok (.iconst (-1), 1) := by decide +kernel
theorem dX4_firstHour_86 : decode cX4_firstHour 86 = .ok (.ireturn, 1) := by decide +kernel
theorem dX11_pushes_0 : decode cX11_pushes 0 = .ok (.aload_n 0, 1) := by decide +kernel
theorem dX11_pushes_1 : decode cX11_pushes 1 = .ok (.iload_n 1, 1) := by decide +kernel
theorem dX11_pushes_2 : decode cX11_pushes 2 = .ok (.iload_n 2, 1) := by decide +kernel
theorem dX11_pushes_3 : decode cX11_pushes 3 = .ok (.invokevirtual 282, 3) := by decide +kernel
theorem dX11_pushes_6 : decode cX11_pushes 6 = .ok (.ifCond .eq 16, 3) := by decide +kernel
theorem dX11_pushes_22 : decode cX11_pushes 22 = .ok (.bipush (-2), 2) := by decide +kernel
theorem dX11_pushes_24 : decode cX11_pushes 24 = .ok (.ireturn, 1) := by decide +kernel
theorem dX11_pushes_9 : decode cX11_pushes 9 = .ok (.aload_n 0, 1) := by decide +kernel
theorem dX11_pushes_10 : decode cX11_pushes 10 = .ok (.getfield 62, 3) := by decide +kernel
theorem dX11_pushes_13 : decode cX11_pushes 13 = .ok (.iload_n 1, 1) := by decide +kernel
theorem dX11_pushes_14 : decode cX11_pushes 14 = .ok (.iload_n 2, 1) := by decide +kernel
theorem dX11_pushes_15 : decode cX11_pushes 15 = .ok (.iconst 0, 1) := by decide +kernel
theorem dX11_pushes_16 : decode cX11_pushes 16 = .ok (.invokevirtual 285, 3) := by decide +kernel
theorem dX11_pushes_19 : decode cX11_pushes 19 = .ok (.goto 5, 3) := by decide +kernel
theorem dX11_push_0 : decode cX11_push 0 = .ok (.aload_n 0, 1) := by decide +kernel
theorem dX11_push_1 : decode cX11_push 1 = .ok (.iload_n 1, 1) := by decide +kernel
theorem dX11_push_2 : decode cX11_push 2 = .ok (.iload_n 2, 1) := by decide +kernel
theorem dX11_push_3 : decode cX11_push 3 = .ok (.invokevirtual 282, 3) := by decide +kernel
theorem dX11_push_6 : decode cX11_push 6 = .ok (.ifCond .ne 6, 3) := by decide +kernel
theorem dX11_push_12 : decode cX11_push 12 = .ok (.aload_n 0, 1) := by decide +kernel
theorem dX11_push_13 : decode cX11_push 13 = .ok (.getfield 62, 3) := by decide +kernel
theorem dX11_push_16 : decode cX11_push 16 = .ok (.iload_n 1, 1) := by decide +kernel
theorem dX11_push_17 : decode cX11_push 17 = .ok (.iload_n 2, 1) := by decide +kernel
theorem dX11_push_18 : decode cX11_push 18 = .ok (.iload_n 3, 1) := by decide +kernel
theorem dX11_push_19 : decode cX11_push 19 = .ok (.invokevirtual 289, 3) := by decide +kernel
theorem dX11_push_22 : decode cX11_push 22 = .ok (.istore 4, 2) := by decide +kernel
theorem dX11_push_24 : decode cX11_push 24 = .ok (.iload 4, 2) := by decide +kernel
theorem dX11_push_26 : decode cX11_push 26 = .ok (.iconst (-1), 1) := by decide +kernel
theorem dX11_push_27 : decode cX11_push 27 = .ok (.if_icmp .ne 7, 3) := by decide +kernel
theorem dX11_push_34 : decode cX11_push 34 = .ok (.iload 4, 2) := by decide +kernel
theorem dX11_push_36 : decode cX11_push 36 = .ok (.iconst 2, 1) := by decide +kernel
theorem dX11_push_37 : decode cX11_push 37 = .ok (.idiv, 1) := by decide +kernel
theorem dX11_push_38 : decode cX11_push 38 = .ok (.ireturn, 1) := by decide +kernel
theorem dX11_push_30 : decode cX11_push 30 = .ok (.iconst (-1), 1) := by decide +kernel
theorem dX11_push_31 : decode cX11_push 31 = .ok (.goto 7, 3) := by decide +kernel
theorem dX11_push_9 : decode cX11_push 9 = .ok (.bipush (-2), 2) := by decide +kernel
theorem dX11_push_11 : decode cX11_push 11 = .ok (.ireturn, 1) := by decide +kernel
theorem dX11_way_0 : decode cX11_way 0 = .ok (.aload_n 0, 1) := by decide +kernel
theorem dX11_way_1 : decode cX11_way 1 = .ok (.iload_n 1, 1) := by decide +kernel
theorem dX11_way_2 : decode cX11_way 2 = .ok (.iload_n 2, 1) := by decide +kernel
theorem dX11_way_3 : decode cX11_way 3 = .ok (.invokevirtual 282, 3) := by decide +kernel
theorem dX11_way_6 : decode cX11_way 6 = .ok (.ifCond .ne 6, 3) := by decide +kernel
theorem dX11_way_12 : decode cX11_way 12 = .ok (.aload_n 0, 1) := by decide +kernel
theorem dX11_way_13 : decode cX11_way 13 = .ok (.getfield 62, 3) := by decide +kernel
theorem dX11_way_16 : decode cX11_way 16 = .ok (.iload_n 1, 1) := by decide +kernel
theorem dX11_way_17 : decode cX11_way 17 = .ok (.iload_n 2, 1) := by decide +kernel
theorem dX11_way_18 : decode cX11_way 18 = .ok (.iload_n 3, 1) := by decide +kernel
theorem dX11_way_19 : decode cX11_way 19 = .ok (.invokevirtual 289, 3) := by decide +kernel
theorem dX11_way_22 : decode cX11_way 22 = .ok (.istore 4, 2) := by decide +kernel
theorem dX11_way_24 : decode cX11_way 24 = .ok (.iload 4, 2) := by decide +kernel
theorem dX11_way_26 : decode cX11_way 26 = .ok (.iconst (-1), 1) := by decide +kernel
theorem dX11_way_27 : decode cX11_way 27 = .ok (.if_icmp .ne 7, 3) := by decide +kernel
theorem dX11_way_34 : decode cX11_way 34 = .ok (.iload 4, 2) := by decide +kernel
theorem dX11_way_36 : decode cX11_way 36 = .ok (.iconst 2, 1) := by decide +kernel
theorem dX11_way_37 : decode cX11_way 37 = .ok (.irem, 1) := by decide +kernel
theorem dX11_way_38 : decode cX11_way 38 = .ok (.ireturn, 1) := by decide +kernel
theorem dX11_way_30 : decode cX11_way 30 = .ok (.iconst (-1), 1) := by decide +kernel
theorem dX11_way_31 : decode cX11_way 31 = .ok (.goto 7, 3) := by decide +kernel
theorem dX11_way_9 : decode cX11_way 9 = .ok (.bipush (-2), 2) := by decide +kernel
theorem dX11_way_11 : decode cX11_way 11 = .ok (.ireturn, 1) := by decide +kernel
theorem dX11_soonest_0 : decode cX11_soonest 0 = .ok (.aload_n 0, 1) := by decide +kernel
theorem dX11_soonest_1 : decode cX11_soonest 1 = .ok (.iload_n 1, 1) := by decide +kernel
theorem dX11_soonest_2 : decode cX11_soonest 2 = .ok (.iload_n 2, 1) := by decide +kernel
theorem dX11_soonest_3 : decode cX11_soonest 3 = .ok (.invokevirtual 282, 3) := by decide +kernel
theorem dX11_soonest_6 : decode cX11_soonest 6 = .ok (.ifCond .eq 15, 3) := by decide +kernel
theorem dX11_soonest_21 : decode cX11_soonest 21 = .ok (.bipush (-2), 2) := by decide +kernel
theorem dX11_soonest_23 : decode cX11_soonest 23 = .ok (.ireturn, 1) := by decide +kernel
theorem dX11_soonest_9 : decode cX11_soonest 9 = .ok (.aload_n 0, 1) := by decide +kernel
theorem dX11_soonest_10 : decode cX11_soonest 10 = .ok (.getfield 62, 3) := by decide +kernel
theorem dX11_soonest_13 : decode cX11_soonest 13 = .ok (.iload_n 1, 1) := by decide +kernel
theorem dX11_soonest_14 : decode cX11_soonest 14 = .ok (.iload_n 2, 1) := by decide +kernel
theorem dX11_soonest_15 : decode cX11_soonest 15 = .ok (.invokevirtual 292, 3) := by decide +kernel
theorem dX11_soonest_18 : decode cX11_soonest 18 = .ok (.goto 5, 3) := by decide +kernel
theorem dX11_ward_0 : decode cX11_ward 0 = .ok (.aload_n 0, 1) := by decide +kernel
theorem dX11_ward_1 : decode cX11_ward 1 = .ok (.iload_n 1, 1) := by decide +kernel
theorem dX11_ward_2 : decode cX11_ward 2 = .ok (.iload_n 2, 1) := by decide +kernel
theorem dX11_ward_3 : decode cX11_ward 3 = .ok (.invokevirtual 282, 3) := by decide +kernel
theorem dX11_ward_6 : decode cX11_ward 6 = .ok (.ifCond .eq 16, 3) := by decide +kernel
theorem dX11_ward_22 : decode cX11_ward 22 = .ok (.bipush (-2), 2) := by decide +kernel
theorem dX11_ward_24 : decode cX11_ward 24 = .ok (.ireturn, 1) := by decide +kernel
theorem dX11_ward_9 : decode cX11_ward 9 = .ok (.aload_n 0, 1) := by decide +kernel
theorem dX11_ward_10 : decode cX11_ward 10 = .ok (.getfield 62, 3) := by decide +kernel
theorem dX11_ward_13 : decode cX11_ward 13 = .ok (.iload_n 1, 1) := by decide +kernel
theorem dX11_ward_14 : decode cX11_ward 14 = .ok (.iload_n 2, 1) := by decide +kernel
theorem dX11_ward_15 : decode cX11_ward 15 = .ok (.iconst 1, 1) := by decide +kernel
theorem dX11_ward_16 : decode cX11_ward 16 = .ok (.invokevirtual 285, 3) := by decide +kernel
theorem dX11_ward_19 : decode cX11_ward 19 = .ok (.goto 5, 3) := by decide +kernel
theorem dX11_all_0 : decode cX11_all 0 = .ok (.aload_n 0, 1) := by decide +kernel
theorem dX11_all_1 : decode cX11_all 1 = .ok (.iload_n 1, 1) := by decide +kernel
theorem dX11_all_2 : decode cX11_all 2 = .ok (.invokevirtual 264, 3) := by decide +kernel
theorem dX11_all_5 : decode cX11_all 5 = .ok (.ifCond .eq 14, 3) := by decide +kernel
theorem dX11_all_19 : decode cX11_all 19 = .ok (.bipush (-2), 2) := by decide +kernel
theorem dX11_all_21 : decode cX11_all 21 = .ok (.ireturn, 1) := by decide +kernel
theorem dX11_all_8 : decode cX11_all 8 = .ok (.aload_n 0, 1) := by decide +kernel
theorem dX11_all_9 : decode cX11_all 9 = .ok (.getfield 62, 3) := by decide +kernel
theorem dX11_all_12 : decode cX11_all 12 = .ok (.iload_n 1, 1) := by decide +kernel
theorem dX11_all_13 : decode cX11_all 13 = .ok (.invokevirtual 295, 3) := by decide +kernel
theorem dX11_all_16 : decode cX11_all 16 = .ok (.goto 5, 3) := by decide +kernel
theorem dX2_layWays_0 : decode cX2_layWays 0 = .ok (.aload_n 0, 1) := by decide +kernel
theorem dX2_layWays_1 : decode cX2_layWays 1 = .ok (.getfield 18, 3) := by decide +kernel
theorem dX2_layWays_4 : decode cX2_layWays 4 = .ok (.iconst 0, 1) := by decide +kernel
theorem dX2_layWays_5 : decode cX2_layWays 5 = .ok (.invokestatic 56, 3) := by decide +kernel
theorem dX2_layWays_8 : decode cX2_layWays 8 = .ok (.iconst 0, 1) := by decide +kernel
theorem dX2_layWays_9 : decode cX2_layWays 9 = .ok (.istore_n 2, 1) := by decide +kernel
theorem dX2_layWays_10 : decode cX2_layWays 10 = .ok (.iload_n 2, 1) := by decide +kernel
theorem dX2_layWays_11 : decode cX2_layWays 11 = .ok (.aload_n 0, 1) := by decide +kernel
theorem dX2_layWays_12 : decode cX2_layWays 12 = .ok (.getfield 31, 3) := by decide +kernel
theorem dX2_layWays_15 : decode cX2_layWays 15 = .ok (.getfield 62, 3) := by decide +kernel
theorem dX2_layWays_18 : decode cX2_layWays 18 = .ok (.getfield 66, 3) := by decide +kernel
theorem dX2_layWays_21 : decode cX2_layWays 21 = .ok (.if_icmp .ge 54, 3) := by decide +kernel
theorem dX2_layWays_75 : decode cX2_layWays 75 = .ok (.return_, 1) := by decide +kernel
theorem dX2_layWays_24 : decode cX2_layWays 24 = .ok (.aload_n 0, 1) := by decide +kernel
theorem dX2_layWays_25 : decode cX2_layWays 25 = .ok (.getfield 31, 3) := by decide +kernel
theorem dX2_layWays_28 : decode cX2_layWays 28 = .ok (.getfield 62, 3) := by decide +kernel
theorem dX2_layWays_31 : decode cX2_layWays 31 = .ok (.iload_n 2, 1) := by decide +kernel
theorem dX2_layWays_32 : decode cX2_layWays 32 = .ok (.iload_n 1, 1) := by decide +kernel
theorem dX2_layWays_33 : decode cX2_layWays 33 = .ok (.invokevirtual 71, 3) := by decide +kernel
theorem dX2_layWays_36 : decode cX2_layWays 36 = .ok (.ifCond .eq 33, 3) := by decide +kernel
theorem dX2_layWays_69 : decode cX2_layWays 69 = .ok (.iinc 2 1, 3) := by decide +kernel
theorem dX2_layWays_72 : decode cX2_layWays 72 = .ok (.goto (-62), 3) := by decide +kernel
theorem dX2_layWays_39 : decode cX2_layWays 39 = .ok (.aload_n 0, 1) := by decide +kernel
theorem dX2_layWays_40 : decode cX2_layWays 40 = .ok (.getfield 18, 3) := by decide +kernel
theorem dX2_layWays_43 : decode cX2_layWays 43 = .ok (.aload_n 0, 1) := by decide +kernel
theorem dX2_layWays_44 : decode cX2_layWays 44 = .ok (.getfield 31, 3) := by decide +kernel
theorem dX2_layWays_47 : decode cX2_layWays 47 = .ok (.getfield 62, 3) := by decide +kernel
theorem dX2_layWays_50 : decode cX2_layWays 50 = .ok (.getfield 75, 3) := by decide +kernel
theorem dX2_layWays_53 : decode cX2_layWays 53 = .ok (.iload_n 2, 1) := by decide +kernel
theorem dX2_layWays_54 : decode cX2_layWays 54 = .ok (.iaload, 1) := by decide +kernel
theorem dX2_layWays_55 : decode cX2_layWays 55 = .ok (.aload_n 0, 1) := by decide +kernel
theorem dX2_layWays_56 : decode cX2_layWays 56 = .ok (.getfield 31, 3) := by decide +kernel
theorem dX2_layWays_59 : decode cX2_layWays 59 = .ok (.getfield 62, 3) := by decide +kernel
theorem dX2_layWays_62 : decode cX2_layWays 62 = .ok (.getfield 78, 3) := by decide +kernel
theorem dX2_layWays_65 : decode cX2_layWays 65 = .ok (.iload_n 2, 1) := by decide +kernel
theorem dX2_layWays_66 : decode cX2_layWays 66 = .ok (.iaload, 1) := by decide +kernel
theorem dX2_layWays_67 : decode cX2_layWays 67 = .ok (.i2b, 1) := by decide +kernel
theorem dX2_layWays_68 : decode cX2_layWays 68 = .ok (.bastore, 1) := by decide +kernel
theorem dX2_run_0 : decode cX2_run 0 = .ok (.aload_n 0, 1) := by decide +kernel
theorem dX2_run_1 : decode cX2_run 1 = .ok (.iload_n 1, 1) := by decide +kernel
theorem dX2_run_2 : decode cX2_run 2 = .ok (.invokevirtual 80, 3) := by decide +kernel
theorem dX2_run_5 : decode cX2_run 5 = .ok (.iload_n 3, 1) := by decide +kernel
theorem dX2_run_6 : decode cX2_run 6 = .ok (.i2l, 1) := by decide +kernel
theorem dX2_run_7 : decode cX2_run 7 = .ok (.lstore 4, 2) := by decide +kernel
theorem dX2_run_9 : decode cX2_run 9 = .ok (.aload_n 0, 1) := by decide +kernel
theorem dX2_run_10 : decode cX2_run 10 = .ok (.iconst (-1), 1) := by decide +kernel
theorem dX2_run_11 : decode cX2_run 11 = .ok (.putfield 49, 3) := by decide +kernel
theorem dX2_run_14 : decode cX2_run 14 = .ok (.aload_n 0, 1) := by decide +kernel
theorem dX2_run_15 : decode cX2_run 15 = .ok (.aload_n 0, 1) := by decide +kernel
theorem dX2_run_16 : decode cX2_run 16 = .ok (.getfield 31, 3) := by decide +kernel
theorem dX2_run_19 : decode cX2_run 19 = .ok (.getfield 83, 3) := by decide +kernel
theorem dX2_run_22 : decode cX2_run 22 = .ok (.iload_n 1, 1) := by decide +kernel
theorem dX2_run_23 : decode cX2_run 23 = .ok (.iaload, 1) := by decide +kernel
theorem dX2_run_24 : decode cX2_run 24 = .ok (.putfield 86, 3) := by decide +kernel
theorem dX2_run_27 : decode cX2_run 27 = .ok (.aload_n 0, 1) := by decide +kernel
theorem dX2_run_28 : decode cX2_run 28 = .ok (.getfield 31, 3) := by decide +kernel
theorem dX2_run_31 : decode cX2_run 31 = .ok (.getfield 89, 3) := by decide +kernel
theorem dX2_run_34 : decode cX2_run 34 = .ok (.iload_n 1, 1) := by decide +kernel
theorem dX2_run_35 : decode cX2_run 35 = .ok (.iaload, 1) := by decide +kernel
theorem dX2_run_36 : decode cX2_run 36 = .ok (.istore 6, 2) := by decide +kernel
theorem dX2_run_38 : decode cX2_run 38 = .ok (.iload 6, 2) := by decide +kernel
theorem dX2_run_40 : decode cX2_run 40 = .ok (.iload_n 2, 1) := by decide +kernel
theorem dX2_run_41 : decode cX2_run 41 = .ok (.if_icmp .ge 115, 3) := by decide +kernel
theorem dX2_run_156 : decode cX2_run 156 = .ok (.return_, 1) := by decide +kernel
theorem dX2_run_44 : decode cX2_run 44 = .ok (.iload_n 3, 1) := by decide +kernel
theorem dX2_run_45 : decode cX2_run 45 = .ok (.iconst (-1), 1) := by decide +kernel
theorem dX2_run_46 : decode cX2_run 46 = .ok (.if_icmp .eq 57, 3) := by decide +kernel
theorem dX2_run_103 : decode cX2_run 103 = .ok (.aload_n 0, 1) := by decide +kernel
theorem dX2_run_104 : decode cX2_run 104 = .ok (.aload_n 0, 1) := by decide +kernel
theorem dX2_run_105 : decode cX2_run 105 = .ok (.getfield 31, 3) := by decide +kernel
theorem dX2_run_108 : decode cX2_run 108 = .ok (.aload_n 0, 1) := by decide +kernel
theorem dX2_run_109 : decode cX2_run 109 = .ok (.getfield 86, 3) := by decide +kernel
theorem dX2_run_112 : decode cX2_run 112 = .ok (.aload_n 0, 1) := by decide +kernel
theorem dX2_run_113 : decode cX2_run 113 = .ok (.getfield 18, 3) := by decide +kernel
theorem dX2_run_116 : decode cX2_run 116 = .ok (.iload 6, 2) := by decide +kernel
theorem dX2_run_118 : decode cX2_run 118 = .ok (.baload, 1) := by decide +kernel
theorem dX2_run_119 : decode cX2_run 119 = .ok (.iload 6, 2) := by decide +kernel
theorem dX2_run_121 : decode cX2_run 121 = .ok (.invokevirtual 109, 3) := by decide +kernel
theorem dX2_run_124 : decode cX2_run 124 = .ok (.putfield 86, 3) := by decide +kernel
theorem dX2_run_127 : decode cX2_run 127 = .ok (.aload_n 0, 1) := by decide +kernel
theorem dX2_run_128 : decode cX2_run 128 = .ok (.getfield 31, 3) := by decide +kernel
theorem dX2_run_131 : decode cX2_run 131 = .ok (.aload_n 0, 1) := by decide +kernel
theorem dX2_run_132 : decode cX2_run 132 = .ok (.getfield 86, 3) := by decide +kernel
theorem dX2_run_135 : decode cX2_run 135 = .ok (.invokevirtual 113, 3) := by decide +kernel
theorem dX2_run_138 : decode cX2_run 138 = .ok (.ifCond .eq 12, 3) := by decide +kernel
theorem dX2_run_150 : decode cX2_run 150 = .ok (.iinc 6 1, 3) := by decide +kernel
theorem dX2_run_153 : decode cX2_run 153 = .ok (.goto (-115), 3) := by decide +kernel
theorem dX2_run_141 : decode cX2_run 141 = .ok (.aload_n 0, 1) := by decide +kernel
theorem dX2_run_142 : decode cX2_run 142 = .ok (.iload 6, 2) := by decide +kernel
theorem dX2_run_144 : decode cX2_run 144 = .ok (.iconst 1, 1) := by decide +kernel
theorem dX2_run_145 : decode cX2_run 145 = .ok (.iadd, 1) := by decide +kernel
theorem dX2_run_146 : decode cX2_run 146 = .ok (.putfield 49, 3) := by decide +kernel
theorem dX2_run_149 : decode cX2_run 149 = .ok (.return_, 1) := by decide +kernel
theorem dX2_run_49 : decode cX2_run 49 = .ok (.ldc2_w 92, 3) := by decide +kernel
theorem dX2_run_52 : decode cX2_run 52 = .ok (.lload 4, 2) := by decide +kernel
theorem dX2_run_54 : decode cX2_run 54 = .ok (.lmul, 1) := by decide +kernel
theorem dX2_run_55 : decode cX2_run 55 = .ok (.ldc2_w 94, 3) := by decide +kernel
theorem dX2_run_58 : decode cX2_run 58 = .ok (.ladd, 1) := by decide +kernel
theorem dX2_run_59 : decode cX2_run 59 = .ok (.ldc2_w 96, 3) := by decide +kernel
theorem dX2_run_62 : decode cX2_run 62 = .ok (.land, 1) := by decide +kernel
theorem dX2_run_63 : decode cX2_run 63 = .ok (.lstore 4, 2) := by decide +kernel
theorem dX2_run_65 : decode cX2_run 65 = .ok (.lload 4, 2) := by decide +kernel
theorem dX2_run_67 : decode cX2_run 67 = .ok (.ldc2_w 98, 3) := by decide +kernel
theorem dX2_run_70 : decode cX2_run 70 = .ok (.ldiv, 1) := by decide +kernel
theorem dX2_run_71 : decode cX2_run 71 = .ok (.ldc2_w 100, 3) := by decide +kernel
theorem dX2_run_74 : decode cX2_run 74 = .ok (.lrem, 1) := by decide +kernel
theorem dX2_run_75 : decode cX2_run 75 = .ok (.aload_n 0, 1) := by decide +kernel
theorem dX2_run_76 : decode cX2_run 76 = .ok (.getfield 31, 3) := by decide +kernel
theorem dX2_run_79 : decode cX2_run 79 = .ok (.getfield 102, 3) := by decide +kernel
theorem dX2_run_82 : decode cX2_run 82 = .ok (.i2l, 1) := by decide +kernel
theorem dX2_run_83 : decode cX2_run 83 = .ok (.lcmp, 1) := by decide +kernel
theorem dX2_run_84 : decode cX2_run 84 = .ok (.ifCond .ge 19, 3) := by decide +kernel
theorem dX2_run_87 : decode cX2_run 87 = .ok (.aload_n 0, 1) := by decide +kernel
theorem dX2_run_88 : decode cX2_run 88 = .ok (.aload_n 0, 1) := by decide +kernel
theorem dX2_run_89 : decode cX2_run 89 = .ok (.getfield 31, 3) := by decide +kernel
theorem dX2_run_92 : decode cX2_run 92 = .ok (.aload_n 0, 1) := by decide +kernel
theorem dX2_run_93 : decode cX2_run 93 = .ok (.getfield 86, 3) := by decide +kernel
theorem dX2_run_96 : decode cX2_run 96 = .ok (.iconst 1, 1) := by decide +kernel
theorem dX2_run_97 : decode cX2_run 97 = .ok (.invokevirtual 105, 3) := by decide +kernel
theorem dX2_run_100 : decode cX2_run 100 = .ok (.putfield 86, 3) := by decide +kernel
theorem dX2_settle_0 : decode cX2_settle 0 = .ok (.aload_n 0, 1) := by decide +kernel
theorem dX2_settle_1 : decode cX2_settle 1 = .ok (.iload_n 1, 1) := by decide +kernel
theorem dX2_settle_2 : decode cX2_settle 2 = .ok (.sipush 400, 3) := by decide +kernel
theorem dX2_settle_5 : decode cX2_settle 5 = .ok (.iconst (-1), 1) := by decide +kernel
theorem dX2_settle_6 : decode cX2_settle 6 = .ok (.invokevirtual 45, 3) := by decide +kernel
theorem dX2_settle_9 : decode cX2_settle 9 = .ok (.aload_n 0, 1) := by decide +kernel
theorem dX2_settle_10 : decode cX2_settle 10 = .ok (.getfield 9, 3) := by decide +kernel
theorem dX2_settle_13 : decode cX2_settle 13 = .ok (.iload_n 1, 1) := by decide +kernel
theorem dX2_settle_14 : decode cX2_settle 14 = .ok (.aload_n 0, 1) := by decide +kernel
theorem dX2_settle_15 : decode cX2_settle 15 = .ok (.getfield 49, 3) := by decide +kernel
theorem dX2_settle_18 : decode cX2_settle 18 = .ok (.iastore, 1) := by decide +kernel
theorem dX2_settle_19 : decode cX2_settle 19 = .ok (.aload_n 0, 1) := by decide +kernel
theorem dX2_settle_20 : decode cX2_settle 20 = .ok (.getfield 15, 3) := by decide +kernel
theorem dX2_settle_23 : decode cX2_settle 23 = .ok (.iload_n 1, 1) := by decide +kernel
theorem dX2_settle_24 : decode cX2_settle 24 = .ok (.aload_n 0, 1) := by decide +kernel
theorem dX2_settle_25 : decode cX2_settle 25 = .ok (.invokevirtual 52, 3) := by decide +kernel
theorem dX2_settle_28 : decode cX2_settle 28 = .ok (.iastore, 1) := by decide +kernel
theorem dX2_settle_29 : decode cX2_settle 29 = .ok (.return_, 1) := by decide +kernel
theorem dX2_settleAll_0 : decode cX2_settleAll 0 = .ok (.iconst 0, 1) := by decide +kernel
theorem dX2_settleAll_1 : decode cX2_settleAll 1 = .ok (.istore_n 1, 1) := by decide +kernel
theorem dX2_settleAll_2 : decode cX2_settleAll 2 = .ok (.iload_n 1, 1) := by decide +kernel
theorem dX2_settleAll_3 : decode cX2_settleAll 3 = .ok (.aload_n 0, 1) := by decide +kernel
theorem dX2_settleAll_4 : decode cX2_settleAll 4 = .ok (.getfield 31, 3) := by decide +kernel
theorem dX2_settleAll_7 : decode cX2_settleAll 7 = .ok (.getfield 35, 3) := by decide +kernel
theorem dX2_settleAll_10 : decode cX2_settleAll 10 = .ok (.if_icmp .ge 14, 3) := by decide +kernel
theorem dX2_settleAll_24 : decode cX2_settleAll 24 = .ok (.return_, 1) := by decide +kernel
theorem dX2_settleAll_13 : decode cX2_settleAll 13 = .ok (.aload_n 0, 1) := by decide +kernel
theorem dX2_settleAll_14 : decode cX2_settleAll 14 = .ok (.iload_n 1, 1) := by decide +kernel
theorem dX2_settleAll_15 : decode cX2_settleAll 15 = .ok (.invokevirtual 41, 3) := by decide +kernel
theorem dX2_settleAll_18 : decode cX2_settleAll 18 = .ok (.iinc 1 1, 3) := by decide +kernel
theorem dX2_settleAll_21 : decode cX2_settleAll 21 = .ok (.goto (-19), 3) := by decide +kernel
theorem dX2_placeOf_0 : decode cX2_placeOf 0 = .ok (.iload_n 2, 1) := by decide +kernel
theorem dX2_placeOf_1 : decode cX2_placeOf 1 = .ok (.aload_n 0, 1) := by decide +kernel
theorem dX2_placeOf_2 : decode cX2_placeOf 2 = .ok (.getfield 31, 3) := by decide +kernel
theorem dX2_placeOf_5 : decode cX2_placeOf 5 = .ok (.getfield 89, 3) := by decide +kernel
theorem dX2_placeOf_8 : decode cX2_placeOf 8 = .ok (.iload_n 1, 1) := by decide +kernel
theorem dX2_placeOf_9 : decode cX2_placeOf 9 = .ok (.iaload, 1) := by decide +kernel
theorem dX2_placeOf_10 : decode cX2_placeOf 10 = .ok (.if_icmp .ge 5, 3) := by decide +kernel
theorem dX2_placeOf_15 : decode cX2_placeOf 15 = .ok (.aload_n 0, 1) := by decide +kernel
theorem dX2_placeOf_16 : decode cX2_placeOf 16 = .ok (.iload_n 1, 1) := by decide +kernel
theorem dX2_placeOf_17 : decode cX2_placeOf 17 = .ok (.iload_n 2, 1) := by decide +kernel
theorem dX2_placeOf_18 : decode cX2_placeOf 18 = .ok (.iconst (-1), 1) := by decide +kernel
theorem dX2_placeOf_19 : decode cX2_placeOf 19 = .ok (.invokevirtual 45, 3) := by decide +kernel
theorem dX2_placeOf_22 : decode cX2_placeOf 22 = .ok (.aload_n 0, 1) := by decide +kernel
theorem dX2_placeOf_23 : decode cX2_placeOf 23 = .ok (.getfield 86, 3) := by decide +kernel
theorem dX2_placeOf_26 : decode cX2_placeOf 26 = .ok (.ireturn, 1) := by decide +kernel
theorem dX2_placeOf_13 : decode cX2_placeOf 13 = .ok (.iconst (-1), 1) := by decide +kernel
theorem dX2_placeOf_14 : decode cX2_placeOf 14 = .ok (.ireturn, 1) := by decide +kernel
theorem dX2_traceAfloat_0 : decode cX2_traceAfloat 0 = .ok (.aload_n 2, 1) := by decide +kernel
theorem dX2_traceAfloat_1 : decode cX2_traceAfloat 1 = .ok (.iconst (-1), 1) := by decide +kernel
theorem dX2_traceAfloat_2 : decode cX2_traceAfloat 2 = .ok (.invokestatic 155, 3) := by decide +kernel
theorem dX2_traceAfloat_5 : decode cX2_traceAfloat 5 = .ok (.aload_n 0, 1) := by decide +kernel
theorem dX2_traceAfloat_6 : decode cX2_traceAfloat 6 = .ok (.iload_n 1, 1) := by decide +kernel
theorem dX2_traceAfloat_7 : decode cX2_traceAfloat 7 = .ok (.invokevirtual 80, 3) := by decide +kernel
theorem dX2_traceAfloat_10 : decode cX2_traceAfloat 10 = .ok (.aload_n 0, 1) := by decide +kernel
theorem dX2_traceAfloat_11 : decode cX2_traceAfloat 11 = .ok (.getfield 31, 3) := by decide +kernel
theorem dX2_traceAfloat_14 : decode cX2_traceAfloat 14 = .ok (.getfield 83, 3) := by decide +kernel
theorem dX2_traceAfloat_17 : decode cX2_traceAfloat 17 = .ok (.iload_n 1, 1) := by decide +kernel
theorem dX2_traceAfloat_18 : decode cX2_traceAfloat 18 = .ok (.iaload, 1) := by decide +kernel
theorem dX2_traceAfloat_19 : decode cX2_traceAfloat 19 = .ok (.istore_n 3, 1) := by decide +kernel
theorem dX2_traceAfloat_20 : decode cX2_traceAfloat 20 = .ok (.aload_n 0, 1) := by decide +kernel
theorem dX2_traceAfloat_21 : decode cX2_traceAfloat 21 = .ok (.getfield 31, 3) := by decide +kernel
theorem dX2_traceAfloat_24 : decode cX2_traceAfloat 24 = .ok (.getfield 89, 3) := by decide +kernel
theorem dX2_traceAfloat_27 : decode cX2_traceAfloat 27 = .ok (.iload_n 1, 1) := by decide +kernel
theorem dX2_traceAfloat_28 : decode cX2_traceAfloat 28 = .ok (.iaload, 1) := by decide +kernel
theorem dX2_traceAfloat_29 : decode cX2_traceAfloat 29 = .ok (.istore 4, 2) := by decide +kernel
theorem dX2_traceAfloat_31 : decode cX2_traceAfloat 31 = .ok (.iload 4, 2) := by decide +kernel
theorem dX2_traceAfloat_33 : decode cX2_traceAfloat 33 = .ok (.sipush 400, 3) := by decide +kernel
theorem dX2_traceAfloat_36 : decode cX2_traceAfloat 36 = .ok (.if_icmp .gt 44, 3) := by decide +kernel
theorem dX2_traceAfloat_39 : decode cX2_traceAfloat 39 = .ok (.aload_n 2, 1) := by decide +kernel
theorem dX2_traceAfloat_40 : decode cX2_traceAfloat 40 = .ok (.iload 4, 2) := by decide +kernel
theorem dX2_traceAfloat_42 : decode cX2_traceAfloat 42 = .ok (.iload_n 3, 1) := by decide +kernel
theorem dX2_traceAfloat_43 : decode cX2_traceAfloat 43 = .ok (.iastore, 1) := by decide +kernel
theorem dX2_traceAfloat_44 : decode cX2_traceAfloat 44 = .ok (.aload_n 0, 1) := by decide +kernel
theorem dX2_traceAfloat_45 : decode cX2_traceAfloat 45 = .ok (.getfield 31, 3) := by decide +kernel
theorem dX2_traceAfloat_48 : decode cX2_traceAfloat 48 = .ok (.iload_n 3, 1) := by decide +kernel
theorem dX2_traceAfloat_49 : decode cX2_traceAfloat 49 = .ok (.aload_n 0, 1) := by decide +kernel
theorem dX2_traceAfloat_50 : decode cX2_traceAfloat 50 = .ok (.getfield 18, 3) := by decide +kernel
theorem dX2_traceAfloat_53 : decode cX2_traceAfloat 53 = .ok (.iload 4, 2) := by decide +kernel
theorem dX2_traceAfloat_55 : decode cX2_traceAfloat 55 = .ok (.baload, 1) := by decide +kernel
theorem dX2_traceAfloat_56 : decode cX2_traceAfloat 56 = .ok (.iload 4, 2) := by decide +kernel
theorem dX2_traceAfloat_58 : decode cX2_traceAfloat 58 = .ok (.invokevirtual 109, 3) := by decide +kernel
theorem dX2_traceAfloat_61 : decode cX2_traceAfloat 61 = .ok (.istore_n 3, 1) := by decide +kernel
theorem dX2_traceAfloat_62 : decode cX2_traceAfloat 62 = .ok (.aload_n 0, 1) := by decide +kernel
theorem dX2_traceAfloat_63 : decode cX2_traceAfloat 63 = .ok (.getfield 31, 3) := by decide +kernel
theorem dX2_traceAfloat_66 : decode cX2_traceAfloat 66 = .ok (.iload_n 3, 1) := by decide +kernel
theorem dX2_traceAfloat_67 : decode cX2_traceAfloat 67 = .ok (.invokevirtual 113, 3) := by decide +kernel
theorem dX2_traceAfloat_70 : decode cX2_traceAfloat 70 = .ok (.ifCond .eq 4, 3) := by decide +kernel
theorem dX2_traceAfloat_74 : decode cX2_traceAfloat 74 = .ok (.iinc 4 1, 3) := by decide +kernel
theorem dX2_traceAfloat_77 : decode cX2_traceAfloat 77 = .ok (.goto (-46), 3) := by decide +kernel
theorem dX2_traceAfloat_73 : decode cX2_traceAfloat 73 = .ok (.return_, 1) := by decide +kernel
theorem dX2_traceAfloat_80 : decode cX2_traceAfloat 80 = .ok (.return_, 1) := by decide +kernel
theorem dX2_firstMeeting_0 : decode cX2_firstMeeting 0 = .ok (.aload_n 0, 1) := by decide +kernel
theorem dX2_firstMeeting_1 : decode cX2_firstMeeting 1 = .ok (.iload_n 1, 1) := by decide +kernel
theorem dX2_firstMeeting_2 : decode cX2_firstMeeting 2 = .ok (.aload_n 0, 1) := by decide +kernel
theorem dX2_firstMeeting_3 : decode cX2_firstMeeting 3 = .ok (.getfield 22, 3) := by decide +kernel
theorem dX2_firstMeeting_6 : decode cX2_firstMeeting 6 = .ok (.invokevirtual 151, 3) := by decide +kernel
theorem dX2_firstMeeting_9 : decode cX2_firstMeeting 9 = .ok (.aload_n 0, 1) := by decide +kernel
theorem dX2_firstMeeting_10 : decode cX2_firstMeeting 10 = .ok (.iload_n 2, 1) := by decide +kernel
theorem dX2_firstMeeting_11 : decode cX2_firstMeeting 11 = .ok (.aload_n 0, 1) := by decide +kernel
theorem dX2_firstMeeting_12 : decode cX2_firstMeeting 12 = .ok (.getfield 25, 3) := by decide +kernel
theorem dX2_firstMeeting_15 : decode cX2_firstMeeting 15 = .ok (.invokevirtual 151, 3) := by decide +kernel
theorem dX2_firstMeeting_18 : decode cX2_firstMeeting 18 = .ok (.iconst 0, 1) := by decide +kernel
theorem dX2_firstMeeting_19 : decode cX2_firstMeeting 19 = .ok (.istore_n 3, 1) := by decide +kernel
theorem dX2_firstMeeting_20 : decode cX2_firstMeeting 20 = .ok (.iload_n 3, 1) := by decide +kernel
theorem dX2_firstMeeting_21 : decode cX2_firstMeeting 21 = .ok (.sipush 400, 3) := by decide +kernel
theorem dX2_firstMeeting_24 : decode cX2_firstMeeting 24 = .ok (.if_icmp .gt 36, 3) := by decide +kernel
theorem dX2_firstMeeting_27 : decode cX2_firstMeeting 27 = .ok (.aload_n 0, 1) := by decide +kernel
theorem dX2_firstMeeting_28 : decode cX2_firstMeeting 28 = .ok (.getfield 22, 3) := by decide +kernel
theorem dX2_firstMeeting_31 : decode cX2_firstMeeting 31 = .ok (.iload_n 3, 1) := by decide +kernel
theorem dX2_firstMeeting_32 : decode cX2_firstMeeting 32 = .ok (.iaload, 1) := by decide +kernel
theorem dX2_firstMeeting_33 : decode cX2_firstMeeting 33 = .ok (.iconst (-1), 1) := by decide +kernel
theorem dX2_firstMeeting_34 : decode cX2_firstMeeting 34 = .ok (.if_icmp .eq 20, 3) := by decide +kernel
theorem dX2_firstMeeting_54 : decode cX2_firstMeeting 54 = .ok (.iinc 3 1, 3) := by decide +kernel
theorem dX2_firstMeeting_57 : decode cX2_firstMeeting 57 = .ok (.goto (-37), 3) := by decide +kernel
theorem dX2_firstMeeting_37 : decode cX2_firstMeeting 37 = .ok (.aload_n 0, 1) := by decide +kernel
theorem dX2_firstMeeting_38 : decode cX2_firstMeeting 38 = .ok (.getfield 22, 3) := by decide +kernel
theorem dX2_firstMeeting_41 : decode cX2_firstMeeting 41 = .ok (.iload_n 3, 1) := by decide +kernel
theorem dX2_firstMeeting_42 : decode cX2_firstMeeting 42 = .ok (.iaload, 1) := by decide +kernel
theorem dX2_firstMeeting_43 : decode cX2_firstMeeting 43 = .ok (.aload_n 0, 1) := by decide +kernel
theorem dX2_firstMeeting_44 : decode cX2_firstMeeting 44 = .ok (.getfield 25, 3) := by decide +kernel
theorem dX2_firstMeeting_47 : decode cX2_firstMeeting 47 = .ok (.iload_n 3, 1) := by decide +kernel
theorem dX2_firstMeeting_48 : decode cX2_firstMeeting 48 = .ok (.iaload, 1) := by decide +kernel
theorem dX2_firstMeeting_49 : decode cX2_firstMeeting 49 = .ok (.if_icmp .ne 5, 3) := by decide +kernel
theorem dX2_firstMeeting_52 : decode cX2_firstMeeting 52 = .ok (.iload_n 3, 1) := by decide +kernel
theorem dX2_firstMeeting_53 : decode cX2_firstMeeting 53 = .ok (.ireturn, 1) := by decide +kernel
theorem dX2_firstMeeting_60 : decode cX2_firstMeeting 60 = .ok (.iconst (-1), 1) := by decide +kernel
theorem dX2_firstMeeting_61 : decode cX2_firstMeeting 61 = .ok (.ireturn, 1) := by decide +kernel
theorem dX2_commonestBeach_0 : decode cX2_commonestBeach 0 = .ok (.aload_n 0, 1) := by decide +kernel
theorem dX2_commonestBeach_1 : decode cX2_commonestBeach 1 = .ok (.getfield 28, 3) := by decide +kernel
theorem dX2_commonestBeach_4 : decode cX2_commonestBeach 4 = .ok (.iconst 0, 1) := by decide +kernel
theorem dX2_commonestBeach_5 : decode cX2_commonestBeach 5 = .ok (.invokestatic 155, 3) := by decide +kernel
theorem dX2_commonestBeach_8 : decode cX2_commonestBeach 8 = .ok (.iconst 0, 1) := by decide +kernel
theorem dX2_commonestBeach_9 : decode cX2_commonestBeach 9 = .ok (.istore 4, 2) := by decide +kernel
theorem dX2_commonestBeach_11 : decode cX2_commonestBeach 11 = .ok (.iload 4, 2) := by decide +kernel
theorem dX2_commonestBeach_13 : decode cX2_commonestBeach 13 = .ok (.iload_n 3, 1) := by decide +kernel
theorem dX2_commonestBeach_14 : decode cX2_commonestBeach 14 = .ok (.if_icmp .ge 42, 3) := by decide +kernel
theorem dX2_commonestBeach_56 : decode cX2_commonestBeach 56 = .ok (.iconst (-1), 1) := by decide +kernel
theorem dX2_commonestBeach_57 : decode cX2_commonestBeach 57 = .ok (.istore 4, 2) := by decide +kernel
theorem dX2_commonestBeach_59 : decode cX2_commonestBeach 59 = .ok (.iconst 0, 1) := by decide +kernel
theorem dX2_commonestBeach_60 : decode cX2_commonestBeach 60 = .ok (.istore 5, 2) := by decide +kernel
theorem dX2_commonestBeach_62 : decode cX2_commonestBeach 62 = .ok (.iconst 0, 1) := by decide +kernel
theorem dX2_commonestBeach_63 : decode cX2_commonestBeach 63 = .ok (.istore 6, 2) := by decide +kernel
theorem dX2_commonestBeach_65 : decode cX2_commonestBeach 65 = .ok (.iload 6, 2) := by decide +kernel
theorem dX2_commonestBeach_67 : decode cX2_commonestBeach 67 = .ok (.aload_n 0, 1) := by decide +kernel
theorem dX2_commonestBeach_68 : decode cX2_commonestBeach 68 = .ok (.getfield 31, 3) := by decide +kernel
theorem dX2_commonestBeach_71 : decode cX2_commonestBeach 71 = .ok (.getfield 158, 3) := by decide +kernel
theorem dX2_commonestBeach_74 : decode cX2_commonestBeach 74 = .ok (.if_icmp .ge 34, 3) := by decide +kernel
theorem dX2_commonestBeach_77 : decode cX2_commonestBeach 77 = .ok (.aload_n 0, 1) := by decide +kernel
theorem dX2_commonestBeach_78 : decode cX2_commonestBeach 78 = .ok (.getfield 28, 3) := by decide +kernel
theorem dX2_commonestBeach_81 : decode cX2_commonestBeach 81 = .ok (.iload 6, 2) := by decide +kernel
theorem dX2_commonestBeach_83 : decode cX2_commonestBeach 83 = .ok (.iaload, 1) := by decide +kernel
theorem dX2_commonestBeach_84 : decode cX2_commonestBeach 84 = .ok (.iload 5, 2) := by decide +kernel
theorem dX2_commonestBeach_86 : decode cX2_commonestBeach 86 = .ok (.if_icmp .le 16, 3) := by decide +kernel
theorem dX2_commonestBeach_102 : decode cX2_commonestBeach 102 = .ok (.iinc 6 1, 3) := by decide +kernel
theorem dX2_commonestBeach_105 : decode cX2_commonestBeach 105 = .ok (.goto (-40), 3) := by decide +kernel
theorem dX2_commonestBeach_89 : decode cX2_commonestBeach 89 = .ok (.aload_n 0, 1) := by decide +kernel
theorem dX2_commonestBeach_90 : decode cX2_commonestBeach 90 = .ok (.getfield 28, 3) := by decide +kernel
theorem dX2_commonestBeach_93 : decode cX2_commonestBeach 93 = .ok (.iload 6, 2) := by decide +kernel
theorem dX2_commonestBeach_95 : decode cX2_commonestBeach 95 = .ok (.iaload, 1) := by decide +kernel
theorem dX2_commonestBeach_96 : decode cX2_commonestBeach 96 = .ok (.istore 5, 2) := by decide +kernel
theorem dX2_commonestBeach_98 : decode cX2_commonestBeach 98 = .ok (.iload 6, 2) := by decide +kernel
theorem dX2_commonestBeach_100 : decode cX2_commonestBeach 100 = .ok (.istore 4, 2) := by decide +kernel
theorem dX2_commonestBeach_108 : decode cX2_commonestBeach 108 = .ok (.iload 4, 2) := by decide +kernel
theorem dX2_commonestBeach_110 : decode cX2_commonestBeach 110 = .ok (.ireturn, 1) := by decide +kernel
theorem dX2_commonestBeach_17 : decode cX2_commonestBeach 17 = .ok (.aload_n 0, 1) := by decide +kernel
theorem dX2_commonestBeach_18 : decode cX2_commonestBeach 18 = .ok (.iload_n 1, 1) := by decide +kernel
theorem dX2_commonestBeach_19 : decode cX2_commonestBeach 19 = .ok (.sipush 400, 3) := by decide +kernel
theorem dX2_commonestBeach_22 : decode cX2_commonestBeach 22 = .ok (.iload_n 2, 1) := by decide +kernel
theorem dX2_commonestBeach_23 : decode cX2_commonestBeach 23 = .ok (.iload 4, 2) := by decide +kernel
theorem dX2_commonestBeach_25 : decode cX2_commonestBeach 25 = .ok (.iadd, 1) := by decide +kernel
theorem dX2_commonestBeach_26 : decode cX2_commonestBeach 26 = .ok (.invokevirtual 45, 3) := by decide +kernel
theorem dX2_commonestBeach_29 : decode cX2_commonestBeach 29 = .ok (.aload_n 0, 1) := by decide +kernel
theorem dX2_commonestBeach_30 : decode cX2_commonestBeach 30 = .ok (.getfield 49, 3) := by decide +kernel
theorem dX2_commonestBeach_33 : decode cX2_commonestBeach 33 = .ok (.iconst (-1), 1) := by decide +kernel
theorem dX2_commonestBeach_34 : decode cX2_commonestBeach 34 = .ok (.if_icmp .eq 16, 3) := by decide +kernel
theorem dX2_commonestBeach_50 : decode cX2_commonestBeach 50 = .ok (.iinc 4 1, 3) := by decide +kernel
theorem dX2_commonestBeach_53 : decode cX2_commonestBeach 53 = .ok (.goto (-42), 3) := by decide +kernel
theorem dX2_commonestBeach_37 : decode cX2_commonestBeach 37 = .ok (.aload_n 0, 1) := by decide +kernel
theorem dX2_commonestBeach_38 : decode cX2_commonestBeach 38 = .ok (.getfield 28, 3) := by decide +kernel
theorem dX2_commonestBeach_41 : decode cX2_commonestBeach 41 = .ok (.aload_n 0, 1) := by decide +kernel
theorem dX2_commonestBeach_42 : decode cX2_commonestBeach 42 = .ok (.getfield 86, 3) := by decide +kernel
theorem dX2_commonestBeach_45 : decode cX2_commonestBeach 45 = .ok (.dup2, 1) := by decide +kernel
theorem dX2_commonestBeach_46 : decode cX2_commonestBeach 46 = .ok (.iaload, 1) := by decide +kernel
theorem dX2_commonestBeach_47 : decode cX2_commonestBeach 47 = .ok (.iconst 1, 1) := by decide +kernel
theorem dX2_commonestBeach_48 : decode cX2_commonestBeach 48 = .ok (.iadd, 1) := by decide +kernel
theorem dX2_commonestBeach_49 : decode cX2_commonestBeach 49 = .ok (.iastore, 1) := by decide +kernel
theorem dX11_at_0 : decode cX11_at 0 = .ok (.aload_n 0, 1) := by decide +kernel
theorem dX11_at_1 : decode cX11_at 1 = .ok (.getfield 26, 3) := by decide +kernel
theorem dX11_at_4 : decode cX11_at 4 = .ok (.iload_n 1, 1) := by decide +kernel
theorem dX11_at_5 : decode cX11_at 5 = .ok (.invokevirtual 130, 3) := by decide +kernel
theorem dX11_at_8 : decode cX11_at 8 = .ok (.ifCond .eq 13, 3) := by decide +kernel
theorem dX11_at_21 : decode cX11_at 21 = .ok (.bipush (-2), 2) := by decide +kernel
theorem dX11_at_23 : decode cX11_at 23 = .ok (.ireturn, 1) := by decide +kernel
theorem dX11_at_11 : decode cX11_at 11 = .ok (.iload_n 2, 1) := by decide +kernel
theorem dX11_at_12 : decode cX11_at 12 = .ok (.sipush 400, 3) := by decide +kernel
theorem dX11_at_15 : decode cX11_at 15 = .ok (.invokestatic 230, 3) := by decide +kernel
theorem dX11_at_18 : decode cX11_at 18 = .ok (.ifCond .ne 6, 3) := by decide +kernel
theorem dX11_at_24 : decode cX11_at 24 = .ok (.aload_n 0, 1) := by decide +kernel
theorem dX11_at_25 : decode cX11_at 25 = .ok (.getfield 55, 3) := by decide +kernel
theorem dX11_at_28 : decode cX11_at 28 = .ok (.iload_n 1, 1) := by decide +kernel
theorem dX11_at_29 : decode cX11_at 29 = .ok (.iload_n 2, 1) := by decide +kernel
theorem dX11_at_30 : decode cX11_at 30 = .ok (.invokevirtual 251, 3) := by decide +kernel
theorem dX11_at_33 : decode cX11_at 33 = .ok (.ireturn, 1) := by decide +kernel
theorem dX11_meet_0 : decode cX11_meet 0 = .ok (.aload_n 0, 1) := by decide +kernel
theorem dX11_meet_1 : decode cX11_meet 1 = .ok (.getfield 26, 3) := by decide +kernel
theorem dX11_meet_4 : decode cX11_meet 4 = .ok (.iload_n 1, 1) := by decide +kernel
theorem dX11_meet_5 : decode cX11_meet 5 = .ok (.invokevirtual 130, 3) := by decide +kernel
theorem dX11_meet_8 : decode cX11_meet 8 = .ok (.ifCond .eq 19, 3) := by decide +kernel
theorem dX11_meet_27 : decode cX11_meet 27 = .ok (.bipush (-2), 2) := by decide +kernel
theorem dX11_meet_29 : decode cX11_meet 29 = .ok (.ireturn, 1) := by decide +kernel
theorem dX11_meet_11 : decode cX11_meet 11 = .ok (.aload_n 0, 1) := by decide +kernel
theorem dX11_meet_12 : decode cX11_meet 12 = .ok (.getfield 26, 3) := by decide +kernel
theorem dX11_meet_15 : decode cX11_meet 15 = .ok (.iload_n 2, 1) := by decide +kernel
theorem dX11_meet_16 : decode cX11_meet 16 = .ok (.invokevirtual 130, 3) := by decide +kernel
theorem dX11_meet_19 : decode cX11_meet 19 = .ok (.ifCond .eq 8, 3) := by decide +kernel
theorem dX11_meet_22 : decode cX11_meet 22 = .ok (.iload_n 1, 1) := by decide +kernel
theorem dX11_meet_23 : decode cX11_meet 23 = .ok (.iload_n 2, 1) := by decide +kernel
theorem dX11_meet_24 : decode cX11_meet 24 = .ok (.if_icmp .ne 6, 3) := by decide +kernel
theorem dX11_meet_30 : decode cX11_meet 30 = .ok (.aload_n 0, 1) := by decide +kernel
theorem dX11_meet_31 : decode cX11_meet 31 = .ok (.getfield 55, 3) := by decide +kernel
theorem dX11_meet_34 : decode cX11_meet 34 = .ok (.iload_n 1, 1) := by decide +kernel
theorem dX11_meet_35 : decode cX11_meet 35 = .ok (.iload_n 2, 1) := by decide +kernel
theorem dX11_meet_36 : decode cX11_meet 36 = .ok (.invokevirtual 273, 3) := by decide +kernel
theorem dX11_meet_39 : decode cX11_meet 39 = .ok (.ireturn, 1) := by decide +kernel
theorem dX11_drawn_0 : decode cX11_drawn 0 = .ok (.aload_n 0, 1) := by decide +kernel
theorem dX11_drawn_1 : decode cX11_drawn 1 = .ok (.iload_n 1, 1) := by decide +kernel
theorem dX11_drawn_2 : decode cX11_drawn 2 = .ok (.iload_n 2, 1) := by decide +kernel
theorem dX11_drawn_3 : decode cX11_drawn 3 = .ok (.invokevirtual 368, 3) := by decide +kernel
theorem dX11_drawn_6 : decode cX11_drawn 6 = .ok (.ifCond .eq 11, 3) := by decide +kernel
theorem dX11_drawn_17 : decode cX11_drawn 17 = .ok (.bipush (-2), 2) := by decide +kernel
theorem dX11_drawn_19 : decode cX11_drawn 19 = .ok (.ireturn, 1) := by decide +kernel
theorem dX11_drawn_9 : decode cX11_drawn 9 = .ok (.iload_n 3, 1) := by decide +kernel
theorem dX11_drawn_10 : decode cX11_drawn 10 = .ok (.iconst 2, 1) := by decide +kernel
theorem dX11_drawn_11 : decode cX11_drawn 11 = .ok (.invokestatic 230, 3) := by decide +kernel
theorem dX11_drawn_14 : decode cX11_drawn 14 = .ok (.ifCond .ne 6, 3) := by decide +kernel
theorem dX11_drawn_20 : decode cX11_drawn 20 = .ok (.aload_n 0, 1) := by decide +kernel
theorem dX11_drawn_21 : decode cX11_drawn 21 = .ok (.getfield 55, 3) := by decide +kernel
theorem dX11_drawn_24 : decode cX11_drawn 24 = .ok (.iload_n 2, 1) := by decide +kernel
theorem dX11_drawn_25 : decode cX11_drawn 25 = .ok (.sipush 400, 3) := by decide +kernel
theorem dX11_drawn_28 : decode cX11_drawn 28 = .ok (.iload_n 1, 1) := by decide +kernel
theorem dX11_drawn_29 : decode cX11_drawn 29 = .ok (.invokevirtual 371, 3) := by decide +kernel
theorem dX11_drawn_32 : decode cX11_drawn 32 = .ok (.iload_n 3, 1) := by decide +kernel
theorem dX11_drawn_33 : decode cX11_drawn 33 = .ok (.ifCond .ne 11, 3) := by decide +kernel
theorem dX11_drawn_44 : decode cX11_drawn 44 = .ok (.iload_n 3, 1) := by decide +kernel
theorem dX11_drawn_45 : decode cX11_drawn 45 = .ok (.iconst 1, 1) := by decide +kernel
theorem dX11_drawn_46 : decode cX11_drawn 46 = .ok (.if_icmp .ne 13, 3) := by decide +kernel
theorem dX11_drawn_59 : decode cX11_drawn 59 = .ok (.aload_n 0, 1) := by decide +kernel
theorem dX11_drawn_60 : decode cX11_drawn 60 = .ok (.getfield 55, 3) := by decide +kernel
theorem dX11_drawn_63 : decode cX11_drawn 63 = .ok (.invokevirtual 380, 3) := by decide +kernel
theorem dX11_drawn_66 : decode cX11_drawn 66 = .ok (.ireturn, 1) := by decide +kernel
theorem dX11_drawn_49 : decode cX11_drawn 49 = .ok (.aload_n 0, 1) := by decide +kernel
theorem dX11_drawn_50 : decode cX11_drawn 50 = .ok (.getfield 55, 3) := by decide +kernel
theorem dX11_drawn_53 : decode cX11_drawn 53 = .ok (.invokevirtual 377, 3) := by decide +kernel
theorem dX11_drawn_56 : decode cX11_drawn 56 = .ok (.goto 10, 3) := by decide +kernel
theorem dX11_drawn_36 : decode cX11_drawn 36 = .ok (.aload_n 0, 1) := by decide +kernel
theorem dX11_drawn_37 : decode cX11_drawn 37 = .ok (.getfield 55, 3) := by decide +kernel
theorem dX11_drawn_40 : decode cX11_drawn 40 = .ok (.getfield 374, 3) := by decide +kernel
theorem dX11_drawn_43 : decode cX11_drawn 43 = .ok (.ireturn, 1) := by decide +kernel
theorem dX11_luck_0 : decode cX11_luck 0 = .ok (.aload_n 0, 1) := by decide +kernel
theorem dX11_luck_1 : decode cX11_luck 1 = .ok (.iload_n 1, 1) := by decide +kernel
theorem dX11_luck_2 : decode cX11_luck 2 = .ok (.iload_n 3, 1) := by decide +kernel
theorem dX11_luck_3 : decode cX11_luck 3 = .ok (.invokevirtual 368, 3) := by decide +kernel
theorem dX11_luck_6 : decode cX11_luck 6 = .ok (.ifCond .eq 19, 3) := by decide +kernel
theorem dX11_luck_25 : decode cX11_luck 25 = .ok (.bipush (-2), 2) := by decide +kernel
theorem dX11_luck_27 : decode cX11_luck 27 = .ok (.ireturn, 1) := by decide +kernel
theorem dX11_luck_9 : decode cX11_luck 9 = .ok (.iload_n 2, 1) := by decide +kernel
theorem dX11_luck_10 : decode cX11_luck 10 = .ok (.invokestatic 383, 3) := by decide +kernel
theorem dX11_luck_13 : decode cX11_luck 13 = .ok (.ifCond .eq 12, 3) := by decide +kernel
theorem dX11_luck_16 : decode cX11_luck 16 = .ok (.aload_n 0, 1) := by decide +kernel
theorem dX11_luck_17 : decode cX11_luck 17 = .ok (.iload 4, 2) := by decide +kernel
theorem dX11_luck_19 : decode cX11_luck 19 = .ok (.invokevirtual 264, 3) := by decide +kernel
theorem dX11_luck_22 : decode cX11_luck 22 = .ok (.ifCond .ne 6, 3) := by decide +kernel
theorem dX11_luck_28 : decode cX11_luck 28 = .ok (.iconst 0, 1) := by decide +kernel
theorem dX11_luck_29 : decode cX11_luck 29 = .ok (.istore 5, 2) := by decide +kernel
theorem dX11_luck_31 : decode cX11_luck 31 = .ok (.iconst 0, 1) := by decide +kernel
theorem dX11_luck_32 : decode cX11_luck 32 = .ok (.istore 6, 2) := by decide +kernel
theorem dX11_luck_34 : decode cX11_luck 34 = .ok (.iload 6, 2) := by decide +kernel
theorem dX11_luck_36 : decode cX11_luck 36 = .ok (.iload_n 2, 1) := by decide +kernel
theorem dX11_luck_37 : decode cX11_luck 37 = .ok (.if_icmp .ge 39, 3) := by decide +kernel
theorem dX11_luck_76 : decode cX11_luck 76 = .ok (.iload 5, 2) := by decide +kernel
theorem dX11_luck_78 : decode cX11_luck 78 = .ok (.ireturn, 1) := by decide +kernel
theorem dX11_luck_40 : decode cX11_luck 40 = .ok (.aload_n 0, 1) := by decide +kernel
theorem dX11_luck_41 : decode cX11_luck 41 = .ok (.getfield 55, 3) := by decide +kernel
theorem dX11_luck_44 : decode cX11_luck 44 = .ok (.iload_n 3, 1) := by decide +kernel
theorem dX11_luck_45 : decode cX11_luck 45 = .ok (.sipush 400, 3) := by decide +kernel
theorem dX11_luck_48 : decode cX11_luck 48 = .ok (.iload_n 1, 1) := by decide +kernel
theorem dX11_luck_49 : decode cX11_luck 49 = .ok (.iload 6, 2) := by decide +kernel
theorem dX11_luck_51 : decode cX11_luck 51 = .ok (.iadd, 1) := by decide +kernel
theorem dX11_luck_52 : decode cX11_luck 52 = .ok (.invokevirtual 371, 3) := by decide +kernel
theorem dX11_luck_55 : decode cX11_luck 55 = .ok (.aload_n 0, 1) := by decide +kernel
theorem dX11_luck_56 : decode cX11_luck 56 = .ok (.getfield 55, 3) := by decide +kernel
theorem dX11_luck_59 : decode cX11_luck 59 = .ok (.invokevirtual 380, 3) := by decide +kernel
theorem dX11_luck_62 : decode cX11_luck 62 = .ok (.iload 4, 2) := by decide +kernel
theorem dX11_luck_64 : decode cX11_luck 64 = .ok (.if_icmp .ne 6, 3) := by decide +kernel
theorem dX11_luck_70 : decode cX11_luck 70 = .ok (.iinc 6 1, 3) := by decide +kernel
theorem dX11_luck_73 : decode cX11_luck 73 = .ok (.goto (-39), 3) := by decide +kernel
theorem dX11_luck_67 : decode cX11_luck 67 = .ok (.iinc 5 1, 3) := by decide +kernel
theorem dX11_waits_0 : decode cX11_waits 0 = .ok (.aload_n 0, 1) := by decide +kernel
theorem dX11_waits_1 : decode cX11_waits 1 = .ok (.iload_n 1, 1) := by decide +kernel
theorem dX11_waits_2 : decode cX11_waits 2 = .ok (.iload_n 3, 1) := by decide +kernel
theorem dX11_waits_3 : decode cX11_waits 3 = .ok (.invokevirtual 368, 3) := by decide +kernel
theorem dX11_waits_6 : decode cX11_waits 6 = .ok (.ifCond .eq 10, 3) := by decide +kernel
theorem dX11_waits_16 : decode cX11_waits 16 = .ok (.bipush (-2), 2) := by decide +kernel
theorem dX11_waits_18 : decode cX11_waits 18 = .ok (.ireturn, 1) := by decide +kernel
theorem dX11_waits_9 : decode cX11_waits 9 = .ok (.iload_n 2, 1) := by decide +kernel
theorem dX11_waits_10 : decode cX11_waits 10 = .ok (.invokestatic 383, 3) := by decide +kernel
theorem dX11_waits_13 : decode cX11_waits 13 = .ok (.ifCond .ne 6, 3) := by decide +kernel
theorem dX11_waits_19 : decode cX11_waits 19 = .ok (.aload_n 0, 1) := by decide +kernel
theorem dX11_waits_20 : decode cX11_waits 20 = .ok (.getfield 55, 3) := by decide +kernel
theorem dX11_waits_23 : decode cX11_waits 23 = .ok (.iload_n 3, 1) := by decide +kernel
theorem dX11_waits_24 : decode cX11_waits 24 = .ok (.iload_n 1, 1) := by decide +kernel
theorem dX11_waits_25 : decode cX11_waits 25 = .ok (.iload_n 2, 1) := by decide +kernel
theorem dX11_waits_26 : decode cX11_waits 26 = .ok (.invokevirtual 386, 3) := by decide +kernel
theorem dX11_waits_29 : decode cX11_waits 29 = .ok (.ireturn, 1) := by decide +kernel
theorem dX3_floodOf_0 : decode cX3_floodOf 0 = .ok (.iload_n 0, 1) := by decide +kernel
theorem dX3_floodOf_1 : decode cX3_floodOf 1 = .ok (.bipush 7, 2) := by decide +kernel
theorem dX3_floodOf_3 : decode cX3_floodOf 3 = .ok (.idiv, 1) := by decide +kernel
theorem dX3_floodOf_4 : decode cX3_floodOf 4 = .ok (.iconst 3, 1) := by decide +kernel
theorem dX3_floodOf_5 : decode cX3_floodOf 5 = .ok (.isub, 1) := by decide +kernel
theorem dX3_floodOf_6 : decode cX3_floodOf 6 = .ok (.ireturn, 1) := by decide +kernel
theorem dX3_ebbOf_0 : decode cX3_ebbOf 0 = .ok (.iload_n 0, 1) := by decide +kernel
theorem dX3_ebbOf_1 : decode cX3_ebbOf 1 = .ok (.bipush 7, 2) := by decide +kernel
theorem dX3_ebbOf_3 : decode cX3_ebbOf 3 = .ok (.irem, 1) := by decide +kernel
theorem dX3_ebbOf_4 : decode cX3_ebbOf 4 = .ok (.iconst 3, 1) := by decide +kernel
theorem dX3_ebbOf_5 : decode cX3_ebbOf 5 = .ok (.isub, 1) := by decide +kernel
theorem dX3_ebbOf_6 : decode cX3_ebbOf 6 = .ok (.ireturn, 1) := by decide +kernel
theorem dX3_stepsIn_0 : decode cX3_stepsIn 0 = .ok (.iload_n 0, 1) := by decide +kernel
theorem dX3_stepsIn_1 : decode cX3_stepsIn 1 = .ok (.iconst 1, 1) := by decide +kernel
theorem dX3_stepsIn_2 : decode cX3_stepsIn 2 = .ok (.if_icmp .ne 5, 3) := by decide +kernel
theorem dX3_stepsIn_7 : decode cX3_stepsIn 7 = .ok (.iload_n 0, 1) := by decide +kernel
theorem dX3_stepsIn_8 : decode cX3_stepsIn 8 = .ok (.ifCond .ne 10, 3) := by decide +kernel
theorem dX3_stepsIn_18 : decode cX3_stepsIn 18 = .ok (.iload_n 1, 1) := by decide +kernel
theorem dX3_stepsIn_19 : decode cX3_stepsIn 19 = .ok (.invokestatic 104, 3) := by decide +kernel
theorem dX3_stepsIn_22 : decode cX3_stepsIn 22 = .ok (.ireturn, 1) := by decide +kernel
theorem dX3_stepsIn_11 : decode cX3_stepsIn 11 = .ok (.iload_n 1, 1) := by decide +kernel
theorem dX3_stepsIn_12 : decode cX3_stepsIn 12 = .ok (.invokestatic 101, 3) := by decide +kernel
theorem dX3_stepsIn_15 : decode cX3_stepsIn 15 = .ok (.goto 7, 3) := by decide +kernel
theorem dX3_stepsIn_5 : decode cX3_stepsIn 5 = .ok (.iconst 0, 1) := by decide +kernel
theorem dX3_stepsIn_6 : decode cX3_stepsIn 6 = .ok (.ireturn, 1) := by decide +kernel
theorem dX3_stepsOf_0 : decode cX3_stepsOf 0 = .ok (.iload_n 0, 1) := by decide +kernel
theorem dX3_stepsOf_1 : decode cX3_stepsOf 1 = .ok (.invokestatic 101, 3) := by decide +kernel
theorem dX3_stepsOf_4 : decode cX3_stepsOf 4 = .ok (.invokestatic 110, 3) := by decide +kernel
theorem dX3_stepsOf_7 : decode cX3_stepsOf 7 = .ok (.iload_n 0, 1) := by decide +kernel
theorem dX3_stepsOf_8 : decode cX3_stepsOf 8 = .ok (.invokestatic 104, 3) := by decide +kernel
theorem dX3_stepsOf_11 : decode cX3_stepsOf 11 = .ok (.invokestatic 110, 3) := by decide +kernel
theorem dX3_stepsOf_14 : decode cX3_stepsOf 14 = .ok (.iadd, 1) := by decide +kernel
theorem dX3_stepsOf_15 : decode cX3_stepsOf 15 = .ok (.ireturn, 1) := by decide +kernel
theorem dX3_isCell_0 : decode cX3_isCell 0 = .ok (.lload_n 1, 1) := by decide +kernel
theorem dX3_isCell_1 : decode cX3_isCell 1 = .ok (.lconst 0, 1) := by decide +kernel
theorem dX3_isCell_2 : decode cX3_isCell 2 = .ok (.lcmp, 1) := by decide +kernel
theorem dX3_isCell_3 : decode cX3_isCell 3 = .ok (.ifCond .lt 20, 3) := by decide +kernel
theorem dX3_isCell_23 : decode cX3_isCell 23 = .ok (.iconst 0, 1) := by decide +kernel
theorem dX3_isCell_24 : decode cX3_isCell 24 = .ok (.ireturn, 1) := by decide +kernel
theorem dX3_isCell_6 : decode cX3_isCell 6 = .ok (.lload_n 1, 1) := by decide +kernel
theorem dX3_isCell_7 : decode cX3_isCell 7 = .ok (.aload_n 0, 1) := by decide +kernel
theorem dX3_isCell_8 : decode cX3_isCell 8 = .ok (.getfield 18, 3) := by decide +kernel
theorem dX3_isCell_11 : decode cX3_isCell 11 = .ok (.getfield 67, 3) := by decide +kernel
theorem dX3_isCell_14 : decode cX3_isCell 14 = .ok (.i2l, 1) := by decide +kernel
theorem dX3_isCell_15 : decode cX3_isCell 15 = .ok (.lcmp, 1) := by decide +kernel
theorem dX3_isCell_16 : decode cX3_isCell 16 = .ok (.ifCond .ge 7, 3) := by decide +kernel
theorem dX3_isCell_19 : decode cX3_isCell 19 = .ok (.iconst 1, 1) := by decide +kernel
theorem dX3_isCell_20 : decode cX3_isCell 20 = .ok (.goto 4, 3) := by decide +kernel
theorem dX3_isHour_0 : decode cX3_isHour 0 = .ok (.lload_n 0, 1) := by decide +kernel
theorem dX3_isHour_1 : decode cX3_isHour 1 = .ok (.lconst 0, 1) := by decide +kernel
theorem dX3_isHour_2 : decode cX3_isHour 2 = .ok (.lcmp, 1) := by decide +kernel
theorem dX3_isHour_3 : decode cX3_isHour 3 = .ok (.ifCond .lt 15, 3) := by decide +kernel
theorem dX3_isHour_18 : decode cX3_isHour 18 = .ok (.iconst 0, 1) := by decide +kernel
theorem dX3_isHour_19 : decode cX3_isHour 19 = .ok (.ireturn, 1) := by decide +kernel
theorem dX3_isHour_6 : decode cX3_isHour 6 = .ok (.lload_n 0, 1) := by decide +kernel
theorem dX3_isHour_7 : decode cX3_isHour 7 = .ok (.ldc2_w 70, 3) := by decide +kernel
theorem dX3_isHour_10 : decode cX3_isHour 10 = .ok (.lcmp, 1) := by decide +kernel
theorem dX3_isHour_11 : decode cX3_isHour 11 = .ok (.ifCond .gt 7, 3) := by decide +kernel
theorem dX3_isHour_14 : decode cX3_isHour 14 = .ok (.iconst 1, 1) := by decide +kernel
theorem dX3_isHour_15 : decode cX3_isHour 15 = .ok (.goto 4, 3) := by decide +kernel
theorem dX3_areAllSuch_0 : decode cX3_areAllSuch 0 = .ok (.iconst 0, 1) := by decide +kernel
theorem dX3_areAllSuch_1 : decode cX3_areAllSuch 1 = .ok (.istore_n 3, 1) := by decide +kernel
theorem dX3_areAllSuch_2 : decode cX3_areAllSuch 2 = .ok (.iload_n 3, 1) := by decide +kernel
theorem dX3_areAllSuch_3 : decode cX3_areAllSuch 3 = .ok (.iconst 4, 1) := by decide +kernel
theorem dX3_areAllSuch_4 : decode cX3_areAllSuch 4 = .ok (.iadd, 1) := by decide +kernel
theorem dX3_areAllSuch_5 : decode cX3_areAllSuch 5 = .ok (.iload_n 2, 1) := by decide +kernel
theorem dX3_areAllSuch_6 : decode cX3_areAllSuch 6 = .ok (.if_icmp .gt 69, 3) := by decide +kernel
theorem dX3_areAllSuch_75 : decode cX3_areAllSuch 75 = .ok (.iconst 1, 1) := by decide +kernel
theorem dX3_areAllSuch_76 : decode cX3_areAllSuch 76 = .ok (.ireturn, 1) := by decide +kernel
theorem dX3_areAllSuch_9 : decode cX3_areAllSuch 9 = .ok (.aload_n 0, 1) := by decide +kernel
theorem dX3_areAllSuch_10 : decode cX3_areAllSuch 10 = .ok (.aload_n 1, 1) := by decide +kernel
theorem dX3_areAllSuch_11 : decode cX3_areAllSuch 11 = .ok (.iload_n 3, 1) := by decide +kernel
theorem dX3_areAllSuch_12 : decode cX3_areAllSuch 12 = .ok (.laload, 1) := by decide +kernel
theorem dX3_areAllSuch_13 : decode cX3_areAllSuch 13 = .ok (.invokevirtual 60, 3) := by decide +kernel
theorem dX3_areAllSuch_16 : decode cX3_areAllSuch 16 = .ok (.ifCond .eq 51, 3) := by decide +kernel
theorem dX3_areAllSuch_67 : decode cX3_areAllSuch 67 = .ok (.iconst 0, 1) := by decide +kernel
theorem dX3_areAllSuch_68 : decode cX3_areAllSuch 68 = .ok (.ireturn, 1) := by decide +kernel
theorem dX3_areAllSuch_19 : decode cX3_areAllSuch 19 = .ok (.aload_n 1, 1) := by decide +kernel
theorem dX3_areAllSuch_20 : decode cX3_areAllSuch 20 = .ok (.iload_n 3, 1) := by decide +kernel
theorem dX3_areAllSuch_21 : decode cX3_areAllSuch 21 = .ok (.iconst 1, 1) := by decide +kernel
theorem dX3_areAllSuch_22 : decode cX3_areAllSuch 22 = .ok (.iadd, 1) := by decide +kernel
theorem dX3_areAllSuch_23 : decode cX3_areAllSuch 23 = .ok (.laload, 1) := by decide +kernel
theorem dX3_areAllSuch_24 : decode cX3_areAllSuch 24 = .ok (.invokestatic 64, 3) := by decide +kernel
theorem dX3_areAllSuch_27 : decode cX3_areAllSuch 27 = .ok (.ifCond .eq 40, 3) := by decide +kernel
theorem dX3_areAllSuch_30 : decode cX3_areAllSuch 30 = .ok (.aload_n 1, 1) := by decide +kernel
theorem dX3_areAllSuch_31 : decode cX3_areAllSuch 31 = .ok (.iload_n 3, 1) := by decide +kernel
theorem dX3_areAllSuch_32 : decode cX3_areAllSuch 32 = .ok (.iconst 2, 1) := by decide +kernel
theorem dX3_areAllSuch_33 : decode cX3_areAllSuch 33 = .ok (.iadd, 1) := by decide +kernel
theorem dX3_areAllSuch_34 : decode cX3_areAllSuch 34 = .ok (.laload, 1) := by decide +kernel
theorem dX3_areAllSuch_35 : decode cX3_areAllSuch 35 = .ok (.invokestatic 64, 3) := by decide +kernel
theorem dX3_areAllSuch_38 : decode cX3_areAllSuch 38 = .ok (.ifCond .eq 29, 3) := by decide +kernel
theorem dX3_areAllSuch_41 : decode cX3_areAllSuch 41 = .ok (.aload_n 0, 1) := by decide +kernel
theorem dX3_areAllSuch_42 : decode cX3_areAllSuch 42 = .ok (.aload_n 1, 1) := by decide +kernel
theorem dX3_areAllSuch_43 : decode cX3_areAllSuch 43 = .ok (.iload_n 3, 1) := by decide +kernel
theorem dX3_areAllSuch_44 : decode cX3_areAllSuch 44 = .ok (.iconst 3, 1) := by decide +kernel
theorem dX3_areAllSuch_45 : decode cX3_areAllSuch 45 = .ok (.iadd, 1) := by decide +kernel
theorem dX3_areAllSuch_46 : decode cX3_areAllSuch 46 = .ok (.laload, 1) := by decide +kernel
theorem dX3_areAllSuch_47 : decode cX3_areAllSuch 47 = .ok (.invokevirtual 60, 3) := by decide +kernel
theorem dX3_areAllSuch_50 : decode cX3_areAllSuch 50 = .ok (.ifCond .eq 17, 3) := by decide +kernel
theorem dX3_areAllSuch_53 : decode cX3_areAllSuch 53 = .ok (.aload_n 1, 1) := by decide +kernel
theorem dX3_areAllSuch_54 : decode cX3_areAllSuch 54 = .ok (.iload_n 3, 1) := by decide +kernel
theorem dX3_areAllSuch_55 : decode cX3_areAllSuch 55 = .ok (.iconst 2, 1) := by decide +kernel
theorem dX3_areAllSuch_56 : decode cX3_areAllSuch 56 = .ok (.iadd, 1) := by decide +kernel
theorem dX3_areAllSuch_57 : decode cX3_areAllSuch 57 = .ok (.laload, 1) := by decide +kernel
theorem dX3_areAllSuch_58 : decode cX3_areAllSuch 58 = .ok (.aload_n 1, 1) := by decide +kernel
theorem dX3_areAllSuch_59 : decode cX3_areAllSuch 59 = .ok (.iload_n 3, 1) := by decide +kernel
theorem dX3_areAllSuch_60 : decode cX3_areAllSuch 60 = .ok (.iconst 1, 1) := by decide +kernel
theorem dX3_areAllSuch_61 : decode cX3_areAllSuch 61 = .ok (.iadd, 1) := by decide +kernel
theorem dX3_areAllSuch_62 : decode cX3_areAllSuch 62 = .ok (.laload, 1) := by decide +kernel
theorem dX3_areAllSuch_63 : decode cX3_areAllSuch 63 = .ok (.lcmp, 1) := by decide +kernel
theorem dX3_areAllSuch_64 : decode cX3_areAllSuch 64 = .ok (.ifCond .ge 5, 3) := by decide +kernel
theorem dX3_areAllSuch_69 : decode cX3_areAllSuch 69 = .ok (.iinc 3 4, 3) := by decide +kernel
theorem dX3_areAllSuch_72 : decode cX3_areAllSuch 72 = .ok (.goto (-70), 3) := by decide +kernel
theorem dX3_carried_0 : decode cX3_carried 0 = .ok (.iload_n 1, 1) := by decide +kernel
theorem dX3_carried_1 : decode cX3_carried 1 = .ok (.istore 5, 2) := by decide +kernel
theorem dX3_carried_3 : decode cX3_carried 3 = .ok (.iload_n 2, 1) := by decide +kernel
theorem dX3_carried_4 : decode cX3_carried 4 = .ok (.istore 6, 2) := by decide +kernel
theorem dX3_carried_6 : decode cX3_carried 6 = .ok (.iconst 0, 1) := by decide +kernel
theorem dX3_carried_7 : decode cX3_carried 7 = .ok (.istore 7, 2) := by decide +kernel
theorem dX3_carried_9 : decode cX3_carried 9 = .ok (.iload 7, 2) := by decide +kernel
theorem dX3_carried_11 : decode cX3_carried 11 = .ok (.sipush 400, 3) := by decide +kernel
theorem dX3_carried_14 : decode cX3_carried 14 = .ok (.if_icmp .gt 74, 3) := by decide +kernel
theorem dX3_carried_17 : decode cX3_carried 17 = .ok (.iload 6, 2) := by decide +kernel
theorem dX3_carried_19 : decode cX3_carried 19 = .ok (.iload_n 3, 1) := by decide +kernel
theorem dX3_carried_20 : decode cX3_carried 20 = .ok (.if_icmp .ge 68, 3) := by decide +kernel
theorem dX3_carried_88 : decode cX3_carried 88 = .ok (.iload 5, 2) := by decide +kernel
theorem dX3_carried_90 : decode cX3_carried 90 = .ok (.ireturn, 1) := by decide +kernel
theorem dX3_carried_23 : decode cX3_carried 23 = .ok (.aload_n 0, 1) := by decide +kernel
theorem dX3_carried_24 : decode cX3_carried 24 = .ok (.getfield 18, 3) := by decide +kernel
theorem dX3_carried_27 : decode cX3_carried 27 = .ok (.getfield 76, 3) := by decide +kernel
theorem dX3_carried_30 : decode cX3_carried 30 = .ok (.iload 6, 2) := by decide +kernel
theorem dX3_carried_32 : decode cX3_carried 32 = .ok (.invokevirtual 80, 3) := by decide +kernel
theorem dX3_carried_35 : decode cX3_carried 35 = .ok (.iload_n 3, 1) := by decide +kernel
theorem dX3_carried_36 : decode cX3_carried 36 = .ok (.iload 6, 2) := by decide +kernel
theorem dX3_carried_38 : decode cX3_carried 38 = .ok (.isub, 1) := by decide +kernel
theorem dX3_carried_39 : decode cX3_carried 39 = .ok (.invokestatic 86, 3) := by decide +kernel
theorem dX3_carried_42 : decode cX3_carried 42 = .ok (.istore 8, 2) := by decide +kernel
theorem dX3_carried_44 : decode cX3_carried 44 = .ok (.aload_n 0, 1) := by decide +kernel
theorem dX3_carried_45 : decode cX3_carried 45 = .ok (.getfield 18, 3) := by decide +kernel
theorem dX3_carried_48 : decode cX3_carried 48 = .ok (.iload 5, 2) := by decide +kernel
theorem dX3_carried_50 : decode cX3_carried 50 = .ok (.aload_n 0, 1) := by decide +kernel
theorem dX3_carried_51 : decode cX3_carried 51 = .ok (.getfield 18, 3) := by decide +kernel
theorem dX3_carried_54 : decode cX3_carried 54 = .ok (.getfield 76, 3) := by decide +kernel
theorem dX3_carried_57 : decode cX3_carried 57 = .ok (.iload 6, 2) := by decide +kernel
theorem dX3_carried_59 : decode cX3_carried 59 = .ok (.invokevirtual 92, 3) := by decide +kernel
theorem dX3_carried_62 : decode cX3_carried 62 = .ok (.iload 4, 2) := by decide +kernel
theorem dX3_carried_64 : decode cX3_carried 64 = .ok (.invokestatic 95, 3) := by decide +kernel
theorem dX3_carried_67 : decode cX3_carried 67 = .ok (.iload 8, 2) := by decide +kernel
theorem dX3_carried_69 : decode cX3_carried 69 = .ok (.imul, 1) := by decide +kernel
theorem dX3_carried_70 : decode cX3_carried 70 = .ok (.invokevirtual 98, 3) := by decide +kernel
theorem dX3_carried_73 : decode cX3_carried 73 = .ok (.istore 5, 2) := by decide +kernel
theorem dX3_carried_75 : decode cX3_carried 75 = .ok (.iload 6, 2) := by decide +kernel
theorem dX3_carried_77 : decode cX3_carried 77 = .ok (.iload 8, 2) := by decide +kernel
theorem dX3_carried_79 : decode cX3_carried 79 = .ok (.iadd, 1) := by decide +kernel
theorem dX3_carried_80 : decode cX3_carried 80 = .ok (.istore 6, 2) := by decide +kernel
theorem dX3_carried_82 : decode cX3_carried 82 = .ok (.iinc 7 1, 3) := by decide +kernel
theorem dX3_carried_85 : decode cX3_carried 85 = .ok (.goto (-76), 3) := by decide +kernel
theorem dX3_fitsAll_0 : decode cX3_fitsAll 0 = .ok (.iconst 0, 1) := by decide +kernel
theorem dX3_fitsAll_1 : decode cX3_fitsAll 1 = .ok (.istore 4, 2) := by decide +kernel
theorem dX3_fitsAll_3 : decode cX3_fitsAll 3 = .ok (.iload 4, 2) := by decide +kernel
theorem dX3_fitsAll_5 : decode cX3_fitsAll 5 = .ok (.iconst 4, 1) := by decide +kernel
theorem dX3_fitsAll_6 : decode cX3_fitsAll 6 = .ok (.iadd, 1) := by decide +kernel
theorem dX3_fitsAll_7 : decode cX3_fitsAll 7 = .ok (.iload_n 3, 1) := by decide +kernel
theorem dX3_fitsAll_8 : decode cX3_fitsAll 8 = .ok (.if_icmp .gt 50, 3) := by decide +kernel
theorem dX3_fitsAll_58 : decode cX3_fitsAll 58 = .ok (.iconst 1, 1) := by decide +kernel
theorem dX3_fitsAll_59 : decode cX3_fitsAll 59 = .ok (.ireturn, 1) := by decide +kernel
theorem dX3_fitsAll_11 : decode cX3_fitsAll 11 = .ok (.aload_n 0, 1) := by decide +kernel
theorem dX3_fitsAll_12 : decode cX3_fitsAll 12 = .ok (.aload_n 2, 1) := by decide +kernel
theorem dX3_fitsAll_13 : decode cX3_fitsAll 13 = .ok (.iload 4, 2) := by decide +kernel
theorem dX3_fitsAll_15 : decode cX3_fitsAll 15 = .ok (.laload, 1) := by decide +kernel
theorem dX3_fitsAll_16 : decode cX3_fitsAll 16 = .ok (.l2i, 1) := by decide +kernel
theorem dX3_fitsAll_17 : decode cX3_fitsAll 17 = .ok (.aload_n 2, 1) := by decide +kernel
theorem dX3_fitsAll_18 : decode cX3_fitsAll 18 = .ok (.iload 4, 2) := by decide +kernel
theorem dX3_fitsAll_20 : decode cX3_fitsAll 20 = .ok (.iconst 1, 1) := by decide +kernel
theorem dX3_fitsAll_21 : decode cX3_fitsAll 21 = .ok (.iadd, 1) := by decide +kernel
theorem dX3_fitsAll_22 : decode cX3_fitsAll 22 = .ok (.laload, 1) := by decide +kernel
theorem dX3_fitsAll_23 : decode cX3_fitsAll 23 = .ok (.l2i, 1) := by decide +kernel
theorem dX3_fitsAll_24 : decode cX3_fitsAll 24 = .ok (.aload_n 2, 1) := by decide +kernel
theorem dX3_fitsAll_25 : decode cX3_fitsAll 25 = .ok (.iload 4, 2) := by decide +kernel
theorem dX3_fitsAll_27 : decode cX3_fitsAll 27 = .ok (.iconst 2, 1) := by decide +kernel
theorem dX3_fitsAll_28 : decode cX3_fitsAll 28 = .ok (.iadd, 1) := by decide +kernel
theorem dX3_fitsAll_29 : decode cX3_fitsAll 29 = .ok (.laload, 1) := by decide +kernel
theorem dX3_fitsAll_30 : decode cX3_fitsAll 30 = .ok (.l2i, 1) := by decide +kernel
theorem dX3_fitsAll_31 : decode cX3_fitsAll 31 = .ok (.iload_n 1, 1) := by decide +kernel
theorem dX3_fitsAll_32 : decode cX3_fitsAll 32 = .ok (.invokevirtual 72, 3) := by decide +kernel
theorem dX3_fitsAll_35 : decode cX3_fitsAll 35 = .ok (.istore 5, 2) := by decide +kernel
theorem dX3_fitsAll_37 : decode cX3_fitsAll 37 = .ok (.iload 5, 2) := by decide +kernel
theorem dX3_fitsAll_39 : decode cX3_fitsAll 39 = .ok (.i2l, 1) := by decide +kernel
theorem dX3_fitsAll_40 : decode cX3_fitsAll 40 = .ok (.aload_n 2, 1) := by decide +kernel
theorem dX3_fitsAll_41 : decode cX3_fitsAll 41 = .ok (.iload 4, 2) := by decide +kernel
theorem dX3_fitsAll_43 : decode cX3_fitsAll 43 = .ok (.iconst 3, 1) := by decide +kernel
theorem dX3_fitsAll_44 : decode cX3_fitsAll 44 = .ok (.iadd, 1) := by decide +kernel
theorem dX3_fitsAll_45 : decode cX3_fitsAll 45 = .ok (.laload, 1) := by decide +kernel
theorem dX3_fitsAll_46 : decode cX3_fitsAll 46 = .ok (.lcmp, 1) := by decide +kernel
theorem dX3_fitsAll_47 : decode cX3_fitsAll 47 = .ok (.ifCond .eq 5, 3) := by decide +kernel
theorem dX3_fitsAll_52 : decode cX3_fitsAll 52 = .ok (.iinc 4 4, 3) := by decide +kernel
theorem dX3_fitsAll_55 : decode cX3_fitsAll 55 = .ok (.goto (-52), 3) := by decide +kernel
theorem dX3_fitsAll_50 : decode cX3_fitsAll 50 = .ok (.iconst 0, 1) := by decide +kernel
theorem dX3_fitsAll_51 : decode cX3_fitsAll 51 = .ok (.ireturn, 1) := by decide +kernel
theorem dX3_collect_0 : decode cX3_collect 0 = .ok (.aload_n 0, 1) := by decide +kernel
theorem dX3_collect_1 : decode cX3_collect 1 = .ok (.iconst 0, 1) := by decide +kernel
theorem dX3_collect_2 : decode cX3_collect 2 = .ok (.putfield 26, 3) := by decide +kernel
theorem dX3_collect_5 : decode cX3_collect 5 = .ok (.iload_n 1, 1) := by decide +kernel
theorem dX3_collect_6 : decode cX3_collect 6 = .ok (.invokestatic 30, 3) := by decide +kernel
theorem dX3_collect_9 : decode cX3_collect 9 = .ok (.ifCond .eq 13, 3) := by decide +kernel
theorem dX3_collect_22 : decode cX3_collect 22 = .ok (.bipush (-2), 2) := by decide +kernel
theorem dX3_collect_24 : decode cX3_collect 24 = .ok (.ireturn, 1) := by decide +kernel
theorem dX3_collect_12 : decode cX3_collect 12 = .ok (.aload_n 0, 1) := by decide +kernel
theorem dX3_collect_13 : decode cX3_collect 13 = .ok (.getfield 18, 3) := by decide +kernel
theorem dX3_collect_16 : decode cX3_collect 16 = .ok (.invokevirtual 36, 3) := by decide +kernel
theorem dX3_collect_19 : decode cX3_collect 19 = .ok (.ifCond .ne 6, 3) := by decide +kernel
theorem dX3_collect_25 : decode cX3_collect 25 = .ok (.aload_n 0, 1) := by decide +kernel
theorem dX3_collect_26 : decode cX3_collect 26 = .ok (.getfield 22, 3) := by decide +kernel
theorem dX3_collect_29 : decode cX3_collect 29 = .ok (.iload_n 1, 1) := by decide +kernel
theorem dX3_collect_30 : decode cX3_collect 30 = .ok (.invokevirtual 42, 3) := by decide +kernel
theorem dX3_collect_33 : decode cX3_collect 33 = .ok (.ifCond .ne 6, 3) := by decide +kernel
theorem dX3_collect_39 : decode cX3_collect 39 = .ok (.aload_n 0, 1) := by decide +kernel
theorem dX3_collect_40 : decode cX3_collect 40 = .ok (.getfield 22, 3) := by decide +kernel
theorem dX3_collect_43 : decode cX3_collect 43 = .ok (.getfield 45, 3) := by decide +kernel
theorem dX3_collect_46 : decode cX3_collect 46 = .ok (.iload_n 1, 1) := by decide +kernel
theorem dX3_collect_47 : decode cX3_collect 47 = .ok (.iaload, 1) := by decide +kernel
theorem dX3_collect_48 : decode cX3_collect 48 = .ok (.istore_n 2, 1) := by decide +kernel
theorem dX3_collect_49 : decode cX3_collect 49 = .ok (.iload_n 2, 1) := by decide +kernel
theorem dX3_collect_50 : decode cX3_collect 50 = .ok (.iconst 4, 1) := by decide +kernel
theorem dX3_collect_51 : decode cX3_collect 51 = .ok (.irem, 1) := by decide +kernel
theorem dX3_collect_52 : decode cX3_collect 52 = .ok (.ifCond .ne 20, 3) := by decide +kernel
theorem dX3_collect_72 : decode cX3_collect 72 = .ok (.bipush (-2), 2) := by decide +kernel
theorem dX3_collect_74 : decode cX3_collect 74 = .ok (.ireturn, 1) := by decide +kernel
theorem dX3_collect_55 : decode cX3_collect 55 = .ok (.aload_n 0, 1) := by decide +kernel
theorem dX3_collect_56 : decode cX3_collect 56 = .ok (.aload_n 0, 1) := by decide +kernel
theorem dX3_collect_57 : decode cX3_collect 57 = .ok (.getfield 22, 3) := by decide +kernel
theorem dX3_collect_60 : decode cX3_collect 60 = .ok (.getfield 48, 3) := by decide +kernel
theorem dX3_collect_63 : decode cX3_collect 63 = .ok (.iload_n 1, 1) := by decide +kernel
theorem dX3_collect_64 : decode cX3_collect 64 = .ok (.aaload, 1) := by decide +kernel
theorem dX3_collect_65 : decode cX3_collect 65 = .ok (.iload_n 2, 1) := by decide +kernel
theorem dX3_collect_66 : decode cX3_collect 66 = .ok (.invokevirtual 52, 3) := by decide +kernel
theorem dX3_collect_69 : decode cX3_collect 69 = .ok (.ifCond .ne 6, 3) := by decide +kernel
theorem dX3_collect_75 : decode cX3_collect 75 = .ok (.iconst 0, 1) := by decide +kernel
theorem dX3_collect_76 : decode cX3_collect 76 = .ok (.istore_n 3, 1) := by decide +kernel
theorem dX3_collect_77 : decode cX3_collect 77 = .ok (.iload_n 3, 1) := by decide +kernel
theorem dX3_collect_78 : decode cX3_collect 78 = .ok (.bipush 49, 2) := by decide +kernel
theorem dX3_collect_80 : decode cX3_collect 80 = .ok (.if_icmp .ge 47, 3) := by decide +kernel
theorem dX3_collect_83 : decode cX3_collect 83 = .ok (.aload_n 0, 1) := by decide +kernel
theorem dX3_collect_84 : decode cX3_collect 84 = .ok (.iload_n 3, 1) := by decide +kernel
theorem dX3_collect_85 : decode cX3_collect 85 = .ok (.aload_n 0, 1) := by decide +kernel
theorem dX3_collect_86 : decode cX3_collect 86 = .ok (.getfield 22, 3) := by decide +kernel
theorem dX3_collect_89 : decode cX3_collect 89 = .ok (.getfield 48, 3) := by decide +kernel
theorem dX3_collect_92 : decode cX3_collect 92 = .ok (.iload_n 1, 1) := by decide +kernel
theorem dX3_collect_93 : decode cX3_collect 93 = .ok (.aaload, 1) := by decide +kernel
theorem dX3_collect_94 : decode cX3_collect 94 = .ok (.iload_n 2, 1) := by decide +kernel
theorem dX3_collect_95 : decode cX3_collect 95 = .ok (.invokevirtual 56, 3) := by decide +kernel
theorem dX3_collect_98 : decode cX3_collect 98 = .ok (.ifCond .eq 23, 3) := by decide +kernel
theorem dX3_collect_121 : decode cX3_collect 121 = .ok (.iinc 3 1, 3) := by decide +kernel
theorem dX3_collect_124 : decode cX3_collect 124 = .ok (.goto (-47), 3) := by decide +kernel
theorem dX3_collect_101 : decode cX3_collect 101 = .ok (.aload_n 0, 1) := by decide +kernel
theorem dX3_collect_102 : decode cX3_collect 102 = .ok (.getfield 11, 3) := by decide +kernel
theorem dX3_collect_105 : decode cX3_collect 105 = .ok (.aload_n 0, 1) := by decide +kernel
theorem dX3_collect_106 : decode cX3_collect 106 = .ok (.getfield 26, 3) := by decide +kernel
theorem dX3_collect_109 : decode cX3_collect 109 = .ok (.iload_n 3, 1) := by decide +kernel
theorem dX3_collect_110 : decode cX3_collect 110 = .ok (.iastore, 1) := by decide +kernel
theorem dX3_collect_111 : decode cX3_collect 111 = .ok (.aload_n 0, 1) := by decide +kernel
theorem dX3_collect_112 : decode cX3_collect 112 = .ok (.dup, 1) := by decide +kernel
theorem dX3_collect_113 : decode cX3_collect 113 = .ok (.getfield 26, 3) := by decide +kernel
theorem dX3_collect_116 : decode cX3_collect 116 = .ok (.iconst 1, 1) := by decide +kernel
theorem dX3_collect_117 : decode cX3_collect 117 = .ok (.iadd, 1) := by decide +kernel
theorem dX3_collect_118 : decode cX3_collect 118 = .ok (.putfield 26, 3) := by decide +kernel
theorem dX3_collect_127 : decode cX3_collect 127 = .ok (.aload_n 0, 1) := by decide +kernel
theorem dX3_collect_128 : decode cX3_collect 128 = .ok (.getfield 26, 3) := by decide +kernel
theorem dX3_collect_131 : decode cX3_collect 131 = .ok (.ireturn, 1) := by decide +kernel
theorem dX3_collect_36 : decode cX3_collect 36 = .ok (.bipush (-6), 2) := by decide +kernel
theorem dX3_collect_38 : decode cX3_collect 38 = .ok (.ireturn, 1) := by decide +kernel
theorem dX3_smallest_0 : decode cX3_smallest 0 = .ok (.aload_n 0, 1) := by decide +kernel
theorem dX3_smallest_1 : decode cX3_smallest 1 = .ok (.getfield 11, 3) := by decide +kernel
theorem dX3_smallest_4 : decode cX3_smallest 4 = .ok (.iconst 0, 1) := by decide +kernel
theorem dX3_smallest_5 : decode cX3_smallest 5 = .ok (.iaload, 1) := by decide +kernel
theorem dX3_smallest_6 : decode cX3_smallest 6 = .ok (.istore_n 1, 1) := by decide +kernel
theorem dX3_smallest_7 : decode cX3_smallest 7 = .ok (.iconst 1, 1) := by decide +kernel
theorem dX3_smallest_8 : decode cX3_smallest 8 = .ok (.istore_n 2, 1) := by decide +kernel
theorem dX3_smallest_9 : decode cX3_smallest 9 = .ok (.iload_n 2, 1) := by decide +kernel
theorem dX3_smallest_10 : decode cX3_smallest 10 = .ok (.aload_n 0, 1) := by decide +kernel
theorem dX3_smallest_11 : decode cX3_smallest 11 = .ok (.getfield 26, 3) := by decide +kernel
theorem dX3_smallest_14 : decode cX3_smallest 14 = .ok (.if_icmp .ge 32, 3) := by decide +kernel
theorem dX3_smallest_46 : decode cX3_smallest 46 = .ok (.iload_n 1, 1) := by decide +kernel
theorem dX3_smallest_47 : decode cX3_smallest 47 = .ok (.ireturn, 1) := by decide +kernel
theorem dX3_smallest_17 : decode cX3_smallest 17 = .ok (.aload_n 0, 1) := by decide +kernel
theorem dX3_smallest_18 : decode cX3_smallest 18 = .ok (.getfield 11, 3) := by decide +kernel
theorem dX3_smallest_21 : decode cX3_smallest 21 = .ok (.iload_n 2, 1) := by decide +kernel
theorem dX3_smallest_22 : decode cX3_smallest 22 = .ok (.iaload, 1) := by decide +kernel
theorem dX3_smallest_23 : decode cX3_smallest 23 = .ok (.invokestatic 107, 3) := by decide +kernel
theorem dX3_smallest_26 : decode cX3_smallest 26 = .ok (.iload_n 1, 1) := by decide +kernel
theorem dX3_smallest_27 : decode cX3_smallest 27 = .ok (.invokestatic 107, 3) := by decide +kernel
theorem dX3_smallest_30 : decode cX3_smallest 30 = .ok (.if_icmp .ge 10, 3) := by decide +kernel
theorem dX3_smallest_40 : decode cX3_smallest 40 = .ok (.iinc 2 1, 3) := by decide +kernel
theorem dX3_smallest_43 : decode cX3_smallest 43 = .ok (.goto (-34), 3) := by decide +kernel
theorem dX3_smallest_33 : decode cX3_smallest 33 = .ok (.aload_n 0, 1) := by decide +kernel
theorem dX3_smallest_34 : decode cX3_smallest 34 = .ok (.getfield 11, 3) := by decide +kernel
theorem dX3_smallest_37 : decode cX3_smallest 37 = .ok (.iload_n 2, 1) := by decide +kernel
theorem dX3_smallest_38 : decode cX3_smallest 38 = .ok (.iaload, 1) := by decide +kernel
theorem dX3_smallest_39 : decode cX3_smallest 39 = .ok (.istore_n 1, 1) := by decide +kernel
theorem dX3_worstAfter_0 : decode cX3_worstAfter 0 = .ok (.aload_n 0, 1) := by decide +kernel
theorem dX3_worstAfter_1 : decode cX3_worstAfter 1 = .ok (.getfield 15, 3) := by decide +kernel
theorem dX3_worstAfter_4 : decode cX3_worstAfter 4 = .ok (.iconst 0, 1) := by decide +kernel
theorem dX3_worstAfter_5 : decode cX3_worstAfter 5 = .ok (.invokestatic 113, 3) := by decide +kernel
theorem dX3_worstAfter_8 : decode cX3_worstAfter 8 = .ok (.iconst 0, 1) := by decide +kernel
theorem dX3_worstAfter_9 : decode cX3_worstAfter 9 = .ok (.istore_n 2, 1) := by decide +kernel
theorem dX3_worstAfter_10 : decode cX3_worstAfter 10 = .ok (.iconst 0, 1) := by decide +kernel
theorem dX3_worstAfter_11 : decode cX3_worstAfter 11 = .ok (.istore_n 3, 1) := by decide +kernel
theorem dX3_worstAfter_12 : decode cX3_worstAfter 12 = .ok (.iload_n 3, 1) := by decide +kernel
theorem dX3_worstAfter_13 : decode cX3_worstAfter 13 = .ok (.aload_n 0, 1) := by decide +kernel
theorem dX3_worstAfter_14 : decode cX3_worstAfter 14 = .ok (.getfield 26, 3) := by decide +kernel
theorem dX3_worstAfter_17 : decode cX3_worstAfter 17 = .ok (.if_icmp .ge 48, 3) := by decide +kernel
theorem dX3_worstAfter_65 : decode cX3_worstAfter 65 = .ok (.iload_n 2, 1) := by decide +kernel
theorem dX3_worstAfter_66 : decode cX3_worstAfter 66 = .ok (.ireturn, 1) := by decide +kernel
theorem dX3_worstAfter_20 : decode cX3_worstAfter 20 = .ok (.aload_n 0, 1) := by decide +kernel
theorem dX3_worstAfter_21 : decode cX3_worstAfter 21 = .ok (.iload_n 1, 1) := by decide +kernel
theorem dX3_worstAfter_22 : decode cX3_worstAfter 22 = .ok (.iconst 0, 1) := by decide +kernel
theorem dX3_worstAfter_23 : decode cX3_worstAfter 23 = .ok (.bipush 12, 2) := by decide +kernel
theorem dX3_worstAfter_25 : decode cX3_worstAfter 25 = .ok (.aload_n 0, 1) := by decide +kernel
theorem dX3_worstAfter_26 : decode cX3_worstAfter 26 = .ok (.getfield 11, 3) := by decide +kernel
theorem dX3_worstAfter_29 : decode cX3_worstAfter 29 = .ok (.iload_n 3, 1) := by decide +kernel
theorem dX3_worstAfter_30 : decode cX3_worstAfter 30 = .ok (.iaload, 1) := by decide +kernel
theorem dX3_worstAfter_31 : decode cX3_worstAfter 31 = .ok (.invokevirtual 72, 3) := by decide +kernel
theorem dX3_worstAfter_34 : decode cX3_worstAfter 34 = .ok (.istore 4, 2) := by decide +kernel
theorem dX3_worstAfter_36 : decode cX3_worstAfter 36 = .ok (.aload_n 0, 1) := by decide +kernel
theorem dX3_worstAfter_37 : decode cX3_worstAfter 37 = .ok (.getfield 15, 3) := by decide +kernel
theorem dX3_worstAfter_40 : decode cX3_worstAfter 40 = .ok (.iload 4, 2) := by decide +kernel
theorem dX3_worstAfter_42 : decode cX3_worstAfter 42 = .ok (.dup2, 1) := by decide +kernel
theorem dX3_worstAfter_43 : decode cX3_worstAfter 43 = .ok (.iaload, 1) := by decide +kernel
theorem dX3_worstAfter_44 : decode cX3_worstAfter 44 = .ok (.iconst 1, 1) := by decide +kernel
theorem dX3_worstAfter_45 : decode cX3_worstAfter 45 = .ok (.iadd, 1) := by decide +kernel
theorem dX3_worstAfter_46 : decode cX3_worstAfter 46 = .ok (.iastore, 1) := by decide +kernel
theorem dX3_worstAfter_47 : decode cX3_worstAfter 47 = .ok (.iload_n 2, 1) := by decide +kernel
theorem dX3_worstAfter_48 : decode cX3_worstAfter 48 = .ok (.aload_n 0, 1) := by decide +kernel
theorem dX3_worstAfter_49 : decode cX3_worstAfter 49 = .ok (.getfield 15, 3) := by decide +kernel
theorem dX3_worstAfter_52 : decode cX3_worstAfter 52 = .ok (.iload 4, 2) := by decide +kernel
theorem dX3_worstAfter_54 : decode cX3_worstAfter 54 = .ok (.iaload, 1) := by decide +kernel
theorem dX3_worstAfter_55 : decode cX3_worstAfter 55 = .ok (.invokestatic 119, 3) := by decide +kernel
theorem dX3_worstAfter_58 : decode cX3_worstAfter 58 = .ok (.istore_n 2, 1) := by decide +kernel
theorem dX3_worstAfter_59 : decode cX3_worstAfter 59 = .ok (.iinc 3 1, 3) := by decide +kernel
theorem dX3_worstAfter_62 : decode cX3_worstAfter 62 = .ok (.goto (-50), 3) := by decide +kernel
theorem dX3_bestCell_0 : decode cX3_bestCell 0 = .ok (.iconst (-1), 1) := by decide +kernel
theorem dX3_bestCell_1 : decode cX3_bestCell 1 = .ok (.istore_n 1, 1) := by decide +kernel
theorem dX3_bestCell_2 : decode cX3_bestCell 2 = .ok (.aload_n 0, 1) := by decide +kernel
theorem dX3_bestCell_3 : decode cX3_bestCell 3 = .ok (.getfield 26, 3) := by decide +kernel
theorem dX3_bestCell_6 : decode cX3_bestCell 6 = .ok (.istore_n 2, 1) := by decide +kernel
theorem dX3_bestCell_7 : decode cX3_bestCell 7 = .ok (.iconst 0, 1) := by decide +kernel
theorem dX3_bestCell_8 : decode cX3_bestCell 8 = .ok (.istore_n 3, 1) := by decide +kernel
theorem dX3_bestCell_9 : decode cX3_bestCell 9 = .ok (.iload_n 3, 1) := by decide +kernel
theorem dX3_bestCell_10 : decode cX3_bestCell 10 = .ok (.aload_n 0, 1) := by decide +kernel
theorem dX3_bestCell_11 : decode cX3_bestCell 11 = .ok (.getfield 18, 3) := by decide +kernel
theorem dX3_bestCell_14 : decode cX3_bestCell 14 = .ok (.getfield 67, 3) := by decide +kernel
theorem dX3_bestCell_17 : decode cX3_bestCell 17 = .ok (.if_icmp .ge 27, 3) := by decide +kernel
theorem dX3_bestCell_20 : decode cX3_bestCell 20 = .ok (.aload_n 0, 1) := by decide +kernel
theorem dX3_bestCell_21 : decode cX3_bestCell 21 = .ok (.iload_n 3, 1) := by decide +kernel
theorem dX3_bestCell_22 : decode cX3_bestCell 22 = .ok (.invokevirtual 122, 3) := by decide +kernel
theorem dX3_bestCell_25 : decode cX3_bestCell 25 = .ok (.istore 4, 2) := by decide +kernel
theorem dX3_bestCell_27 : decode cX3_bestCell 27 = .ok (.iload 4, 2) := by decide +kernel
theorem dX3_bestCell_29 : decode cX3_bestCell 29 = .ok (.iload_n 2, 1) := by decide +kernel
theorem dX3_bestCell_30 : decode cX3_bestCell 30 = .ok (.if_icmp .ge 8, 3) := by decide +kernel
theorem dX3_bestCell_38 : decode cX3_bestCell 38 = .ok (.iinc 3 1, 3) := by decide +kernel
theorem dX3_bestCell_41 : decode cX3_bestCell 41 = .ok (.goto (-32), 3) := by decide +kernel
theorem dX3_bestCell_33 : decode cX3_bestCell 33 = .ok (.iload 4, 2) := by decide +kernel
theorem dX3_bestCell_35 : decode cX3_bestCell 35 = .ok (.istore_n 2, 1) := by decide +kernel
theorem dX3_bestCell_36 : decode cX3_bestCell 36 = .ok (.iload_n 3, 1) := by decide +kernel
theorem dX3_bestCell_37 : decode cX3_bestCell 37 = .ok (.istore_n 1, 1) := by decide +kernel
theorem dX3_bestCell_44 : decode cX3_bestCell 44 = .ok (.iload_n 1, 1) := by decide +kernel
theorem dX3_bestCell_45 : decode cX3_bestCell 45 = .ok (.ireturn, 1) := by decide +kernel
theorem dX11_fits_0 : decode cX11_fits 0 = .ok (.aload_n 0, 1) := by decide +kernel
theorem dX11_fits_1 : decode cX11_fits 1 = .ok (.getfield 94, 3) := by decide +kernel
theorem dX11_fits_4 : decode cX11_fits 4 = .ok (.iload_n 1, 1) := by decide +kernel
theorem dX11_fits_5 : decode cX11_fits 5 = .ok (.invokevirtual 316, 3) := by decide +kernel
theorem dX11_fits_8 : decode cX11_fits 8 = .ok (.ireturn, 1) := by decide +kernel
theorem dX11_fit_0 : decode cX11_fit 0 = .ok (.aload_n 0, 1) := by decide +kernel
theorem dX11_fit_1 : decode cX11_fit 1 = .ok (.getfield 94, 3) := by decide +kernel
theorem dX11_fit_4 : decode cX11_fit 4 = .ok (.iload_n 1, 1) := by decide +kernel
theorem dX11_fit_5 : decode cX11_fit 5 = .ok (.invokevirtual 316, 3) := by decide +kernel
theorem dX11_fit_8 : decode cX11_fit 8 = .ok (.iconst 1, 1) := by decide +kernel
theorem dX11_fit_9 : decode cX11_fit 9 = .ok (.if_icmp .ge 7, 3) := by decide +kernel
theorem dX11_fit_16 : decode cX11_fit 16 = .ok (.iload_n 2, 1) := by decide +kernel
theorem dX11_fit_17 : decode cX11_fit 17 = .ok (.lookupswitch 49 #[(0, 27), (1, 38)], 27) := by decide +kernel
theorem dX11_fit_44 : decode cX11_fit 44 = .ok (.aload_n 0, 1) := by decide +kernel
theorem dX11_fit_45 : decode cX11_fit 45 = .ok (.getfield 94, 3) := by decide +kernel
theorem dX11_fit_48 : decode cX11_fit 48 = .ok (.invokevirtual 319, 3) := by decide +kernel
theorem dX11_fit_51 : decode cX11_fit 51 = .ok (.invokestatic 322, 3) := by decide +kernel
theorem dX11_fit_54 : decode cX11_fit 54 = .ok (.ireturn, 1) := by decide +kernel
theorem dX11_fit_55 : decode cX11_fit 55 = .ok (.aload_n 0, 1) := by decide +kernel
theorem dX11_fit_56 : decode cX11_fit 56 = .ok (.getfield 94, 3) := by decide +kernel
theorem dX11_fit_59 : decode cX11_fit 59 = .ok (.invokevirtual 319, 3) := by decide +kernel
theorem dX11_fit_62 : decode cX11_fit 62 = .ok (.invokestatic 325, 3) := by decide +kernel
theorem dX11_fit_65 : decode cX11_fit 65 = .ok (.ireturn, 1) := by decide +kernel
theorem dX11_fit_66 : decode cX11_fit 66 = .ok (.sipush (-1000), 3) := by decide +kernel
theorem dX11_fit_69 : decode cX11_fit 69 = .ok (.ireturn, 1) := by decide +kernel
theorem dX11_fit_12 : decode cX11_fit 12 = .ok (.sipush (-1000), 3) := by decide +kernel
theorem dX11_fit_15 : decode cX11_fit 15 = .ok (.ireturn, 1) := by decide +kernel
theorem dX11_ask_0 : decode cX11_ask 0 = .ok (.aload_n 0, 1) := by decide +kernel
theorem dX11_ask_1 : decode cX11_ask 1 = .ok (.getfield 94, 3) := by decide +kernel
theorem dX11_ask_4 : decode cX11_ask 4 = .ok (.iload_n 1, 1) := by decide +kernel
theorem dX11_ask_5 : decode cX11_ask 5 = .ok (.invokevirtual 316, 3) := by decide +kernel
theorem dX11_ask_8 : decode cX11_ask 8 = .ok (.istore_n 2, 1) := by decide +kernel
theorem dX11_ask_9 : decode cX11_ask 9 = .ok (.iload_n 2, 1) := by decide +kernel
theorem dX11_ask_10 : decode cX11_ask 10 = .ok (.ifCond .ge 7, 3) := by decide +kernel
theorem dX11_ask_17 : decode cX11_ask 17 = .ok (.aload_n 0, 1) := by decide +kernel
theorem dX11_ask_18 : decode cX11_ask 18 = .ok (.getfield 94, 3) := by decide +kernel
theorem dX11_ask_21 : decode cX11_ask 21 = .ok (.invokevirtual 328, 3) := by decide +kernel
theorem dX11_ask_24 : decode cX11_ask 24 = .ok (.ireturn, 1) := by decide +kernel
theorem dX11_ask_13 : decode cX11_ask 13 = .ok (.iload_n 2, 1) := by decide +kernel
theorem dX11_ask_14 : decode cX11_ask 14 = .ok (.goto 10, 3) := by decide +kernel
theorem dX11_leaves_0 : decode cX11_leaves 0 = .ok (.aload_n 0, 1) := by decide +kernel
theorem dX11_leaves_1 : decode cX11_leaves 1 = .ok (.getfield 94, 3) := by decide +kernel
theorem dX11_leaves_4 : decode cX11_leaves 4 = .ok (.iload_n 1, 1) := by decide +kernel
theorem dX11_leaves_5 : decode cX11_leaves 5 = .ok (.invokevirtual 316, 3) := by decide +kernel
theorem dX11_leaves_8 : decode cX11_leaves 8 = .ok (.istore_n 2, 1) := by decide +kernel
theorem dX11_leaves_9 : decode cX11_leaves 9 = .ok (.iload_n 2, 1) := by decide +kernel
theorem dX11_leaves_10 : decode cX11_leaves 10 = .ok (.ifCond .ge 5, 3) := by decide +kernel
theorem dX11_leaves_15 : decode cX11_leaves 15 = .ok (.aload_n 0, 1) := by decide +kernel
theorem dX11_leaves_16 : decode cX11_leaves 16 = .ok (.getfield 94, 3) := by decide +kernel
theorem dX11_leaves_19 : decode cX11_leaves 19 = .ok (.invokevirtual 328, 3) := by decide +kernel
theorem dX11_leaves_22 : decode cX11_leaves 22 = .ok (.istore_n 3, 1) := by decide +kernel
theorem dX11_leaves_23 : decode cX11_leaves 23 = .ok (.iload_n 3, 1) := by decide +kernel
theorem dX11_leaves_24 : decode cX11_leaves 24 = .ok (.iconst (-1), 1) := by decide +kernel
theorem dX11_leaves_25 : decode cX11_leaves 25 = .ok (.if_icmp .ne 7, 3) := by decide +kernel
theorem dX11_leaves_32 : decode cX11_leaves 32 = .ok (.aload_n 0, 1) := by decide +kernel
theorem dX11_leaves_33 : decode cX11_leaves 33 = .ok (.getfield 94, 3) := by decide +kernel
theorem dX11_leaves_36 : decode cX11_leaves 36 = .ok (.iload_n 3, 1) := by decide +kernel
theorem dX11_leaves_37 : decode cX11_leaves 37 = .ok (.invokevirtual 331, 3) := by decide +kernel
theorem dX11_leaves_40 : decode cX11_leaves 40 = .ok (.ireturn, 1) := by decide +kernel
theorem dX11_leaves_28 : decode cX11_leaves 28 = .ok (.iload_n 2, 1) := by decide +kernel
theorem dX11_leaves_29 : decode cX11_leaves 29 = .ok (.goto 11, 3) := by decide +kernel
theorem dX11_leaves_13 : decode cX11_leaves 13 = .ok (.iload_n 2, 1) := by decide +kernel
theorem dX11_leaves_14 : decode cX11_leaves 14 = .ok (.ireturn, 1) := by decide +kernel
theorem dX5_failed_0 : decode cX5_failed 0 = .ok (.aload_n 0, 1) := by decide +kernel
theorem dX5_failed_1 : decode cX5_failed 1 = .ok (.getfield 35, 3) := by decide +kernel
theorem dX5_failed_4 : decode cX5_failed 4 = .ok (.ifCond .eq 7, 3) := by decide +kernel
theorem dX5_failed_11 : decode cX5_failed 11 = .ok (.iconst 0, 1) := by decide +kernel
theorem dX5_failed_12 : decode cX5_failed 12 = .ok (.ireturn, 1) := by decide +kernel
theorem dX5_failed_7 : decode cX5_failed 7 = .ok (.iconst 1, 1) := by decide +kernel
theorem dX5_failed_8 : decode cX5_failed 8 = .ok (.goto 4, 3) := by decide +kernel
theorem dX5_fail_0 : decode cX5_fail 0 = .ok (.aload_n 0, 1) := by decide +kernel
theorem dX5_fail_1 : decode cX5_fail 1 = .ok (.getfield 35, 3) := by decide +kernel
theorem dX5_fail_4 : decode cX5_fail 4 = .ok (.ifCond .ne 16, 3) := by decide +kernel
theorem dX5_fail_20 : decode cX5_fail 20 = .ok (.return_, 1) := by decide +kernel
theorem dX5_fail_7 : decode cX5_fail 7 = .ok (.aload_n 0, 1) := by decide +kernel
theorem dX5_fail_8 : decode cX5_fail 8 = .ok (.iload_n 1, 1) := by decide +kernel
theorem dX5_fail_9 : decode cX5_fail 9 = .ok (.putfield 35, 3) := by decide +kernel
theorem dX5_fail_12 : decode cX5_fail 12 = .ok (.aload_n 0, 1) := by decide +kernel
theorem dX5_fail_13 : decode cX5_fail 13 = .ok (.aload_n 0, 1) := by decide +kernel
theorem dX5_fail_14 : decode cX5_fail 14 = .ok (.getfield 65, 3) := by decide +kernel
theorem dX5_fail_17 : decode cX5_fail 17 = .ok (.putfield 38, 3) := by decide +kernel
theorem dX5_kindOf_0 : decode cX5_kindOf 0 = .ok (.iload_n 0, 1) := by decide +kernel
theorem dX5_kindOf_1 : decode cX5_kindOf 1 = .ok (.bipush 97, 2) := by decide +kernel
theorem dX5_kindOf_3 : decode cX5_kindOf 3 = .ok (.if_icmp .lt 11, 3) := by decide +kernel
theorem dX5_kindOf_14 : decode cX5_kindOf 14 = .ok (.iload_n 0, 1) := by decide +kernel
theorem dX5_kindOf_15 : decode cX5_kindOf 15 = .ok (.bipush 48, 2) := by decide +kernel
theorem dX5_kindOf_17 : decode cX5_kindOf 17 = .ok (.if_icmp .lt 11, 3) := by decide +kernel
theorem dX5_kindOf_28 : decode cX5_kindOf 28 = .ok (.iload_n 0, 1) := by decide +kernel
theorem dX5_kindOf_29 : decode cX5_kindOf 29 = .ok (.bipush 32, 2) := by decide +kernel
theorem dX5_kindOf_31 : decode cX5_kindOf 31 = .ok (.if_icmp .eq 9, 3) := by decide +kernel
theorem dX5_kindOf_40 : decode cX5_kindOf 40 = .ok (.iconst 5, 1) := by decide +kernel
theorem dX5_kindOf_41 : decode cX5_kindOf 41 = .ok (.ireturn, 1) := by decide +kernel
theorem dX5_kindOf_34 : decode cX5_kindOf 34 = .ok (.iload_n 0, 1) := by decide +kernel
theorem dX5_kindOf_35 : decode cX5_kindOf 35 = .ok (.bipush 10, 2) := by decide +kernel
theorem dX5_kindOf_37 : decode cX5_kindOf 37 = .ok (.if_icmp .ne 5, 3) := by decide +kernel
theorem dX5_kindOf_42 : decode cX5_kindOf 42 = .ok (.iload_n 0, 1) := by decide +kernel
theorem dX5_kindOf_43 : decode cX5_kindOf 43 = .ok (.bipush 59, 2) := by decide +kernel
theorem dX5_kindOf_45 : decode cX5_kindOf 45 = .ok (.if_icmp .ne 7, 3) := by decide +kernel
theorem dX5_kindOf_52 : decode cX5_kindOf 52 = .ok (.iconst 4, 1) := by decide +kernel
theorem dX5_kindOf_53 : decode cX5_kindOf 53 = .ok (.ireturn, 1) := by decide +kernel
theorem dX5_kindOf_20 : decode cX5_kindOf 20 = .ok (.iload_n 0, 1) := by decide +kernel
theorem dX5_kindOf_21 : decode cX5_kindOf 21 = .ok (.bipush 57, 2) := by decide +kernel
theorem dX5_kindOf_23 : decode cX5_kindOf 23 = .ok (.if_icmp .gt 5, 3) := by decide +kernel
theorem dX5_kindOf_48 : decode cX5_kindOf 48 = .ok (.iconst 3, 1) := by decide +kernel
theorem dX5_kindOf_49 : decode cX5_kindOf 49 = .ok (.goto 4, 3) := by decide +kernel
theorem dX5_kindOf_26 : decode cX5_kindOf 26 = .ok (.iconst 2, 1) := by decide +kernel
theorem dX5_kindOf_27 : decode cX5_kindOf 27 = .ok (.ireturn, 1) := by decide +kernel
theorem dX5_kindOf_6 : decode cX5_kindOf 6 = .ok (.iload_n 0, 1) := by decide +kernel
theorem dX5_kindOf_7 : decode cX5_kindOf 7 = .ok (.bipush 122, 2) := by decide +kernel
theorem dX5_kindOf_9 : decode cX5_kindOf 9 = .ok (.if_icmp .gt 5, 3) := by decide +kernel
theorem dX5_kindOf_12 : decode cX5_kindOf 12 = .ok (.iconst 1, 1) := by decide +kernel
theorem dX5_kindOf_13 : decode cX5_kindOf 13 = .ok (.ireturn, 1) := by decide +kernel
theorem dX5_isLong_0 : decode cX5_isLong 0 = .ok (.aload_n 0, 1) := by decide +kernel
theorem dX5_isLong_1 : decode cX5_isLong 1 = .ok (.getfield 49, 3) := by decide +kernel
theorem dX5_isLong_4 : decode cX5_isLong 4 = .ok (.iconst 1, 1) := by decide +kernel
theorem dX5_isLong_5 : decode cX5_isLong 5 = .ok (.if_icmp .eq 11, 3) := by decide +kernel
theorem dX5_isLong_16 : decode cX5_isLong 16 = .ok (.iconst 1, 1) := by decide +kernel
theorem dX5_isLong_17 : decode cX5_isLong 17 = .ok (.goto 4, 3) := by decide +kernel
theorem dX5_isLong_21 : decode cX5_isLong 21 = .ok (.ireturn, 1) := by decide +kernel
theorem dX5_isLong_8 : decode cX5_isLong 8 = .ok (.aload_n 0, 1) := by decide +kernel
theorem dX5_isLong_9 : decode cX5_isLong 9 = .ok (.getfield 49, 3) := by decide +kernel
theorem dX5_isLong_12 : decode cX5_isLong 12 = .ok (.iconst 2, 1) := by decide +kernel
theorem dX5_isLong_13 : decode cX5_isLong 13 = .ok (.if_icmp .ne 7, 3) := by decide +kernel
theorem dX5_isLong_20 : decode cX5_isLong 20 = .ok (.iconst 0, 1) := by decide +kernel
theorem dX5_advance_0 : decode cX5_advance 0 = .ok (.aload_n 0, 1) := by decide +kernel
theorem dX5_advance_1 : decode cX5_advance 1 = .ok (.aload_n 0, 1) := by decide +kernel
theorem dX5_advance_2 : decode cX5_advance 2 = .ok (.getfield 32, 3) := by decide +kernel
theorem dX5_advance_5 : decode cX5_advance 5 = .ok (.putfield 65, 3) := by decide +kernel
theorem dX5_advance_8 : decode cX5_advance 8 = .ok (.aload_n 0, 1) := by decide +kernel
theorem dX5_advance_9 : decode cX5_advance 9 = .ok (.getfield 65, 3) := by decide +kernel
theorem dX5_advance_12 : decode cX5_advance 12 = .ok (.aload_n 0, 1) := by decide +kernel
theorem dX5_advance_13 : decode cX5_advance 13 = .ok (.getfield 28, 3) := by decide +kernel
theorem dX5_advance_16 : decode cX5_advance 16 = .ok (.if_icmp .ge 32, 3) := by decide +kernel
theorem dX5_advance_48 : decode cX5_advance 48 = .ok (.aload_n 0, 1) := by decide +kernel
theorem dX5_advance_49 : decode cX5_advance 49 = .ok (.aload_n 0, 1) := by decide +kernel
theorem dX5_advance_50 : decode cX5_advance 50 = .ok (.getfield 65, 3) := by decide +kernel
theorem dX5_advance_53 : decode cX5_advance 53 = .ok (.putfield 32, 3) := by decide +kernel
theorem dX5_advance_56 : decode cX5_advance 56 = .ok (.aload_n 0, 1) := by decide +kernel
theorem dX5_advance_57 : decode cX5_advance 57 = .ok (.iconst 0, 1) := by decide +kernel
theorem dX5_advance_58 : decode cX5_advance 58 = .ok (.putfield 72, 3) := by decide +kernel
theorem dX5_advance_61 : decode cX5_advance 61 = .ok (.aload_n 0, 1) := by decide +kernel
theorem dX5_advance_62 : decode cX5_advance 62 = .ok (.aload_n 0, 1) := by decide +kernel
theorem dX5_advance_63 : decode cX5_advance 63 = .ok (.getfield 65, 3) := by decide +kernel
theorem dX5_advance_66 : decode cX5_advance 66 = .ok (.aload_n 0, 1) := by decide +kernel
theorem dX5_advance_67 : decode cX5_advance 67 = .ok (.getfield 28, 3) := by decide +kernel
theorem dX5_advance_70 : decode cX5_advance 70 = .ok (.if_icmp .ge 18, 3) := by decide +kernel
theorem dX5_advance_88 : decode cX5_advance 88 = .ok (.iconst 0, 1) := by decide +kernel
theorem dX5_advance_89 : decode cX5_advance 89 = .ok (.putfield 49, 3) := by decide +kernel
theorem dX5_advance_92 : decode cX5_advance 92 = .ok (.aload_n 0, 1) := by decide +kernel
theorem dX5_advance_93 : decode cX5_advance 93 = .ok (.getfield 32, 3) := by decide +kernel
theorem dX5_advance_96 : decode cX5_advance 96 = .ok (.aload_n 0, 1) := by decide +kernel
theorem dX5_advance_97 : decode cX5_advance 97 = .ok (.getfield 28, 3) := by decide +kernel
theorem dX5_advance_100 : decode cX5_advance 100 = .ok (.if_icmp .ge 90, 3) := by decide +kernel
theorem dX5_advance_190 : decode cX5_advance 190 = .ok (.return_, 1) := by decide +kernel
theorem dX5_advance_103 : decode cX5_advance 103 = .ok (.aload_n 0, 1) := by decide +kernel
theorem dX5_advance_104 : decode cX5_advance 104 = .ok (.getfield 32, 3) := by decide +kernel
theorem dX5_advance_107 : decode cX5_advance 107 = .ok (.aload_n 0, 1) := by decide +kernel
theorem dX5_advance_108 : decode cX5_advance 108 = .ok (.getfield 65, 3) := by decide +kernel
theorem dX5_advance_111 : decode cX5_advance 111 = .ok (.if_icmp .eq 10, 3) := by decide +kernel
theorem dX5_advance_121 : decode cX5_advance 121 = .ok (.aload_n 0, 1) := by decide +kernel
theorem dX5_advance_122 : decode cX5_advance 122 = .ok (.getfield 9, 3) := by decide +kernel
theorem dX5_advance_125 : decode cX5_advance 125 = .ok (.aload_n 0, 1) := by decide +kernel
theorem dX5_advance_126 : decode cX5_advance 126 = .ok (.getfield 32, 3) := by decide +kernel
theorem dX5_advance_129 : decode cX5_advance 129 = .ok (.baload, 1) := by decide +kernel
theorem dX5_advance_130 : decode cX5_advance 130 = .ok (.invokestatic 68, 3) := by decide +kernel
theorem dX5_advance_133 : decode cX5_advance 133 = .ok (.aload_n 0, 1) := by decide +kernel
theorem dX5_advance_134 : decode cX5_advance 134 = .ok (.getfield 49, 3) := by decide +kernel
theorem dX5_advance_137 : decode cX5_advance 137 = .ok (.if_icmp .ne 53, 3) := by decide +kernel
theorem dX5_advance_114 : decode cX5_advance 114 = .ok (.aload_n 0, 1) := by decide +kernel
theorem dX5_advance_115 : decode cX5_advance 115 = .ok (.invokevirtual 75, 3) := by decide +kernel
theorem dX5_advance_118 : decode cX5_advance 118 = .ok (.ifCond .eq 72, 3) := by decide +kernel
theorem dX5_advance_73 : decode cX5_advance 73 = .ok (.aload_n 0, 1) := by decide +kernel
theorem dX5_advance_74 : decode cX5_advance 74 = .ok (.getfield 9, 3) := by decide +kernel
theorem dX5_advance_77 : decode cX5_advance 77 = .ok (.aload_n 0, 1) := by decide +kernel
theorem dX5_advance_78 : decode cX5_advance 78 = .ok (.getfield 65, 3) := by decide +kernel
theorem dX5_advance_81 : decode cX5_advance 81 = .ok (.baload, 1) := by decide +kernel
theorem dX5_advance_82 : decode cX5_advance 82 = .ok (.invokestatic 68, 3) := by decide +kernel
theorem dX5_advance_85 : decode cX5_advance 85 = .ok (.goto 4, 3) := by decide +kernel
theorem dX5_advance_140 : decode cX5_advance 140 = .ok (.aload_n 0, 1) := by decide +kernel
theorem dX5_advance_141 : decode cX5_advance 141 = .ok (.getfield 49, 3) := by decide +kernel
theorem dX5_advance_144 : decode cX5_advance 144 = .ok (.iconst 2, 1) := by decide +kernel
theorem dX5_advance_145 : decode cX5_advance 145 = .ok (.if_icmp .ne 32, 3) := by decide +kernel
theorem dX5_advance_177 : decode cX5_advance 177 = .ok (.aload_n 0, 1) := by decide +kernel
theorem dX5_advance_178 : decode cX5_advance 178 = .ok (.dup, 1) := by decide +kernel
theorem dX5_advance_179 : decode cX5_advance 179 = .ok (.getfield 32, 3) := by decide +kernel
theorem dX5_advance_182 : decode cX5_advance 182 = .ok (.iconst 1, 1) := by decide +kernel
theorem dX5_advance_183 : decode cX5_advance 183 = .ok (.iadd, 1) := by decide +kernel
theorem dX5_advance_184 : decode cX5_advance 184 = .ok (.putfield 32, 3) := by decide +kernel
theorem dX5_advance_187 : decode cX5_advance 187 = .ok (.goto (-95), 3) := by decide +kernel
theorem dX5_advance_148 : decode cX5_advance 148 = .ok (.aload_n 0, 1) := by decide +kernel
theorem dX5_advance_149 : decode cX5_advance 149 = .ok (.aload_n 0, 1) := by decide +kernel
theorem dX5_advance_150 : decode cX5_advance 150 = .ok (.getfield 72, 3) := by decide +kernel
theorem dX5_advance_153 : decode cX5_advance 153 = .ok (.bipush 10, 2) := by decide +kernel
theorem dX5_advance_155 : decode cX5_advance 155 = .ok (.imul, 1) := by decide +kernel
theorem dX5_advance_156 : decode cX5_advance 156 = .ok (.aload_n 0, 1) := by decide +kernel
theorem dX5_advance_157 : decode cX5_advance 157 = .ok (.getfield 9, 3) := by decide +kernel
theorem dX5_advance_160 : decode cX5_advance 160 = .ok (.aload_n 0, 1) := by decide +kernel
theorem dX5_advance_161 : decode cX5_advance 161 = .ok (.getfield 32, 3) := by decide +kernel
theorem dX5_advance_164 : decode cX5_advance 164 = .ok (.baload, 1) := by decide +kernel
theorem dX5_advance_165 : decode cX5_advance 165 = .ok (.iadd, 1) := by decide +kernel
theorem dX5_advance_166 : decode cX5_advance 166 = .ok (.bipush 48, 2) := by decide +kernel
theorem dX5_advance_168 : decode cX5_advance 168 = .ok (.isub, 1) := by decide +kernel
theorem dX5_advance_169 : decode cX5_advance 169 = .ok (.ldc 78, 2) := by decide +kernel
theorem dX5_advance_171 : decode cX5_advance 171 = .ok (.invokestatic 19, 3) := by decide +kernel
theorem dX5_advance_174 : decode cX5_advance 174 = .ok (.putfield 72, 3) := by decide +kernel
theorem dX5_advance_19 : decode cX5_advance 19 = .ok (.aload_n 0, 1) := by decide +kernel
theorem dX5_advance_20 : decode cX5_advance 20 = .ok (.getfield 9, 3) := by decide +kernel
theorem dX5_advance_23 : decode cX5_advance 23 = .ok (.aload_n 0, 1) := by decide +kernel
theorem dX5_advance_24 : decode cX5_advance 24 = .ok (.getfield 65, 3) := by decide +kernel
theorem dX5_advance_27 : decode cX5_advance 27 = .ok (.baload, 1) := by decide +kernel
theorem dX5_advance_28 : decode cX5_advance 28 = .ok (.invokestatic 68, 3) := by decide +kernel
theorem dX5_advance_31 : decode cX5_advance 31 = .ok (.iconst 5, 1) := by decide +kernel
theorem dX5_advance_32 : decode cX5_advance 32 = .ok (.if_icmp .ne 16, 3) := by decide +kernel
theorem dX5_advance_35 : decode cX5_advance 35 = .ok (.aload_n 0, 1) := by decide +kernel
theorem dX5_advance_36 : decode cX5_advance 36 = .ok (.dup, 1) := by decide +kernel
theorem dX5_advance_37 : decode cX5_advance 37 = .ok (.getfield 65, 3) := by decide +kernel
theorem dX5_advance_40 : decode cX5_advance 40 = .ok (.iconst 1, 1) := by decide +kernel
theorem dX5_advance_41 : decode cX5_advance 41 = .ok (.iadd, 1) := by decide +kernel
theorem dX5_advance_42 : decode cX5_advance 42 = .ok (.putfield 65, 3) := by decide +kernel
theorem dX5_advance_45 : decode cX5_advance 45 = .ok (.goto (-37), 3) := by decide +kernel
theorem dX5_isWord_0 : decode cX5_isWord 0 = .ok (.aload_n 0, 1) := by decide +kernel
theorem dX5_isWord_1 : decode cX5_isWord 1 = .ok (.getfield 49, 3) := by decide +kernel
theorem dX5_isWord_4 : decode cX5_isWord 4 = .ok (.iconst 1, 1) := by decide +kernel
theorem dX5_isWord_5 : decode cX5_isWord 5 = .ok (.if_icmp .ne 19, 3) := by decide +kernel
theorem dX5_isWord_24 : decode cX5_isWord 24 = .ok (.iconst 0, 1) := by decide +kernel
theorem dX5_isWord_25 : decode cX5_isWord 25 = .ok (.ireturn, 1) := by decide +kernel
theorem dX5_isWord_8 : decode cX5_isWord 8 = .ok (.aload_n 0, 1) := by decide +kernel
theorem dX5_isWord_9 : decode cX5_isWord 9 = .ok (.getfield 32, 3) := by decide +kernel
theorem dX5_isWord_12 : decode cX5_isWord 12 = .ok (.aload_n 0, 1) := by decide +kernel
theorem dX5_isWord_13 : decode cX5_isWord 13 = .ok (.getfield 65, 3) := by decide +kernel
theorem dX5_isWord_16 : decode cX5_isWord 16 = .ok (.isub, 1) := by decide +kernel
theorem dX5_isWord_17 : decode cX5_isWord 17 = .ok (.aload_n 1, 1) := by decide +kernel
theorem dX5_isWord_18 : decode cX5_isWord 18 = .ok (.invokevirtual 79, 3) := by decide +kernel
theorem dX5_isWord_21 : decode cX5_isWord 21 = .ok (.if_icmp .eq 5, 3) := by decide +kernel
theorem dX5_isWord_26 : decode cX5_isWord 26 = .ok (.iconst 0, 1) := by decide +kernel
theorem dX5_isWord_27 : decode cX5_isWord 27 = .ok (.istore_n 2, 1) := by decide +kernel
theorem dX5_isWord_28 : decode cX5_isWord 28 = .ok (.iload_n 2, 1) := by decide +kernel
theorem dX5_isWord_29 : decode cX5_isWord 29 = .ok (.aload_n 1, 1) := by decide +kernel
theorem dX5_isWord_30 : decode cX5_isWord 30 = .ok (.invokevirtual 79, 3) := by decide +kernel
theorem dX5_isWord_33 : decode cX5_isWord 33 = .ok (.if_icmp .ge 30, 3) := by decide +kernel
theorem dX5_isWord_36 : decode cX5_isWord 36 = .ok (.aload_n 0, 1) := by decide +kernel
theorem dX5_isWord_37 : decode cX5_isWord 37 = .ok (.getfield 9, 3) := by decide +kernel
theorem dX5_isWord_40 : decode cX5_isWord 40 = .ok (.aload_n 0, 1) := by decide +kernel
theorem dX5_isWord_41 : decode cX5_isWord 41 = .ok (.getfield 65, 3) := by decide +kernel
theorem dX5_isWord_44 : decode cX5_isWord 44 = .ok (.iload_n 2, 1) := by decide +kernel
theorem dX5_isWord_45 : decode cX5_isWord 45 = .ok (.iadd, 1) := by decide +kernel
theorem dX5_isWord_46 : decode cX5_isWord 46 = .ok (.baload, 1) := by decide +kernel
theorem dX5_isWord_47 : decode cX5_isWord 47 = .ok (.aload_n 1, 1) := by decide +kernel
theorem dX5_isWord_48 : decode cX5_isWord 48 = .ok (.iload_n 2, 1) := by decide +kernel
theorem dX5_isWord_49 : decode cX5_isWord 49 = .ok (.invokevirtual 84, 3) := by decide +kernel
theorem dX5_isWord_52 : decode cX5_isWord 52 = .ok (.if_icmp .eq 5, 3) := by decide +kernel
theorem dX5_isWord_57 : decode cX5_isWord 57 = .ok (.iinc 2 1, 3) := by decide +kernel
theorem dX5_isWord_60 : decode cX5_isWord 60 = .ok (.goto (-32), 3) := by decide +kernel
theorem dX5_isWord_55 : decode cX5_isWord 55 = .ok (.iconst 0, 1) := by decide +kernel
theorem dX5_isWord_56 : decode cX5_isWord 56 = .ok (.ireturn, 1) := by decide +kernel
theorem dX5_isWord_63 : decode cX5_isWord 63 = .ok (.iconst 1, 1) := by decide +kernel
theorem dX5_isWord_64 : decode cX5_isWord 64 = .ok (.ireturn, 1) := by decide +kernel
theorem dX5_expectWord_0 : decode cX5_expectWord 0 = .ok (.aload_n 0, 1) := by decide +kernel
theorem dX5_expectWord_1 : decode cX5_expectWord 1 = .ok (.aload_n 1, 1) := by decide +kernel
theorem dX5_expectWord_2 : decode cX5_expectWord 2 = .ok (.invokevirtual 88, 3) := by decide +kernel
theorem dX5_expectWord_5 : decode cX5_expectWord 5 = .ok (.ifCond .ne 8, 3) := by decide +kernel
theorem dX5_expectWord_13 : decode cX5_expectWord 13 = .ok (.aload_n 0, 1) := by decide +kernel
theorem dX5_expectWord_14 : decode cX5_expectWord 14 = .ok (.invokevirtual 52, 3) := by decide +kernel
theorem dX5_expectWord_17 : decode cX5_expectWord 17 = .ok (.ifCond .ne 7, 3) := by decide +kernel
theorem dX5_expectWord_24 : decode cX5_expectWord 24 = .ok (.return_, 1) := by decide +kernel
theorem dX5_expectWord_20 : decode cX5_expectWord 20 = .ok (.aload_n 0, 1) := by decide +kernel
theorem dX5_expectWord_21 : decode cX5_expectWord 21 = .ok (.invokevirtual 46, 3) := by decide +kernel
theorem dX5_expectWord_8 : decode cX5_expectWord 8 = .ok (.aload_n 0, 1) := by decide +kernel
theorem dX5_expectWord_9 : decode cX5_expectWord 9 = .ok (.iconst 1, 1) := by decide +kernel
theorem dX5_expectWord_10 : decode cX5_expectWord 10 = .ok (.invokevirtual 92, 3) := by decide +kernel
theorem dX5_expectSign_0 : decode cX5_expectSign 0 = .ok (.aload_n 0, 1) := by decide +kernel
theorem dX5_expectSign_1 : decode cX5_expectSign 1 = .ok (.getfield 49, 3) := by decide +kernel
theorem dX5_expectSign_4 : decode cX5_expectSign 4 = .ok (.iconst 3, 1) := by decide +kernel
theorem dX5_expectSign_5 : decode cX5_expectSign 5 = .ok (.if_icmp .eq 8, 3) := by decide +kernel
theorem dX5_expectSign_13 : decode cX5_expectSign 13 = .ok (.aload_n 0, 1) := by decide +kernel
theorem dX5_expectSign_14 : decode cX5_expectSign 14 = .ok (.invokevirtual 52, 3) := by decide +kernel
theorem dX5_expectSign_17 : decode cX5_expectSign 17 = .ok (.ifCond .ne 7, 3) := by decide +kernel
theorem dX5_expectSign_24 : decode cX5_expectSign 24 = .ok (.return_, 1) := by decide +kernel
theorem dX5_expectSign_20 : decode cX5_expectSign 20 = .ok (.aload_n 0, 1) := by decide +kernel
theorem dX5_expectSign_21 : decode cX5_expectSign 21 = .ok (.invokevirtual 46, 3) := by decide +kernel
theorem dX5_expectSign_8 : decode cX5_expectSign 8 = .ok (.aload_n 0, 1) := by decide +kernel
theorem dX5_expectSign_9 : decode cX5_expectSign 9 = .ok (.iconst 1, 1) := by decide +kernel
theorem dX5_expectSign_10 : decode cX5_expectSign 10 = .ok (.invokevirtual 92, 3) := by decide +kernel
theorem dX5_expectNumber_0 : decode cX5_expectNumber 0 = .ok (.aload_n 0, 1) := by decide +kernel
theorem dX5_expectNumber_1 : decode cX5_expectNumber 1 = .ok (.getfield 49, 3) := by decide +kernel
theorem dX5_expectNumber_4 : decode cX5_expectNumber 4 = .ok (.iconst 2, 1) := by decide +kernel
theorem dX5_expectNumber_5 : decode cX5_expectNumber 5 = .ok (.if_icmp .eq 11, 3) := by decide +kernel
theorem dX5_expectNumber_16 : decode cX5_expectNumber 16 = .ok (.aload_n 0, 1) := by decide +kernel
theorem dX5_expectNumber_17 : decode cX5_expectNumber 17 = .ok (.getfield 72, 3) := by decide +kernel
theorem dX5_expectNumber_20 : decode cX5_expectNumber 20 = .ok (.iload_n 1, 1) := by decide +kernel
theorem dX5_expectNumber_21 : decode cX5_expectNumber 21 = .ok (.if_icmp .lt 11, 3) := by decide +kernel
theorem dX5_expectNumber_32 : decode cX5_expectNumber 32 = .ok (.aload_n 0, 1) := by decide +kernel
theorem dX5_expectNumber_33 : decode cX5_expectNumber 33 = .ok (.iconst 2, 1) := by decide +kernel
theorem dX5_expectNumber_34 : decode cX5_expectNumber 34 = .ok (.invokevirtual 92, 3) := by decide +kernel
theorem dX5_expectNumber_37 : decode cX5_expectNumber 37 = .ok (.aload_n 0, 1) := by decide +kernel
theorem dX5_expectNumber_38 : decode cX5_expectNumber 38 = .ok (.invokevirtual 52, 3) := by decide +kernel
theorem dX5_expectNumber_41 : decode cX5_expectNumber 41 = .ok (.ifCond .eq 5, 3) := by decide +kernel
theorem dX5_expectNumber_44 : decode cX5_expectNumber 44 = .ok (.iload_n 1, 1) := by decide +kernel
theorem dX5_expectNumber_45 : decode cX5_expectNumber 45 = .ok (.ireturn, 1) := by decide +kernel
theorem dX5_expectNumber_24 : decode cX5_expectNumber 24 = .ok (.aload_n 0, 1) := by decide +kernel
theorem dX5_expectNumber_25 : decode cX5_expectNumber 25 = .ok (.getfield 72, 3) := by decide +kernel
theorem dX5_expectNumber_28 : decode cX5_expectNumber 28 = .ok (.iload_n 2, 1) := by decide +kernel
theorem dX5_expectNumber_29 : decode cX5_expectNumber 29 = .ok (.if_icmp .le 8, 3) := by decide +kernel
theorem dX5_expectNumber_46 : decode cX5_expectNumber 46 = .ok (.aload_n 0, 1) := by decide +kernel
theorem dX5_expectNumber_47 : decode cX5_expectNumber 47 = .ok (.getfield 72, 3) := by decide +kernel
theorem dX5_expectNumber_50 : decode cX5_expectNumber 50 = .ok (.istore_n 3, 1) := by decide +kernel
theorem dX5_expectNumber_51 : decode cX5_expectNumber 51 = .ok (.aload_n 0, 1) := by decide +kernel
theorem dX5_expectNumber_52 : decode cX5_expectNumber 52 = .ok (.invokevirtual 46, 3) := by decide +kernel
theorem dX5_expectNumber_55 : decode cX5_expectNumber 55 = .ok (.iload_n 3, 1) := by decide +kernel
theorem dX5_expectNumber_56 : decode cX5_expectNumber 56 = .ok (.ireturn, 1) := by decide +kernel
theorem dX5_expectNumber_8 : decode cX5_expectNumber 8 = .ok (.aload_n 0, 1) := by decide +kernel
theorem dX5_expectNumber_9 : decode cX5_expectNumber 9 = .ok (.iconst 1, 1) := by decide +kernel
theorem dX5_expectNumber_10 : decode cX5_expectNumber 10 = .ok (.invokevirtual 92, 3) := by decide +kernel
theorem dX5_expectNumber_13 : decode cX5_expectNumber 13 = .ok (.goto 24, 3) := by decide +kernel
theorem dX10_tell_0 : decode cX10_tell 0 = .ok (.aload_n 0, 1) := by decide +kernel
theorem dX10_tell_1 : decode cX10_tell 1 = .ok (.iload_n 1, 1) := by decide +kernel
theorem dX10_tell_2 : decode cX10_tell 2 = .ok (.putfield 15, 3) := by decide +kernel
theorem dX10_tell_5 : decode cX10_tell 5 = .ok (.aload_n 0, 1) := by decide +kernel
theorem dX10_tell_6 : decode cX10_tell 6 = .ok (.iload_n 2, 1) := by decide +kernel
theorem dX10_tell_7 : decode cX10_tell 7 = .ok (.putfield 19, 3) := by decide +kernel
theorem dX10_tell_10 : decode cX10_tell 10 = .ok (.aload_n 0, 1) := by decide +kernel
theorem dX10_tell_11 : decode cX10_tell 11 = .ok (.iload_n 3, 1) := by decide +kernel
theorem dX10_tell_12 : decode cX10_tell 12 = .ok (.putfield 22, 3) := by decide +kernel
theorem dX10_tell_15 : decode cX10_tell 15 = .ok (.aload_n 0, 1) := by decide +kernel
theorem dX10_tell_16 : decode cX10_tell 16 = .ok (.aload_n 0, 1) := by decide +kernel
theorem dX10_tell_17 : decode cX10_tell 17 = .ok (.getfield 15, 3) := by decide +kernel
theorem dX10_tell_20 : decode cX10_tell 20 = .ok (.aload_n 0, 1) := by decide +kernel
theorem dX10_tell_21 : decode cX10_tell 21 = .ok (.getfield 19, 3) := by decide +kernel
theorem dX10_tell_24 : decode cX10_tell 24 = .ok (.iadd, 1) := by decide +kernel
theorem dX10_tell_25 : decode cX10_tell 25 = .ok (.aload_n 0, 1) := by decide +kernel
theorem dX10_tell_26 : decode cX10_tell 26 = .ok (.getfield 22, 3) := by decide +kernel
theorem dX10_tell_29 : decode cX10_tell 29 = .ok (.iadd, 1) := by decide +kernel
theorem dX10_tell_30 : decode cX10_tell 30 = .ok (.aload_n 0, 1) := by decide +kernel
theorem dX10_tell_31 : decode cX10_tell 31 = .ok (.getfield 19, 3) := by decide +kernel
theorem dX10_tell_34 : decode cX10_tell 34 = .ok (.iadd, 1) := by decide +kernel
theorem dX10_tell_35 : decode cX10_tell 35 = .ok (.putfield 25, 3) := by decide +kernel
theorem dX10_tell_38 : decode cX10_tell 38 = .ok (.aload_n 0, 1) := by decide +kernel
theorem dX10_tell_39 : decode cX10_tell 39 = .ok (.getfield 9, 3) := by decide +kernel
theorem dX10_tell_42 : decode cX10_tell 42 = .ok (.iconst 1, 1) := by decide +kernel
theorem dX10_tell_43 : decode cX10_tell 43 = .ok (.invokestatic 28, 3) := by decide +kernel
theorem dX10_tell_46 : decode cX10_tell 46 = .ok (.iconst 0, 1) := by decide +kernel
theorem dX10_tell_47 : decode cX10_tell 47 = .ok (.istore 4, 2) := by decide +kernel
theorem dX10_tell_49 : decode cX10_tell 49 = .ok (.iload 4, 2) := by decide +kernel
theorem dX10_tell_51 : decode cX10_tell 51 = .ok (.aload_n 0, 1) := by decide +kernel
theorem dX10_tell_52 : decode cX10_tell 52 = .ok (.getfield 15, 3) := by decide +kernel
theorem dX10_tell_55 : decode cX10_tell 55 = .ok (.if_icmp .ge 24, 3) := by decide +kernel
theorem dX10_tell_79 : decode cX10_tell 79 = .ok (.aload_n 0, 1) := by decide +kernel
theorem dX10_tell_80 : decode cX10_tell 80 = .ok (.getfield 15, 3) := by decide +kernel
theorem dX10_tell_83 : decode cX10_tell 83 = .ok (.aload_n 0, 1) := by decide +kernel
theorem dX10_tell_84 : decode cX10_tell 84 = .ok (.getfield 19, 3) := by decide +kernel
theorem dX10_tell_87 : decode cX10_tell 87 = .ok (.iadd, 1) := by decide +kernel
theorem dX10_tell_88 : decode cX10_tell 88 = .ok (.istore 4, 2) := by decide +kernel
theorem dX10_tell_90 : decode cX10_tell 90 = .ok (.iload 4, 2) := by decide +kernel
theorem dX10_tell_92 : decode cX10_tell 92 = .ok (.aload_n 0, 1) := by decide +kernel
theorem dX10_tell_93 : decode cX10_tell 93 = .ok (.getfield 25, 3) := by decide +kernel
theorem dX10_tell_96 : decode cX10_tell 96 = .ok (.aload_n 0, 1) := by decide +kernel
theorem dX10_tell_97 : decode cX10_tell 97 = .ok (.getfield 19, 3) := by decide +kernel
theorem dX10_tell_100 : decode cX10_tell 100 = .ok (.isub, 1) := by decide +kernel
theorem dX10_tell_101 : decode cX10_tell 101 = .ok (.if_icmp .ge 24, 3) := by decide +kernel
theorem dX10_tell_125 : decode cX10_tell 125 = .ok (.return_, 1) := by decide +kernel
theorem dX10_tell_104 : decode cX10_tell 104 = .ok (.iload 4, 2) := by decide +kernel
theorem dX10_tell_106 : decode cX10_tell 106 = .ok (.bipush 36, 2) := by decide +kernel
theorem dX10_tell_108 : decode cX10_tell 108 = .ok (.if_icmp .ge 17, 3) := by decide +kernel
theorem dX10_tell_111 : decode cX10_tell 111 = .ok (.aload_n 0, 1) := by decide +kernel
theorem dX10_tell_112 : decode cX10_tell 112 = .ok (.getfield 9, 3) := by decide +kernel
theorem dX10_tell_115 : decode cX10_tell 115 = .ok (.iload 4, 2) := by decide +kernel
theorem dX10_tell_117 : decode cX10_tell 117 = .ok (.iconst 2, 1) := by decide +kernel
theorem dX10_tell_118 : decode cX10_tell 118 = .ok (.iastore, 1) := by decide +kernel
theorem dX10_tell_119 : decode cX10_tell 119 = .ok (.iinc 4 1, 3) := by decide +kernel
theorem dX10_tell_122 : decode cX10_tell 122 = .ok (.goto (-32), 3) := by decide +kernel
theorem dX10_tell_58 : decode cX10_tell 58 = .ok (.iload 4, 2) := by decide +kernel
theorem dX10_tell_60 : decode cX10_tell 60 = .ok (.bipush 36, 2) := by decide +kernel
theorem dX10_tell_62 : decode cX10_tell 62 = .ok (.if_icmp .ge 17, 3) := by decide +kernel
theorem dX10_tell_65 : decode cX10_tell 65 = .ok (.aload_n 0, 1) := by decide +kernel
theorem dX10_tell_66 : decode cX10_tell 66 = .ok (.getfield 9, 3) := by decide +kernel
theorem dX10_tell_69 : decode cX10_tell 69 = .ok (.iload 4, 2) := by decide +kernel
theorem dX10_tell_71 : decode cX10_tell 71 = .ok (.iconst 0, 1) := by decide +kernel
theorem dX10_tell_72 : decode cX10_tell 72 = .ok (.iastore, 1) := by decide +kernel
theorem dX10_tell_73 : decode cX10_tell 73 = .ok (.iinc 4 1, 3) := by decide +kernel
theorem dX10_tell_76 : decode cX10_tell 76 = .ok (.goto (-27), 3) := by decide +kernel
theorem dX5_readShore_0 : decode cX5_readShore 0 = .ok (.aload_n 0, 1) := by decide +kernel
theorem dX5_readShore_1 : decode cX5_readShore 1 = .ok (.ldc 124, 2) := by decide +kernel
theorem dX5_readShore_3 : decode cX5_readShore 3 = .ok (.invokevirtual 126, 3) := by decide +kernel
theorem dX5_readShore_6 : decode cX5_readShore 6 = .ok (.aload_n 0, 1) := by decide +kernel
theorem dX5_readShore_7 : decode cX5_readShore 7 = .ok (.ldc 130, 2) := by decide +kernel
theorem dX5_readShore_9 : decode cX5_readShore 9 = .ok (.invokevirtual 126, 3) := by decide +kernel
theorem dX5_readShore_12 : decode cX5_readShore 12 = .ok (.aload_n 0, 1) := by decide +kernel
theorem dX5_readShore_13 : decode cX5_readShore 13 = .ok (.getfield 15, 3) := by decide +kernel
theorem dX5_readShore_16 : decode cX5_readShore 16 = .ok (.aload_n 0, 1) := by decide +kernel
theorem dX5_readShore_17 : decode cX5_readShore 17 = .ok (.iconst 3, 1) := by decide +kernel
theorem dX5_readShore_18 : decode cX5_readShore 18 = .ok (.bipush 12, 2) := by decide +kernel
theorem dX5_readShore_20 : decode cX5_readShore 20 = .ok (.invokevirtual 132, 3) := by decide +kernel
theorem dX5_readShore_23 : decode cX5_readShore 23 = .ok (.putfield 135, 3) := by decide +kernel
theorem dX5_readShore_26 : decode cX5_readShore 26 = .ok (.aload_n 0, 1) := by decide +kernel
theorem dX5_readShore_27 : decode cX5_readShore 27 = .ok (.ldc 137, 2) := by decide +kernel
theorem dX5_readShore_29 : decode cX5_readShore 29 = .ok (.invokevirtual 126, 3) := by decide +kernel
theorem dX5_readShore_32 : decode cX5_readShore 32 = .ok (.aload_n 0, 1) := by decide +kernel
theorem dX5_readShore_33 : decode cX5_readShore 33 = .ok (.iconst 1, 1) := by decide +kernel
theorem dX5_readShore_34 : decode cX5_readShore 34 = .ok (.bipush 12, 2) := by decide +kernel
theorem dX5_readShore_36 : decode cX5_readShore 36 = .ok (.invokevirtual 132, 3) := by decide +kernel
theorem dX5_readShore_39 : decode cX5_readShore 39 = .ok (.istore_n 1, 1) := by decide +kernel
theorem dX5_readShore_40 : decode cX5_readShore 40 = .ok (.aload_n 0, 1) := by decide +kernel
theorem dX5_readShore_41 : decode cX5_readShore 41 = .ok (.ldc 139, 2) := by decide +kernel
theorem dX5_readShore_43 : decode cX5_readShore 43 = .ok (.invokevirtual 126, 3) := by decide +kernel
theorem dX5_readShore_46 : decode cX5_readShore 46 = .ok (.aload_n 0, 1) := by decide +kernel
theorem dX5_readShore_47 : decode cX5_readShore 47 = .ok (.iconst 0, 1) := by decide +kernel
theorem dX5_readShore_48 : decode cX5_readShore 48 = .ok (.bipush 6, 2) := by decide +kernel
theorem dX5_readShore_50 : decode cX5_readShore 50 = .ok (.invokevirtual 132, 3) := by decide +kernel
theorem dX5_readShore_53 : decode cX5_readShore 53 = .ok (.istore_n 2, 1) := by decide +kernel
theorem dX5_readShore_54 : decode cX5_readShore 54 = .ok (.aload_n 0, 1) := by decide +kernel
theorem dX5_readShore_55 : decode cX5_readShore 55 = .ok (.ldc 141, 2) := by decide +kernel
theorem dX5_readShore_57 : decode cX5_readShore 57 = .ok (.invokevirtual 126, 3) := by decide +kernel
theorem dX5_readShore_60 : decode cX5_readShore 60 = .ok (.aload_n 0, 1) := by decide +kernel
theorem dX5_readShore_61 : decode cX5_readShore 61 = .ok (.iconst 1, 1) := by decide +kernel
theorem dX5_readShore_62 : decode cX5_readShore 62 = .ok (.bipush 12, 2) := by decide +kernel
theorem dX5_readShore_64 : decode cX5_readShore 64 = .ok (.invokevirtual 132, 3) := by decide +kernel
theorem dX5_readShore_67 : decode cX5_readShore 67 = .ok (.istore_n 3, 1) := by decide +kernel
theorem dX5_readShore_68 : decode cX5_readShore 68 = .ok (.aload_n 0, 1) := by decide +kernel
theorem dX5_readShore_69 : decode cX5_readShore 69 = .ok (.ldc 143, 2) := by decide +kernel
theorem dX5_readShore_71 : decode cX5_readShore 71 = .ok (.invokevirtual 126, 3) := by decide +kernel
theorem dX5_readShore_74 : decode cX5_readShore 74 = .ok (.aload_n 0, 1) := by decide +kernel
theorem dX5_readShore_75 : decode cX5_readShore 75 = .ok (.getfield 15, 3) := by decide +kernel
theorem dX5_readShore_78 : decode cX5_readShore 78 = .ok (.aload_n 0, 1) := by decide +kernel
theorem dX5_readShore_79 : decode cX5_readShore 79 = .ok (.iconst 0, 1) := by decide +kernel
theorem dX5_readShore_80 : decode cX5_readShore 80 = .ok (.bipush 100, 2) := by decide +kernel
theorem dX5_readShore_82 : decode cX5_readShore 82 = .ok (.invokevirtual 132, 3) := by decide +kernel
theorem dX5_readShore_85 : decode cX5_readShore 85 = .ok (.putfield 145, 3) := by decide +kernel
theorem dX5_readShore_88 : decode cX5_readShore 88 = .ok (.aload_n 0, 1) := by decide +kernel
theorem dX5_readShore_89 : decode cX5_readShore 89 = .ok (.getfield 15, 3) := by decide +kernel
theorem dX5_readShore_92 : decode cX5_readShore 92 = .ok (.getfield 147, 3) := by decide +kernel
theorem dX5_readShore_95 : decode cX5_readShore 95 = .ok (.iload_n 1, 1) := by decide +kernel
theorem dX5_readShore_96 : decode cX5_readShore 96 = .ok (.iload_n 2, 1) := by decide +kernel
theorem dX5_readShore_97 : decode cX5_readShore 97 = .ok (.iload_n 3, 1) := by decide +kernel
theorem dX5_readShore_98 : decode cX5_readShore 98 = .ok (.invokevirtual 151, 3) := by decide +kernel
theorem dX5_readShore_101 : decode cX5_readShore 101 = .ok (.return_, 1) := by decide +kernel
theorem dX5_readWay_0 : decode cX5_readWay 0 = .ok (.aload_n 0, 1) := by decide +kernel
theorem dX5_readWay_1 : decode cX5_readWay 1 = .ok (.invokevirtual 52, 3) := by decide +kernel
theorem dX5_readWay_4 : decode cX5_readWay 4 = .ok (.ifCond .ne 12, 3) := by decide +kernel
theorem dX5_readWay_16 : decode cX5_readWay 16 = .ok (.iconst 1, 1) := by decide +kernel
theorem dX5_readWay_17 : decode cX5_readWay 17 = .ok (.ireturn, 1) := by decide +kernel
theorem dX5_readWay_7 : decode cX5_readWay 7 = .ok (.aload_n 0, 1) := by decide +kernel
theorem dX5_readWay_8 : decode cX5_readWay 8 = .ok (.ldc 167, 2) := by decide +kernel
theorem dX5_readWay_10 : decode cX5_readWay 10 = .ok (.invokevirtual 88, 3) := by decide +kernel
theorem dX5_readWay_13 : decode cX5_readWay 13 = .ok (.ifCond .ne 5, 3) := by decide +kernel
theorem dX5_readWay_18 : decode cX5_readWay 18 = .ok (.aload_n 0, 1) := by decide +kernel
theorem dX5_readWay_19 : decode cX5_readWay 19 = .ok (.invokevirtual 46, 3) := by decide +kernel
theorem dX5_readWay_22 : decode cX5_readWay 22 = .ok (.iconst (-1), 1) := by decide +kernel
theorem dX5_readWay_23 : decode cX5_readWay 23 = .ok (.ireturn, 1) := by decide +kernel
theorem dX5_readCurrent_0 : decode cX5_readCurrent 0 = .ok (.aload_n 0, 1) := by decide +kernel
theorem dX5_readCurrent_1 : decode cX5_readCurrent 1 = .ok (.invokevirtual 46, 3) := by decide +kernel
theorem dX5_readCurrent_4 : decode cX5_readCurrent 4 = .ok (.aload_n 0, 1) := by decide +kernel
theorem dX5_readCurrent_5 : decode cX5_readCurrent 5 = .ok (.iconst 0, 1) := by decide +kernel
theorem dX5_readCurrent_6 : decode cX5_readCurrent 6 = .ok (.aload_n 0, 1) := by decide +kernel
theorem dX5_readCurrent_7 : decode cX5_readCurrent 7 = .ok (.getfield 15, 3) := by decide +kernel
theorem dX5_readCurrent_10 : decode cX5_readCurrent 10 = .ok (.getfield 135, 3) := by decide +kernel
theorem dX5_readCurrent_13 : decode cX5_readCurrent 13 = .ok (.iconst 1, 1) := by decide +kernel
theorem dX5_readCurrent_14 : decode cX5_readCurrent 14 = .ok (.isub, 1) := by decide +kernel
theorem dX5_readCurrent_15 : decode cX5_readCurrent 15 = .ok (.invokevirtual 132, 3) := by decide +kernel
theorem dX5_readCurrent_18 : decode cX5_readCurrent 18 = .ok (.istore_n 1, 1) := by decide +kernel
theorem dX5_readCurrent_19 : decode cX5_readCurrent 19 = .ok (.aload_n 0, 1) := by decide +kernel
theorem dX5_readCurrent_20 : decode cX5_readCurrent 20 = .ok (.ldc 137, 2) := by decide +kernel
theorem dX5_readCurrent_22 : decode cX5_readCurrent 22 = .ok (.invokevirtual 126, 3) := by decide +kernel
theorem dX5_readCurrent_25 : decode cX5_readCurrent 25 = .ok (.aload_n 0, 1) := by decide +kernel
theorem dX5_readCurrent_26 : decode cX5_readCurrent 26 = .ok (.invokevirtual 157, 3) := by decide +kernel
theorem dX5_readCurrent_29 : decode cX5_readCurrent 29 = .ok (.aload_n 0, 1) := by decide +kernel
theorem dX5_readCurrent_30 : decode cX5_readCurrent 30 = .ok (.iconst 0, 1) := by decide +kernel
theorem dX5_readCurrent_31 : decode cX5_readCurrent 31 = .ok (.iconst 3, 1) := by decide +kernel
theorem dX5_readCurrent_32 : decode cX5_readCurrent 32 = .ok (.invokevirtual 132, 3) := by decide +kernel
theorem dX5_readCurrent_35 : decode cX5_readCurrent 35 = .ok (.imul, 1) := by decide +kernel
theorem dX5_readCurrent_36 : decode cX5_readCurrent 36 = .ok (.istore_n 2, 1) := by decide +kernel
theorem dX5_readCurrent_37 : decode cX5_readCurrent 37 = .ok (.aload_n 0, 1) := by decide +kernel
theorem dX5_readCurrent_38 : decode cX5_readCurrent 38 = .ok (.ldc 141, 2) := by decide +kernel
theorem dX5_readCurrent_40 : decode cX5_readCurrent 40 = .ok (.invokevirtual 126, 3) := by decide +kernel
theorem dX5_readCurrent_43 : decode cX5_readCurrent 43 = .ok (.aload_n 0, 1) := by decide +kernel
theorem dX5_readCurrent_44 : decode cX5_readCurrent 44 = .ok (.invokevirtual 157, 3) := by decide +kernel
theorem dX5_readCurrent_47 : decode cX5_readCurrent 47 = .ok (.aload_n 0, 1) := by decide +kernel
theorem dX5_readCurrent_48 : decode cX5_readCurrent 48 = .ok (.iconst 0, 1) := by decide +kernel
theorem dX5_readCurrent_49 : decode cX5_readCurrent 49 = .ok (.iconst 3, 1) := by decide +kernel
theorem dX5_readCurrent_50 : decode cX5_readCurrent 50 = .ok (.invokevirtual 132, 3) := by decide +kernel
theorem dX5_readCurrent_53 : decode cX5_readCurrent 53 = .ok (.imul, 1) := by decide +kernel
theorem dX5_readCurrent_54 : decode cX5_readCurrent 54 = .ok (.istore_n 3, 1) := by decide +kernel
theorem dX5_readCurrent_55 : decode cX5_readCurrent 55 = .ok (.aload_n 0, 1) := by decide +kernel
theorem dX5_readCurrent_56 : decode cX5_readCurrent 56 = .ok (.getfield 15, 3) := by decide +kernel
theorem dX5_readCurrent_59 : decode cX5_readCurrent 59 = .ok (.getfield 160, 3) := by decide +kernel
theorem dX5_readCurrent_62 : decode cX5_readCurrent 62 = .ok (.iload_n 1, 1) := by decide +kernel
theorem dX5_readCurrent_63 : decode cX5_readCurrent 63 = .ok (.iload_n 2, 1) := by decide +kernel
theorem dX5_readCurrent_64 : decode cX5_readCurrent 64 = .ok (.iastore, 1) := by decide +kernel
theorem dX5_readCurrent_65 : decode cX5_readCurrent 65 = .ok (.aload_n 0, 1) := by decide +kernel
theorem dX5_readCurrent_66 : decode cX5_readCurrent 66 = .ok (.getfield 15, 3) := by decide +kernel
theorem dX5_readCurrent_69 : decode cX5_readCurrent 69 = .ok (.getfield 164, 3) := by decide +kernel
theorem dX5_readCurrent_72 : decode cX5_readCurrent 72 = .ok (.iload_n 1, 1) := by decide +kernel
theorem dX5_readCurrent_73 : decode cX5_readCurrent 73 = .ok (.iload_n 3, 1) := by decide +kernel
theorem dX5_readCurrent_74 : decode cX5_readCurrent 74 = .ok (.iastore, 1) := by decide +kernel
theorem dX5_readCurrent_75 : decode cX5_readCurrent 75 = .ok (.return_, 1) := by decide +kernel
theorem dX5_readBeach_0 : decode cX5_readBeach 0 = .ok (.aload_n 0, 1) := by decide +kernel
theorem dX5_readBeach_1 : decode cX5_readBeach 1 = .ok (.invokevirtual 46, 3) := by decide +kernel
theorem dX5_readBeach_4 : decode cX5_readBeach 4 = .ok (.aload_n 0, 1) := by decide +kernel
theorem dX5_readBeach_5 : decode cX5_readBeach 5 = .ok (.getfield 15, 3) := by decide +kernel
theorem dX5_readBeach_8 : decode cX5_readBeach 8 = .ok (.dup, 1) := by decide +kernel
theorem dX5_readBeach_9 : decode cX5_readBeach 9 = .ok (.getfield 169, 3) := by decide +kernel
theorem dX5_readBeach_12 : decode cX5_readBeach 12 = .ok (.iconst 1, 1) := by decide +kernel
theorem dX5_readBeach_13 : decode cX5_readBeach 13 = .ok (.aload_n 0, 1) := by decide +kernel
theorem dX5_readBeach_14 : decode cX5_readBeach 14 = .ok (.iconst 0, 1) := by decide +kernel
theorem dX5_readBeach_15 : decode cX5_readBeach 15 = .ok (.aload_n 0, 1) := by decide +kernel
theorem dX5_readBeach_16 : decode cX5_readBeach 16 = .ok (.getfield 15, 3) := by decide +kernel
theorem dX5_readBeach_19 : decode cX5_readBeach 19 = .ok (.getfield 135, 3) := by decide +kernel
theorem dX5_readBeach_22 : decode cX5_readBeach 22 = .ok (.iconst 1, 1) := by decide +kernel
theorem dX5_readBeach_23 : decode cX5_readBeach 23 = .ok (.isub, 1) := by decide +kernel
theorem dX5_readBeach_24 : decode cX5_readBeach 24 = .ok (.invokevirtual 132, 3) := by decide +kernel
theorem dX5_readBeach_27 : decode cX5_readBeach 27 = .ok (.ishl, 1) := by decide +kernel
theorem dX5_readBeach_28 : decode cX5_readBeach 28 = .ok (.ior, 1) := by decide +kernel
theorem dX5_readBeach_29 : decode cX5_readBeach 29 = .ok (.putfield 169, 3) := by decide +kernel
theorem dX5_readBeach_32 : decode cX5_readBeach 32 = .ok (.return_, 1) := by decide +kernel
theorem dX5_readThing_0 : decode cX5_readThing 0 = .ok (.aload_n 0, 1) := by decide +kernel
theorem dX5_readThing_1 : decode cX5_readThing 1 = .ok (.getfield 15, 3) := by decide +kernel
theorem dX5_readThing_4 : decode cX5_readThing 4 = .ok (.getfield 172, 3) := by decide +kernel
theorem dX5_readThing_7 : decode cX5_readThing 7 = .ok (.bipush 8, 2) := by decide +kernel
theorem dX5_readThing_9 : decode cX5_readThing 9 = .ok (.if_icmp .lt 9, 3) := by decide +kernel
theorem dX5_readThing_18 : decode cX5_readThing 18 = .ok (.aload_n 0, 1) := by decide +kernel
theorem dX5_readThing_19 : decode cX5_readThing 19 = .ok (.invokevirtual 46, 3) := by decide +kernel
theorem dX5_readThing_22 : decode cX5_readThing 22 = .ok (.aload_n 0, 1) := by decide +kernel
theorem dX5_readThing_23 : decode cX5_readThing 23 = .ok (.ldc 175, 2) := by decide +kernel
theorem dX5_readThing_25 : decode cX5_readThing 25 = .ok (.invokevirtual 126, 3) := by decide +kernel
theorem dX5_readThing_28 : decode cX5_readThing 28 = .ok (.aload_n 0, 1) := by decide +kernel
theorem dX5_readThing_29 : decode cX5_readThing 29 = .ok (.getfield 15, 3) := by decide +kernel
theorem dX5_readThing_32 : decode cX5_readThing 32 = .ok (.getfield 177, 3) := by decide +kernel
theorem dX5_readThing_35 : decode cX5_readThing 35 = .ok (.aload_n 0, 1) := by decide +kernel
theorem dX5_readThing_36 : decode cX5_readThing 36 = .ok (.getfield 15, 3) := by decide +kernel
theorem dX5_readThing_39 : decode cX5_readThing 39 = .ok (.getfield 172, 3) := by decide +kernel
theorem dX5_readThing_42 : decode cX5_readThing 42 = .ok (.aload_n 0, 1) := by decide +kernel
theorem dX5_readThing_43 : decode cX5_readThing 43 = .ok (.iconst 0, 1) := by decide +kernel
theorem dX5_readThing_44 : decode cX5_readThing 44 = .ok (.sipush 999, 3) := by decide +kernel
theorem dX5_readThing_47 : decode cX5_readThing 47 = .ok (.invokevirtual 132, 3) := by decide +kernel
theorem dX5_readThing_50 : decode cX5_readThing 50 = .ok (.iastore, 1) := by decide +kernel
theorem dX5_readThing_51 : decode cX5_readThing 51 = .ok (.aload_n 0, 1) := by decide +kernel
theorem dX5_readThing_52 : decode cX5_readThing 52 = .ok (.ldc 180, 2) := by decide +kernel
theorem dX5_readThing_54 : decode cX5_readThing 54 = .ok (.invokevirtual 126, 3) := by decide +kernel
theorem dX5_readThing_57 : decode cX5_readThing 57 = .ok (.aload_n 0, 1) := by decide +kernel
theorem dX5_readThing_58 : decode cX5_readThing 58 = .ok (.getfield 15, 3) := by decide +kernel
theorem dX5_readThing_61 : decode cX5_readThing 61 = .ok (.getfield 182, 3) := by decide +kernel
theorem dX5_readThing_64 : decode cX5_readThing 64 = .ok (.aload_n 0, 1) := by decide +kernel
theorem dX5_readThing_65 : decode cX5_readThing 65 = .ok (.getfield 15, 3) := by decide +kernel
theorem dX5_readThing_68 : decode cX5_readThing 68 = .ok (.getfield 172, 3) := by decide +kernel
theorem dX5_readThing_71 : decode cX5_readThing 71 = .ok (.aload_n 0, 1) := by decide +kernel
theorem dX5_readThing_72 : decode cX5_readThing 72 = .ok (.iconst 0, 1) := by decide +kernel
theorem dX5_readThing_73 : decode cX5_readThing 73 = .ok (.aload_n 0, 1) := by decide +kernel
theorem dX5_readThing_74 : decode cX5_readThing 74 = .ok (.getfield 15, 3) := by decide +kernel
theorem dX5_readThing_77 : decode cX5_readThing 77 = .ok (.getfield 135, 3) := by decide +kernel
theorem dX5_readThing_80 : decode cX5_readThing 80 = .ok (.iconst 1, 1) := by decide +kernel
theorem dX5_readThing_81 : decode cX5_readThing 81 = .ok (.isub, 1) := by decide +kernel
theorem dX5_readThing_82 : decode cX5_readThing 82 = .ok (.invokevirtual 132, 3) := by decide +kernel
theorem dX5_readThing_85 : decode cX5_readThing 85 = .ok (.iastore, 1) := by decide +kernel
theorem dX5_readThing_86 : decode cX5_readThing 86 = .ok (.aload_n 0, 1) := by decide +kernel
theorem dX5_readThing_87 : decode cX5_readThing 87 = .ok (.ldc 185, 2) := by decide +kernel
theorem dX5_readThing_89 : decode cX5_readThing 89 = .ok (.invokevirtual 126, 3) := by decide +kernel
theorem dX5_readThing_92 : decode cX5_readThing 92 = .ok (.aload_n 0, 1) := by decide +kernel
theorem dX5_readThing_93 : decode cX5_readThing 93 = .ok (.getfield 15, 3) := by decide +kernel
theorem dX5_readThing_96 : decode cX5_readThing 96 = .ok (.getfield 187, 3) := by decide +kernel
theorem dX5_readThing_99 : decode cX5_readThing 99 = .ok (.aload_n 0, 1) := by decide +kernel
theorem dX5_readThing_100 : decode cX5_readThing 100 = .ok (.getfield 15, 3) := by decide +kernel
theorem dX5_readThing_103 : decode cX5_readThing 103 = .ok (.getfield 172, 3) := by decide +kernel
theorem dX5_readThing_106 : decode cX5_readThing 106 = .ok (.aload_n 0, 1) := by decide +kernel
theorem dX5_readThing_107 : decode cX5_readThing 107 = .ok (.iconst 0, 1) := by decide +kernel
theorem dX5_readThing_108 : decode cX5_readThing 108 = .ok (.bipush 99, 2) := by decide +kernel
theorem dX5_readThing_110 : decode cX5_readThing 110 = .ok (.invokevirtual 132, 3) := by decide +kernel
theorem dX5_readThing_113 : decode cX5_readThing 113 = .ok (.iastore, 1) := by decide +kernel
theorem dX5_readThing_114 : decode cX5_readThing 114 = .ok (.aload_n 0, 1) := by decide +kernel
theorem dX5_readThing_115 : decode cX5_readThing 115 = .ok (.getfield 15, 3) := by decide +kernel
theorem dX5_readThing_118 : decode cX5_readThing 118 = .ok (.dup, 1) := by decide +kernel
theorem dX5_readThing_119 : decode cX5_readThing 119 = .ok (.getfield 172, 3) := by decide +kernel
theorem dX5_readThing_122 : decode cX5_readThing 122 = .ok (.iconst 1, 1) := by decide +kernel
theorem dX5_readThing_123 : decode cX5_readThing 123 = .ok (.iadd, 1) := by decide +kernel
theorem dX5_readThing_124 : decode cX5_readThing 124 = .ok (.putfield 172, 3) := by decide +kernel
theorem dX5_readThing_127 : decode cX5_readThing 127 = .ok (.return_, 1) := by decide +kernel
theorem dX5_readThing_12 : decode cX5_readThing 12 = .ok (.aload_n 0, 1) := by decide +kernel
theorem dX5_readThing_13 : decode cX5_readThing 13 = .ok (.iconst 3, 1) := by decide +kernel
theorem dX5_readThing_14 : decode cX5_readThing 14 = .ok (.invokevirtual 92, 3) := by decide +kernel
theorem dX5_readThing_17 : decode cX5_readThing 17 = .ok (.return_, 1) := by decide +kernel
theorem dX5_readSitter_0 : decode cX5_readSitter 0 = .ok (.aload_n 0, 1) := by decide +kernel
theorem dX5_readSitter_1 : decode cX5_readSitter 1 = .ok (.getfield 15, 3) := by decide +kernel
theorem dX5_readSitter_4 : decode cX5_readSitter 4 = .ok (.getfield 210, 3) := by decide +kernel
theorem dX5_readSitter_7 : decode cX5_readSitter 7 = .ok (.iconst 3, 1) := by decide +kernel
theorem dX5_readSitter_8 : decode cX5_readSitter 8 = .ok (.if_icmp .lt 9, 3) := by decide +kernel
theorem dX5_readSitter_17 : decode cX5_readSitter 17 = .ok (.aload_n 0, 1) := by decide +kernel
theorem dX5_readSitter_18 : decode cX5_readSitter 18 = .ok (.invokevirtual 46, 3) := by decide +kernel
theorem dX5_readSitter_21 : decode cX5_readSitter 21 = .ok (.aload_n 0, 1) := by decide +kernel
theorem dX5_readSitter_22 : decode cX5_readSitter 22 = .ok (.ldc 180, 2) := by decide +kernel
theorem dX5_readSitter_24 : decode cX5_readSitter 24 = .ok (.invokevirtual 126, 3) := by decide +kernel
theorem dX5_readSitter_27 : decode cX5_readSitter 27 = .ok (.aload_n 0, 1) := by decide +kernel
theorem dX5_readSitter_28 : decode cX5_readSitter 28 = .ok (.getfield 15, 3) := by decide +kernel
theorem dX5_readSitter_31 : decode cX5_readSitter 31 = .ok (.getfield 213, 3) := by decide +kernel
theorem dX5_readSitter_34 : decode cX5_readSitter 34 = .ok (.aload_n 0, 1) := by decide +kernel
theorem dX5_readSitter_35 : decode cX5_readSitter 35 = .ok (.getfield 15, 3) := by decide +kernel
theorem dX5_readSitter_38 : decode cX5_readSitter 38 = .ok (.getfield 210, 3) := by decide +kernel
theorem dX5_readSitter_41 : decode cX5_readSitter 41 = .ok (.aload_n 0, 1) := by decide +kernel
theorem dX5_readSitter_42 : decode cX5_readSitter 42 = .ok (.iconst 0, 1) := by decide +kernel
theorem dX5_readSitter_43 : decode cX5_readSitter 43 = .ok (.aload_n 0, 1) := by decide +kernel
theorem dX5_readSitter_44 : decode cX5_readSitter 44 = .ok (.getfield 15, 3) := by decide +kernel
theorem dX5_readSitter_47 : decode cX5_readSitter 47 = .ok (.getfield 135, 3) := by decide +kernel
theorem dX5_readSitter_50 : decode cX5_readSitter 50 = .ok (.iconst 1, 1) := by decide +kernel
theorem dX5_readSitter_51 : decode cX5_readSitter 51 = .ok (.isub, 1) := by decide +kernel
theorem dX5_readSitter_52 : decode cX5_readSitter 52 = .ok (.invokevirtual 132, 3) := by decide +kernel
theorem dX5_readSitter_55 : decode cX5_readSitter 55 = .ok (.iastore, 1) := by decide +kernel
theorem dX5_readSitter_56 : decode cX5_readSitter 56 = .ok (.aload_n 0, 1) := by decide +kernel
theorem dX5_readSitter_57 : decode cX5_readSitter 57 = .ok (.getfield 15, 3) := by decide +kernel
theorem dX5_readSitter_60 : decode cX5_readSitter 60 = .ok (.dup, 1) := by decide +kernel
theorem dX5_readSitter_61 : decode cX5_readSitter 61 = .ok (.getfield 210, 3) := by decide +kernel
theorem dX5_readSitter_64 : decode cX5_readSitter 64 = .ok (.iconst 1, 1) := by decide +kernel
theorem dX5_readSitter_65 : decode cX5_readSitter 65 = .ok (.iadd, 1) := by decide +kernel
theorem dX5_readSitter_66 : decode cX5_readSitter 66 = .ok (.putfield 210, 3) := by decide +kernel
theorem dX5_readSitter_69 : decode cX5_readSitter 69 = .ok (.return_, 1) := by decide +kernel
theorem dX5_readSitter_11 : decode cX5_readSitter 11 = .ok (.aload_n 0, 1) := by decide +kernel
theorem dX5_readSitter_12 : decode cX5_readSitter 12 = .ok (.iconst 3, 1) := by decide +kernel
theorem dX5_readSitter_13 : decode cX5_readSitter 13 = .ok (.invokevirtual 92, 3) := by decide +kernel
theorem dX5_readSitter_16 : decode cX5_readSitter 16 = .ok (.return_, 1) := by decide +kernel
theorem dX6_isFull_0 : decode cX6_isFull 0 = .ok (.aload_n 0, 1) := by decide +kernel
theorem dX6_isFull_1 : decode cX6_isFull 1 = .ok (.getfield 24, 3) := by decide +kernel
theorem dX6_isFull_4 : decode cX6_isFull 4 = .ok (.bipush 6, 2) := by decide +kernel
theorem dX6_isFull_6 : decode cX6_isFull 6 = .ok (.if_icmp .lt 7, 3) := by decide +kernel
theorem dX6_isFull_13 : decode cX6_isFull 13 = .ok (.iconst 0, 1) := by decide +kernel
theorem dX6_isFull_14 : decode cX6_isFull 14 = .ok (.ireturn, 1) := by decide +kernel
theorem dX6_isFull_9 : decode cX6_isFull 9 = .ok (.iconst 1, 1) := by decide +kernel
theorem dX6_isFull_10 : decode cX6_isFull 10 = .ok (.goto 4, 3) := by decide +kernel
theorem dX6_addRule_0 : decode cX6_addRule 0 = .ok (.aload_n 0, 1) := by decide +kernel
theorem dX6_addRule_1 : decode cX6_addRule 1 = .ok (.invokevirtual 34, 3) := by decide +kernel
theorem dX6_addRule_4 : decode cX6_addRule 4 = .ok (.ifCond .ne 54, 3) := by decide +kernel
theorem dX6_addRule_58 : decode cX6_addRule 58 = .ok (.return_, 1) := by decide +kernel
theorem dX6_addRule_7 : decode cX6_addRule 7 = .ok (.aload_n 0, 1) := by decide +kernel
theorem dX6_addRule_8 : decode cX6_addRule 8 = .ok (.getfield 9, 3) := by decide +kernel
theorem dX6_addRule_11 : decode cX6_addRule 11 = .ok (.aload_n 0, 1) := by decide +kernel
theorem dX6_addRule_12 : decode cX6_addRule 12 = .ok (.getfield 24, 3) := by decide +kernel
theorem dX6_addRule_15 : decode cX6_addRule 15 = .ok (.iload_n 1, 1) := by decide +kernel
theorem dX6_addRule_16 : decode cX6_addRule 16 = .ok (.iastore, 1) := by decide +kernel
theorem dX6_addRule_17 : decode cX6_addRule 17 = .ok (.aload_n 0, 1) := by decide +kernel
theorem dX6_addRule_18 : decode cX6_addRule 18 = .ok (.getfield 15, 3) := by decide +kernel
theorem dX6_addRule_21 : decode cX6_addRule 21 = .ok (.aload_n 0, 1) := by decide +kernel
theorem dX6_addRule_22 : decode cX6_addRule 22 = .ok (.getfield 24, 3) := by decide +kernel
theorem dX6_addRule_25 : decode cX6_addRule 25 = .ok (.iload_n 2, 1) := by decide +kernel
theorem dX6_addRule_26 : decode cX6_addRule 26 = .ok (.iastore, 1) := by decide +kernel
theorem dX6_addRule_27 : decode cX6_addRule 27 = .ok (.aload_n 0, 1) := by decide +kernel
theorem dX6_addRule_28 : decode cX6_addRule 28 = .ok (.getfield 18, 3) := by decide +kernel
theorem dX6_addRule_31 : decode cX6_addRule 31 = .ok (.aload_n 0, 1) := by decide +kernel
theorem dX6_addRule_32 : decode cX6_addRule 32 = .ok (.getfield 24, 3) := by decide +kernel
theorem dX6_addRule_35 : decode cX6_addRule 35 = .ok (.iload_n 3, 1) := by decide +kernel
theorem dX6_addRule_36 : decode cX6_addRule 36 = .ok (.iastore, 1) := by decide +kernel
theorem dX6_addRule_37 : decode cX6_addRule 37 = .ok (.aload_n 0, 1) := by decide +kernel
theorem dX6_addRule_38 : decode cX6_addRule 38 = .ok (.getfield 21, 3) := by decide +kernel
theorem dX6_addRule_41 : decode cX6_addRule 41 = .ok (.aload_n 0, 1) := by decide +kernel
theorem dX6_addRule_42 : decode cX6_addRule 42 = .ok (.getfield 24, 3) := by decide +kernel
theorem dX6_addRule_45 : decode cX6_addRule 45 = .ok (.iload 4, 2) := by decide +kernel
theorem dX6_addRule_47 : decode cX6_addRule 47 = .ok (.iastore, 1) := by decide +kernel
theorem dX6_addRule_48 : decode cX6_addRule 48 = .ok (.aload_n 0, 1) := by decide +kernel
theorem dX6_addRule_49 : decode cX6_addRule 49 = .ok (.dup, 1) := by decide +kernel
theorem dX6_addRule_50 : decode cX6_addRule 50 = .ok (.getfield 24, 3) := by decide +kernel
theorem dX6_addRule_53 : decode cX6_addRule 53 = .ok (.iconst 1, 1) := by decide +kernel
theorem dX6_addRule_54 : decode cX6_addRule 54 = .ok (.iadd, 1) := by decide +kernel
theorem dX6_addRule_55 : decode cX6_addRule 55 = .ok (.putfield 24, 3) := by decide +kernel
theorem dX5_readPhases_0 : decode cX5_readPhases 0 = .ok (.iconst 0, 1) := by decide +kernel
theorem dX5_readPhases_1 : decode cX5_readPhases 1 = .ok (.istore_n 1, 1) := by decide +kernel
theorem dX5_readPhases_2 : decode cX5_readPhases 2 = .ok (.iconst 0, 1) := by decide +kernel
theorem dX5_readPhases_3 : decode cX5_readPhases 3 = .ok (.istore_n 2, 1) := by decide +kernel
theorem dX5_readPhases_4 : decode cX5_readPhases 4 = .ok (.iload_n 2, 1) := by decide +kernel
theorem dX5_readPhases_5 : decode cX5_readPhases 5 = .ok (.sipush 1200, 3) := by decide +kernel
theorem dX5_readPhases_8 : decode cX5_readPhases 8 = .ok (.if_icmp .gt 72, 3) := by decide +kernel
theorem dX5_readPhases_11 : decode cX5_readPhases 11 = .ok (.aload_n 0, 1) := by decide +kernel
theorem dX5_readPhases_12 : decode cX5_readPhases 12 = .ok (.ldc 137, 2) := by decide +kernel
theorem dX5_readPhases_14 : decode cX5_readPhases 14 = .ok (.invokevirtual 88, 3) := by decide +kernel
theorem dX5_readPhases_17 : decode cX5_readPhases 17 = .ok (.ifCond .eq 7, 3) := by decide +kernel
theorem dX5_readPhases_24 : decode cX5_readPhases 24 = .ok (.aload_n 0, 1) := by decide +kernel
theorem dX5_readPhases_25 : decode cX5_readPhases 25 = .ok (.ldc 139, 2) := by decide +kernel
theorem dX5_readPhases_27 : decode cX5_readPhases 27 = .ok (.invokevirtual 88, 3) := by decide +kernel
theorem dX5_readPhases_30 : decode cX5_readPhases 30 = .ok (.ifCond .eq 7, 3) := by decide +kernel
theorem dX5_readPhases_37 : decode cX5_readPhases 37 = .ok (.aload_n 0, 1) := by decide +kernel
theorem dX5_readPhases_38 : decode cX5_readPhases 38 = .ok (.ldc 141, 2) := by decide +kernel
theorem dX5_readPhases_40 : decode cX5_readPhases 40 = .ok (.invokevirtual 88, 3) := by decide +kernel
theorem dX5_readPhases_43 : decode cX5_readPhases 43 = .ok (.ifCond .eq 7, 3) := by decide +kernel
theorem dX5_readPhases_50 : decode cX5_readPhases 50 = .ok (.iconst 0, 1) := by decide +kernel
theorem dX5_readPhases_51 : decode cX5_readPhases 51 = .ok (.istore_n 3, 1) := by decide +kernel
theorem dX5_readPhases_52 : decode cX5_readPhases 52 = .ok (.iload_n 3, 1) := by decide +kernel
theorem dX5_readPhases_53 : decode cX5_readPhases 53 = .ok (.ifCond .eq 27, 3) := by decide +kernel
theorem dX5_readPhases_80 : decode cX5_readPhases 80 = .ok (.iload_n 1, 1) := by decide +kernel
theorem dX5_readPhases_81 : decode cX5_readPhases 81 = .ok (.ifCond .ne 8, 3) := by decide +kernel
theorem dX5_readPhases_84 : decode cX5_readPhases 84 = .ok (.aload_n 0, 1) := by decide +kernel
theorem dX5_readPhases_85 : decode cX5_readPhases 85 = .ok (.iconst 1, 1) := by decide +kernel
theorem dX5_readPhases_86 : decode cX5_readPhases 86 = .ok (.invokevirtual 92, 3) := by decide +kernel
theorem dX5_readPhases_89 : decode cX5_readPhases 89 = .ok (.iload_n 1, 1) := by decide +kernel
theorem dX5_readPhases_90 : decode cX5_readPhases 90 = .ok (.ireturn, 1) := by decide +kernel
theorem dX5_readPhases_46 : decode cX5_readPhases 46 = .ok (.iconst 4, 1) := by decide +kernel
theorem dX5_readPhases_47 : decode cX5_readPhases 47 = .ok (.goto 4, 3) := by decide +kernel
theorem dX5_readPhases_56 : decode cX5_readPhases 56 = .ok (.aload_n 0, 1) := by decide +kernel
theorem dX5_readPhases_57 : decode cX5_readPhases 57 = .ok (.invokevirtual 52, 3) := by decide +kernel
theorem dX5_readPhases_60 : decode cX5_readPhases 60 = .ok (.ifCond .eq 6, 3) := by decide +kernel
theorem dX5_readPhases_66 : decode cX5_readPhases 66 = .ok (.iload_n 1, 1) := by decide +kernel
theorem dX5_readPhases_67 : decode cX5_readPhases 67 = .ok (.iload_n 3, 1) := by decide +kernel
theorem dX5_readPhases_68 : decode cX5_readPhases 68 = .ok (.ior, 1) := by decide +kernel
theorem dX5_readPhases_69 : decode cX5_readPhases 69 = .ok (.istore_n 1, 1) := by decide +kernel
theorem dX5_readPhases_70 : decode cX5_readPhases 70 = .ok (.aload_n 0, 1) := by decide +kernel
theorem dX5_readPhases_71 : decode cX5_readPhases 71 = .ok (.invokevirtual 46, 3) := by decide +kernel
theorem dX5_readPhases_74 : decode cX5_readPhases 74 = .ok (.iinc 2 1, 3) := by decide +kernel
theorem dX5_readPhases_77 : decode cX5_readPhases 77 = .ok (.goto (-73), 3) := by decide +kernel
theorem dX5_readPhases_63 : decode cX5_readPhases 63 = .ok (.goto 17, 3) := by decide +kernel
theorem dX5_readPhases_33 : decode cX5_readPhases 33 = .ok (.iconst 2, 1) := by decide +kernel
theorem dX5_readPhases_34 : decode cX5_readPhases 34 = .ok (.goto 17, 3) := by decide +kernel
theorem dX5_readPhases_20 : decode cX5_readPhases 20 = .ok (.iconst 1, 1) := by decide +kernel
theorem dX5_readPhases_21 : decode cX5_readPhases 21 = .ok (.goto 30, 3) := by decide +kernel
theorem dX5_readRule_0 : decode cX5_readRule 0 = .ok (.aload_n 0, 1) := by decide +kernel
theorem dX5_readRule_1 : decode cX5_readRule 1 = .ok (.getfield 15, 3) := by decide +kernel
theorem dX5_readRule_4 : decode cX5_readRule 4 = .ok (.getfield 190, 3) := by decide +kernel
theorem dX5_readRule_7 : decode cX5_readRule 7 = .ok (.invokevirtual 194, 3) := by decide +kernel
theorem dX5_readRule_10 : decode cX5_readRule 10 = .ok (.ifCond .eq 9, 3) := by decide +kernel
theorem dX5_readRule_19 : decode cX5_readRule 19 = .ok (.aload_n 0, 1) := by decide +kernel
theorem dX5_readRule_20 : decode cX5_readRule 20 = .ok (.invokevirtual 46, 3) := by decide +kernel
theorem dX5_readRule_23 : decode cX5_readRule 23 = .ok (.aload_n 0, 1) := by decide +kernel
theorem dX5_readRule_24 : decode cX5_readRule 24 = .ok (.iconst 0, 1) := by decide +kernel
theorem dX5_readRule_25 : decode cX5_readRule 25 = .ok (.aload_n 0, 1) := by decide +kernel
theorem dX5_readRule_26 : decode cX5_readRule 26 = .ok (.getfield 15, 3) := by decide +kernel
theorem dX5_readRule_29 : decode cX5_readRule 29 = .ok (.getfield 135, 3) := by decide +kernel
theorem dX5_readRule_32 : decode cX5_readRule 32 = .ok (.iconst 1, 1) := by decide +kernel
theorem dX5_readRule_33 : decode cX5_readRule 33 = .ok (.isub, 1) := by decide +kernel
theorem dX5_readRule_34 : decode cX5_readRule 34 = .ok (.invokevirtual 132, 3) := by decide +kernel
theorem dX5_readRule_37 : decode cX5_readRule 37 = .ok (.istore_n 1, 1) := by decide +kernel
theorem dX5_readRule_38 : decode cX5_readRule 38 = .ok (.aload_n 0, 1) := by decide +kernel
theorem dX5_readRule_39 : decode cX5_readRule 39 = .ok (.ldc 199, 2) := by decide +kernel
theorem dX5_readRule_41 : decode cX5_readRule 41 = .ok (.invokevirtual 126, 3) := by decide +kernel
theorem dX5_readRule_44 : decode cX5_readRule 44 = .ok (.aload_n 0, 1) := by decide +kernel
theorem dX5_readRule_45 : decode cX5_readRule 45 = .ok (.iload_n 1, 1) := by decide +kernel
theorem dX5_readRule_46 : decode cX5_readRule 46 = .ok (.aload_n 0, 1) := by decide +kernel
theorem dX5_readRule_47 : decode cX5_readRule 47 = .ok (.getfield 15, 3) := by decide +kernel
theorem dX5_readRule_50 : decode cX5_readRule 50 = .ok (.getfield 135, 3) := by decide +kernel
theorem dX5_readRule_53 : decode cX5_readRule 53 = .ok (.iconst 1, 1) := by decide +kernel
theorem dX5_readRule_54 : decode cX5_readRule 54 = .ok (.isub, 1) := by decide +kernel
theorem dX5_readRule_55 : decode cX5_readRule 55 = .ok (.invokevirtual 132, 3) := by decide +kernel
theorem dX5_readRule_58 : decode cX5_readRule 58 = .ok (.istore_n 2, 1) := by decide +kernel
theorem dX5_readRule_59 : decode cX5_readRule 59 = .ok (.aload_n 0, 1) := by decide +kernel
theorem dX5_readRule_60 : decode cX5_readRule 60 = .ok (.ldc 201, 2) := by decide +kernel
theorem dX5_readRule_62 : decode cX5_readRule 62 = .ok (.invokevirtual 126, 3) := by decide +kernel
theorem dX5_readRule_65 : decode cX5_readRule 65 = .ok (.aload_n 0, 1) := by decide +kernel
theorem dX5_readRule_66 : decode cX5_readRule 66 = .ok (.invokevirtual 203, 3) := by decide +kernel
theorem dX5_readRule_69 : decode cX5_readRule 69 = .ok (.istore_n 3, 1) := by decide +kernel
theorem dX5_readRule_70 : decode cX5_readRule 70 = .ok (.aload_n 0, 1) := by decide +kernel
theorem dX5_readRule_71 : decode cX5_readRule 71 = .ok (.ldc 199, 2) := by decide +kernel
theorem dX5_readRule_73 : decode cX5_readRule 73 = .ok (.invokevirtual 126, 3) := by decide +kernel
theorem dX5_readRule_76 : decode cX5_readRule 76 = .ok (.aload_n 0, 1) := by decide +kernel
theorem dX5_readRule_77 : decode cX5_readRule 77 = .ok (.getfield 15, 3) := by decide +kernel
theorem dX5_readRule_80 : decode cX5_readRule 80 = .ok (.getfield 190, 3) := by decide +kernel
theorem dX5_readRule_83 : decode cX5_readRule 83 = .ok (.iload_n 1, 1) := by decide +kernel
theorem dX5_readRule_84 : decode cX5_readRule 84 = .ok (.iload_n 2, 1) := by decide +kernel
theorem dX5_readRule_85 : decode cX5_readRule 85 = .ok (.iload_n 3, 1) := by decide +kernel
theorem dX5_readRule_86 : decode cX5_readRule 86 = .ok (.aload_n 0, 1) := by decide +kernel
theorem dX5_readRule_87 : decode cX5_readRule 87 = .ok (.iconst 0, 1) := by decide +kernel
theorem dX5_readRule_88 : decode cX5_readRule 88 = .ok (.iconst 5, 1) := by decide +kernel
theorem dX5_readRule_89 : decode cX5_readRule 89 = .ok (.invokevirtual 132, 3) := by decide +kernel
theorem dX5_readRule_92 : decode cX5_readRule 92 = .ok (.invokevirtual 206, 3) := by decide +kernel
theorem dX5_readRule_95 : decode cX5_readRule 95 = .ok (.return_, 1) := by decide +kernel
theorem dX5_readRule_13 : decode cX5_readRule 13 = .ok (.aload_n 0, 1) := by decide +kernel
theorem dX5_readRule_14 : decode cX5_readRule 14 = .ok (.iconst 3, 1) := by decide +kernel
theorem dX5_readRule_15 : decode cX5_readRule 15 = .ok (.invokevirtual 92, 3) := by decide +kernel
theorem dX5_readRule_18 : decode cX5_readRule 18 = .ok (.return_, 1) := by decide +kernel
theorem dX5_readLine_0 : decode cX5_readLine 0 = .ok (.aload_n 0, 1) := by decide +kernel
theorem dX5_readLine_1 : decode cX5_readLine 1 = .ok (.getfield 15, 3) := by decide +kernel
theorem dX5_readLine_4 : decode cX5_readLine 4 = .ok (.getfield 62, 3) := by decide +kernel
theorem dX5_readLine_7 : decode cX5_readLine 7 = .ok (.ifCond .ne 10, 3) := by decide +kernel
theorem dX5_readLine_17 : decode cX5_readLine 17 = .ok (.aload_n 0, 1) := by decide +kernel
theorem dX5_readLine_18 : decode cX5_readLine 18 = .ok (.ldc 99, 2) := by decide +kernel
theorem dX5_readLine_20 : decode cX5_readLine 20 = .ok (.invokevirtual 88, 3) := by decide +kernel
theorem dX5_readLine_23 : decode cX5_readLine 23 = .ok (.ifCond .eq 10, 3) := by decide +kernel
theorem dX5_readLine_33 : decode cX5_readLine 33 = .ok (.aload_n 0, 1) := by decide +kernel
theorem dX5_readLine_34 : decode cX5_readLine 34 = .ok (.ldc 104, 2) := by decide +kernel
theorem dX5_readLine_36 : decode cX5_readLine 36 = .ok (.invokevirtual 88, 3) := by decide +kernel
theorem dX5_readLine_39 : decode cX5_readLine 39 = .ok (.ifCond .eq 10, 3) := by decide +kernel
theorem dX5_readLine_49 : decode cX5_readLine 49 = .ok (.aload_n 0, 1) := by decide +kernel
theorem dX5_readLine_50 : decode cX5_readLine 50 = .ok (.ldc 109, 2) := by decide +kernel
theorem dX5_readLine_52 : decode cX5_readLine 52 = .ok (.invokevirtual 88, 3) := by decide +kernel
theorem dX5_readLine_55 : decode cX5_readLine 55 = .ok (.ifCond .eq 10, 3) := by decide +kernel
theorem dX5_readLine_65 : decode cX5_readLine 65 = .ok (.aload_n 0, 1) := by decide +kernel
theorem dX5_readLine_66 : decode cX5_readLine 66 = .ok (.ldc 114, 2) := by decide +kernel
theorem dX5_readLine_68 : decode cX5_readLine 68 = .ok (.invokevirtual 88, 3) := by decide +kernel
theorem dX5_readLine_71 : decode cX5_readLine 71 = .ok (.ifCond .eq 10, 3) := by decide +kernel
theorem dX5_readLine_81 : decode cX5_readLine 81 = .ok (.aload_n 0, 1) := by decide +kernel
theorem dX5_readLine_82 : decode cX5_readLine 82 = .ok (.ldc 119, 2) := by decide +kernel
theorem dX5_readLine_84 : decode cX5_readLine 84 = .ok (.invokevirtual 88, 3) := by decide +kernel
theorem dX5_readLine_87 : decode cX5_readLine 87 = .ok (.ifCond .eq 10, 3) := by decide +kernel
theorem dX5_readLine_97 : decode cX5_readLine 97 = .ok (.aload_n 0, 1) := by decide +kernel
theorem dX5_readLine_98 : decode cX5_readLine 98 = .ok (.iconst 1, 1) := by decide +kernel
theorem dX5_readLine_99 : decode cX5_readLine 99 = .ok (.invokevirtual 92, 3) := by decide +kernel
theorem dX5_readLine_102 : decode cX5_readLine 102 = .ok (.return_, 1) := by decide +kernel
theorem dX5_readLine_90 : decode cX5_readLine 90 = .ok (.aload_n 0, 1) := by decide +kernel
theorem dX5_readLine_91 : decode cX5_readLine 91 = .ok (.invokevirtual 121, 3) := by decide +kernel
theorem dX5_readLine_94 : decode cX5_readLine 94 = .ok (.goto 8, 3) := by decide +kernel
theorem dX5_readLine_74 : decode cX5_readLine 74 = .ok (.aload_n 0, 1) := by decide +kernel
theorem dX5_readLine_75 : decode cX5_readLine 75 = .ok (.invokevirtual 116, 3) := by decide +kernel
theorem dX5_readLine_78 : decode cX5_readLine 78 = .ok (.goto 24, 3) := by decide +kernel
theorem dX5_readLine_58 : decode cX5_readLine 58 = .ok (.aload_n 0, 1) := by decide +kernel
theorem dX5_readLine_59 : decode cX5_readLine 59 = .ok (.invokevirtual 111, 3) := by decide +kernel
theorem dX5_readLine_62 : decode cX5_readLine 62 = .ok (.goto 40, 3) := by decide +kernel
theorem dX5_readLine_42 : decode cX5_readLine 42 = .ok (.aload_n 0, 1) := by decide +kernel
theorem dX5_readLine_43 : decode cX5_readLine 43 = .ok (.invokevirtual 106, 3) := by decide +kernel
theorem dX5_readLine_46 : decode cX5_readLine 46 = .ok (.goto 56, 3) := by decide +kernel
theorem dX5_readLine_26 : decode cX5_readLine 26 = .ok (.aload_n 0, 1) := by decide +kernel
theorem dX5_readLine_27 : decode cX5_readLine 27 = .ok (.invokevirtual 101, 3) := by decide +kernel
theorem dX5_readLine_30 : decode cX5_readLine 30 = .ok (.goto 72, 3) := by decide +kernel
theorem dX5_readLine_10 : decode cX5_readLine 10 = .ok (.aload_n 0, 1) := by decide +kernel
theorem dX5_readLine_11 : decode cX5_readLine 11 = .ok (.invokevirtual 96, 3) := by decide +kernel
theorem dX5_readLine_14 : decode cX5_readLine 14 = .ok (.goto 88, 3) := by decide +kernel
theorem dX1_clear_0 : decode cX1_clear 0 = .ok (.aload_n 0, 1) := by decide +kernel
theorem dX1_clear_1 : decode cX1_clear 1 = .ok (.iconst 0, 1) := by decide +kernel
theorem dX1_clear_2 : decode cX1_clear 2 = .ok (.putfield 51, 3) := by decide +kernel
theorem dX1_clear_5 : decode cX1_clear 5 = .ok (.aload_n 0, 1) := by decide +kernel
theorem dX1_clear_6 : decode cX1_clear 6 = .ok (.iconst 0, 1) := by decide +kernel
theorem dX1_clear_7 : decode cX1_clear 7 = .ok (.putfield 55, 3) := by decide +kernel
theorem dX1_clear_10 : decode cX1_clear 10 = .ok (.aload_n 0, 1) := by decide +kernel
theorem dX1_clear_11 : decode cX1_clear 11 = .ok (.iconst 0, 1) := by decide +kernel
theorem dX1_clear_12 : decode cX1_clear 12 = .ok (.putfield 58, 3) := by decide +kernel
theorem dX1_clear_15 : decode cX1_clear 15 = .ok (.aload_n 0, 1) := by decide +kernel
theorem dX1_clear_16 : decode cX1_clear 16 = .ok (.getfield 12, 3) := by decide +kernel
theorem dX1_clear_19 : decode cX1_clear 19 = .ok (.iconst 0, 1) := by decide +kernel
theorem dX1_clear_20 : decode cX1_clear 20 = .ok (.iconst 0, 1) := by decide +kernel
theorem dX1_clear_21 : decode cX1_clear 21 = .ok (.iconst 0, 1) := by decide +kernel
theorem dX1_clear_22 : decode cX1_clear 22 = .ok (.invokevirtual 61, 3) := by decide +kernel
theorem dX1_clear_25 : decode cX1_clear 25 = .ok (.aload_n 0, 1) := by decide +kernel
theorem dX1_clear_26 : decode cX1_clear 26 = .ok (.getfield 18, 3) := by decide +kernel
theorem dX1_clear_29 : decode cX1_clear 29 = .ok (.iconst 0, 1) := by decide +kernel
theorem dX1_clear_30 : decode cX1_clear 30 = .ok (.invokestatic 65, 3) := by decide +kernel
theorem dX1_clear_33 : decode cX1_clear 33 = .ok (.aload_n 0, 1) := by decide +kernel
theorem dX1_clear_34 : decode cX1_clear 34 = .ok (.getfield 22, 3) := by decide +kernel
theorem dX1_clear_37 : decode cX1_clear 37 = .ok (.iconst 0, 1) := by decide +kernel
theorem dX1_clear_38 : decode cX1_clear 38 = .ok (.invokestatic 65, 3) := by decide +kernel
theorem dX1_clear_41 : decode cX1_clear 41 = .ok (.aload_n 0, 1) := by decide +kernel
theorem dX1_clear_42 : decode cX1_clear 42 = .ok (.iconst 0, 1) := by decide +kernel
theorem dX1_clear_43 : decode cX1_clear 43 = .ok (.putfield 71, 3) := by decide +kernel
theorem dX1_clear_46 : decode cX1_clear 46 = .ok (.aload_n 0, 1) := by decide +kernel
theorem dX1_clear_47 : decode cX1_clear 47 = .ok (.iconst 0, 1) := by decide +kernel
theorem dX1_clear_48 : decode cX1_clear 48 = .ok (.putfield 74, 3) := by decide +kernel
theorem dX1_clear_51 : decode cX1_clear 51 = .ok (.aload_n 0, 1) := by decide +kernel
theorem dX1_clear_52 : decode cX1_clear 52 = .ok (.getfield 37, 3) := by decide +kernel
theorem dX1_clear_55 : decode cX1_clear 55 = .ok (.iconst 0, 1) := by decide +kernel
theorem dX1_clear_56 : decode cX1_clear 56 = .ok (.putfield 77, 3) := by decide +kernel
theorem dX1_clear_59 : decode cX1_clear 59 = .ok (.aload_n 0, 1) := by decide +kernel
theorem dX1_clear_60 : decode cX1_clear 60 = .ok (.iconst 0, 1) := by decide +kernel
theorem dX1_clear_61 : decode cX1_clear 61 = .ok (.putfield 80, 3) := by decide +kernel
theorem dX1_clear_64 : decode cX1_clear 64 = .ok (.aload_n 0, 1) := by decide +kernel
theorem dX1_clear_65 : decode cX1_clear 65 = .ok (.getfield 47, 3) := by decide +kernel
theorem dX1_clear_68 : decode cX1_clear 68 = .ok (.iconst 0, 1) := by decide +kernel
theorem dX1_clear_69 : decode cX1_clear 69 = .ok (.putfield 83, 3) := by decide +kernel
theorem dX1_clear_72 : decode cX1_clear 72 = .ok (.return_, 1) := by decide +kernel
theorem dX5_read_0 : decode cX5_read 0 = .ok (.aload_n 0, 1) := by decide +kernel
theorem dX5_read_1 : decode cX5_read 1 = .ok (.iconst 0, 1) := by decide +kernel
theorem dX5_read_2 : decode cX5_read 2 = .ok (.iload_n 1, 1) := by decide +kernel
theorem dX5_read_3 : decode cX5_read 3 = .ok (.aload_n 0, 1) := by decide +kernel
theorem dX5_read_4 : decode cX5_read 4 = .ok (.getfield 9, 3) := by decide +kernel
theorem dX5_read_7 : decode cX5_read 7 = .ok (.arraylength, 1) := by decide +kernel
theorem dX5_read_8 : decode cX5_read 8 = .ok (.invokestatic 19, 3) := by decide +kernel
theorem dX5_read_11 : decode cX5_read 11 = .ok (.invokestatic 25, 3) := by decide +kernel
theorem dX5_read_14 : decode cX5_read 14 = .ok (.putfield 28, 3) := by decide +kernel
theorem dX5_read_17 : decode cX5_read 17 = .ok (.aload_n 0, 1) := by decide +kernel
theorem dX5_read_18 : decode cX5_read 18 = .ok (.iconst 0, 1) := by decide +kernel
theorem dX5_read_19 : decode cX5_read 19 = .ok (.putfield 32, 3) := by decide +kernel
theorem dX5_read_22 : decode cX5_read 22 = .ok (.aload_n 0, 1) := by decide +kernel
theorem dX5_read_23 : decode cX5_read 23 = .ok (.iconst 0, 1) := by decide +kernel
theorem dX5_read_24 : decode cX5_read 24 = .ok (.putfield 35, 3) := by decide +kernel
theorem dX5_read_27 : decode cX5_read 27 = .ok (.aload_n 0, 1) := by decide +kernel
theorem dX5_read_28 : decode cX5_read 28 = .ok (.iconst (-1), 1) := by decide +kernel
theorem dX5_read_29 : decode cX5_read 29 = .ok (.putfield 38, 3) := by decide +kernel
theorem dX5_read_32 : decode cX5_read 32 = .ok (.aload_n 0, 1) := by decide +kernel
theorem dX5_read_33 : decode cX5_read 33 = .ok (.getfield 15, 3) := by decide +kernel
theorem dX5_read_36 : decode cX5_read 36 = .ok (.invokevirtual 41, 3) := by decide +kernel
theorem dX5_read_39 : decode cX5_read 39 = .ok (.aload_n 0, 1) := by decide +kernel
theorem dX5_read_40 : decode cX5_read 40 = .ok (.invokevirtual 46, 3) := by decide +kernel
theorem dX5_read_43 : decode cX5_read 43 = .ok (.iconst 0, 1) := by decide +kernel
theorem dX5_read_44 : decode cX5_read 44 = .ok (.istore_n 2, 1) := by decide +kernel
theorem dX5_read_45 : decode cX5_read 45 = .ok (.iload_n 2, 1) := by decide +kernel
theorem dX5_read_46 : decode cX5_read 46 = .ok (.sipush 1200, 3) := by decide +kernel
theorem dX5_read_49 : decode cX5_read 49 = .ok (.if_icmp .gt 44, 3) := by decide +kernel
theorem dX5_read_52 : decode cX5_read 52 = .ok (.aload_n 0, 1) := by decide +kernel
theorem dX5_read_53 : decode cX5_read 53 = .ok (.getfield 49, 3) := by decide +kernel
theorem dX5_read_56 : decode cX5_read 56 = .ok (.ifCond .eq 37, 3) := by decide +kernel
theorem dX5_read_93 : decode cX5_read 93 = .ok (.return_, 1) := by decide +kernel
theorem dX5_read_59 : decode cX5_read 59 = .ok (.aload_n 0, 1) := by decide +kernel
theorem dX5_read_60 : decode cX5_read 60 = .ok (.invokevirtual 52, 3) := by decide +kernel
theorem dX5_read_63 : decode cX5_read 63 = .ok (.ifCond .ne 30, 3) := by decide +kernel
theorem dX5_read_66 : decode cX5_read 66 = .ok (.aload_n 0, 1) := by decide +kernel
theorem dX5_read_67 : decode cX5_read 67 = .ok (.invokevirtual 56, 3) := by decide +kernel
theorem dX5_read_70 : decode cX5_read 70 = .ok (.aload_n 0, 1) := by decide +kernel
theorem dX5_read_71 : decode cX5_read 71 = .ok (.invokevirtual 59, 3) := by decide +kernel
theorem dX5_read_74 : decode cX5_read 74 = .ok (.aload_n 0, 1) := by decide +kernel
theorem dX5_read_75 : decode cX5_read 75 = .ok (.getfield 15, 3) := by decide +kernel
theorem dX5_read_78 : decode cX5_read 78 = .ok (.dup, 1) := by decide +kernel
theorem dX5_read_79 : decode cX5_read 79 = .ok (.getfield 62, 3) := by decide +kernel
theorem dX5_read_82 : decode cX5_read 82 = .ok (.iconst 1, 1) := by decide +kernel
theorem dX5_read_83 : decode cX5_read 83 = .ok (.iadd, 1) := by decide +kernel
theorem dX5_read_84 : decode cX5_read 84 = .ok (.putfield 62, 3) := by decide +kernel
theorem dX5_read_87 : decode cX5_read 87 = .ok (.iinc 2 1, 3) := by decide +kernel
theorem dX5_read_90 : decode cX5_read 90 = .ok (.goto (-45), 3) := by decide +kernel
theorem dX0_addAct_0 : decode cX0_addAct 0 = .ok (.aload_n 0, 1) := by decide +kernel
theorem dX0_addAct_1 : decode cX0_addAct 1 = .ok (.invokevirtual 35, 3) := by decide +kernel
theorem dX0_addAct_4 : decode cX0_addAct 4 = .ok (.ifCond .ne 43, 3) := by decide +kernel
theorem dX0_addAct_47 : decode cX0_addAct 47 = .ok (.return_, 1) := by decide +kernel
theorem dX0_addAct_7 : decode cX0_addAct 7 = .ok (.aload_n 0, 1) := by decide +kernel
theorem dX0_addAct_8 : decode cX0_addAct 8 = .ok (.getfield 9, 3) := by decide +kernel
theorem dX0_addAct_11 : decode cX0_addAct 11 = .ok (.aload_n 0, 1) := by decide +kernel
theorem dX0_addAct_12 : decode cX0_addAct 12 = .ok (.getfield 21, 3) := by decide +kernel
theorem dX0_addAct_15 : decode cX0_addAct 15 = .ok (.iload_n 1, 1) := by decide +kernel
theorem dX0_addAct_16 : decode cX0_addAct 16 = .ok (.iastore, 1) := by decide +kernel
theorem dX0_addAct_17 : decode cX0_addAct 17 = .ok (.aload_n 0, 1) := by decide +kernel
theorem dX0_addAct_18 : decode cX0_addAct 18 = .ok (.getfield 15, 3) := by decide +kernel
theorem dX0_addAct_21 : decode cX0_addAct 21 = .ok (.aload_n 0, 1) := by decide +kernel
theorem dX0_addAct_22 : decode cX0_addAct 22 = .ok (.getfield 21, 3) := by decide +kernel
theorem dX0_addAct_25 : decode cX0_addAct 25 = .ok (.iload_n 2, 1) := by decide +kernel
theorem dX0_addAct_26 : decode cX0_addAct 26 = .ok (.iastore, 1) := by decide +kernel
theorem dX0_addAct_27 : decode cX0_addAct 27 = .ok (.aload_n 0, 1) := by decide +kernel
theorem dX0_addAct_28 : decode cX0_addAct 28 = .ok (.getfield 18, 3) := by decide +kernel
theorem dX0_addAct_31 : decode cX0_addAct 31 = .ok (.aload_n 0, 1) := by decide +kernel
theorem dX0_addAct_32 : decode cX0_addAct 32 = .ok (.getfield 21, 3) := by decide +kernel
theorem dX0_addAct_35 : decode cX0_addAct 35 = .ok (.iload_n 3, 1) := by decide +kernel
theorem dX0_addAct_36 : decode cX0_addAct 36 = .ok (.iastore, 1) := by decide +kernel
theorem dX0_addAct_37 : decode cX0_addAct 37 = .ok (.aload_n 0, 1) := by decide +kernel
theorem dX0_addAct_38 : decode cX0_addAct 38 = .ok (.dup, 1) := by decide +kernel
theorem dX0_addAct_39 : decode cX0_addAct 39 = .ok (.getfield 21, 3) := by decide +kernel
theorem dX0_addAct_42 : decode cX0_addAct 42 = .ok (.iconst 1, 1) := by decide +kernel
theorem dX0_addAct_43 : decode cX0_addAct 43 = .ok (.iadd, 1) := by decide +kernel
theorem dX0_addAct_44 : decode cX0_addAct 44 = .ok (.putfield 21, 3) := by decide +kernel
theorem dX0_addSit_0 : decode cX0_addSit 0 = .ok (.aload_n 0, 1) := by decide +kernel
theorem dX0_addSit_1 : decode cX0_addSit 1 = .ok (.iconst 0, 1) := by decide +kernel
theorem dX0_addSit_2 : decode cX0_addSit 2 = .ok (.iload_n 1, 1) := by decide +kernel
theorem dX0_addSit_3 : decode cX0_addSit 3 = .ok (.iload_n 2, 1) := by decide +kernel
theorem dX0_addSit_4 : decode cX0_addSit 4 = .ok (.invokevirtual 31, 3) := by decide +kernel
theorem dX0_addSit_7 : decode cX0_addSit 7 = .ok (.return_, 1) := by decide +kernel
theorem dX0_addPush_0 : decode cX0_addPush 0 = .ok (.aload_n 0, 1) := by decide +kernel
theorem dX0_addPush_1 : decode cX0_addPush 1 = .ok (.iload_n 3, 1) := by decide +kernel
theorem dX0_addPush_2 : decode cX0_addPush 2 = .ok (.iload_n 1, 1) := by decide +kernel
theorem dX0_addPush_3 : decode cX0_addPush 3 = .ok (.iload_n 2, 1) := by decide +kernel
theorem dX0_addPush_4 : decode cX0_addPush 4 = .ok (.invokevirtual 31, 3) := by decide +kernel
theorem dX0_addPush_7 : decode cX0_addPush 7 = .ok (.return_, 1) := by decide +kernel
theorem dX1_takeBack_0 : decode cX1_takeBack 0 = .ok (.aload_n 0, 1) := by decide +kernel
theorem dX1_takeBack_1 : decode cX1_takeBack 1 = .ok (.getfield 47, 3) := by decide +kernel
theorem dX1_takeBack_4 : decode cX1_takeBack 4 = .ok (.getfield 83, 3) := by decide +kernel
theorem dX1_takeBack_7 : decode cX1_takeBack 7 = .ok (.iconst 1, 1) := by decide +kernel
theorem dX1_takeBack_8 : decode cX1_takeBack 8 = .ok (.if_icmp .ge 5, 3) := by decide +kernel
theorem dX1_takeBack_13 : decode cX1_takeBack 13 = .ok (.aload_n 0, 1) := by decide +kernel
theorem dX1_takeBack_14 : decode cX1_takeBack 14 = .ok (.getfield 47, 3) := by decide +kernel
theorem dX1_takeBack_17 : decode cX1_takeBack 17 = .ok (.dup, 1) := by decide +kernel
theorem dX1_takeBack_18 : decode cX1_takeBack 18 = .ok (.getfield 83, 3) := by decide +kernel
theorem dX1_takeBack_21 : decode cX1_takeBack 21 = .ok (.iconst 1, 1) := by decide +kernel
theorem dX1_takeBack_22 : decode cX1_takeBack 22 = .ok (.isub, 1) := by decide +kernel
theorem dX1_takeBack_23 : decode cX1_takeBack 23 = .ok (.putfield 83, 3) := by decide +kernel
theorem dX1_takeBack_26 : decode cX1_takeBack 26 = .ok (.aload_n 0, 1) := by decide +kernel
theorem dX1_takeBack_27 : decode cX1_takeBack 27 = .ok (.getfield 47, 3) := by decide +kernel
theorem dX1_takeBack_30 : decode cX1_takeBack 30 = .ok (.getfield 124, 3) := by decide +kernel
theorem dX1_takeBack_33 : decode cX1_takeBack 33 = .ok (.aload_n 0, 1) := by decide +kernel
theorem dX1_takeBack_34 : decode cX1_takeBack 34 = .ok (.getfield 47, 3) := by decide +kernel
theorem dX1_takeBack_37 : decode cX1_takeBack 37 = .ok (.getfield 83, 3) := by decide +kernel
theorem dX1_takeBack_40 : decode cX1_takeBack 40 = .ok (.iaload, 1) := by decide +kernel
theorem dX1_takeBack_41 : decode cX1_takeBack 41 = .ok (.istore_n 1, 1) := by decide +kernel
theorem dX1_takeBack_42 : decode cX1_takeBack 42 = .ok (.aload_n 0, 1) := by decide +kernel
theorem dX1_takeBack_43 : decode cX1_takeBack 43 = .ok (.getfield 47, 3) := by decide +kernel
theorem dX1_takeBack_46 : decode cX1_takeBack 46 = .ok (.getfield 127, 3) := by decide +kernel
theorem dX1_takeBack_49 : decode cX1_takeBack 49 = .ok (.aload_n 0, 1) := by decide +kernel
theorem dX1_takeBack_50 : decode cX1_takeBack 50 = .ok (.getfield 47, 3) := by decide +kernel
theorem dX1_takeBack_53 : decode cX1_takeBack 53 = .ok (.getfield 83, 3) := by decide +kernel
theorem dX1_takeBack_56 : decode cX1_takeBack 56 = .ok (.iaload, 1) := by decide +kernel
theorem dX1_takeBack_57 : decode cX1_takeBack 57 = .ok (.ifCond .eq 5, 3) := by decide +kernel
theorem dX1_takeBack_62 : decode cX1_takeBack 62 = .ok (.aload_n 0, 1) := by decide +kernel
theorem dX1_takeBack_63 : decode cX1_takeBack 63 = .ok (.getfield 41, 3) := by decide +kernel
theorem dX1_takeBack_66 : decode cX1_takeBack 66 = .ok (.iload_n 1, 1) := by decide +kernel
theorem dX1_takeBack_67 : decode cX1_takeBack 67 = .ok (.aload_n 0, 1) := by decide +kernel
theorem dX1_takeBack_68 : decode cX1_takeBack 68 = .ok (.getfield 47, 3) := by decide +kernel
theorem dX1_takeBack_71 : decode cX1_takeBack 71 = .ok (.getfield 130, 3) := by decide +kernel
theorem dX1_takeBack_74 : decode cX1_takeBack 74 = .ok (.aload_n 0, 1) := by decide +kernel
theorem dX1_takeBack_75 : decode cX1_takeBack 75 = .ok (.getfield 47, 3) := by decide +kernel
theorem dX1_takeBack_78 : decode cX1_takeBack 78 = .ok (.getfield 83, 3) := by decide +kernel
theorem dX1_takeBack_81 : decode cX1_takeBack 81 = .ok (.iaload, 1) := by decide +kernel
theorem dX1_takeBack_82 : decode cX1_takeBack 82 = .ok (.iastore, 1) := by decide +kernel
theorem dX1_takeBack_83 : decode cX1_takeBack 83 = .ok (.iconst (-1), 1) := by decide +kernel
theorem dX1_takeBack_84 : decode cX1_takeBack 84 = .ok (.ireturn, 1) := by decide +kernel
theorem dX1_takeBack_60 : decode cX1_takeBack 60 = .ok (.iload_n 1, 1) := by decide +kernel
theorem dX1_takeBack_61 : decode cX1_takeBack 61 = .ok (.ireturn, 1) := by decide +kernel
theorem dX1_takeBack_11 : decode cX1_takeBack 11 = .ok (.iconst (-1), 1) := by decide +kernel
theorem dX1_takeBack_12 : decode cX1_takeBack 12 = .ok (.ireturn, 1) := by decide +kernel
theorem dX11_sit_0 : decode cX11_sit 0 = .ok (.aload_n 0, 1) := by decide +kernel
theorem dX11_sit_1 : decode cX11_sit 1 = .ok (.getfield 26, 3) := by decide +kernel
theorem dX11_sit_4 : decode cX11_sit 4 = .ok (.iload_n 1, 1) := by decide +kernel
theorem dX11_sit_5 : decode cX11_sit 5 = .ok (.invokevirtual 163, 3) := by decide +kernel
theorem dX11_sit_8 : decode cX11_sit 8 = .ok (.ifCond .eq 14, 3) := by decide +kernel
theorem dX11_sit_22 : decode cX11_sit 22 = .ok (.bipush (-2), 2) := by decide +kernel
theorem dX11_sit_24 : decode cX11_sit 24 = .ok (.ireturn, 1) := by decide +kernel
theorem dX11_sit_11 : decode cX11_sit 11 = .ok (.aload_n 0, 1) := by decide +kernel
theorem dX11_sit_12 : decode cX11_sit 12 = .ok (.getfield 26, 3) := by decide +kernel
theorem dX11_sit_15 : decode cX11_sit 15 = .ok (.iload_n 2, 1) := by decide +kernel
theorem dX11_sit_16 : decode cX11_sit 16 = .ok (.invokevirtual 116, 3) := by decide +kernel
theorem dX11_sit_19 : decode cX11_sit 19 = .ok (.ifCond .ne 6, 3) := by decide +kernel
theorem dX11_sit_25 : decode cX11_sit 25 = .ok (.aload_n 0, 1) := by decide +kernel
theorem dX11_sit_26 : decode cX11_sit 26 = .ok (.getfield 26, 3) := by decide +kernel
theorem dX11_sit_29 : decode cX11_sit 29 = .ok (.getfield 208, 3) := by decide +kernel
theorem dX11_sit_32 : decode cX11_sit 32 = .ok (.invokevirtual 345, 3) := by decide +kernel
theorem dX11_sit_35 : decode cX11_sit 35 = .ok (.ifCond .eq 6, 3) := by decide +kernel
theorem dX11_sit_41 : decode cX11_sit 41 = .ok (.aload_n 0, 1) := by decide +kernel
theorem dX11_sit_42 : decode cX11_sit 42 = .ok (.getfield 26, 3) := by decide +kernel
theorem dX11_sit_45 : decode cX11_sit 45 = .ok (.getfield 166, 3) := by decide +kernel
theorem dX11_sit_48 : decode cX11_sit 48 = .ok (.iload_n 1, 1) := by decide +kernel
theorem dX11_sit_49 : decode cX11_sit 49 = .ok (.iaload, 1) := by decide +kernel
theorem dX11_sit_50 : decode cX11_sit 50 = .ok (.istore_n 3, 1) := by decide +kernel
theorem dX11_sit_51 : decode cX11_sit 51 = .ok (.aload_n 0, 1) := by decide +kernel
theorem dX11_sit_52 : decode cX11_sit 52 = .ok (.getfield 26, 3) := by decide +kernel
theorem dX11_sit_55 : decode cX11_sit 55 = .ok (.getfield 208, 3) := by decide +kernel
theorem dX11_sit_58 : decode cX11_sit 58 = .ok (.iload_n 1, 1) := by decide +kernel
theorem dX11_sit_59 : decode cX11_sit 59 = .ok (.iload_n 3, 1) := by decide +kernel
theorem dX11_sit_60 : decode cX11_sit 60 = .ok (.invokevirtual 348, 3) := by decide +kernel
theorem dX11_sit_63 : decode cX11_sit 63 = .ok (.aload_n 0, 1) := by decide +kernel
theorem dX11_sit_64 : decode cX11_sit 64 = .ok (.getfield 26, 3) := by decide +kernel
theorem dX11_sit_67 : decode cX11_sit 67 = .ok (.getfield 166, 3) := by decide +kernel
theorem dX11_sit_70 : decode cX11_sit 70 = .ok (.iload_n 1, 1) := by decide +kernel
theorem dX11_sit_71 : decode cX11_sit 71 = .ok (.iload_n 2, 1) := by decide +kernel
theorem dX11_sit_72 : decode cX11_sit 72 = .ok (.iastore, 1) := by decide +kernel
theorem dX11_sit_73 : decode cX11_sit 73 = .ok (.iload_n 3, 1) := by decide +kernel
theorem dX11_sit_74 : decode cX11_sit 74 = .ok (.ireturn, 1) := by decide +kernel
theorem dX11_sit_38 : decode cX11_sit 38 = .ok (.bipush (-5), 2) := by decide +kernel
theorem dX11_sit_40 : decode cX11_sit 40 = .ok (.ireturn, 1) := by decide +kernel
theorem dX11_shove_0 : decode cX11_shove 0 = .ok (.aload_n 0, 1) := by decide +kernel
theorem dX11_shove_1 : decode cX11_shove 1 = .ok (.getfield 26, 3) := by decide +kernel
theorem dX11_shove_4 : decode cX11_shove 4 = .ok (.iload_n 1, 1) := by decide +kernel
theorem dX11_shove_5 : decode cX11_shove 5 = .ok (.invokevirtual 130, 3) := by decide +kernel
theorem dX11_shove_8 : decode cX11_shove 8 = .ok (.ifCond .eq 21, 3) := by decide +kernel
theorem dX11_shove_29 : decode cX11_shove 29 = .ok (.bipush (-2), 2) := by decide +kernel
theorem dX11_shove_31 : decode cX11_shove 31 = .ok (.ireturn, 1) := by decide +kernel
theorem dX11_shove_11 : decode cX11_shove 11 = .ok (.iload_n 2, 1) := by decide +kernel
theorem dX11_shove_12 : decode cX11_shove 12 = .ok (.sipush 400, 3) := by decide +kernel
theorem dX11_shove_15 : decode cX11_shove 15 = .ok (.invokestatic 230, 3) := by decide +kernel
theorem dX11_shove_18 : decode cX11_shove 18 = .ok (.ifCond .eq 11, 3) := by decide +kernel
theorem dX11_shove_21 : decode cX11_shove 21 = .ok (.iload_n 3, 1) := by decide +kernel
theorem dX11_shove_22 : decode cX11_shove 22 = .ok (.iconst 1, 1) := by decide +kernel
theorem dX11_shove_23 : decode cX11_shove 23 = .ok (.invokestatic 230, 3) := by decide +kernel
theorem dX11_shove_26 : decode cX11_shove 26 = .ok (.ifCond .ne 6, 3) := by decide +kernel
theorem dX11_shove_32 : decode cX11_shove 32 = .ok (.aload_n 0, 1) := by decide +kernel
theorem dX11_shove_33 : decode cX11_shove 33 = .ok (.getfield 26, 3) := by decide +kernel
theorem dX11_shove_36 : decode cX11_shove 36 = .ok (.getfield 208, 3) := by decide +kernel
theorem dX11_shove_39 : decode cX11_shove 39 = .ok (.invokevirtual 345, 3) := by decide +kernel
theorem dX11_shove_42 : decode cX11_shove 42 = .ok (.ifCond .ne 18, 3) := by decide +kernel
theorem dX11_shove_60 : decode cX11_shove 60 = .ok (.bipush (-5), 2) := by decide +kernel
theorem dX11_shove_62 : decode cX11_shove 62 = .ok (.ireturn, 1) := by decide +kernel
theorem dX11_shove_45 : decode cX11_shove 45 = .ok (.aload_n 0, 1) := by decide +kernel
theorem dX11_shove_46 : decode cX11_shove 46 = .ok (.getfield 26, 3) := by decide +kernel
theorem dX11_shove_49 : decode cX11_shove 49 = .ok (.getfield 208, 3) := by decide +kernel
theorem dX11_shove_52 : decode cX11_shove 52 = .ok (.iload_n 1, 1) := by decide +kernel
theorem dX11_shove_53 : decode cX11_shove 53 = .ok (.iload_n 2, 1) := by decide +kernel
theorem dX11_shove_54 : decode cX11_shove 54 = .ok (.invokevirtual 352, 3) := by decide +kernel
theorem dX11_shove_57 : decode cX11_shove 57 = .ok (.ifCond .eq 6, 3) := by decide +kernel
theorem dX11_shove_63 : decode cX11_shove 63 = .ok (.aload_n 0, 1) := by decide +kernel
theorem dX11_shove_64 : decode cX11_shove 64 = .ok (.getfield 26, 3) := by decide +kernel
theorem dX11_shove_67 : decode cX11_shove 67 = .ok (.getfield 208, 3) := by decide +kernel
theorem dX11_shove_70 : decode cX11_shove 70 = .ok (.iload_n 1, 1) := by decide +kernel
theorem dX11_shove_71 : decode cX11_shove 71 = .ok (.iload_n 2, 1) := by decide +kernel
theorem dX11_shove_72 : decode cX11_shove 72 = .ok (.iload_n 3, 1) := by decide +kernel
theorem dX11_shove_73 : decode cX11_shove 73 = .ok (.iconst 1, 1) := by decide +kernel
theorem dX11_shove_74 : decode cX11_shove 74 = .ok (.if_icmp .ne 7, 3) := by decide +kernel
theorem dX11_shove_81 : decode cX11_shove 81 = .ok (.iconst 1, 1) := by decide +kernel
theorem dX11_shove_82 : decode cX11_shove 82 = .ok (.invokevirtual 355, 3) := by decide +kernel
theorem dX11_shove_85 : decode cX11_shove 85 = .ok (.aload_n 0, 1) := by decide +kernel
theorem dX11_shove_86 : decode cX11_shove 86 = .ok (.getfield 55, 3) := by decide +kernel
theorem dX11_shove_89 : decode cX11_shove 89 = .ok (.iload_n 1, 1) := by decide +kernel
theorem dX11_shove_90 : decode cX11_shove 90 = .ok (.invokevirtual 359, 3) := by decide +kernel
theorem dX11_shove_93 : decode cX11_shove 93 = .ok (.aload_n 0, 1) := by decide +kernel
theorem dX11_shove_94 : decode cX11_shove 94 = .ok (.getfield 26, 3) := by decide +kernel
theorem dX11_shove_97 : decode cX11_shove 97 = .ok (.getfield 208, 3) := by decide +kernel
theorem dX11_shove_100 : decode cX11_shove 100 = .ok (.iload_n 1, 1) := by decide +kernel
theorem dX11_shove_101 : decode cX11_shove 101 = .ok (.invokevirtual 362, 3) := by decide +kernel
theorem dX11_shove_104 : decode cX11_shove 104 = .ok (.ireturn, 1) := by decide +kernel
theorem dX11_shove_77 : decode cX11_shove 77 = .ok (.iconst (-1), 1) := by decide +kernel
theorem dX11_shove_78 : decode cX11_shove 78 = .ok (.goto 4, 3) := by decide +kernel
theorem dX11_undo_0 : decode cX11_undo 0 = .ok (.aload_n 0, 1) := by decide +kernel
theorem dX11_undo_1 : decode cX11_undo 1 = .ok (.getfield 26, 3) := by decide +kernel
theorem dX11_undo_4 : decode cX11_undo 4 = .ok (.invokevirtual 225, 3) := by decide +kernel
theorem dX11_undo_7 : decode cX11_undo 7 = .ok (.ifCond .ne 6, 3) := by decide +kernel
theorem dX11_undo_13 : decode cX11_undo 13 = .ok (.aload_n 0, 1) := by decide +kernel
theorem dX11_undo_14 : decode cX11_undo 14 = .ok (.getfield 26, 3) := by decide +kernel
theorem dX11_undo_17 : decode cX11_undo 17 = .ok (.getfield 208, 3) := by decide +kernel
theorem dX11_undo_20 : decode cX11_undo 20 = .ok (.getfield 212, 3) := by decide +kernel
theorem dX11_undo_23 : decode cX11_undo 23 = .ok (.iconst 1, 1) := by decide +kernel
theorem dX11_undo_24 : decode cX11_undo 24 = .ok (.if_icmp .ge 6, 3) := by decide +kernel
theorem dX11_undo_30 : decode cX11_undo 30 = .ok (.aload_n 0, 1) := by decide +kernel
theorem dX11_undo_31 : decode cX11_undo 31 = .ok (.getfield 26, 3) := by decide +kernel
theorem dX11_undo_34 : decode cX11_undo 34 = .ok (.invokevirtual 365, 3) := by decide +kernel
theorem dX11_undo_37 : decode cX11_undo 37 = .ok (.istore_n 1, 1) := by decide +kernel
theorem dX11_undo_38 : decode cX11_undo 38 = .ok (.iload_n 1, 1) := by decide +kernel
theorem dX11_undo_39 : decode cX11_undo 39 = .ok (.iconst (-1), 1) := by decide +kernel
theorem dX11_undo_40 : decode cX11_undo 40 = .ok (.if_icmp .eq 11, 3) := by decide +kernel
theorem dX11_undo_51 : decode cX11_undo 51 = .ok (.aload_n 0, 1) := by decide +kernel
theorem dX11_undo_52 : decode cX11_undo 52 = .ok (.getfield 26, 3) := by decide +kernel
theorem dX11_undo_55 : decode cX11_undo 55 = .ok (.getfield 208, 3) := by decide +kernel
theorem dX11_undo_58 : decode cX11_undo 58 = .ok (.getfield 212, 3) := by decide +kernel
theorem dX11_undo_61 : decode cX11_undo 61 = .ok (.ireturn, 1) := by decide +kernel
theorem dX11_undo_43 : decode cX11_undo 43 = .ok (.aload_n 0, 1) := by decide +kernel
theorem dX11_undo_44 : decode cX11_undo 44 = .ok (.getfield 55, 3) := by decide +kernel
theorem dX11_undo_47 : decode cX11_undo 47 = .ok (.iload_n 1, 1) := by decide +kernel
theorem dX11_undo_48 : decode cX11_undo 48 = .ok (.invokevirtual 359, 3) := by decide +kernel
theorem dX11_undo_27 : decode cX11_undo 27 = .ok (.bipush (-5), 2) := by decide +kernel
theorem dX11_undo_29 : decode cX11_undo 29 = .ok (.ireturn, 1) := by decide +kernel
theorem dX11_undo_10 : decode cX11_undo 10 = .ok (.bipush (-2), 2) := by decide +kernel
theorem dX11_undo_12 : decode cX11_undo 12 = .ok (.ireturn, 1) := by decide +kernel
theorem dX11_anew_0 : decode cX11_anew 0 = .ok (.aload_n 0, 1) := by decide +kernel
theorem dX11_anew_1 : decode cX11_anew 1 = .ok (.getfield 26, 3) := by decide +kernel
theorem dX11_anew_4 : decode cX11_anew 4 = .ok (.invokevirtual 225, 3) := by decide +kernel
theorem dX11_anew_7 : decode cX11_anew 7 = .ok (.ifCond .ne 6, 3) := by decide +kernel
theorem dX11_anew_13 : decode cX11_anew 13 = .ok (.aload_n 0, 1) := by decide +kernel
theorem dX11_anew_14 : decode cX11_anew 14 = .ok (.getfield 26, 3) := by decide +kernel
theorem dX11_anew_17 : decode cX11_anew 17 = .ok (.getfield 208, 3) := by decide +kernel
theorem dX11_anew_20 : decode cX11_anew 20 = .ok (.getfield 212, 3) := by decide +kernel
theorem dX11_anew_23 : decode cX11_anew 23 = .ok (.istore_n 1, 1) := by decide +kernel
theorem dX11_anew_24 : decode cX11_anew 24 = .ok (.iconst 0, 1) := by decide +kernel
theorem dX11_anew_25 : decode cX11_anew 25 = .ok (.istore_n 2, 1) := by decide +kernel
theorem dX11_anew_26 : decode cX11_anew 26 = .ok (.iload_n 2, 1) := by decide +kernel
theorem dX11_anew_27 : decode cX11_anew 27 = .ok (.iload_n 1, 1) := by decide +kernel
theorem dX11_anew_28 : decode cX11_anew 28 = .ok (.if_icmp .ge 17, 3) := by decide +kernel
theorem dX11_anew_45 : decode cX11_anew 45 = .ok (.aload_n 0, 1) := by decide +kernel
theorem dX11_anew_46 : decode cX11_anew 46 = .ok (.getfield 55, 3) := by decide +kernel
theorem dX11_anew_49 : decode cX11_anew 49 = .ok (.invokevirtual 110, 3) := by decide +kernel
theorem dX11_anew_52 : decode cX11_anew 52 = .ok (.iload_n 1, 1) := by decide +kernel
theorem dX11_anew_53 : decode cX11_anew 53 = .ok (.ireturn, 1) := by decide +kernel
theorem dX11_anew_31 : decode cX11_anew 31 = .ok (.aload_n 0, 1) := by decide +kernel
theorem dX11_anew_32 : decode cX11_anew 32 = .ok (.getfield 26, 3) := by decide +kernel
theorem dX11_anew_35 : decode cX11_anew 35 = .ok (.invokevirtual 365, 3) := by decide +kernel
theorem dX11_anew_38 : decode cX11_anew 38 = .ok (.pop, 1) := by decide +kernel
theorem dX11_anew_39 : decode cX11_anew 39 = .ok (.iinc 2 1, 3) := by decide +kernel
theorem dX11_anew_42 : decode cX11_anew 42 = .ok (.goto (-16), 3) := by decide +kernel
theorem dX11_anew_10 : decode cX11_anew 10 = .ok (.bipush (-2), 2) := by decide +kernel
theorem dX11_anew_12 : decode cX11_anew 12 = .ok (.ireturn, 1) := by decide +kernel
theorem dX0_copyFrom_0 : decode cX0_copyFrom 0 = .ok (.aload_n 0, 1) := by decide +kernel
theorem dX0_copyFrom_1 : decode cX0_copyFrom 1 = .ok (.aload_n 1, 1) := by decide +kernel
theorem dX0_copyFrom_2 : decode cX0_copyFrom 2 = .ok (.getfield 21, 3) := by decide +kernel
theorem dX0_copyFrom_5 : decode cX0_copyFrom 5 = .ok (.putfield 21, 3) := by decide +kernel
theorem dX0_copyFrom_8 : decode cX0_copyFrom 8 = .ok (.aload_n 1, 1) := by decide +kernel
theorem dX0_copyFrom_9 : decode cX0_copyFrom 9 = .ok (.getfield 9, 3) := by decide +kernel
theorem dX0_copyFrom_12 : decode cX0_copyFrom 12 = .ok (.iconst 0, 1) := by decide +kernel
theorem dX0_copyFrom_13 : decode cX0_copyFrom 13 = .ok (.aload_n 0, 1) := by decide +kernel
theorem dX0_copyFrom_14 : decode cX0_copyFrom 14 = .ok (.getfield 9, 3) := by decide +kernel
theorem dX0_copyFrom_17 : decode cX0_copyFrom 17 = .ok (.iconst 0, 1) := by decide +kernel
theorem dX0_copyFrom_18 : decode cX0_copyFrom 18 = .ok (.bipush 40, 2) := by decide +kernel
theorem dX0_copyFrom_20 : decode cX0_copyFrom 20 = .ok (.invokestatic 25, 3) := by decide +kernel
theorem dX0_copyFrom_23 : decode cX0_copyFrom 23 = .ok (.aload_n 1, 1) := by decide +kernel
theorem dX0_copyFrom_24 : decode cX0_copyFrom 24 = .ok (.getfield 15, 3) := by decide +kernel
theorem dX0_copyFrom_27 : decode cX0_copyFrom 27 = .ok (.iconst 0, 1) := by decide +kernel
theorem dX0_copyFrom_28 : decode cX0_copyFrom 28 = .ok (.aload_n 0, 1) := by decide +kernel
theorem dX0_copyFrom_29 : decode cX0_copyFrom 29 = .ok (.getfield 15, 3) := by decide +kernel
theorem dX0_copyFrom_32 : decode cX0_copyFrom 32 = .ok (.iconst 0, 1) := by decide +kernel
theorem dX0_copyFrom_33 : decode cX0_copyFrom 33 = .ok (.bipush 40, 2) := by decide +kernel
theorem dX0_copyFrom_35 : decode cX0_copyFrom 35 = .ok (.invokestatic 25, 3) := by decide +kernel
theorem dX0_copyFrom_38 : decode cX0_copyFrom 38 = .ok (.aload_n 1, 1) := by decide +kernel
theorem dX0_copyFrom_39 : decode cX0_copyFrom 39 = .ok (.getfield 18, 3) := by decide +kernel
theorem dX0_copyFrom_42 : decode cX0_copyFrom 42 = .ok (.iconst 0, 1) := by decide +kernel
theorem dX0_copyFrom_43 : decode cX0_copyFrom 43 = .ok (.aload_n 0, 1) := by decide +kernel
theorem dX0_copyFrom_44 : decode cX0_copyFrom 44 = .ok (.getfield 18, 3) := by decide +kernel
theorem dX0_copyFrom_47 : decode cX0_copyFrom 47 = .ok (.iconst 0, 1) := by decide +kernel
theorem dX0_copyFrom_48 : decode cX0_copyFrom 48 = .ok (.bipush 40, 2) := by decide +kernel
theorem dX0_copyFrom_50 : decode cX0_copyFrom 50 = .ok (.invokestatic 25, 3) := by decide +kernel
theorem dX0_copyFrom_53 : decode cX0_copyFrom 53 = .ok (.return_, 1) := by decide +kernel
theorem dX6_copyFrom_0 : decode cX6_copyFrom 0 = .ok (.aload_n 0, 1) := by decide +kernel
theorem dX6_copyFrom_1 : decode cX6_copyFrom 1 = .ok (.aload_n 1, 1) := by decide +kernel
theorem dX6_copyFrom_2 : decode cX6_copyFrom 2 = .ok (.getfield 24, 3) := by decide +kernel
theorem dX6_copyFrom_5 : decode cX6_copyFrom 5 = .ok (.putfield 24, 3) := by decide +kernel
theorem dX6_copyFrom_8 : decode cX6_copyFrom 8 = .ok (.aload_n 1, 1) := by decide +kernel
theorem dX6_copyFrom_9 : decode cX6_copyFrom 9 = .ok (.getfield 9, 3) := by decide +kernel
theorem dX6_copyFrom_12 : decode cX6_copyFrom 12 = .ok (.iconst 0, 1) := by decide +kernel
theorem dX6_copyFrom_13 : decode cX6_copyFrom 13 = .ok (.aload_n 0, 1) := by decide +kernel
theorem dX6_copyFrom_14 : decode cX6_copyFrom 14 = .ok (.getfield 9, 3) := by decide +kernel
theorem dX6_copyFrom_17 : decode cX6_copyFrom 17 = .ok (.iconst 0, 1) := by decide +kernel
theorem dX6_copyFrom_18 : decode cX6_copyFrom 18 = .ok (.bipush 6, 2) := by decide +kernel
theorem dX6_copyFrom_20 : decode cX6_copyFrom 20 = .ok (.invokestatic 28, 3) := by decide +kernel
theorem dX6_copyFrom_23 : decode cX6_copyFrom 23 = .ok (.aload_n 1, 1) := by decide +kernel
theorem dX6_copyFrom_24 : decode cX6_copyFrom 24 = .ok (.getfield 15, 3) := by decide +kernel
theorem dX6_copyFrom_27 : decode cX6_copyFrom 27 = .ok (.iconst 0, 1) := by decide +kernel
theorem dX6_copyFrom_28 : decode cX6_copyFrom 28 = .ok (.aload_n 0, 1) := by decide +kernel
theorem dX6_copyFrom_29 : decode cX6_copyFrom 29 = .ok (.getfield 15, 3) := by decide +kernel
theorem dX6_copyFrom_32 : decode cX6_copyFrom 32 = .ok (.iconst 0, 1) := by decide +kernel
theorem dX6_copyFrom_33 : decode cX6_copyFrom 33 = .ok (.bipush 6, 2) := by decide +kernel
theorem dX6_copyFrom_35 : decode cX6_copyFrom 35 = .ok (.invokestatic 28, 3) := by decide +kernel
theorem dX6_copyFrom_38 : decode cX6_copyFrom 38 = .ok (.aload_n 1, 1) := by decide +kernel
theorem dX6_copyFrom_39 : decode cX6_copyFrom 39 = .ok (.getfield 18, 3) := by decide +kernel
theorem dX6_copyFrom_42 : decode cX6_copyFrom 42 = .ok (.iconst 0, 1) := by decide +kernel
theorem dX6_copyFrom_43 : decode cX6_copyFrom 43 = .ok (.aload_n 0, 1) := by decide +kernel
theorem dX6_copyFrom_44 : decode cX6_copyFrom 44 = .ok (.getfield 18, 3) := by decide +kernel
theorem dX6_copyFrom_47 : decode cX6_copyFrom 47 = .ok (.iconst 0, 1) := by decide +kernel
theorem dX6_copyFrom_48 : decode cX6_copyFrom 48 = .ok (.bipush 6, 2) := by decide +kernel
theorem dX6_copyFrom_50 : decode cX6_copyFrom 50 = .ok (.invokestatic 28, 3) := by decide +kernel
theorem dX6_copyFrom_53 : decode cX6_copyFrom 53 = .ok (.aload_n 1, 1) := by decide +kernel
theorem dX6_copyFrom_54 : decode cX6_copyFrom 54 = .ok (.getfield 21, 3) := by decide +kernel
theorem dX6_copyFrom_57 : decode cX6_copyFrom 57 = .ok (.iconst 0, 1) := by decide +kernel
theorem dX6_copyFrom_58 : decode cX6_copyFrom 58 = .ok (.aload_n 0, 1) := by decide +kernel
theorem dX6_copyFrom_59 : decode cX6_copyFrom 59 = .ok (.getfield 21, 3) := by decide +kernel
theorem dX6_copyFrom_62 : decode cX6_copyFrom 62 = .ok (.iconst 0, 1) := by decide +kernel
theorem dX6_copyFrom_63 : decode cX6_copyFrom 63 = .ok (.bipush 6, 2) := by decide +kernel
theorem dX6_copyFrom_65 : decode cX6_copyFrom 65 = .ok (.invokestatic 28, 3) := by decide +kernel
theorem dX6_copyFrom_68 : decode cX6_copyFrom 68 = .ok (.return_, 1) := by decide +kernel
theorem dX1_copyFrom_0 : decode cX1_copyFrom 0 = .ok (.aload_n 0, 1) := by decide +kernel
theorem dX1_copyFrom_1 : decode cX1_copyFrom 1 = .ok (.aload_n 1, 1) := by decide +kernel
theorem dX1_copyFrom_2 : decode cX1_copyFrom 2 = .ok (.getfield 51, 3) := by decide +kernel
theorem dX1_copyFrom_5 : decode cX1_copyFrom 5 = .ok (.putfield 51, 3) := by decide +kernel
theorem dX1_copyFrom_8 : decode cX1_copyFrom 8 = .ok (.aload_n 0, 1) := by decide +kernel
theorem dX1_copyFrom_9 : decode cX1_copyFrom 9 = .ok (.aload_n 1, 1) := by decide +kernel
theorem dX1_copyFrom_10 : decode cX1_copyFrom 10 = .ok (.getfield 55, 3) := by decide +kernel
theorem dX1_copyFrom_13 : decode cX1_copyFrom 13 = .ok (.putfield 55, 3) := by decide +kernel
theorem dX1_copyFrom_16 : decode cX1_copyFrom 16 = .ok (.aload_n 0, 1) := by decide +kernel
theorem dX1_copyFrom_17 : decode cX1_copyFrom 17 = .ok (.aload_n 1, 1) := by decide +kernel
theorem dX1_copyFrom_18 : decode cX1_copyFrom 18 = .ok (.getfield 58, 3) := by decide +kernel
theorem dX1_copyFrom_21 : decode cX1_copyFrom 21 = .ok (.putfield 58, 3) := by decide +kernel
theorem dX1_copyFrom_24 : decode cX1_copyFrom 24 = .ok (.aload_n 0, 1) := by decide +kernel
theorem dX1_copyFrom_25 : decode cX1_copyFrom 25 = .ok (.getfield 12, 3) := by decide +kernel
theorem dX1_copyFrom_28 : decode cX1_copyFrom 28 = .ok (.aload_n 1, 1) := by decide +kernel
theorem dX1_copyFrom_29 : decode cX1_copyFrom 29 = .ok (.getfield 12, 3) := by decide +kernel
theorem dX1_copyFrom_32 : decode cX1_copyFrom 32 = .ok (.getfield 84, 3) := by decide +kernel
theorem dX1_copyFrom_35 : decode cX1_copyFrom 35 = .ok (.aload_n 1, 1) := by decide +kernel
theorem dX1_copyFrom_36 : decode cX1_copyFrom 36 = .ok (.getfield 12, 3) := by decide +kernel
theorem dX1_copyFrom_39 : decode cX1_copyFrom 39 = .ok (.getfield 87, 3) := by decide +kernel
theorem dX1_copyFrom_42 : decode cX1_copyFrom 42 = .ok (.aload_n 1, 1) := by decide +kernel
theorem dX1_copyFrom_43 : decode cX1_copyFrom 43 = .ok (.getfield 12, 3) := by decide +kernel
theorem dX1_copyFrom_46 : decode cX1_copyFrom 46 = .ok (.getfield 90, 3) := by decide +kernel
theorem dX1_copyFrom_49 : decode cX1_copyFrom 49 = .ok (.invokevirtual 61, 3) := by decide +kernel
theorem dX1_copyFrom_52 : decode cX1_copyFrom 52 = .ok (.aload_n 1, 1) := by decide +kernel
theorem dX1_copyFrom_53 : decode cX1_copyFrom 53 = .ok (.getfield 18, 3) := by decide +kernel
theorem dX1_copyFrom_56 : decode cX1_copyFrom 56 = .ok (.iconst 0, 1) := by decide +kernel
theorem dX1_copyFrom_57 : decode cX1_copyFrom 57 = .ok (.aload_n 0, 1) := by decide +kernel
theorem dX1_copyFrom_58 : decode cX1_copyFrom 58 = .ok (.getfield 18, 3) := by decide +kernel
theorem dX1_copyFrom_61 : decode cX1_copyFrom 61 = .ok (.iconst 0, 1) := by decide +kernel
theorem dX1_copyFrom_62 : decode cX1_copyFrom 62 = .ok (.bipush 12, 2) := by decide +kernel
theorem dX1_copyFrom_64 : decode cX1_copyFrom 64 = .ok (.invokestatic 93, 3) := by decide +kernel
theorem dX1_copyFrom_67 : decode cX1_copyFrom 67 = .ok (.aload_n 1, 1) := by decide +kernel
theorem dX1_copyFrom_68 : decode cX1_copyFrom 68 = .ok (.getfield 22, 3) := by decide +kernel
theorem dX1_copyFrom_71 : decode cX1_copyFrom 71 = .ok (.iconst 0, 1) := by decide +kernel
theorem dX1_copyFrom_72 : decode cX1_copyFrom 72 = .ok (.aload_n 0, 1) := by decide +kernel
theorem dX1_copyFrom_73 : decode cX1_copyFrom 73 = .ok (.getfield 22, 3) := by decide +kernel
theorem dX1_copyFrom_76 : decode cX1_copyFrom 76 = .ok (.iconst 0, 1) := by decide +kernel
theorem dX1_copyFrom_77 : decode cX1_copyFrom 77 = .ok (.bipush 12, 2) := by decide +kernel
theorem dX1_copyFrom_79 : decode cX1_copyFrom 79 = .ok (.invokestatic 93, 3) := by decide +kernel
theorem dX1_copyFrom_82 : decode cX1_copyFrom 82 = .ok (.aload_n 0, 1) := by decide +kernel
theorem dX1_copyFrom_83 : decode cX1_copyFrom 83 = .ok (.aload_n 1, 1) := by decide +kernel
theorem dX1_copyFrom_84 : decode cX1_copyFrom 84 = .ok (.getfield 71, 3) := by decide +kernel
theorem dX1_copyFrom_87 : decode cX1_copyFrom 87 = .ok (.putfield 71, 3) := by decide +kernel
theorem dX1_copyFrom_90 : decode cX1_copyFrom 90 = .ok (.aload_n 0, 1) := by decide +kernel
theorem dX1_copyFrom_91 : decode cX1_copyFrom 91 = .ok (.aload_n 1, 1) := by decide +kernel
theorem dX1_copyFrom_92 : decode cX1_copyFrom 92 = .ok (.getfield 74, 3) := by decide +kernel
theorem dX1_copyFrom_95 : decode cX1_copyFrom 95 = .ok (.putfield 74, 3) := by decide +kernel
theorem dX1_copyFrom_98 : decode cX1_copyFrom 98 = .ok (.aload_n 1, 1) := by decide +kernel
theorem dX1_copyFrom_99 : decode cX1_copyFrom 99 = .ok (.getfield 25, 3) := by decide +kernel
theorem dX1_copyFrom_102 : decode cX1_copyFrom 102 = .ok (.iconst 0, 1) := by decide +kernel
theorem dX1_copyFrom_103 : decode cX1_copyFrom 103 = .ok (.aload_n 0, 1) := by decide +kernel
theorem dX1_copyFrom_104 : decode cX1_copyFrom 104 = .ok (.getfield 25, 3) := by decide +kernel
theorem dX1_copyFrom_107 : decode cX1_copyFrom 107 = .ok (.iconst 0, 1) := by decide +kernel
theorem dX1_copyFrom_108 : decode cX1_copyFrom 108 = .ok (.bipush 8, 2) := by decide +kernel
theorem dX1_copyFrom_110 : decode cX1_copyFrom 110 = .ok (.invokestatic 93, 3) := by decide +kernel
theorem dX1_copyFrom_113 : decode cX1_copyFrom 113 = .ok (.aload_n 1, 1) := by decide +kernel
theorem dX1_copyFrom_114 : decode cX1_copyFrom 114 = .ok (.getfield 28, 3) := by decide +kernel
theorem dX1_copyFrom_117 : decode cX1_copyFrom 117 = .ok (.iconst 0, 1) := by decide +kernel
theorem dX1_copyFrom_118 : decode cX1_copyFrom 118 = .ok (.aload_n 0, 1) := by decide +kernel
theorem dX1_copyFrom_119 : decode cX1_copyFrom 119 = .ok (.getfield 28, 3) := by decide +kernel
theorem dX1_copyFrom_122 : decode cX1_copyFrom 122 = .ok (.iconst 0, 1) := by decide +kernel
theorem dX1_copyFrom_123 : decode cX1_copyFrom 123 = .ok (.bipush 8, 2) := by decide +kernel
theorem dX1_copyFrom_125 : decode cX1_copyFrom 125 = .ok (.invokestatic 93, 3) := by decide +kernel
theorem dX1_copyFrom_128 : decode cX1_copyFrom 128 = .ok (.aload_n 1, 1) := by decide +kernel
theorem dX1_copyFrom_129 : decode cX1_copyFrom 129 = .ok (.getfield 31, 3) := by decide +kernel
theorem dX1_copyFrom_132 : decode cX1_copyFrom 132 = .ok (.iconst 0, 1) := by decide +kernel
theorem dX1_copyFrom_133 : decode cX1_copyFrom 133 = .ok (.aload_n 0, 1) := by decide +kernel
theorem dX1_copyFrom_134 : decode cX1_copyFrom 134 = .ok (.getfield 31, 3) := by decide +kernel
theorem dX1_copyFrom_137 : decode cX1_copyFrom 137 = .ok (.iconst 0, 1) := by decide +kernel
theorem dX1_copyFrom_138 : decode cX1_copyFrom 138 = .ok (.bipush 8, 2) := by decide +kernel
theorem dX1_copyFrom_140 : decode cX1_copyFrom 140 = .ok (.invokestatic 93, 3) := by decide +kernel
theorem dX1_copyFrom_143 : decode cX1_copyFrom 143 = .ok (.aload_n 0, 1) := by decide +kernel
theorem dX1_copyFrom_144 : decode cX1_copyFrom 144 = .ok (.getfield 37, 3) := by decide +kernel
theorem dX1_copyFrom_147 : decode cX1_copyFrom 147 = .ok (.aload_n 1, 1) := by decide +kernel
theorem dX1_copyFrom_148 : decode cX1_copyFrom 148 = .ok (.getfield 37, 3) := by decide +kernel
theorem dX1_copyFrom_151 : decode cX1_copyFrom 151 = .ok (.invokevirtual 99, 3) := by decide +kernel
theorem dX1_copyFrom_154 : decode cX1_copyFrom 154 = .ok (.aload_n 0, 1) := by decide +kernel
theorem dX1_copyFrom_155 : decode cX1_copyFrom 155 = .ok (.aload_n 1, 1) := by decide +kernel
theorem dX1_copyFrom_156 : decode cX1_copyFrom 156 = .ok (.getfield 80, 3) := by decide +kernel
theorem dX1_copyFrom_159 : decode cX1_copyFrom 159 = .ok (.putfield 80, 3) := by decide +kernel
theorem dX1_copyFrom_162 : decode cX1_copyFrom 162 = .ok (.aload_n 1, 1) := by decide +kernel
theorem dX1_copyFrom_163 : decode cX1_copyFrom 163 = .ok (.getfield 41, 3) := by decide +kernel
theorem dX1_copyFrom_166 : decode cX1_copyFrom 166 = .ok (.iconst 0, 1) := by decide +kernel
theorem dX1_copyFrom_167 : decode cX1_copyFrom 167 = .ok (.aload_n 0, 1) := by decide +kernel
theorem dX1_copyFrom_168 : decode cX1_copyFrom 168 = .ok (.getfield 41, 3) := by decide +kernel
theorem dX1_copyFrom_171 : decode cX1_copyFrom 171 = .ok (.iconst 0, 1) := by decide +kernel
theorem dX1_copyFrom_172 : decode cX1_copyFrom 172 = .ok (.iconst 3, 1) := by decide +kernel
theorem dX1_copyFrom_173 : decode cX1_copyFrom 173 = .ok (.invokestatic 93, 3) := by decide +kernel
theorem dX1_copyFrom_176 : decode cX1_copyFrom 176 = .ok (.aload_n 0, 1) := by decide +kernel
theorem dX1_copyFrom_177 : decode cX1_copyFrom 177 = .ok (.getfield 47, 3) := by decide +kernel
theorem dX1_copyFrom_180 : decode cX1_copyFrom 180 = .ok (.aload_n 1, 1) := by decide +kernel
theorem dX1_copyFrom_181 : decode cX1_copyFrom 181 = .ok (.getfield 47, 3) := by decide +kernel
theorem dX1_copyFrom_184 : decode cX1_copyFrom 184 = .ok (.invokevirtual 103, 3) := by decide +kernel
theorem dX1_copyFrom_187 : decode cX1_copyFrom 187 = .ok (.return_, 1) := by decide +kernel
theorem dX11_shore_0 : decode cX11_shore 0 = .ok (.aload_n 0, 1) := by decide +kernel
theorem dX11_shore_1 : decode cX11_shore 1 = .ok (.getfield 46, 3) := by decide +kernel
theorem dX11_shore_4 : decode cX11_shore 4 = .ok (.aload_n 0, 1) := by decide +kernel
theorem dX11_shore_5 : decode cX11_shore 5 = .ok (.getfield 13, 3) := by decide +kernel
theorem dX11_shore_8 : decode cX11_shore 8 = .ok (.invokevirtual 102, 3) := by decide +kernel
theorem dX11_shore_11 : decode cX11_shore 11 = .ok (.aload_n 0, 1) := by decide +kernel
theorem dX11_shore_12 : decode cX11_shore 12 = .ok (.aload_n 0, 1) := by decide +kernel
theorem dX11_shore_13 : decode cX11_shore 13 = .ok (.getfield 46, 3) := by decide +kernel
theorem dX11_shore_16 : decode cX11_shore 16 = .ok (.getfield 105, 3) := by decide +kernel
theorem dX11_shore_19 : decode cX11_shore 19 = .ok (.putfield 17, 3) := by decide +kernel
theorem dX11_shore_22 : decode cX11_shore 22 = .ok (.aload_n 0, 1) := by decide +kernel
theorem dX11_shore_23 : decode cX11_shore 23 = .ok (.aload_n 0, 1) := by decide +kernel
theorem dX11_shore_24 : decode cX11_shore 24 = .ok (.getfield 46, 3) := by decide +kernel
theorem dX11_shore_27 : decode cX11_shore 27 = .ok (.getfield 106, 3) := by decide +kernel
theorem dX11_shore_30 : decode cX11_shore 30 = .ok (.putfield 20, 3) := by decide +kernel
theorem dX11_shore_33 : decode cX11_shore 33 = .ok (.aload_n 0, 1) := by decide +kernel
theorem dX11_shore_34 : decode cX11_shore 34 = .ok (.getfield 17, 3) := by decide +kernel
theorem dX11_shore_37 : decode cX11_shore 37 = .ok (.ifCond .eq 6, 3) := by decide +kernel
theorem dX11_shore_43 : decode cX11_shore 43 = .ok (.aload_n 0, 1) := by decide +kernel
theorem dX11_shore_44 : decode cX11_shore 44 = .ok (.getfield 26, 3) := by decide +kernel
theorem dX11_shore_47 : decode cX11_shore 47 = .ok (.aload_n 0, 1) := by decide +kernel
theorem dX11_shore_48 : decode cX11_shore 48 = .ok (.getfield 30, 3) := by decide +kernel
theorem dX11_shore_51 : decode cX11_shore 51 = .ok (.invokevirtual 107, 3) := by decide +kernel
theorem dX11_shore_54 : decode cX11_shore 54 = .ok (.aload_n 0, 1) := by decide +kernel
theorem dX11_shore_55 : decode cX11_shore 55 = .ok (.iconst 0, 1) := by decide +kernel
theorem dX11_shore_56 : decode cX11_shore 56 = .ok (.putfield 13, 3) := by decide +kernel
theorem dX11_shore_59 : decode cX11_shore 59 = .ok (.aload_n 0, 1) := by decide +kernel
theorem dX11_shore_60 : decode cX11_shore 60 = .ok (.getfield 55, 3) := by decide +kernel
theorem dX11_shore_63 : decode cX11_shore 63 = .ok (.invokevirtual 110, 3) := by decide +kernel
theorem dX11_shore_66 : decode cX11_shore 66 = .ok (.aload_n 0, 1) := by decide +kernel
theorem dX11_shore_67 : decode cX11_shore 67 = .ok (.getfield 26, 3) := by decide +kernel
theorem dX11_shore_70 : decode cX11_shore 70 = .ok (.getfield 113, 3) := by decide +kernel
theorem dX11_shore_73 : decode cX11_shore 73 = .ok (.ireturn, 1) := by decide +kernel
theorem dX11_shore_40 : decode cX11_shore 40 = .ok (.bipush (-4), 2) := by decide +kernel
theorem dX11_shore_42 : decode cX11_shore 42 = .ok (.ireturn, 1) := by decide +kernel
theorem dX11_image_0 : decode cX11_image 0 = .ok (.iload_n 1, 1) := by decide +kernel
theorem dX11_image_1 : decode cX11_image 1 = .ok (.ifCond .lt 8, 3) := by decide +kernel
theorem dX11_image_9 : decode cX11_image 9 = .ok (.bipush (-2), 2) := by decide +kernel
theorem dX11_image_11 : decode cX11_image 11 = .ok (.ireturn, 1) := by decide +kernel
theorem dX11_image_4 : decode cX11_image 4 = .ok (.iload_n 1, 1) := by decide +kernel
theorem dX11_image_5 : decode cX11_image 5 = .ok (.iconst 3, 1) := by decide +kernel
theorem dX11_image_6 : decode cX11_image 6 = .ok (.if_icmp .lt 6, 3) := by decide +kernel
theorem dX11_image_12 : decode cX11_image 12 = .ok (.aload_n 0, 1) := by decide +kernel
theorem dX11_image_13 : decode cX11_image 13 = .ok (.getfield 33, 3) := by decide +kernel
theorem dX11_image_16 : decode cX11_image 16 = .ok (.iload_n 1, 1) := by decide +kernel
theorem dX11_image_17 : decode cX11_image 17 = .ok (.aaload, 1) := by decide +kernel
theorem dX11_image_18 : decode cX11_image 18 = .ok (.aload_n 0, 1) := by decide +kernel
theorem dX11_image_19 : decode cX11_image 19 = .ok (.getfield 26, 3) := by decide +kernel
theorem dX11_image_22 : decode cX11_image 22 = .ok (.invokevirtual 107, 3) := by decide +kernel
theorem dX11_image_25 : decode cX11_image 25 = .ok (.aload_n 0, 1) := by decide +kernel
theorem dX11_image_26 : decode cX11_image 26 = .ok (.getfield 37, 3) := by decide +kernel
theorem dX11_image_29 : decode cX11_image 29 = .ok (.iload_n 1, 1) := by decide +kernel
theorem dX11_image_30 : decode cX11_image 30 = .ok (.iconst 1, 1) := by decide +kernel
theorem dX11_image_31 : decode cX11_image 31 = .ok (.bastore, 1) := by decide +kernel
theorem dX11_image_32 : decode cX11_image 32 = .ok (.iconst 0, 1) := by decide +kernel
theorem dX11_image_33 : decode cX11_image 33 = .ok (.ireturn, 1) := by decide +kernel
theorem dX11_back_0 : decode cX11_back 0 = .ok (.iload_n 1, 1) := by decide +kernel
theorem dX11_back_1 : decode cX11_back 1 = .ok (.ifCond .lt 8, 3) := by decide +kernel
theorem dX11_back_9 : decode cX11_back 9 = .ok (.bipush (-2), 2) := by decide +kernel
theorem dX11_back_11 : decode cX11_back 11 = .ok (.ireturn, 1) := by decide +kernel
theorem dX11_back_4 : decode cX11_back 4 = .ok (.iload_n 1, 1) := by decide +kernel
theorem dX11_back_5 : decode cX11_back 5 = .ok (.iconst 3, 1) := by decide +kernel
theorem dX11_back_6 : decode cX11_back 6 = .ok (.if_icmp .lt 6, 3) := by decide +kernel
theorem dX11_back_12 : decode cX11_back 12 = .ok (.aload_n 0, 1) := by decide +kernel
theorem dX11_back_13 : decode cX11_back 13 = .ok (.getfield 37, 3) := by decide +kernel
theorem dX11_back_16 : decode cX11_back 16 = .ok (.iload_n 1, 1) := by decide +kernel
theorem dX11_back_17 : decode cX11_back 17 = .ok (.baload, 1) := by decide +kernel
theorem dX11_back_18 : decode cX11_back 18 = .ok (.ifCond .ne 6, 3) := by decide +kernel
theorem dX11_back_24 : decode cX11_back 24 = .ok (.aload_n 0, 1) := by decide +kernel
theorem dX11_back_25 : decode cX11_back 25 = .ok (.getfield 26, 3) := by decide +kernel
theorem dX11_back_28 : decode cX11_back 28 = .ok (.aload_n 0, 1) := by decide +kernel
theorem dX11_back_29 : decode cX11_back 29 = .ok (.getfield 33, 3) := by decide +kernel
theorem dX11_back_32 : decode cX11_back 32 = .ok (.iload_n 1, 1) := by decide +kernel
theorem dX11_back_33 : decode cX11_back 33 = .ok (.aaload, 1) := by decide +kernel
theorem dX11_back_34 : decode cX11_back 34 = .ok (.invokevirtual 107, 3) := by decide +kernel
theorem dX11_back_37 : decode cX11_back 37 = .ok (.aload_n 0, 1) := by decide +kernel
theorem dX11_back_38 : decode cX11_back 38 = .ok (.getfield 55, 3) := by decide +kernel
theorem dX11_back_41 : decode cX11_back 41 = .ok (.invokevirtual 110, 3) := by decide +kernel
theorem dX11_back_44 : decode cX11_back 44 = .ok (.iconst 0, 1) := by decide +kernel
theorem dX11_back_45 : decode cX11_back 45 = .ok (.ireturn, 1) := by decide +kernel
theorem dX11_back_21 : decode cX11_back 21 = .ok (.bipush (-6), 2) := by decide +kernel
theorem dX11_back_23 : decode cX11_back 23 = .ok (.ireturn, 1) := by decide +kernel
theorem dX7_payFor_0 : decode cX7_payFor 0 = .ok (.iload_n 2, 1) := by decide +kernel
theorem dX7_payFor_1 : decode cX7_payFor 1 = .ok (.iconst 1, 1) := by decide +kernel
theorem dX7_payFor_2 : decode cX7_payFor 2 = .ok (.if_icmp .ge 5, 3) := by decide +kernel
theorem dX7_payFor_7 : decode cX7_payFor 7 = .ok (.iconst 0, 1) := by decide +kernel
theorem dX7_payFor_8 : decode cX7_payFor 8 = .ok (.istore_n 3, 1) := by decide +kernel
theorem dX7_payFor_9 : decode cX7_payFor 9 = .ok (.iconst 0, 1) := by decide +kernel
theorem dX7_payFor_10 : decode cX7_payFor 10 = .ok (.istore 4, 2) := by decide +kernel
theorem dX7_payFor_12 : decode cX7_payFor 12 = .ok (.iload 4, 2) := by decide +kernel
theorem dX7_payFor_14 : decode cX7_payFor 14 = .ok (.aload_n 0, 1) := by decide +kernel
theorem dX7_payFor_15 : decode cX7_payFor 15 = .ok (.getfield 21, 3) := by decide +kernel
theorem dX7_payFor_18 : decode cX7_payFor 18 = .ok (.getfield 29, 3) := by decide +kernel
theorem dX7_payFor_21 : decode cX7_payFor 21 = .ok (.if_icmp .ge 34, 3) := by decide +kernel
theorem dX7_payFor_55 : decode cX7_payFor 55 = .ok (.iload_n 3, 1) := by decide +kernel
theorem dX7_payFor_56 : decode cX7_payFor 56 = .ok (.ireturn, 1) := by decide +kernel
theorem dX7_payFor_24 : decode cX7_payFor 24 = .ok (.iload_n 1, 1) := by decide +kernel
theorem dX7_payFor_25 : decode cX7_payFor 25 = .ok (.iload 4, 2) := by decide +kernel
theorem dX7_payFor_27 : decode cX7_payFor 27 = .ok (.ishr, 1) := by decide +kernel
theorem dX7_payFor_28 : decode cX7_payFor 28 = .ok (.iconst 1, 1) := by decide +kernel
theorem dX7_payFor_29 : decode cX7_payFor 29 = .ok (.iand, 1) := by decide +kernel
theorem dX7_payFor_30 : decode cX7_payFor 30 = .ok (.iconst 1, 1) := by decide +kernel
theorem dX7_payFor_31 : decode cX7_payFor 31 = .ok (.if_icmp .ne 18, 3) := by decide +kernel
theorem dX7_payFor_49 : decode cX7_payFor 49 = .ok (.iinc 4 1, 3) := by decide +kernel
theorem dX7_payFor_52 : decode cX7_payFor 52 = .ok (.goto (-40), 3) := by decide +kernel
theorem dX7_payFor_34 : decode cX7_payFor 34 = .ok (.iload_n 3, 1) := by decide +kernel
theorem dX7_payFor_35 : decode cX7_payFor 35 = .ok (.aload_n 0, 1) := by decide +kernel
theorem dX7_payFor_36 : decode cX7_payFor 36 = .ok (.getfield 21, 3) := by decide +kernel
theorem dX7_payFor_39 : decode cX7_payFor 39 = .ok (.getfield 35, 3) := by decide +kernel
theorem dX7_payFor_42 : decode cX7_payFor 42 = .ok (.iload 4, 2) := by decide +kernel
theorem dX7_payFor_44 : decode cX7_payFor 44 = .ok (.iaload, 1) := by decide +kernel
theorem dX7_payFor_45 : decode cX7_payFor 45 = .ok (.iload_n 2, 1) := by decide +kernel
theorem dX7_payFor_46 : decode cX7_payFor 46 = .ok (.idiv, 1) := by decide +kernel
theorem dX7_payFor_47 : decode cX7_payFor 47 = .ok (.iadd, 1) := by decide +kernel
theorem dX7_payFor_48 : decode cX7_payFor 48 = .ok (.istore_n 3, 1) := by decide +kernel
theorem dX7_payFor_5 : decode cX7_payFor 5 = .ok (.iconst 0, 1) := by decide +kernel
theorem dX7_payFor_6 : decode cX7_payFor 6 = .ok (.ireturn, 1) := by decide +kernel
theorem dX7_worthOn_0 : decode cX7_worthOn 0 = .ok (.iconst 1, 1) := by decide +kernel
theorem dX7_worthOn_1 : decode cX7_worthOn 1 = .ok (.istore_n 3, 1) := by decide +kernel
theorem dX7_worthOn_2 : decode cX7_worthOn 2 = .ok (.iconst 0, 1) := by decide +kernel
theorem dX7_worthOn_3 : decode cX7_worthOn 3 = .ok (.istore 4, 2) := by decide +kernel
theorem dX7_worthOn_5 : decode cX7_worthOn 5 = .ok (.iload 4, 2) := by decide +kernel
theorem dX7_worthOn_7 : decode cX7_worthOn 7 = .ok (.aload_n 0, 1) := by decide +kernel
theorem dX7_worthOn_8 : decode cX7_worthOn 8 = .ok (.getfield 21, 3) := by decide +kernel
theorem dX7_worthOn_11 : decode cX7_worthOn 11 = .ok (.getfield 38, 3) := by decide +kernel
theorem dX7_worthOn_14 : decode cX7_worthOn 14 = .ok (.if_icmp .ge 32, 3) := by decide +kernel
theorem dX7_worthOn_46 : decode cX7_worthOn 46 = .ok (.aload_n 0, 1) := by decide +kernel
theorem dX7_worthOn_47 : decode cX7_worthOn 47 = .ok (.aload_n 0, 1) := by decide +kernel
theorem dX7_worthOn_48 : decode cX7_worthOn 48 = .ok (.getfield 25, 3) := by decide +kernel
theorem dX7_worthOn_51 : decode cX7_worthOn 51 = .ok (.iload_n 2, 1) := by decide +kernel
theorem dX7_worthOn_52 : decode cX7_worthOn 52 = .ok (.invokevirtual 44, 3) := by decide +kernel
theorem dX7_worthOn_55 : decode cX7_worthOn 55 = .ok (.aload_n 0, 1) := by decide +kernel
theorem dX7_worthOn_56 : decode cX7_worthOn 56 = .ok (.getfield 25, 3) := by decide +kernel
theorem dX7_worthOn_59 : decode cX7_worthOn 59 = .ok (.invokevirtual 50, 3) := by decide +kernel
theorem dX7_worthOn_62 : decode cX7_worthOn 62 = .ok (.iand, 1) := by decide +kernel
theorem dX7_worthOn_63 : decode cX7_worthOn 63 = .ok (.iload_n 3, 1) := by decide +kernel
theorem dX7_worthOn_64 : decode cX7_worthOn 64 = .ok (.invokevirtual 54, 3) := by decide +kernel
theorem dX7_worthOn_67 : decode cX7_worthOn 67 = .ok (.ireturn, 1) := by decide +kernel
theorem dX7_worthOn_17 : decode cX7_worthOn 17 = .ok (.iload 4, 2) := by decide +kernel
theorem dX7_worthOn_19 : decode cX7_worthOn 19 = .ok (.iload_n 1, 1) := by decide +kernel
theorem dX7_worthOn_20 : decode cX7_worthOn 20 = .ok (.if_icmp .eq 20, 3) := by decide +kernel
theorem dX7_worthOn_40 : decode cX7_worthOn 40 = .ok (.iinc 4 1, 3) := by decide +kernel
theorem dX7_worthOn_43 : decode cX7_worthOn 43 = .ok (.goto (-38), 3) := by decide +kernel
theorem dX7_worthOn_23 : decode cX7_worthOn 23 = .ok (.aload_n 0, 1) := by decide +kernel
theorem dX7_worthOn_24 : decode cX7_worthOn 24 = .ok (.getfield 21, 3) := by decide +kernel
theorem dX7_worthOn_27 : decode cX7_worthOn 27 = .ok (.getfield 41, 3) := by decide +kernel
theorem dX7_worthOn_30 : decode cX7_worthOn 30 = .ok (.iload 4, 2) := by decide +kernel
theorem dX7_worthOn_32 : decode cX7_worthOn 32 = .ok (.iaload, 1) := by decide +kernel
theorem dX7_worthOn_33 : decode cX7_worthOn 33 = .ok (.iload_n 2, 1) := by decide +kernel
theorem dX7_worthOn_34 : decode cX7_worthOn 34 = .ok (.if_icmp .ne 6, 3) := by decide +kernel
theorem dX7_worthOn_37 : decode cX7_worthOn 37 = .ok (.iinc 3 1, 3) := by decide +kernel
theorem dX7_bestCell_0 : decode cX7_bestCell 0 = .ok (.iconst 0, 1) := by decide +kernel
theorem dX7_bestCell_1 : decode cX7_bestCell 1 = .ok (.istore_n 2, 1) := by decide +kernel
theorem dX7_bestCell_2 : decode cX7_bestCell 2 = .ok (.aload_n 0, 1) := by decide +kernel
theorem dX7_bestCell_3 : decode cX7_bestCell 3 = .ok (.iload_n 1, 1) := by decide +kernel
theorem dX7_bestCell_4 : decode cX7_bestCell 4 = .ok (.iconst 0, 1) := by decide +kernel
theorem dX7_bestCell_5 : decode cX7_bestCell 5 = .ok (.invokevirtual 58, 3) := by decide +kernel
theorem dX7_bestCell_8 : decode cX7_bestCell 8 = .ok (.istore_n 3, 1) := by decide +kernel
theorem dX7_bestCell_9 : decode cX7_bestCell 9 = .ok (.iconst 1, 1) := by decide +kernel
theorem dX7_bestCell_10 : decode cX7_bestCell 10 = .ok (.istore 4, 2) := by decide +kernel
theorem dX7_bestCell_12 : decode cX7_bestCell 12 = .ok (.iload 4, 2) := by decide +kernel
theorem dX7_bestCell_14 : decode cX7_bestCell 14 = .ok (.aload_n 0, 1) := by decide +kernel
theorem dX7_bestCell_15 : decode cX7_bestCell 15 = .ok (.getfield 21, 3) := by decide +kernel
theorem dX7_bestCell_18 : decode cX7_bestCell 18 = .ok (.getfield 61, 3) := by decide +kernel
theorem dX7_bestCell_21 : decode cX7_bestCell 21 = .ok (.if_icmp .ge 30, 3) := by decide +kernel
theorem dX7_bestCell_51 : decode cX7_bestCell 51 = .ok (.iload_n 2, 1) := by decide +kernel
theorem dX7_bestCell_52 : decode cX7_bestCell 52 = .ok (.ireturn, 1) := by decide +kernel
theorem dX7_bestCell_24 : decode cX7_bestCell 24 = .ok (.aload_n 0, 1) := by decide +kernel
theorem dX7_bestCell_25 : decode cX7_bestCell 25 = .ok (.iload_n 1, 1) := by decide +kernel
theorem dX7_bestCell_26 : decode cX7_bestCell 26 = .ok (.iload 4, 2) := by decide +kernel
theorem dX7_bestCell_28 : decode cX7_bestCell 28 = .ok (.invokevirtual 58, 3) := by decide +kernel
theorem dX7_bestCell_31 : decode cX7_bestCell 31 = .ok (.istore 5, 2) := by decide +kernel
theorem dX7_bestCell_33 : decode cX7_bestCell 33 = .ok (.iload 5, 2) := by decide +kernel
theorem dX7_bestCell_35 : decode cX7_bestCell 35 = .ok (.iload_n 3, 1) := by decide +kernel
theorem dX7_bestCell_36 : decode cX7_bestCell 36 = .ok (.if_icmp .le 9, 3) := by decide +kernel
theorem dX7_bestCell_45 : decode cX7_bestCell 45 = .ok (.iinc 4 1, 3) := by decide +kernel
theorem dX7_bestCell_48 : decode cX7_bestCell 48 = .ok (.goto (-36), 3) := by decide +kernel
theorem dX7_bestCell_39 : decode cX7_bestCell 39 = .ok (.iload 5, 2) := by decide +kernel
theorem dX7_bestCell_41 : decode cX7_bestCell 41 = .ok (.istore_n 3, 1) := by decide +kernel
theorem dX7_bestCell_42 : decode cX7_bestCell 42 = .ok (.iload 4, 2) := by decide +kernel
theorem dX7_bestCell_44 : decode cX7_bestCell 44 = .ok (.istore_n 2, 1) := by decide +kernel
theorem dX7_layPays_0 : decode cX7_layPays 0 = .ok (.aload_n 0, 1) := by decide +kernel
theorem dX7_layPays_1 : decode cX7_layPays 1 = .ok (.getfield 25, 3) := by decide +kernel
theorem dX7_layPays_4 : decode cX7_layPays 4 = .ok (.invokevirtual 50, 3) := by decide +kernel
theorem dX7_layPays_7 : decode cX7_layPays 7 = .ok (.istore_n 1, 1) := by decide +kernel
theorem dX7_layPays_8 : decode cX7_layPays 8 = .ok (.iconst 0, 1) := by decide +kernel
theorem dX7_layPays_9 : decode cX7_layPays 9 = .ok (.istore_n 2, 1) := by decide +kernel
theorem dX7_layPays_10 : decode cX7_layPays 10 = .ok (.iload_n 2, 1) := by decide +kernel
theorem dX7_layPays_11 : decode cX7_layPays 11 = .ok (.aload_n 0, 1) := by decide +kernel
theorem dX7_layPays_12 : decode cX7_layPays 12 = .ok (.getfield 21, 3) := by decide +kernel
theorem dX7_layPays_15 : decode cX7_layPays 15 = .ok (.getfield 61, 3) := by decide +kernel
theorem dX7_layPays_18 : decode cX7_layPays 18 = .ok (.if_icmp .ge 54, 3) := by decide +kernel
theorem dX7_layPays_72 : decode cX7_layPays 72 = .ok (.return_, 1) := by decide +kernel
theorem dX7_layPays_21 : decode cX7_layPays 21 = .ok (.aload_n 0, 1) := by decide +kernel
theorem dX7_layPays_22 : decode cX7_layPays 22 = .ok (.getfield 25, 3) := by decide +kernel
theorem dX7_layPays_25 : decode cX7_layPays 25 = .ok (.iload_n 2, 1) := by decide +kernel
theorem dX7_layPays_26 : decode cX7_layPays 26 = .ok (.invokevirtual 44, 3) := by decide +kernel
theorem dX7_layPays_29 : decode cX7_layPays 29 = .ok (.iload_n 1, 1) := by decide +kernel
theorem dX7_layPays_30 : decode cX7_layPays 30 = .ok (.iand, 1) := by decide +kernel
theorem dX7_layPays_31 : decode cX7_layPays 31 = .ok (.istore_n 3, 1) := by decide +kernel
theorem dX7_layPays_32 : decode cX7_layPays 32 = .ok (.iconst 1, 1) := by decide +kernel
theorem dX7_layPays_33 : decode cX7_layPays 33 = .ok (.istore 4, 2) := by decide +kernel
theorem dX7_layPays_35 : decode cX7_layPays 35 = .ok (.iload 4, 2) := by decide +kernel
theorem dX7_layPays_37 : decode cX7_layPays 37 = .ok (.iconst 3, 1) := by decide +kernel
theorem dX7_layPays_38 : decode cX7_layPays 38 = .ok (.if_icmp .gt 28, 3) := by decide +kernel
theorem dX7_layPays_41 : decode cX7_layPays 41 = .ok (.aload_n 0, 1) := by decide +kernel
theorem dX7_layPays_42 : decode cX7_layPays 42 = .ok (.getfield 9, 3) := by decide +kernel
theorem dX7_layPays_45 : decode cX7_layPays 45 = .ok (.iload 4, 2) := by decide +kernel
theorem dX7_layPays_47 : decode cX7_layPays 47 = .ok (.bipush 12, 2) := by decide +kernel
theorem dX7_layPays_49 : decode cX7_layPays 49 = .ok (.imul, 1) := by decide +kernel
theorem dX7_layPays_50 : decode cX7_layPays 50 = .ok (.iload_n 2, 1) := by decide +kernel
theorem dX7_layPays_51 : decode cX7_layPays 51 = .ok (.iadd, 1) := by decide +kernel
theorem dX7_layPays_52 : decode cX7_layPays 52 = .ok (.aload_n 0, 1) := by decide +kernel
theorem dX7_layPays_53 : decode cX7_layPays 53 = .ok (.iload_n 3, 1) := by decide +kernel
theorem dX7_layPays_54 : decode cX7_layPays 54 = .ok (.iload 4, 2) := by decide +kernel
theorem dX7_layPays_56 : decode cX7_layPays 56 = .ok (.invokevirtual 54, 3) := by decide +kernel
theorem dX7_layPays_59 : decode cX7_layPays 59 = .ok (.iastore, 1) := by decide +kernel
theorem dX7_layPays_60 : decode cX7_layPays 60 = .ok (.iinc 4 1, 3) := by decide +kernel
theorem dX7_layPays_63 : decode cX7_layPays 63 = .ok (.goto (-28), 3) := by decide +kernel
theorem dX7_layPays_66 : decode cX7_layPays 66 = .ok (.iinc 2 1, 3) := by decide +kernel
theorem dX7_layPays_69 : decode cX7_layPays 69 = .ok (.goto (-59), 3) := by decide +kernel
theorem dX7_countWays_0 : decode cX7_countWays 0 = .ok (.iconst 1, 1) := by decide +kernel
theorem dX7_countWays_1 : decode cX7_countWays 1 = .ok (.istore_n 1, 1) := by decide +kernel
theorem dX7_countWays_2 : decode cX7_countWays 2 = .ok (.iconst 0, 1) := by decide +kernel
theorem dX7_countWays_3 : decode cX7_countWays 3 = .ok (.istore_n 2, 1) := by decide +kernel
theorem dX7_countWays_4 : decode cX7_countWays 4 = .ok (.iload_n 2, 1) := by decide +kernel
theorem dX7_countWays_5 : decode cX7_countWays 5 = .ok (.aload_n 0, 1) := by decide +kernel
theorem dX7_countWays_6 : decode cX7_countWays 6 = .ok (.getfield 21, 3) := by decide +kernel
theorem dX7_countWays_9 : decode cX7_countWays 9 = .ok (.getfield 38, 3) := by decide +kernel
theorem dX7_countWays_12 : decode cX7_countWays 12 = .ok (.if_icmp .ge 19, 3) := by decide +kernel
theorem dX7_countWays_31 : decode cX7_countWays 31 = .ok (.iload_n 1, 1) := by decide +kernel
theorem dX7_countWays_32 : decode cX7_countWays 32 = .ok (.ireturn, 1) := by decide +kernel
theorem dX7_countWays_15 : decode cX7_countWays 15 = .ok (.iload_n 1, 1) := by decide +kernel
theorem dX7_countWays_16 : decode cX7_countWays 16 = .ok (.aload_n 0, 1) := by decide +kernel
theorem dX7_countWays_17 : decode cX7_countWays 17 = .ok (.getfield 21, 3) := by decide +kernel
theorem dX7_countWays_20 : decode cX7_countWays 20 = .ok (.getfield 61, 3) := by decide +kernel
theorem dX7_countWays_23 : decode cX7_countWays 23 = .ok (.imul, 1) := by decide +kernel
theorem dX7_countWays_24 : decode cX7_countWays 24 = .ok (.istore_n 1, 1) := by decide +kernel
theorem dX7_countWays_25 : decode cX7_countWays 25 = .ok (.iinc 2 1, 3) := by decide +kernel
theorem dX7_countWays_28 : decode cX7_countWays 28 = .ok (.goto (-24), 3) := by decide +kernel
theorem dX7_tryWay_0 : decode cX7_tryWay 0 = .ok (.aload_n 0, 1) := by decide +kernel
theorem dX7_tryWay_1 : decode cX7_tryWay 1 = .ok (.getfield 15, 3) := by decide +kernel
theorem dX7_tryWay_4 : decode cX7_tryWay 4 = .ok (.iconst 0, 1) := by decide +kernel
theorem dX7_tryWay_5 : decode cX7_tryWay 5 = .ok (.invokestatic 78, 3) := by decide +kernel
theorem dX7_tryWay_8 : decode cX7_tryWay 8 = .ok (.iload_n 1, 1) := by decide +kernel
theorem dX7_tryWay_9 : decode cX7_tryWay 9 = .ok (.istore_n 2, 1) := by decide +kernel
theorem dX7_tryWay_10 : decode cX7_tryWay 10 = .ok (.aload_n 0, 1) := by decide +kernel
theorem dX7_tryWay_11 : decode cX7_tryWay 11 = .ok (.getfield 21, 3) := by decide +kernel
theorem dX7_tryWay_14 : decode cX7_tryWay 14 = .ok (.getfield 38, 3) := by decide +kernel
theorem dX7_tryWay_17 : decode cX7_tryWay 17 = .ok (.iconst 1, 1) := by decide +kernel
theorem dX7_tryWay_18 : decode cX7_tryWay 18 = .ok (.isub, 1) := by decide +kernel
theorem dX7_tryWay_19 : decode cX7_tryWay 19 = .ok (.istore_n 3, 1) := by decide +kernel
theorem dX7_tryWay_20 : decode cX7_tryWay 20 = .ok (.iload_n 3, 1) := by decide +kernel
theorem dX7_tryWay_21 : decode cX7_tryWay 21 = .ok (.ifCond .lt 93, 3) := by decide +kernel
theorem dX7_tryWay_114 : decode cX7_tryWay 114 = .ok (.iconst 1, 1) := by decide +kernel
theorem dX7_tryWay_115 : decode cX7_tryWay 115 = .ok (.ireturn, 1) := by decide +kernel
theorem dX7_tryWay_24 : decode cX7_tryWay 24 = .ok (.aload_n 0, 1) := by decide +kernel
theorem dX7_tryWay_25 : decode cX7_tryWay 25 = .ok (.getfield 21, 3) := by decide +kernel
theorem dX7_tryWay_28 : decode cX7_tryWay 28 = .ok (.getfield 61, 3) := by decide +kernel
theorem dX7_tryWay_31 : decode cX7_tryWay 31 = .ok (.iconst 1, 1) := by decide +kernel
theorem dX7_tryWay_32 : decode cX7_tryWay 32 = .ok (.if_icmp .ge 7, 3) := by decide +kernel
theorem dX7_tryWay_39 : decode cX7_tryWay 39 = .ok (.iload_n 2, 1) := by decide +kernel
theorem dX7_tryWay_40 : decode cX7_tryWay 40 = .ok (.aload_n 0, 1) := by decide +kernel
theorem dX7_tryWay_41 : decode cX7_tryWay 41 = .ok (.getfield 21, 3) := by decide +kernel
theorem dX7_tryWay_44 : decode cX7_tryWay 44 = .ok (.getfield 61, 3) := by decide +kernel
theorem dX7_tryWay_47 : decode cX7_tryWay 47 = .ok (.irem, 1) := by decide +kernel
theorem dX7_tryWay_48 : decode cX7_tryWay 48 = .ok (.istore 4, 2) := by decide +kernel
theorem dX7_tryWay_50 : decode cX7_tryWay 50 = .ok (.aload_n 0, 1) := by decide +kernel
theorem dX7_tryWay_51 : decode cX7_tryWay 51 = .ok (.getfield 21, 3) := by decide +kernel
theorem dX7_tryWay_54 : decode cX7_tryWay 54 = .ok (.getfield 61, 3) := by decide +kernel
theorem dX7_tryWay_57 : decode cX7_tryWay 57 = .ok (.iconst 1, 1) := by decide +kernel
theorem dX7_tryWay_58 : decode cX7_tryWay 58 = .ok (.if_icmp .ge 7, 3) := by decide +kernel
theorem dX7_tryWay_65 : decode cX7_tryWay 65 = .ok (.iload_n 2, 1) := by decide +kernel
theorem dX7_tryWay_66 : decode cX7_tryWay 66 = .ok (.aload_n 0, 1) := by decide +kernel
theorem dX7_tryWay_67 : decode cX7_tryWay 67 = .ok (.getfield 21, 3) := by decide +kernel
theorem dX7_tryWay_70 : decode cX7_tryWay 70 = .ok (.getfield 61, 3) := by decide +kernel
theorem dX7_tryWay_73 : decode cX7_tryWay 73 = .ok (.idiv, 1) := by decide +kernel
theorem dX7_tryWay_74 : decode cX7_tryWay 74 = .ok (.istore_n 2, 1) := by decide +kernel
theorem dX7_tryWay_75 : decode cX7_tryWay 75 = .ok (.aload_n 0, 1) := by decide +kernel
theorem dX7_tryWay_76 : decode cX7_tryWay 76 = .ok (.getfield 21, 3) := by decide +kernel
theorem dX7_tryWay_79 : decode cX7_tryWay 79 = .ok (.iload 4, 2) := by decide +kernel
theorem dX7_tryWay_81 : decode cX7_tryWay 81 = .ok (.invokevirtual 84, 3) := by decide +kernel
theorem dX7_tryWay_84 : decode cX7_tryWay 84 = .ok (.ifCond .ne 5, 3) := by decide +kernel
theorem dX7_tryWay_89 : decode cX7_tryWay 89 = .ok (.aload_n 0, 1) := by decide +kernel
theorem dX7_tryWay_90 : decode cX7_tryWay 90 = .ok (.getfield 18, 3) := by decide +kernel
theorem dX7_tryWay_93 : decode cX7_tryWay 93 = .ok (.iload_n 3, 1) := by decide +kernel
theorem dX7_tryWay_94 : decode cX7_tryWay 94 = .ok (.iload 4, 2) := by decide +kernel
theorem dX7_tryWay_96 : decode cX7_tryWay 96 = .ok (.iastore, 1) := by decide +kernel
theorem dX7_tryWay_97 : decode cX7_tryWay 97 = .ok (.aload_n 0, 1) := by decide +kernel
theorem dX7_tryWay_98 : decode cX7_tryWay 98 = .ok (.getfield 15, 3) := by decide +kernel
theorem dX7_tryWay_101 : decode cX7_tryWay 101 = .ok (.iload 4, 2) := by decide +kernel
theorem dX7_tryWay_103 : decode cX7_tryWay 103 = .ok (.dup2, 1) := by decide +kernel
theorem dX7_tryWay_104 : decode cX7_tryWay 104 = .ok (.iaload, 1) := by decide +kernel
theorem dX7_tryWay_105 : decode cX7_tryWay 105 = .ok (.iconst 1, 1) := by decide +kernel
theorem dX7_tryWay_106 : decode cX7_tryWay 106 = .ok (.iadd, 1) := by decide +kernel
theorem dX7_tryWay_107 : decode cX7_tryWay 107 = .ok (.iastore, 1) := by decide +kernel
theorem dX7_tryWay_108 : decode cX7_tryWay 108 = .ok (.iinc 3 (-1), 3) := by decide +kernel
theorem dX7_tryWay_111 : decode cX7_tryWay 111 = .ok (.goto (-91), 3) := by decide +kernel
theorem dX7_tryWay_87 : decode cX7_tryWay 87 = .ok (.iconst 0, 1) := by decide +kernel
theorem dX7_tryWay_88 : decode cX7_tryWay 88 = .ok (.ireturn, 1) := by decide +kernel
theorem dX7_tryWay_35 : decode cX7_tryWay 35 = .ok (.iconst 0, 1) := by decide +kernel
theorem dX7_tryWay_36 : decode cX7_tryWay 36 = .ok (.goto 12, 3) := by decide +kernel
theorem dX7_tryWay_61 : decode cX7_tryWay 61 = .ok (.iconst 0, 1) := by decide +kernel
theorem dX7_tryWay_62 : decode cX7_tryWay 62 = .ok (.goto 12, 3) := by decide +kernel
theorem dX7_wouldMove_0 : decode cX7_wouldMove 0 = .ok (.aload_n 0, 1) := by decide +kernel
theorem dX7_wouldMove_1 : decode cX7_wouldMove 1 = .ok (.getfield 9, 3) := by decide +kernel
theorem dX7_wouldMove_4 : decode cX7_wouldMove 4 = .ok (.aload_n 0, 1) := by decide +kernel
theorem dX7_wouldMove_5 : decode cX7_wouldMove 5 = .ok (.getfield 15, 3) := by decide +kernel
theorem dX7_wouldMove_8 : decode cX7_wouldMove 8 = .ok (.iload_n 1, 1) := by decide +kernel
theorem dX7_wouldMove_9 : decode cX7_wouldMove 9 = .ok (.iaload, 1) := by decide +kernel
theorem dX7_wouldMove_10 : decode cX7_wouldMove 10 = .ok (.bipush 12, 2) := by decide +kernel
theorem dX7_wouldMove_12 : decode cX7_wouldMove 12 = .ok (.imul, 1) := by decide +kernel
theorem dX7_wouldMove_13 : decode cX7_wouldMove 13 = .ok (.iload_n 1, 1) := by decide +kernel
theorem dX7_wouldMove_14 : decode cX7_wouldMove 14 = .ok (.iadd, 1) := by decide +kernel
theorem dX7_wouldMove_15 : decode cX7_wouldMove 15 = .ok (.iaload, 1) := by decide +kernel
theorem dX7_wouldMove_16 : decode cX7_wouldMove 16 = .ok (.istore_n 2, 1) := by decide +kernel
theorem dX7_wouldMove_17 : decode cX7_wouldMove 17 = .ok (.iconst 0, 1) := by decide +kernel
theorem dX7_wouldMove_18 : decode cX7_wouldMove 18 = .ok (.istore_n 3, 1) := by decide +kernel
theorem dX7_wouldMove_19 : decode cX7_wouldMove 19 = .ok (.iload_n 3, 1) := by decide +kernel
theorem dX7_wouldMove_20 : decode cX7_wouldMove 20 = .ok (.aload_n 0, 1) := by decide +kernel
theorem dX7_wouldMove_21 : decode cX7_wouldMove 21 = .ok (.getfield 21, 3) := by decide +kernel
theorem dX7_wouldMove_24 : decode cX7_wouldMove 24 = .ok (.getfield 61, 3) := by decide +kernel
theorem dX7_wouldMove_27 : decode cX7_wouldMove 27 = .ok (.if_icmp .ge 49, 3) := by decide +kernel
theorem dX7_wouldMove_76 : decode cX7_wouldMove 76 = .ok (.iconst 0, 1) := by decide +kernel
theorem dX7_wouldMove_77 : decode cX7_wouldMove 77 = .ok (.ireturn, 1) := by decide +kernel
theorem dX7_wouldMove_30 : decode cX7_wouldMove 30 = .ok (.iload_n 3, 1) := by decide +kernel
theorem dX7_wouldMove_31 : decode cX7_wouldMove 31 = .ok (.iload_n 1, 1) := by decide +kernel
theorem dX7_wouldMove_32 : decode cX7_wouldMove 32 = .ok (.if_icmp .eq 38, 3) := by decide +kernel
theorem dX7_wouldMove_70 : decode cX7_wouldMove 70 = .ok (.iinc 3 1, 3) := by decide +kernel
theorem dX7_wouldMove_73 : decode cX7_wouldMove 73 = .ok (.goto (-54), 3) := by decide +kernel
theorem dX7_wouldMove_35 : decode cX7_wouldMove 35 = .ok (.aload_n 0, 1) := by decide +kernel
theorem dX7_wouldMove_36 : decode cX7_wouldMove 36 = .ok (.getfield 21, 3) := by decide +kernel
theorem dX7_wouldMove_39 : decode cX7_wouldMove 39 = .ok (.iload_n 3, 1) := by decide +kernel
theorem dX7_wouldMove_40 : decode cX7_wouldMove 40 = .ok (.invokevirtual 84, 3) := by decide +kernel
theorem dX7_wouldMove_43 : decode cX7_wouldMove 43 = .ok (.ifCond .eq 27, 3) := by decide +kernel
theorem dX7_wouldMove_46 : decode cX7_wouldMove 46 = .ok (.aload_n 0, 1) := by decide +kernel
theorem dX7_wouldMove_47 : decode cX7_wouldMove 47 = .ok (.getfield 9, 3) := by decide +kernel
theorem dX7_wouldMove_50 : decode cX7_wouldMove 50 = .ok (.aload_n 0, 1) := by decide +kernel
theorem dX7_wouldMove_51 : decode cX7_wouldMove 51 = .ok (.getfield 15, 3) := by decide +kernel
theorem dX7_wouldMove_54 : decode cX7_wouldMove 54 = .ok (.iload_n 3, 1) := by decide +kernel
theorem dX7_wouldMove_55 : decode cX7_wouldMove 55 = .ok (.iaload, 1) := by decide +kernel
theorem dX7_wouldMove_56 : decode cX7_wouldMove 56 = .ok (.iconst 1, 1) := by decide +kernel
theorem dX7_wouldMove_57 : decode cX7_wouldMove 57 = .ok (.iadd, 1) := by decide +kernel
theorem dX7_wouldMove_58 : decode cX7_wouldMove 58 = .ok (.bipush 12, 2) := by decide +kernel
theorem dX7_wouldMove_60 : decode cX7_wouldMove 60 = .ok (.imul, 1) := by decide +kernel
theorem dX7_wouldMove_61 : decode cX7_wouldMove 61 = .ok (.iload_n 3, 1) := by decide +kernel
theorem dX7_wouldMove_62 : decode cX7_wouldMove 62 = .ok (.iadd, 1) := by decide +kernel
theorem dX7_wouldMove_63 : decode cX7_wouldMove 63 = .ok (.iaload, 1) := by decide +kernel
theorem dX7_wouldMove_64 : decode cX7_wouldMove 64 = .ok (.iload_n 2, 1) := by decide +kernel
theorem dX7_wouldMove_65 : decode cX7_wouldMove 65 = .ok (.if_icmp .le 5, 3) := by decide +kernel
theorem dX7_wouldMove_68 : decode cX7_wouldMove 68 = .ok (.iconst 1, 1) := by decide +kernel
theorem dX7_wouldMove_69 : decode cX7_wouldMove 69 = .ok (.ireturn, 1) := by decide +kernel
theorem dX7_isRest_0 : decode cX7_isRest 0 = .ok (.iconst 0, 1) := by decide +kernel
theorem dX7_isRest_1 : decode cX7_isRest 1 = .ok (.istore_n 1, 1) := by decide +kernel
theorem dX7_isRest_2 : decode cX7_isRest 2 = .ok (.iload_n 1, 1) := by decide +kernel
theorem dX7_isRest_3 : decode cX7_isRest 3 = .ok (.aload_n 0, 1) := by decide +kernel
theorem dX7_isRest_4 : decode cX7_isRest 4 = .ok (.getfield 21, 3) := by decide +kernel
theorem dX7_isRest_7 : decode cX7_isRest 7 = .ok (.getfield 38, 3) := by decide +kernel
theorem dX7_isRest_10 : decode cX7_isRest 10 = .ok (.if_icmp .ge 24, 3) := by decide +kernel
theorem dX7_isRest_34 : decode cX7_isRest 34 = .ok (.iconst 1, 1) := by decide +kernel
theorem dX7_isRest_35 : decode cX7_isRest 35 = .ok (.ireturn, 1) := by decide +kernel
theorem dX7_isRest_13 : decode cX7_isRest 13 = .ok (.aload_n 0, 1) := by decide +kernel
theorem dX7_isRest_14 : decode cX7_isRest 14 = .ok (.aload_n 0, 1) := by decide +kernel
theorem dX7_isRest_15 : decode cX7_isRest 15 = .ok (.getfield 18, 3) := by decide +kernel
theorem dX7_isRest_18 : decode cX7_isRest 18 = .ok (.iload_n 1, 1) := by decide +kernel
theorem dX7_isRest_19 : decode cX7_isRest 19 = .ok (.iaload, 1) := by decide +kernel
theorem dX7_isRest_20 : decode cX7_isRest 20 = .ok (.invokevirtual 87, 3) := by decide +kernel
theorem dX7_isRest_23 : decode cX7_isRest 23 = .ok (.ifCond .eq 5, 3) := by decide +kernel
theorem dX7_isRest_28 : decode cX7_isRest 28 = .ok (.iinc 1 1, 3) := by decide +kernel
theorem dX7_isRest_31 : decode cX7_isRest 31 = .ok (.goto (-29), 3) := by decide +kernel
theorem dX7_isRest_26 : decode cX7_isRest 26 = .ok (.iconst 0, 1) := by decide +kernel
theorem dX7_isRest_27 : decode cX7_isRest 27 = .ok (.ireturn, 1) := by decide +kernel
theorem dX7_countRests_0 : decode cX7_countRests 0 = .ok (.aload_n 0, 1) := by decide +kernel
theorem dX7_countRests_1 : decode cX7_countRests 1 = .ok (.invokevirtual 64, 3) := by decide +kernel
theorem dX7_countRests_4 : decode cX7_countRests 4 = .ok (.iconst 0, 1) := by decide +kernel
theorem dX7_countRests_5 : decode cX7_countRests 5 = .ok (.istore_n 1, 1) := by decide +kernel
theorem dX7_countRests_6 : decode cX7_countRests 6 = .ok (.aload_n 0, 1) := by decide +kernel
theorem dX7_countRests_7 : decode cX7_countRests 7 = .ok (.invokevirtual 67, 3) := by decide +kernel
theorem dX7_countRests_10 : decode cX7_countRests 10 = .ok (.istore_n 2, 1) := by decide +kernel
theorem dX7_countRests_11 : decode cX7_countRests 11 = .ok (.iconst 0, 1) := by decide +kernel
theorem dX7_countRests_12 : decode cX7_countRests 12 = .ok (.istore_n 3, 1) := by decide +kernel
theorem dX7_countRests_13 : decode cX7_countRests 13 = .ok (.iload_n 3, 1) := by decide +kernel
theorem dX7_countRests_14 : decode cX7_countRests 14 = .ok (.iload_n 2, 1) := by decide +kernel
theorem dX7_countRests_15 : decode cX7_countRests 15 = .ok (.if_icmp .ge 27, 3) := by decide +kernel
theorem dX7_countRests_42 : decode cX7_countRests 42 = .ok (.iload_n 1, 1) := by decide +kernel
theorem dX7_countRests_43 : decode cX7_countRests 43 = .ok (.ireturn, 1) := by decide +kernel
theorem dX7_countRests_18 : decode cX7_countRests 18 = .ok (.aload_n 0, 1) := by decide +kernel
theorem dX7_countRests_19 : decode cX7_countRests 19 = .ok (.iload_n 3, 1) := by decide +kernel
theorem dX7_countRests_20 : decode cX7_countRests 20 = .ok (.invokevirtual 70, 3) := by decide +kernel
theorem dX7_countRests_23 : decode cX7_countRests 23 = .ok (.ifCond .eq 13, 3) := by decide +kernel
theorem dX7_countRests_36 : decode cX7_countRests 36 = .ok (.iinc 3 1, 3) := by decide +kernel
theorem dX7_countRests_39 : decode cX7_countRests 39 = .ok (.goto (-26), 3) := by decide +kernel
theorem dX7_countRests_26 : decode cX7_countRests 26 = .ok (.aload_n 0, 1) := by decide +kernel
theorem dX7_countRests_27 : decode cX7_countRests 27 = .ok (.invokevirtual 74, 3) := by decide +kernel
theorem dX7_countRests_30 : decode cX7_countRests 30 = .ok (.ifCond .eq 6, 3) := by decide +kernel
theorem dX7_countRests_33 : decode cX7_countRests 33 = .ok (.iinc 1 1, 3) := by decide +kernel
theorem dX7_firstRest_0 : decode cX7_firstRest 0 = .ok (.aload_n 0, 1) := by decide +kernel
theorem dX7_firstRest_1 : decode cX7_firstRest 1 = .ok (.invokevirtual 64, 3) := by decide +kernel
theorem dX7_firstRest_4 : decode cX7_firstRest 4 = .ok (.aload_n 0, 1) := by decide +kernel
theorem dX7_firstRest_5 : decode cX7_firstRest 5 = .ok (.invokevirtual 67, 3) := by decide +kernel
theorem dX7_firstRest_8 : decode cX7_firstRest 8 = .ok (.istore_n 2, 1) := by decide +kernel
theorem dX7_firstRest_9 : decode cX7_firstRest 9 = .ok (.iconst 0, 1) := by decide +kernel
theorem dX7_firstRest_10 : decode cX7_firstRest 10 = .ok (.istore_n 3, 1) := by decide +kernel
theorem dX7_firstRest_11 : decode cX7_firstRest 11 = .ok (.iload_n 3, 1) := by decide +kernel
theorem dX7_firstRest_12 : decode cX7_firstRest 12 = .ok (.iload_n 2, 1) := by decide +kernel
theorem dX7_firstRest_13 : decode cX7_firstRest 13 = .ok (.if_icmp .ge 31, 3) := by decide +kernel
theorem dX7_firstRest_44 : decode cX7_firstRest 44 = .ok (.iconst (-1), 1) := by decide +kernel
theorem dX7_firstRest_45 : decode cX7_firstRest 45 = .ok (.ireturn, 1) := by decide +kernel
theorem dX7_firstRest_16 : decode cX7_firstRest 16 = .ok (.aload_n 0, 1) := by decide +kernel
theorem dX7_firstRest_17 : decode cX7_firstRest 17 = .ok (.iload_n 3, 1) := by decide +kernel
theorem dX7_firstRest_18 : decode cX7_firstRest 18 = .ok (.invokevirtual 70, 3) := by decide +kernel
theorem dX7_firstRest_21 : decode cX7_firstRest 21 = .ok (.ifCond .eq 17, 3) := by decide +kernel
theorem dX7_firstRest_38 : decode cX7_firstRest 38 = .ok (.iinc 3 1, 3) := by decide +kernel
theorem dX7_firstRest_41 : decode cX7_firstRest 41 = .ok (.goto (-30), 3) := by decide +kernel
theorem dX7_firstRest_24 : decode cX7_firstRest 24 = .ok (.aload_n 0, 1) := by decide +kernel
theorem dX7_firstRest_25 : decode cX7_firstRest 25 = .ok (.invokevirtual 74, 3) := by decide +kernel
theorem dX7_firstRest_28 : decode cX7_firstRest 28 = .ok (.ifCond .eq 10, 3) := by decide +kernel
theorem dX7_firstRest_31 : decode cX7_firstRest 31 = .ok (.aload_n 0, 1) := by decide +kernel
theorem dX7_firstRest_32 : decode cX7_firstRest 32 = .ok (.getfield 18, 3) := by decide +kernel
theorem dX7_firstRest_35 : decode cX7_firstRest 35 = .ok (.iload_n 1, 1) := by decide +kernel
theorem dX7_firstRest_36 : decode cX7_firstRest 36 = .ok (.iaload, 1) := by decide +kernel
theorem dX7_firstRest_37 : decode cX7_firstRest 37 = .ok (.ireturn, 1) := by decide +kernel
theorem dX11_share_0 : decode cX11_share 0 = .ok (.aload_n 0, 1) := by decide +kernel
theorem dX11_share_1 : decode cX11_share 1 = .ok (.getfield 26, 3) := by decide +kernel
theorem dX11_share_4 : decode cX11_share 4 = .ok (.iload_n 1, 1) := by decide +kernel
theorem dX11_share_5 : decode cX11_share 5 = .ok (.invokevirtual 163, 3) := by decide +kernel
theorem dX11_share_8 : decode cX11_share 8 = .ok (.ifCond .ne 6, 3) := by decide +kernel
theorem dX11_share_14 : decode cX11_share 14 = .ok (.aload_n 0, 1) := by decide +kernel
theorem dX11_share_15 : decode cX11_share 15 = .ok (.getfield 78, 3) := by decide +kernel
theorem dX11_share_18 : decode cX11_share 18 = .ok (.iload_n 1, 1) := by decide +kernel
theorem dX11_share_19 : decode cX11_share 19 = .ok (.aload_n 0, 1) := by decide +kernel
theorem dX11_share_20 : decode cX11_share 20 = .ok (.getfield 26, 3) := by decide +kernel
theorem dX11_share_23 : decode cX11_share 23 = .ok (.getfield 166, 3) := by decide +kernel
theorem dX11_share_26 : decode cX11_share 26 = .ok (.iload_n 1, 1) := by decide +kernel
theorem dX11_share_27 : decode cX11_share 27 = .ok (.iaload, 1) := by decide +kernel
theorem dX11_share_28 : decode cX11_share 28 = .ok (.invokevirtual 334, 3) := by decide +kernel
theorem dX11_share_31 : decode cX11_share 31 = .ok (.ireturn, 1) := by decide +kernel
theorem dX11_share_11 : decode cX11_share 11 = .ok (.bipush (-2), 2) := by decide +kernel
theorem dX11_share_13 : decode cX11_share 13 = .ok (.ireturn, 1) := by decide +kernel
theorem dX11_seat_0 : decode cX11_seat 0 = .ok (.aload_n 0, 1) := by decide +kernel
theorem dX11_seat_1 : decode cX11_seat 1 = .ok (.getfield 26, 3) := by decide +kernel
theorem dX11_seat_4 : decode cX11_seat 4 = .ok (.iload_n 1, 1) := by decide +kernel
theorem dX11_seat_5 : decode cX11_seat 5 = .ok (.invokevirtual 163, 3) := by decide +kernel
theorem dX11_seat_8 : decode cX11_seat 8 = .ok (.ifCond .eq 14, 3) := by decide +kernel
theorem dX11_seat_22 : decode cX11_seat 22 = .ok (.bipush (-2), 2) := by decide +kernel
theorem dX11_seat_24 : decode cX11_seat 24 = .ok (.ireturn, 1) := by decide +kernel
theorem dX11_seat_11 : decode cX11_seat 11 = .ok (.aload_n 0, 1) := by decide +kernel
theorem dX11_seat_12 : decode cX11_seat 12 = .ok (.getfield 26, 3) := by decide +kernel
theorem dX11_seat_15 : decode cX11_seat 15 = .ok (.iload_n 2, 1) := by decide +kernel
theorem dX11_seat_16 : decode cX11_seat 16 = .ok (.invokevirtual 116, 3) := by decide +kernel
theorem dX11_seat_19 : decode cX11_seat 19 = .ok (.ifCond .ne 6, 3) := by decide +kernel
theorem dX11_seat_25 : decode cX11_seat 25 = .ok (.aload_n 0, 1) := by decide +kernel
theorem dX11_seat_26 : decode cX11_seat 26 = .ok (.getfield 78, 3) := by decide +kernel
theorem dX11_seat_29 : decode cX11_seat 29 = .ok (.iload_n 1, 1) := by decide +kernel
theorem dX11_seat_30 : decode cX11_seat 30 = .ok (.iload_n 2, 1) := by decide +kernel
theorem dX11_seat_31 : decode cX11_seat 31 = .ok (.invokevirtual 334, 3) := by decide +kernel
theorem dX11_seat_34 : decode cX11_seat 34 = .ok (.ireturn, 1) := by decide +kernel
theorem dX11_seats_0 : decode cX11_seats 0 = .ok (.aload_n 0, 1) := by decide +kernel
theorem dX11_seats_1 : decode cX11_seats 1 = .ok (.getfield 26, 3) := by decide +kernel
theorem dX11_seats_4 : decode cX11_seats 4 = .ok (.iload_n 1, 1) := by decide +kernel
theorem dX11_seats_5 : decode cX11_seats 5 = .ok (.invokevirtual 163, 3) := by decide +kernel
theorem dX11_seats_8 : decode cX11_seats 8 = .ok (.ifCond .eq 14, 3) := by decide +kernel
theorem dX11_seats_22 : decode cX11_seats 22 = .ok (.bipush (-2), 2) := by decide +kernel
theorem dX11_seats_24 : decode cX11_seats 24 = .ok (.ireturn, 1) := by decide +kernel
theorem dX11_seats_11 : decode cX11_seats 11 = .ok (.aload_n 0, 1) := by decide +kernel
theorem dX11_seats_12 : decode cX11_seats 12 = .ok (.getfield 78, 3) := by decide +kernel
theorem dX11_seats_15 : decode cX11_seats 15 = .ok (.iload_n 1, 1) := by decide +kernel
theorem dX11_seats_16 : decode cX11_seats 16 = .ok (.invokevirtual 337, 3) := by decide +kernel
theorem dX11_seats_19 : decode cX11_seats 19 = .ok (.goto 5, 3) := by decide +kernel
theorem dX11_rests_0 : decode cX11_rests 0 = .ok (.aload_n 0, 1) := by decide +kernel
theorem dX11_rests_1 : decode cX11_rests 1 = .ok (.getfield 26, 3) := by decide +kernel
theorem dX11_rests_4 : decode cX11_rests 4 = .ok (.invokevirtual 225, 3) := by decide +kernel
theorem dX11_rests_7 : decode cX11_rests 7 = .ok (.ifCond .eq 13, 3) := by decide +kernel
theorem dX11_rests_20 : decode cX11_rests 20 = .ok (.bipush (-2), 2) := by decide +kernel
theorem dX11_rests_22 : decode cX11_rests 22 = .ok (.ireturn, 1) := by decide +kernel
theorem dX11_rests_10 : decode cX11_rests 10 = .ok (.aload_n 0, 1) := by decide +kernel
theorem dX11_rests_11 : decode cX11_rests 11 = .ok (.getfield 78, 3) := by decide +kernel
theorem dX11_rests_14 : decode cX11_rests 14 = .ok (.invokevirtual 339, 3) := by decide +kernel
theorem dX11_rests_17 : decode cX11_rests 17 = .ok (.goto 5, 3) := by decide +kernel
theorem dX11_rest_0 : decode cX11_rest 0 = .ok (.aload_n 0, 1) := by decide +kernel
theorem dX11_rest_1 : decode cX11_rest 1 = .ok (.getfield 26, 3) := by decide +kernel
theorem dX11_rest_4 : decode cX11_rest 4 = .ok (.iload_n 1, 1) := by decide +kernel
theorem dX11_rest_5 : decode cX11_rest 5 = .ok (.invokevirtual 163, 3) := by decide +kernel
theorem dX11_rest_8 : decode cX11_rest 8 = .ok (.ifCond .eq 14, 3) := by decide +kernel
theorem dX11_rest_22 : decode cX11_rest 22 = .ok (.bipush (-2), 2) := by decide +kernel
theorem dX11_rest_24 : decode cX11_rest 24 = .ok (.ireturn, 1) := by decide +kernel
theorem dX11_rest_11 : decode cX11_rest 11 = .ok (.aload_n 0, 1) := by decide +kernel
theorem dX11_rest_12 : decode cX11_rest 12 = .ok (.getfield 78, 3) := by decide +kernel
theorem dX11_rest_15 : decode cX11_rest 15 = .ok (.iload_n 1, 1) := by decide +kernel
theorem dX11_rest_16 : decode cX11_rest 16 = .ok (.invokevirtual 342, 3) := by decide +kernel
theorem dX11_rest_19 : decode cX11_rest 19 = .ok (.goto 5, 3) := by decide +kernel
theorem q236 : Cond.fieldLink "EbbWreck$Coast" 51 "EbbWreck$Coast" "lines" "I" ∈ lw_g := mg (List.mem_of_getElem? (i := 236) (by decide +kernel)) rfl
theorem q263 : Cond.fieldLink "EbbWreck$Coast" 71 "EbbWreck$Coast" "beachBits" "I" ∈ lw_g := mg (List.mem_of_getElem? (i := 263) (by decide +kernel)) rfl
theorem q239 : Cond.fieldLink "EbbWreck$Coast" 55 "EbbWreck$Coast" "cells" "I" ∈ lw_g := mg (List.mem_of_getElem? (i := 239) (by decide +kernel)) rfl
theorem q270 : Cond.fieldLink "EbbWreck$Coast" 74 "EbbWreck$Coast" "things" "I" ∈ lw_g := mg (List.mem_of_getElem? (i := 270) (by decide +kernel)) rfl
theorem q293 : Cond.fieldLink "EbbWreck$Coast" 80 "EbbWreck$Coast" "sitters" "I" ∈ lw_g := mg (List.mem_of_getElem? (i := 293) (by decide +kernel)) rfl
theorem q165 : Cond.fieldLink "EbbWreck$Tide" 25 "EbbWreck$Tide" "round" "I" ∈ lw_g := mg (List.mem_of_getElem? (i := 165) (by decide +kernel)) rfl
theorem q166 : Cond.fieldLink "EbbWreck$Tide" 9 "EbbWreck$Tide" "phases" "[I" ∈ lw_g := mg (List.mem_of_getElem? (i := 166) (by decide +kernel)) rfl
theorem q155 : Cond.fieldLink "EbbWreck$Tide" 15 "EbbWreck$Tide" "flood" "I" ∈ lw_g := mg (List.mem_of_getElem? (i := 155) (by decide +kernel)) rfl
theorem q158 : Cond.fieldLink "EbbWreck$Tide" 19 "EbbWreck$Tide" "slack" "I" ∈ lw_g := mg (List.mem_of_getElem? (i := 158) (by decide +kernel)) rfl
theorem q916 : Cond.methodLink "EbbWreck$Tide" 34 ⟨"java/lang/Math", "max", "(II)I"⟩ ∈ lw_g := mg (List.mem_of_getElem? (i := 916) (by decide +kernel)) rfl
theorem q586 : Cond.static ⟨"java/lang/Math", "max", "(II)I"⟩ ∈ lw_g := mg (List.mem_of_getElem? (i := 586) (by decide +kernel)) rfl
theorem q128 : Cond.initialized "java/lang/Math" ∈ lw_g := mg (List.mem_of_getElem? (i := 128) (by decide +kernel)) rfl
theorem q587 : Cond.code ⟨"java/lang/Math", "max", "(II)I"⟩ prog_16_method_65_code 2 (some .int) ∈ lw_g := mg (List.mem_of_getElem? (i := 587) (by decide +kernel)) rfl
theorem q917 : Cond.methodLink "EbbWreck$Tide" 40 ⟨"java/lang/Math", "min", "(II)I"⟩ ∈ lw_g := mg (List.mem_of_getElem? (i := 917) (by decide +kernel)) rfl
theorem q583 : Cond.static ⟨"java/lang/Math", "min", "(II)I"⟩ ∈ lw_g := mg (List.mem_of_getElem? (i := 583) (by decide +kernel)) rfl
theorem q584 : Cond.code ⟨"java/lang/Math", "min", "(II)I"⟩ prog_16_method_69_code 2 (some .int) ∈ lw_g := mg (List.mem_of_getElem? (i := 584) (by decide +kernel)) rfl
theorem q161 : Cond.fieldLink "EbbWreck$Tide" 22 "EbbWreck$Tide" "ebb" "I" ∈ lw_g := mg (List.mem_of_getElem? (i := 161) (by decide +kernel)) rfl
theorem q806 : Cond.code ⟨"EbbWreck$Tide", "phaseOf", "(I)I"⟩ prog_12_method_3_code 2 (some .int) ∈ lw_g := mg (List.mem_of_getElem? (i := 806) (by decide +kernel)) rfl
theorem q804 : Cond.instanceMethod ⟨"EbbWreck$Tide", "phaseOf", "(I)I"⟩ ∈ lw_g := mg (List.mem_of_getElem? (i := 804) (by decide +kernel)) rfl
theorem q805 : Cond.selects "EbbWreck$Tide" ⟨"EbbWreck$Tide", "phaseOf", "(I)I"⟩ ⟨"EbbWreck$Tide", "phaseOf", "(I)I"⟩ ∈ lw_g := mg (List.mem_of_getElem? (i := 805) (by decide +kernel)) rfl
theorem q116 : Cond.initialized "EbbWreck$Tide" ∈ lw_g := mg (List.mem_of_getElem? (i := 116) (by decide +kernel)) rfl
theorem q899 : Cond.methodLink "EbbWreck$Tide" 43 ⟨"EbbWreck$Tide", "phaseOf", "(I)I"⟩ ∈ lw_g := mg (List.mem_of_getElem? (i := 899) (by decide +kernel)) rfl
theorem q186 : Cond.fieldLink "EbbWreck$RuleBook" 24 "EbbWreck$RuleBook" "size" "I" ∈ lw_g := mg (List.mem_of_getElem? (i := 186) (by decide +kernel)) rfl
theorem q189 : Cond.fieldLink "EbbWreck$RuleBook" 9 "EbbWreck$RuleBook" "firstCells" "[I" ∈ lw_g := mg (List.mem_of_getElem? (i := 189) (by decide +kernel)) rfl
theorem q191 : Cond.fieldLink "EbbWreck$RuleBook" 15 "EbbWreck$RuleBook" "lastCells" "[I" ∈ lw_g := mg (List.mem_of_getElem? (i := 191) (by decide +kernel)) rfl
theorem q193 : Cond.fieldLink "EbbWreck$RuleBook" 18 "EbbWreck$RuleBook" "phaseBits" "[I" ∈ lw_g := mg (List.mem_of_getElem? (i := 193) (by decide +kernel)) rfl
theorem q958 : Cond.code ⟨"EbbWreck$RuleBook", "stands", "(III)Z"⟩ prog_8_method_6_code 4 (some .boolean) ∈ lw_g := mg (List.mem_of_getElem? (i := 958) (by decide +kernel)) rfl
theorem q956 : Cond.instanceMethod ⟨"EbbWreck$RuleBook", "stands", "(III)Z"⟩ ∈ lw_g := mg (List.mem_of_getElem? (i := 956) (by decide +kernel)) rfl
theorem q957 : Cond.selects "EbbWreck$RuleBook" ⟨"EbbWreck$RuleBook", "stands", "(III)Z"⟩ ⟨"EbbWreck$RuleBook", "stands", "(III)Z"⟩ ∈ lw_g := mg (List.mem_of_getElem? (i := 957) (by decide +kernel)) rfl
theorem q117 : Cond.initialized "EbbWreck$RuleBook" ∈ lw_g := mg (List.mem_of_getElem? (i := 117) (by decide +kernel)) rfl
theorem q955 : Cond.methodLink "EbbWreck$RuleBook" 38 ⟨"EbbWreck$RuleBook", "stands", "(III)Z"⟩ ∈ lw_g := mg (List.mem_of_getElem? (i := 955) (by decide +kernel)) rfl
theorem q954 : Cond.code ⟨"EbbWreck$RuleBook", "decider", "(III)I"⟩ prog_8_method_7_code 5 (some .int) ∈ lw_g := mg (List.mem_of_getElem? (i := 954) (by decide +kernel)) rfl
theorem q952 : Cond.instanceMethod ⟨"EbbWreck$RuleBook", "decider", "(III)I"⟩ ∈ lw_g := mg (List.mem_of_getElem? (i := 952) (by decide +kernel)) rfl
theorem q953 : Cond.selects "EbbWreck$RuleBook" ⟨"EbbWreck$RuleBook", "decider", "(III)I"⟩ ⟨"EbbWreck$RuleBook", "decider", "(III)I"⟩ ∈ lw_g := mg (List.mem_of_getElem? (i := 953) (by decide +kernel)) rfl
theorem q1014 : Cond.methodLink "EbbWreck$RuleBook" 42 ⟨"EbbWreck$RuleBook", "decider", "(III)I"⟩ ∈ lw_g := mg (List.mem_of_getElem? (i := 1014) (by decide +kernel)) rfl
theorem q195 : Cond.fieldLink "EbbWreck$RuleBook" 21 "EbbWreck$RuleBook" "parties" "[I" ∈ lw_g := mg (List.mem_of_getElem? (i := 195) (by decide +kernel)) rfl
theorem q215 : Cond.fieldLink "EbbWreck$Acts" 21 "EbbWreck$Acts" "size" "I" ∈ lw_g := mg (List.mem_of_getElem? (i := 215) (by decide +kernel)) rfl
theorem q219 : Cond.fieldLink "EbbWreck$Acts" 9 "EbbWreck$Acts" "ways" "[I" ∈ lw_g := mg (List.mem_of_getElem? (i := 219) (by decide +kernel)) rfl
theorem q222 : Cond.fieldLink "EbbWreck$Acts" 15 "EbbWreck$Acts" "whos" "[I" ∈ lw_g := mg (List.mem_of_getElem? (i := 222) (by decide +kernel)) rfl
theorem q784 : Cond.code ⟨"EbbWreck$Acts", "isPushOf", "(II)Z"⟩ prog_2_method_7_code 3 (some .boolean) ∈ lw_g := mg (List.mem_of_getElem? (i := 784) (by decide +kernel)) rfl
theorem q782 : Cond.instanceMethod ⟨"EbbWreck$Acts", "isPushOf", "(II)Z"⟩ ∈ lw_g := mg (List.mem_of_getElem? (i := 782) (by decide +kernel)) rfl
theorem q783 : Cond.selects "EbbWreck$Acts" ⟨"EbbWreck$Acts", "isPushOf", "(II)Z"⟩ ⟨"EbbWreck$Acts", "isPushOf", "(II)Z"⟩ ∈ lw_g := mg (List.mem_of_getElem? (i := 783) (by decide +kernel)) rfl
theorem q118 : Cond.initialized "EbbWreck$Acts" ∈ lw_g := mg (List.mem_of_getElem? (i := 118) (by decide +kernel)) rfl
theorem q1366 : Cond.methodLink "EbbWreck$Acts" 39 ⟨"EbbWreck$Acts", "isPushOf", "(II)Z"⟩ ∈ lw_g := mg (List.mem_of_getElem? (i := 1366) (by decide +kernel)) rfl
theorem q224 : Cond.fieldLink "EbbWreck$Acts" 18 "EbbWreck$Acts" "marks" "[I" ∈ lw_g := mg (List.mem_of_getElem? (i := 224) (by decide +kernel)) rfl
theorem q251 : Cond.fieldLink "EbbWreck$Coast" 12 "EbbWreck$Coast" "tide" "LEbbWreck$Tide;" ∈ lw_g := mg (List.mem_of_getElem? (i := 251) (by decide +kernel)) rfl
theorem q803 : Cond.methodLink "EbbWreck$Coast" 106 ⟨"EbbWreck$Tide", "phaseOf", "(I)I"⟩ ∈ lw_g := mg (List.mem_of_getElem? (i := 803) (by decide +kernel)) rfl
theorem q257 : Cond.fieldLink "EbbWreck$Coast" 18 "EbbWreck$Coast" "floodSteps" "[I" ∈ lw_g := mg (List.mem_of_getElem? (i := 257) (by decide +kernel)) rfl
theorem q793 : Cond.code ⟨"EbbWreck$Coast", "shifted", "(II)I"⟩ prog_3_method_9_code 4 (some .int) ∈ lw_g := mg (List.mem_of_getElem? (i := 793) (by decide +kernel)) rfl
theorem q791 : Cond.instanceMethod ⟨"EbbWreck$Coast", "shifted", "(II)I"⟩ ∈ lw_g := mg (List.mem_of_getElem? (i := 791) (by decide +kernel)) rfl
theorem q792 : Cond.selects "EbbWreck$Coast" ⟨"EbbWreck$Coast", "shifted", "(II)I"⟩ ⟨"EbbWreck$Coast", "shifted", "(II)I"⟩ ∈ lw_g := mg (List.mem_of_getElem? (i := 792) (by decide +kernel)) rfl
theorem q115 : Cond.initialized "EbbWreck$Coast" ∈ lw_g := mg (List.mem_of_getElem? (i := 115) (by decide +kernel)) rfl
theorem q798 : Cond.methodLink "EbbWreck$Coast" 110 ⟨"EbbWreck$Coast", "shifted", "(II)I"⟩ ∈ lw_g := mg (List.mem_of_getElem? (i := 798) (by decide +kernel)) rfl
theorem q260 : Cond.fieldLink "EbbWreck$Coast" 22 "EbbWreck$Coast" "ebbSteps" "[I" ∈ lw_g := mg (List.mem_of_getElem? (i := 260) (by decide +kernel)) rfl
theorem q802 : Cond.code ⟨"EbbWreck$Coast", "drifted", "(II)I"⟩ prog_3_method_10_code 3 (some .int) ∈ lw_g := mg (List.mem_of_getElem? (i := 802) (by decide +kernel)) rfl
theorem q800 : Cond.instanceMethod ⟨"EbbWreck$Coast", "drifted", "(II)I"⟩ ∈ lw_g := mg (List.mem_of_getElem? (i := 800) (by decide +kernel)) rfl
theorem q801 : Cond.selects "EbbWreck$Coast" ⟨"EbbWreck$Coast", "drifted", "(II)I"⟩ ⟨"EbbWreck$Coast", "drifted", "(II)I"⟩ ∈ lw_g := mg (List.mem_of_getElem? (i := 801) (by decide +kernel)) rfl
theorem q799 : Cond.methodLink "EbbWreck$Coast" 114 ⟨"EbbWreck$Coast", "drifted", "(II)I"⟩ ∈ lw_g := mg (List.mem_of_getElem? (i := 799) (by decide +kernel)) rfl
theorem q289 : Cond.fieldLink "EbbWreck$Coast" 37 "EbbWreck$Coast" "rules" "LEbbWreck$RuleBook;" ∈ lw_g := mg (List.mem_of_getElem? (i := 289) (by decide +kernel)) rfl
theorem q951 : Cond.methodLink "EbbWreck$Coast" 117 ⟨"EbbWreck$RuleBook", "decider", "(III)I"⟩ ∈ lw_g := mg (List.mem_of_getElem? (i := 951) (by decide +kernel)) rfl
theorem q197 : Cond.fieldLink "EbbWreck$Coast" 121 "EbbWreck$RuleBook" "parties" "[I" ∈ lw_g := mg (List.mem_of_getElem? (i := 197) (by decide +kernel)) rfl
theorem q520 : Cond.fieldLink "EbbWreck" 26 "EbbWreck" "coast" "LEbbWreck$Coast;" ∈ lw_g := mg (List.mem_of_getElem? (i := 520) (by decide +kernel)) rfl
theorem q881 : Cond.code ⟨"EbbWreck$Coast", "isTold", "()Z"⟩ prog_3_method_4_code 1 (some .boolean) ∈ lw_g := mg (List.mem_of_getElem? (i := 881) (by decide +kernel)) rfl
theorem q879 : Cond.instanceMethod ⟨"EbbWreck$Coast", "isTold", "()Z"⟩ ∈ lw_g := mg (List.mem_of_getElem? (i := 879) (by decide +kernel)) rfl
theorem q880 : Cond.selects "EbbWreck$Coast" ⟨"EbbWreck$Coast", "isTold", "()Z"⟩ ⟨"EbbWreck$Coast", "isTold", "()Z"⟩ ∈ lw_g := mg (List.mem_of_getElem? (i := 880) (by decide +kernel)) rfl
theorem q878 : Cond.methodLink "EbbWreck" 225 ⟨"EbbWreck$Coast", "isTold", "()Z"⟩ ∈ lw_g := mg (List.mem_of_getElem? (i := 878) (by decide +kernel)) rfl
theorem q882 : Cond.constant "EbbWreck" 250 2000000000 ∈ lw_g := mg (List.mem_of_getElem? (i := 882) (by decide +kernel)) rfl
theorem q885 : Cond.code ⟨"EbbWreck", "isWithin", "(II)Z"⟩ prog_1_method_18_code 2 (some .boolean) ∈ lw_g := mg (List.mem_of_getElem? (i := 885) (by decide +kernel)) rfl
theorem q884 : Cond.static ⟨"EbbWreck", "isWithin", "(II)Z"⟩ ∈ lw_g := mg (List.mem_of_getElem? (i := 884) (by decide +kernel)) rfl
theorem q114 : Cond.initialized "EbbWreck" ∈ lw_g := mg (List.mem_of_getElem? (i := 114) (by decide +kernel)) rfl
theorem q883 : Cond.methodLink "EbbWreck" 230 ⟨"EbbWreck", "isWithin", "(II)Z"⟩ ∈ lw_g := mg (List.mem_of_getElem? (i := 883) (by decide +kernel)) rfl
theorem q835 : Cond.code ⟨"EbbWreck$Coast", "hasThing", "(I)Z"⟩ prog_3_method_6_code 2 (some .boolean) ∈ lw_g := mg (List.mem_of_getElem? (i := 835) (by decide +kernel)) rfl
theorem q833 : Cond.instanceMethod ⟨"EbbWreck$Coast", "hasThing", "(I)Z"⟩ ∈ lw_g := mg (List.mem_of_getElem? (i := 833) (by decide +kernel)) rfl
theorem q834 : Cond.selects "EbbWreck$Coast" ⟨"EbbWreck$Coast", "hasThing", "(I)Z"⟩ ⟨"EbbWreck$Coast", "hasThing", "(I)Z"⟩ ∈ lw_g := mg (List.mem_of_getElem? (i := 834) (by decide +kernel)) rfl
theorem q832 : Cond.methodLink "EbbWreck" 130 ⟨"EbbWreck$Coast", "hasThing", "(I)Z"⟩ ∈ lw_g := mg (List.mem_of_getElem? (i := 832) (by decide +kernel)) rfl
theorem q966 : Cond.code ⟨"EbbWreck", "isAskedParty", "(I)Z"⟩ prog_1_method_20_code 2 (some .boolean) ∈ lw_g := mg (List.mem_of_getElem? (i := 966) (by decide +kernel)) rfl
theorem q965 : Cond.instanceMethod ⟨"EbbWreck", "isAskedParty", "(I)Z"⟩ ∈ lw_g := mg (List.mem_of_getElem? (i := 965) (by decide +kernel)) rfl
theorem q20 : Cond.selects "EbbWreck" ⟨"EbbWreck", "isAskedParty", "(I)Z"⟩ ⟨"EbbWreck", "isAskedParty", "(I)Z"⟩ ∈ lw_g := mg (List.mem_of_getElem? (i := 20) (by decide +kernel)) rfl
theorem q963 : Cond.methodLink "EbbWreck" 264 ⟨"EbbWreck", "isAskedParty", "(I)Z"⟩ ∈ lw_g := mg (List.mem_of_getElem? (i := 963) (by decide +kernel)) rfl
theorem q388 : Cond.fieldLink "EbbWreck$Drift" 49 "EbbWreck$Drift" "runHour" "I" ∈ lw_g := mg (List.mem_of_getElem? (i := 388) (by decide +kernel)) rfl
theorem q390 : Cond.fieldLink "EbbWreck$Drift" 86 "EbbWreck$Drift" "runCell" "I" ∈ lw_g := mg (List.mem_of_getElem? (i := 390) (by decide +kernel)) rfl
theorem q379 : Cond.fieldLink "EbbWreck$Drift" 31 "EbbWreck$Drift" "coast" "LEbbWreck$Coast;" ∈ lw_g := mg (List.mem_of_getElem? (i := 379) (by decide +kernel)) rfl
theorem q950 : Cond.code ⟨"EbbWreck$Coast", "ownerIn", "(III)I"⟩ prog_3_method_12_code 5 (some .int) ∈ lw_g := mg (List.mem_of_getElem? (i := 950) (by decide +kernel)) rfl
theorem q948 : Cond.instanceMethod ⟨"EbbWreck$Coast", "ownerIn", "(III)I"⟩ ∈ lw_g := mg (List.mem_of_getElem? (i := 948) (by decide +kernel)) rfl
theorem q949 : Cond.selects "EbbWreck$Coast" ⟨"EbbWreck$Coast", "ownerIn", "(III)I"⟩ ⟨"EbbWreck$Coast", "ownerIn", "(III)I"⟩ ∈ lw_g := mg (List.mem_of_getElem? (i := 949) (by decide +kernel)) rfl
theorem q947 : Cond.methodLink "EbbWreck$Drift" 117 ⟨"EbbWreck$Coast", "ownerIn", "(III)I"⟩ ∈ lw_g := mg (List.mem_of_getElem? (i := 947) (by decide +kernel)) rfl
theorem q380 : Cond.fieldLink "EbbWreck$Drift" 9 "EbbWreck$Drift" "upHours" "[I" ∈ lw_g := mg (List.mem_of_getElem? (i := 380) (by decide +kernel)) rfl
theorem q382 : Cond.fieldLink "EbbWreck$Drift" 15 "EbbWreck$Drift" "upCells" "[I" ∈ lw_g := mg (List.mem_of_getElem? (i := 382) (by decide +kernel)) rfl
theorem q268 : Cond.fieldLink "EbbWreck$Drift" 35 "EbbWreck$Coast" "things" "I" ∈ lw_g := mg (List.mem_of_getElem? (i := 268) (by decide +kernel)) rfl
theorem q946 : Cond.code ⟨"EbbWreck$Drift", "ownerOf", "(III)I"⟩ prog_4_method_9_code 4 (some .int) ∈ lw_g := mg (List.mem_of_getElem? (i := 946) (by decide +kernel)) rfl
theorem q944 : Cond.instanceMethod ⟨"EbbWreck$Drift", "ownerOf", "(III)I"⟩ ∈ lw_g := mg (List.mem_of_getElem? (i := 944) (by decide +kernel)) rfl
theorem q945 : Cond.selects "EbbWreck$Drift" ⟨"EbbWreck$Drift", "ownerOf", "(III)I"⟩ ⟨"EbbWreck$Drift", "ownerOf", "(III)I"⟩ ∈ lw_g := mg (List.mem_of_getElem? (i := 945) (by decide +kernel)) rfl
theorem q120 : Cond.initialized "EbbWreck$Drift" ∈ lw_g := mg (List.mem_of_getElem? (i := 120) (by decide +kernel)) rfl
theorem q971 : Cond.methodLink "EbbWreck$Drift" 120 ⟨"EbbWreck$Drift", "ownerOf", "(III)I"⟩ ∈ lw_g := mg (List.mem_of_getElem? (i := 971) (by decide +kernel)) rfl
theorem q277 : Cond.fieldLink "EbbWreck$Drift" 123 "EbbWreck$Coast" "worths" "[I" ∈ lw_g := mg (List.mem_of_getElem? (i := 277) (by decide +kernel)) rfl
theorem q255 : Cond.fieldLink "EbbWreck$Drift" 139 "EbbWreck$Coast" "tide" "LEbbWreck$Tide;" ∈ lw_g := mg (List.mem_of_getElem? (i := 255) (by decide +kernel)) rfl
theorem q1009 : Cond.methodLink "EbbWreck$Drift" 143 ⟨"EbbWreck$Tide", "phaseOf", "(I)I"⟩ ∈ lw_g := mg (List.mem_of_getElem? (i := 1009) (by decide +kernel)) rfl
theorem q291 : Cond.fieldLink "EbbWreck$Drift" 126 "EbbWreck$Coast" "rules" "LEbbWreck$RuleBook;" ∈ lw_g := mg (List.mem_of_getElem? (i := 291) (by decide +kernel)) rfl
theorem q1008 : Cond.code ⟨"EbbWreck$Drift", "upPhase", "(I)I"⟩ prog_4_method_13_code 2 (some .int) ∈ lw_g := mg (List.mem_of_getElem? (i := 1008) (by decide +kernel)) rfl
theorem q1007 : Cond.instanceMethod ⟨"EbbWreck$Drift", "upPhase", "(I)I"⟩ ∈ lw_g := mg (List.mem_of_getElem? (i := 1007) (by decide +kernel)) rfl
theorem q22 : Cond.selects "EbbWreck$Drift" ⟨"EbbWreck$Drift", "upPhase", "(I)I"⟩ ⟨"EbbWreck$Drift", "upPhase", "(I)I"⟩ ∈ lw_g := mg (List.mem_of_getElem? (i := 22) (by decide +kernel)) rfl
theorem q1005 : Cond.methodLink "EbbWreck$Drift" 130 ⟨"EbbWreck$Drift", "upPhase", "(I)I"⟩ ∈ lw_g := mg (List.mem_of_getElem? (i := 1005) (by decide +kernel)) rfl
theorem q1013 : Cond.code ⟨"EbbWreck$RuleBook", "saysTwoThings", "(II)Z"⟩ prog_8_method_8_code 5 (some .boolean) ∈ lw_g := mg (List.mem_of_getElem? (i := 1013) (by decide +kernel)) rfl
theorem q1011 : Cond.instanceMethod ⟨"EbbWreck$RuleBook", "saysTwoThings", "(II)Z"⟩ ∈ lw_g := mg (List.mem_of_getElem? (i := 1011) (by decide +kernel)) rfl
theorem q1012 : Cond.selects "EbbWreck$RuleBook" ⟨"EbbWreck$RuleBook", "saysTwoThings", "(II)Z"⟩ ⟨"EbbWreck$RuleBook", "saysTwoThings", "(II)Z"⟩ ∈ lw_g := mg (List.mem_of_getElem? (i := 1012) (by decide +kernel)) rfl
theorem q1010 : Cond.methodLink "EbbWreck$Drift" 134 ⟨"EbbWreck$RuleBook", "saysTwoThings", "(II)Z"⟩ ∈ lw_g := mg (List.mem_of_getElem? (i := 1010) (by decide +kernel)) rfl
theorem q1285 : Cond.methodLink "EbbWreck$Drift" 148 ⟨"EbbWreck$RuleBook", "decider", "(III)I"⟩ ∈ lw_g := mg (List.mem_of_getElem? (i := 1285) (by decide +kernel)) rfl
theorem q416 : Cond.fieldLink "EbbWreck$Pushing" 15 "EbbWreck$Pushing" "coast" "LEbbWreck$Coast;" ∈ lw_g := mg (List.mem_of_getElem? (i := 416) (by decide +kernel)) rfl
theorem q797 : Cond.code ⟨"EbbWreck$Coast", "pushedAndDrifted", "(III)I"⟩ prog_3_method_11_code 4 (some .int) ∈ lw_g := mg (List.mem_of_getElem? (i := 797) (by decide +kernel)) rfl
theorem q795 : Cond.instanceMethod ⟨"EbbWreck$Coast", "pushedAndDrifted", "(III)I"⟩ ∈ lw_g := mg (List.mem_of_getElem? (i := 795) (by decide +kernel)) rfl
theorem q796 : Cond.selects "EbbWreck$Coast" ⟨"EbbWreck$Coast", "pushedAndDrifted", "(III)I"⟩ ⟨"EbbWreck$Coast", "pushedAndDrifted", "(III)I"⟩ ∈ lw_g := mg (List.mem_of_getElem? (i := 796) (by decide +kernel)) rfl
theorem q1062 : Cond.methodLink "EbbWreck$Pushing" 52 ⟨"EbbWreck$Coast", "pushedAndDrifted", "(III)I"⟩ ∈ lw_g := mg (List.mem_of_getElem? (i := 1062) (by decide +kernel)) rfl
theorem q810 : Cond.code ⟨"EbbWreck$Coast", "isBeach", "(I)Z"⟩ prog_3_method_8_code 2 (some .boolean) ∈ lw_g := mg (List.mem_of_getElem? (i := 810) (by decide +kernel)) rfl
theorem q808 : Cond.instanceMethod ⟨"EbbWreck$Coast", "isBeach", "(I)Z"⟩ ∈ lw_g := mg (List.mem_of_getElem? (i := 808) (by decide +kernel)) rfl
theorem q809 : Cond.selects "EbbWreck$Coast" ⟨"EbbWreck$Coast", "isBeach", "(I)Z"⟩ ⟨"EbbWreck$Coast", "isBeach", "(I)Z"⟩ ∈ lw_g := mg (List.mem_of_getElem? (i := 809) (by decide +kernel)) rfl
theorem q1063 : Cond.methodLink "EbbWreck$Pushing" 55 ⟨"EbbWreck$Coast", "isBeach", "(I)Z"⟩ ∈ lw_g := mg (List.mem_of_getElem? (i := 1063) (by decide +kernel)) rfl
theorem q1067 : Cond.methodLink "EbbWreck$Pushing" 59 ⟨"EbbWreck$Coast", "ownerIn", "(III)I"⟩ ∈ lw_g := mg (List.mem_of_getElem? (i := 1067) (by decide +kernel)) rfl
theorem q418 : Cond.fieldLink "EbbWreck$Pushing" 19 "EbbWreck$Pushing" "wishedParty" "I" ∈ lw_g := mg (List.mem_of_getElem? (i := 418) (by decide +kernel)) rfl
theorem q419 : Cond.fieldLink "EbbWreck$Pushing" 23 "EbbWreck$Pushing" "warded" "Z" ∈ lw_g := mg (List.mem_of_getElem? (i := 419) (by decide +kernel)) rfl
theorem q1056 : Cond.constant "EbbWreck$Pushing" 27 1000000 ∈ lw_g := mg (List.mem_of_getElem? (i := 1056) (by decide +kernel)) rfl
theorem q417 : Cond.fieldLink "EbbWreck$Pushing" 9 "EbbWreck$Pushing" "costs" "[I" ∈ lw_g := mg (List.mem_of_getElem? (i := 417) (by decide +kernel)) rfl
theorem q1066 : Cond.code ⟨"EbbWreck$Pushing", "placeIn", "(II)I"⟩ prog_6_method_3_code 2 (some .int) ∈ lw_g := mg (List.mem_of_getElem? (i := 1066) (by decide +kernel)) rfl
theorem q1065 : Cond.static ⟨"EbbWreck$Pushing", "placeIn", "(II)I"⟩ ∈ lw_g := mg (List.mem_of_getElem? (i := 1065) (by decide +kernel)) rfl
theorem q121 : Cond.initialized "EbbWreck$Pushing" ∈ lw_g := mg (List.mem_of_getElem? (i := 121) (by decide +kernel)) rfl
theorem q1064 : Cond.methodLink "EbbWreck$Pushing" 49 ⟨"EbbWreck$Pushing", "placeIn", "(II)I"⟩ ∈ lw_g := mg (List.mem_of_getElem? (i := 1064) (by decide +kernel)) rfl
theorem q280 : Cond.fieldLink "EbbWreck$Pushing" 62 "EbbWreck$Coast" "startCells" "[I" ∈ lw_g := mg (List.mem_of_getElem? (i := 280) (by decide +kernel)) rfl
theorem q285 : Cond.fieldLink "EbbWreck$Pushing" 65 "EbbWreck$Coast" "startHours" "[I" ∈ lw_g := mg (List.mem_of_getElem? (i := 285) (by decide +kernel)) rfl
theorem q1061 : Cond.code ⟨"EbbWreck$Pushing", "costBy", "(III)I"⟩ prog_6_method_4_code 7 (some .int) ∈ lw_g := mg (List.mem_of_getElem? (i := 1061) (by decide +kernel)) rfl
theorem q1060 : Cond.instanceMethod ⟨"EbbWreck$Pushing", "costBy", "(III)I"⟩ ∈ lw_g := mg (List.mem_of_getElem? (i := 1060) (by decide +kernel)) rfl
theorem q25 : Cond.selects "EbbWreck$Pushing" ⟨"EbbWreck$Pushing", "costBy", "(III)I"⟩ ⟨"EbbWreck$Pushing", "costBy", "(III)I"⟩ ∈ lw_g := mg (List.mem_of_getElem? (i := 25) (by decide +kernel)) rfl
theorem q1058 : Cond.methodLink "EbbWreck$Pushing" 39 ⟨"EbbWreck$Pushing", "costBy", "(III)I"⟩ ∈ lw_g := mg (List.mem_of_getElem? (i := 1058) (by decide +kernel)) rfl
theorem q241 : Cond.fieldLink "EbbWreck$Pushing" 34 "EbbWreck$Coast" "cells" "I" ∈ lw_g := mg (List.mem_of_getElem? (i := 241) (by decide +kernel)) rfl
theorem q435 : Cond.fieldLink "EbbWreck$Throwing" 18 "EbbWreck$Throwing" "coast" "LEbbWreck$Coast;" ∈ lw_g := mg (List.mem_of_getElem? (i := 435) (by decide +kernel)) rfl
theorem q252 : Cond.fieldLink "EbbWreck$Throwing" 22 "EbbWreck$Coast" "tide" "LEbbWreck$Tide;" ∈ lw_g := mg (List.mem_of_getElem? (i := 252) (by decide +kernel)) rfl
theorem q164 : Cond.fieldLink "EbbWreck$Throwing" 28 "EbbWreck$Tide" "round" "I" ∈ lw_g := mg (List.mem_of_getElem? (i := 164) (by decide +kernel)) rfl
theorem q240 : Cond.fieldLink "EbbWreck$Throwing" 34 "EbbWreck$Coast" "cells" "I" ∈ lw_g := mg (List.mem_of_getElem? (i := 240) (by decide +kernel)) rfl
theorem q1125 : Cond.methodLink "EbbWreck$Throwing" 37 ⟨"EbbWreck$Coast", "drifted", "(II)I"⟩ ∈ lw_g := mg (List.mem_of_getElem? (i := 1125) (by decide +kernel)) rfl
theorem q1126 : Cond.methodLink "EbbWreck$Throwing" 41 ⟨"EbbWreck$Coast", "isBeach", "(I)Z"⟩ ∈ lw_g := mg (List.mem_of_getElem? (i := 1126) (by decide +kernel)) rfl
theorem q436 : Cond.fieldLink "EbbWreck$Throwing" 9 "EbbWreck$Throwing" "fates" "[I" ∈ lw_g := mg (List.mem_of_getElem? (i := 436) (by decide +kernel)) rfl
theorem q437 : Cond.fieldLink "EbbWreck$Throwing" 15 "EbbWreck$Throwing" "laterFates" "[I" ∈ lw_g := mg (List.mem_of_getElem? (i := 437) (by decide +kernel)) rfl
theorem q1148 : Cond.methodLink "EbbWreck$Throwing" 51 ⟨"java/lang/System", "arraycopy", "(Ljava/lang/Object;ILjava/lang/Object;II)V"⟩ ∈ lw_g := mg (List.mem_of_getElem? (i := 1148) (by decide +kernel)) rfl
theorem q1149 : Cond.methodLink "EbbWreck$Throwing" 57 ⟨"EbbWreck$Coast", "ownerIn", "(III)I"⟩ ∈ lw_g := mg (List.mem_of_getElem? (i := 1149) (by decide +kernel)) rfl
theorem q877 : Cond.code ⟨"EbbWreck", "isTideHour", "(I)Z"⟩ prog_1_method_17_code 2 (some .boolean) ∈ lw_g := mg (List.mem_of_getElem? (i := 877) (by decide +kernel)) rfl
theorem q876 : Cond.instanceMethod ⟨"EbbWreck", "isTideHour", "(I)Z"⟩ ∈ lw_g := mg (List.mem_of_getElem? (i := 876) (by decide +kernel)) rfl
theorem q19 : Cond.selects "EbbWreck" ⟨"EbbWreck", "isTideHour", "(I)Z"⟩ ⟨"EbbWreck", "isTideHour", "(I)Z"⟩ ∈ lw_g := mg (List.mem_of_getElem? (i := 19) (by decide +kernel)) rfl
theorem q874 : Cond.methodLink "EbbWreck" 219 ⟨"EbbWreck", "isTideHour", "(I)Z"⟩ ∈ lw_g := mg (List.mem_of_getElem? (i := 874) (by decide +kernel)) rfl
theorem q254 : Cond.fieldLink "EbbWreck" 172 "EbbWreck$Coast" "tide" "LEbbWreck$Tide;" ∈ lw_g := mg (List.mem_of_getElem? (i := 254) (by decide +kernel)) rfl
theorem q886 : Cond.methodLink "EbbWreck" 222 ⟨"EbbWreck$Tide", "phaseOf", "(I)I"⟩ ∈ lw_g := mg (List.mem_of_getElem? (i := 886) (by decide +kernel)) rfl
theorem q891 : Cond.constant "EbbWreck" 229 1000000000 ∈ lw_g := mg (List.mem_of_getElem? (i := 891) (by decide +kernel)) rfl
theorem q894 : Cond.code ⟨"EbbWreck", "isPhase", "(I)Z"⟩ prog_1_method_19_code 1 (some .boolean) ∈ lw_g := mg (List.mem_of_getElem? (i := 894) (by decide +kernel)) rfl
theorem q893 : Cond.static ⟨"EbbWreck", "isPhase", "(I)Z"⟩ ∈ lw_g := mg (List.mem_of_getElem? (i := 893) (by decide +kernel)) rfl
theorem q892 : Cond.methodLink "EbbWreck" 234 ⟨"EbbWreck", "isPhase", "(I)Z"⟩ ∈ lw_g := mg (List.mem_of_getElem? (i := 892) (by decide +kernel)) rfl
theorem q898 : Cond.code ⟨"EbbWreck$Tide", "firstOf", "(II)I"⟩ prog_12_method_6_code 4 (some .int) ∈ lw_g := mg (List.mem_of_getElem? (i := 898) (by decide +kernel)) rfl
theorem q896 : Cond.instanceMethod ⟨"EbbWreck$Tide", "firstOf", "(II)I"⟩ ∈ lw_g := mg (List.mem_of_getElem? (i := 896) (by decide +kernel)) rfl
theorem q897 : Cond.selects "EbbWreck$Tide" ⟨"EbbWreck$Tide", "firstOf", "(II)I"⟩ ⟨"EbbWreck$Tide", "firstOf", "(II)I"⟩ ∈ lw_g := mg (List.mem_of_getElem? (i := 897) (by decide +kernel)) rfl
theorem q895 : Cond.methodLink "EbbWreck" 237 ⟨"EbbWreck$Tide", "firstOf", "(II)I"⟩ ∈ lw_g := mg (List.mem_of_getElem? (i := 895) (by decide +kernel)) rfl
theorem q907 : Cond.code ⟨"EbbWreck$Tide", "hoursLeft", "(I)I"⟩ prog_12_method_4_code 3 (some .int) ∈ lw_g := mg (List.mem_of_getElem? (i := 907) (by decide +kernel)) rfl
theorem q905 : Cond.instanceMethod ⟨"EbbWreck$Tide", "hoursLeft", "(I)I"⟩ ∈ lw_g := mg (List.mem_of_getElem? (i := 905) (by decide +kernel)) rfl
theorem q906 : Cond.selects "EbbWreck$Tide" ⟨"EbbWreck$Tide", "hoursLeft", "(I)I"⟩ ⟨"EbbWreck$Tide", "hoursLeft", "(I)I"⟩ ∈ lw_g := mg (List.mem_of_getElem? (i := 906) (by decide +kernel)) rfl
theorem q904 : Cond.methodLink "EbbWreck" 241 ⟨"EbbWreck$Tide", "hoursLeft", "(I)I"⟩ ∈ lw_g := mg (List.mem_of_getElem? (i := 904) (by decide +kernel)) rfl
theorem q915 : Cond.code ⟨"EbbWreck$Tide", "slackHoursAhead", "(I)I"⟩ prog_12_method_5_code 5 (some .int) ∈ lw_g := mg (List.mem_of_getElem? (i := 915) (by decide +kernel)) rfl
theorem q913 : Cond.instanceMethod ⟨"EbbWreck$Tide", "slackHoursAhead", "(I)I"⟩ ∈ lw_g := mg (List.mem_of_getElem? (i := 913) (by decide +kernel)) rfl
theorem q914 : Cond.selects "EbbWreck$Tide" ⟨"EbbWreck$Tide", "slackHoursAhead", "(I)I"⟩ ⟨"EbbWreck$Tide", "slackHoursAhead", "(I)I"⟩ ∈ lw_g := mg (List.mem_of_getElem? (i := 914) (by decide +kernel)) rfl
theorem q912 : Cond.methodLink "EbbWreck" 244 ⟨"EbbWreck$Tide", "slackHoursAhead", "(I)I"⟩ ∈ lw_g := mg (List.mem_of_getElem? (i := 912) (by decide +kernel)) rfl
theorem q826 : Cond.code ⟨"EbbWreck$Coast", "hasCell", "(I)Z"⟩ prog_3_method_5_code 2 (some .boolean) ∈ lw_g := mg (List.mem_of_getElem? (i := 826) (by decide +kernel)) rfl
theorem q824 : Cond.instanceMethod ⟨"EbbWreck$Coast", "hasCell", "(I)Z"⟩ ∈ lw_g := mg (List.mem_of_getElem? (i := 824) (by decide +kernel)) rfl
theorem q825 : Cond.selects "EbbWreck$Coast" ⟨"EbbWreck$Coast", "hasCell", "(I)Z"⟩ ⟨"EbbWreck$Coast", "hasCell", "(I)Z"⟩ ∈ lw_g := mg (List.mem_of_getElem? (i := 825) (by decide +kernel)) rfl
theorem q823 : Cond.methodLink "EbbWreck" 116 ⟨"EbbWreck$Coast", "hasCell", "(I)Z"⟩ ∈ lw_g := mg (List.mem_of_getElem? (i := 823) (by decide +kernel)) rfl
theorem q258 : Cond.fieldLink "EbbWreck" 120 "EbbWreck$Coast" "floodSteps" "[I" ∈ lw_g := mg (List.mem_of_getElem? (i := 258) (by decide +kernel)) rfl
theorem q261 : Cond.fieldLink "EbbWreck" 124 "EbbWreck$Coast" "ebbSteps" "[I" ∈ lw_g := mg (List.mem_of_getElem? (i := 261) (by decide +kernel)) rfl
theorem q827 : Cond.methodLink "EbbWreck" 127 ⟨"EbbWreck$Coast", "isBeach", "(I)Z"⟩ ∈ lw_g := mg (List.mem_of_getElem? (i := 827) (by decide +kernel)) rfl
theorem q276 : Cond.fieldLink "EbbWreck" 133 "EbbWreck$Coast" "worths" "[I" ∈ lw_g := mg (List.mem_of_getElem? (i := 276) (by decide +kernel)) rfl
theorem q282 : Cond.fieldLink "EbbWreck" 136 "EbbWreck$Coast" "startCells" "[I" ∈ lw_g := mg (List.mem_of_getElem? (i := 282) (by decide +kernel)) rfl
theorem q287 : Cond.fieldLink "EbbWreck" 139 "EbbWreck$Coast" "startHours" "[I" ∈ lw_g := mg (List.mem_of_getElem? (i := 287) (by decide +kernel)) rfl
theorem q290 : Cond.fieldLink "EbbWreck" 142 "EbbWreck$Coast" "rules" "LEbbWreck$RuleBook;" ∈ lw_g := mg (List.mem_of_getElem? (i := 290) (by decide +kernel)) rfl
theorem q843 : Cond.code ⟨"EbbWreck$RuleBook", "hasRule", "(I)Z"⟩ prog_8_method_3_code 2 (some .boolean) ∈ lw_g := mg (List.mem_of_getElem? (i := 843) (by decide +kernel)) rfl
theorem q841 : Cond.instanceMethod ⟨"EbbWreck$RuleBook", "hasRule", "(I)Z"⟩ ∈ lw_g := mg (List.mem_of_getElem? (i := 841) (by decide +kernel)) rfl
theorem q842 : Cond.selects "EbbWreck$RuleBook" ⟨"EbbWreck$RuleBook", "hasRule", "(I)Z"⟩ ⟨"EbbWreck$RuleBook", "hasRule", "(I)Z"⟩ ∈ lw_g := mg (List.mem_of_getElem? (i := 842) (by decide +kernel)) rfl
theorem q840 : Cond.methodLink "EbbWreck" 146 ⟨"EbbWreck$RuleBook", "hasRule", "(I)Z"⟩ ∈ lw_g := mg (List.mem_of_getElem? (i := 840) (by decide +kernel)) rfl
theorem q190 : Cond.fieldLink "EbbWreck" 151 "EbbWreck$RuleBook" "firstCells" "[I" ∈ lw_g := mg (List.mem_of_getElem? (i := 190) (by decide +kernel)) rfl
theorem q192 : Cond.fieldLink "EbbWreck" 154 "EbbWreck$RuleBook" "lastCells" "[I" ∈ lw_g := mg (List.mem_of_getElem? (i := 192) (by decide +kernel)) rfl
theorem q194 : Cond.fieldLink "EbbWreck" 157 "EbbWreck$RuleBook" "phaseBits" "[I" ∈ lw_g := mg (List.mem_of_getElem? (i := 194) (by decide +kernel)) rfl
theorem q196 : Cond.fieldLink "EbbWreck" 160 "EbbWreck$RuleBook" "parties" "[I" ∈ lw_g := mg (List.mem_of_getElem? (i := 196) (by decide +kernel)) rfl
theorem q851 : Cond.code ⟨"EbbWreck$Coast", "hasSitter", "(I)Z"⟩ prog_3_method_7_code 2 (some .boolean) ∈ lw_g := mg (List.mem_of_getElem? (i := 851) (by decide +kernel)) rfl
theorem q849 : Cond.instanceMethod ⟨"EbbWreck$Coast", "hasSitter", "(I)Z"⟩ ∈ lw_g := mg (List.mem_of_getElem? (i := 849) (by decide +kernel)) rfl
theorem q850 : Cond.selects "EbbWreck$Coast" ⟨"EbbWreck$Coast", "hasSitter", "(I)Z"⟩ ⟨"EbbWreck$Coast", "hasSitter", "(I)Z"⟩ ∈ lw_g := mg (List.mem_of_getElem? (i := 850) (by decide +kernel)) rfl
theorem q848 : Cond.methodLink "EbbWreck" 163 ⟨"EbbWreck$Coast", "hasSitter", "(I)Z"⟩ ∈ lw_g := mg (List.mem_of_getElem? (i := 848) (by decide +kernel)) rfl
theorem q299 : Cond.fieldLink "EbbWreck" 166 "EbbWreck$Coast" "seatCells" "[I" ∈ lw_g := mg (List.mem_of_getElem? (i := 299) (by decide +kernel)) rfl
theorem q519 : Cond.fieldLink "EbbWreck" 20 "EbbWreck" "faultPlace" "I" ∈ lw_g := mg (List.mem_of_getElem? (i := 519) (by decide +kernel)) rfl
theorem q518 : Cond.fieldLink "EbbWreck" 17 "EbbWreck" "faultKind" "I" ∈ lw_g := mg (List.mem_of_getElem? (i := 518) (by decide +kernel)) rfl
theorem q517 : Cond.fieldLink "EbbWreck" 13 "EbbWreck" "tapeSize" "I" ∈ lw_g := mg (List.mem_of_getElem? (i := 517) (by decide +kernel)) rfl
theorem q525 : Cond.fieldLink "EbbWreck" 55 "EbbWreck" "drift" "LEbbWreck$Drift;" ∈ lw_g := mg (List.mem_of_getElem? (i := 525) (by decide +kernel)) rfl
theorem q381 : Cond.fieldLink "EbbWreck" 254 "EbbWreck$Drift" "upHours" "[I" ∈ lw_g := mg (List.mem_of_getElem? (i := 381) (by decide +kernel)) rfl
theorem q383 : Cond.fieldLink "EbbWreck" 257 "EbbWreck$Drift" "upCells" "[I" ∈ lw_g := mg (List.mem_of_getElem? (i := 383) (by decide +kernel)) rfl
theorem q943 : Cond.methodLink "EbbWreck" 260 ⟨"EbbWreck$Drift", "ownerOf", "(III)I"⟩ ∈ lw_g := mg (List.mem_of_getElem? (i := 943) (by decide +kernel)) rfl
theorem q970 : Cond.code ⟨"EbbWreck$Drift", "worthOf", "(III)I"⟩ prog_4_method_10_code 6 (some .int) ∈ lw_g := mg (List.mem_of_getElem? (i := 970) (by decide +kernel)) rfl
theorem q968 : Cond.instanceMethod ⟨"EbbWreck$Drift", "worthOf", "(III)I"⟩ ∈ lw_g := mg (List.mem_of_getElem? (i := 968) (by decide +kernel)) rfl
theorem q969 : Cond.selects "EbbWreck$Drift" ⟨"EbbWreck$Drift", "worthOf", "(III)I"⟩ ⟨"EbbWreck$Drift", "worthOf", "(III)I"⟩ ∈ lw_g := mg (List.mem_of_getElem? (i := 969) (by decide +kernel)) rfl
theorem q967 : Cond.methodLink "EbbWreck" 267 ⟨"EbbWreck$Drift", "worthOf", "(III)I"⟩ ∈ lw_g := mg (List.mem_of_getElem? (i := 967) (by decide +kernel)) rfl
theorem q979 : Cond.code ⟨"EbbWreck$Drift", "thingsUpOn", "(I)I"⟩ prog_4_method_11_code 4 (some .int) ∈ lw_g := mg (List.mem_of_getElem? (i := 979) (by decide +kernel)) rfl
theorem q977 : Cond.instanceMethod ⟨"EbbWreck$Drift", "thingsUpOn", "(I)I"⟩ ∈ lw_g := mg (List.mem_of_getElem? (i := 977) (by decide +kernel)) rfl
theorem q978 : Cond.selects "EbbWreck$Drift" ⟨"EbbWreck$Drift", "thingsUpOn", "(I)I"⟩ ⟨"EbbWreck$Drift", "thingsUpOn", "(I)I"⟩ ∈ lw_g := mg (List.mem_of_getElem? (i := 978) (by decide +kernel)) rfl
theorem q976 : Cond.methodLink "EbbWreck" 270 ⟨"EbbWreck$Drift", "thingsUpOn", "(I)I"⟩ ∈ lw_g := mg (List.mem_of_getElem? (i := 976) (by decide +kernel)) rfl
theorem q1004 : Cond.code ⟨"EbbWreck$Drift", "arguedThings", "()I"⟩ prog_4_method_12_code 3 (some .int) ∈ lw_g := mg (List.mem_of_getElem? (i := 1004) (by decide +kernel)) rfl
theorem q1002 : Cond.instanceMethod ⟨"EbbWreck$Drift", "arguedThings", "()I"⟩ ∈ lw_g := mg (List.mem_of_getElem? (i := 1002) (by decide +kernel)) rfl
theorem q1003 : Cond.selects "EbbWreck$Drift" ⟨"EbbWreck$Drift", "arguedThings", "()I"⟩ ⟨"EbbWreck$Drift", "arguedThings", "()I"⟩ ∈ lw_g := mg (List.mem_of_getElem? (i := 1003) (by decide +kernel)) rfl
theorem q1001 : Cond.methodLink "EbbWreck" 276 ⟨"EbbWreck$Drift", "arguedThings", "()I"⟩ ∈ lw_g := mg (List.mem_of_getElem? (i := 1001) (by decide +kernel)) rfl
theorem q244 : Cond.fieldLink "EbbWreck" 169 "EbbWreck$Coast" "cells" "I" ∈ lw_g := mg (List.mem_of_getElem? (i := 244) (by decide +kernel)) rfl
theorem q1019 : Cond.methodLink "EbbWreck" 279 ⟨"EbbWreck$RuleBook", "decider", "(III)I"⟩ ∈ lw_g := mg (List.mem_of_getElem? (i := 1019) (by decide +kernel)) rfl
theorem q188 : Cond.fieldLink "EbbWreck" 202 "EbbWreck$RuleBook" "size" "I" ∈ lw_g := mg (List.mem_of_getElem? (i := 188) (by decide +kernel)) rfl
theorem q859 : Cond.constant "java/lang/Integer" 265 1431655765 ∈ lw_g := mg (List.mem_of_getElem? (i := 859) (by decide +kernel)) rfl
theorem q860 : Cond.constant "java/lang/Integer" 266 858993459 ∈ lw_g := mg (List.mem_of_getElem? (i := 860) (by decide +kernel)) rfl
theorem q861 : Cond.constant "java/lang/Integer" 267 252645135 ∈ lw_g := mg (List.mem_of_getElem? (i := 861) (by decide +kernel)) rfl
theorem q483 : Cond.fieldLink "EbbWreck$Slots" 20 "EbbWreck$Slots" "sizes" "[I" ∈ lw_g := mg (List.mem_of_getElem? (i := 483) (by decide +kernel)) rfl
theorem q869 : Cond.code ⟨"EbbWreck$Slots", "hasRow", "(I)Z"⟩ prog_10_method_3_code 2 (some .boolean) ∈ lw_g := mg (List.mem_of_getElem? (i := 869) (by decide +kernel)) rfl
theorem q867 : Cond.instanceMethod ⟨"EbbWreck$Slots", "hasRow", "(I)Z"⟩ ∈ lw_g := mg (List.mem_of_getElem? (i := 867) (by decide +kernel)) rfl
theorem q868 : Cond.selects "EbbWreck$Slots" ⟨"EbbWreck$Slots", "hasRow", "(I)Z"⟩ ⟨"EbbWreck$Slots", "hasRow", "(I)Z"⟩ ∈ lw_g := mg (List.mem_of_getElem? (i := 868) (by decide +kernel)) rfl
theorem q124 : Cond.initialized "EbbWreck$Slots" ∈ lw_g := mg (List.mem_of_getElem? (i := 124) (by decide +kernel)) rfl
theorem q866 : Cond.methodLink "EbbWreck$Slots" 29 ⟨"EbbWreck$Slots", "hasRow", "(I)Z"⟩ ∈ lw_g := mg (List.mem_of_getElem? (i := 866) (by decide +kernel)) rfl
theorem q481 : Cond.fieldLink "EbbWreck$Slots" 16 "EbbWreck$Slots" "widths" "[I" ∈ lw_g := mg (List.mem_of_getElem? (i := 481) (by decide +kernel)) rfl
theorem q478 : Cond.fieldLink "EbbWreck$Slots" 11 "EbbWreck$Slots" "numbers" "[[J" ∈ lw_g := mg (List.mem_of_getElem? (i := 478) (by decide +kernel)) rfl
theorem q1440 : Cond.code ⟨"java/util/Arrays", "fill", "([JJ)V"⟩ prog_21_method_101_code 5 none ∈ lw_g := mg (List.mem_of_getElem? (i := 1440) (by decide +kernel)) rfl
theorem q1439 : Cond.static ⟨"java/util/Arrays", "fill", "([JJ)V"⟩ ∈ lw_g := mg (List.mem_of_getElem? (i := 1439) (by decide +kernel)) rfl
theorem q125 : Cond.initialized "java/util/Arrays" ∈ lw_g := mg (List.mem_of_getElem? (i := 125) (by decide +kernel)) rfl
theorem q1438 : Cond.methodLink "EbbWreck$Slots" 33 ⟨"java/util/Arrays", "fill", "([JJ)V"⟩ ∈ lw_g := mg (List.mem_of_getElem? (i := 1438) (by decide +kernel)) rfl
theorem q1452 : Cond.code ⟨"EbbWreck$Slots", "cut", "(JI)J"⟩ prog_10_method_7_code 3 (some .long) ∈ lw_g := mg (List.mem_of_getElem? (i := 1452) (by decide +kernel)) rfl
theorem q1451 : Cond.static ⟨"EbbWreck$Slots", "cut", "(JI)J"⟩ ∈ lw_g := mg (List.mem_of_getElem? (i := 1451) (by decide +kernel)) rfl
theorem q1450 : Cond.methodLink "EbbWreck$Slots" 36 ⟨"EbbWreck$Slots", "cut", "(JI)J"⟩ ∈ lw_g := mg (List.mem_of_getElem? (i := 1450) (by decide +kernel)) rfl
theorem q1201 : Cond.code ⟨"EbbWreck$Slots", "isSlot", "(I)Z"⟩ prog_10_method_2_code 1 (some .boolean) ∈ lw_g := mg (List.mem_of_getElem? (i := 1201) (by decide +kernel)) rfl
theorem q1200 : Cond.static ⟨"EbbWreck$Slots", "isSlot", "(I)Z"⟩ ∈ lw_g := mg (List.mem_of_getElem? (i := 1200) (by decide +kernel)) rfl
theorem q1433 : Cond.methodLink "EbbWreck" 389 ⟨"EbbWreck$Slots", "isSlot", "(I)Z"⟩ ∈ lw_g := mg (List.mem_of_getElem? (i := 1433) (by decide +kernel)) rfl
theorem q529 : Cond.fieldLink "EbbWreck" 85 "EbbWreck" "slots" "LEbbWreck$Slots;" ∈ lw_g := mg (List.mem_of_getElem? (i := 529) (by decide +kernel)) rfl
theorem q1437 : Cond.code ⟨"EbbWreck$Slots", "lay", "(III)V"⟩ prog_10_method_5_code 4 none ∈ lw_g := mg (List.mem_of_getElem? (i := 1437) (by decide +kernel)) rfl
theorem q1435 : Cond.instanceMethod ⟨"EbbWreck$Slots", "lay", "(III)V"⟩ ∈ lw_g := mg (List.mem_of_getElem? (i := 1435) (by decide +kernel)) rfl
theorem q1436 : Cond.selects "EbbWreck$Slots" ⟨"EbbWreck$Slots", "lay", "(III)V"⟩ ⟨"EbbWreck$Slots", "lay", "(III)V"⟩ ∈ lw_g := mg (List.mem_of_getElem? (i := 1436) (by decide +kernel)) rfl
theorem q1434 : Cond.methodLink "EbbWreck" 392 ⟨"EbbWreck$Slots", "lay", "(III)V"⟩ ∈ lw_g := mg (List.mem_of_getElem? (i := 1434) (by decide +kernel)) rfl
theorem q1445 : Cond.methodLink "EbbWreck" 395 ⟨"EbbWreck$Slots", "hasRow", "(I)Z"⟩ ∈ lw_g := mg (List.mem_of_getElem? (i := 1445) (by decide +kernel)) rfl
theorem q485 : Cond.fieldLink "EbbWreck" 398 "EbbWreck$Slots" "sizes" "[I" ∈ lw_g := mg (List.mem_of_getElem? (i := 485) (by decide +kernel)) rfl
theorem q1449 : Cond.code ⟨"EbbWreck$Slots", "put", "(IIJ)V"⟩ prog_10_method_6_code 5 none ∈ lw_g := mg (List.mem_of_getElem? (i := 1449) (by decide +kernel)) rfl
theorem q1447 : Cond.instanceMethod ⟨"EbbWreck$Slots", "put", "(IIJ)V"⟩ ∈ lw_g := mg (List.mem_of_getElem? (i := 1447) (by decide +kernel)) rfl
theorem q1448 : Cond.selects "EbbWreck$Slots" ⟨"EbbWreck$Slots", "put", "(IIJ)V"⟩ ⟨"EbbWreck$Slots", "put", "(IIJ)V"⟩ ∈ lw_g := mg (List.mem_of_getElem? (i := 1448) (by decide +kernel)) rfl
theorem q1446 : Cond.methodLink "EbbWreck" 401 ⟨"EbbWreck$Slots", "put", "(IIJ)V"⟩ ∈ lw_g := mg (List.mem_of_getElem? (i := 1446) (by decide +kernel)) rfl
theorem q482 : Cond.fieldLink "EbbWreck" 405 "EbbWreck$Slots" "widths" "[I" ∈ lw_g := mg (List.mem_of_getElem? (i := 482) (by decide +kernel)) rfl
theorem q1460 : Cond.code ⟨"EbbWreck$Slots", "holds", "(III)Z"⟩ prog_10_method_8_code 4 (some .boolean) ∈ lw_g := mg (List.mem_of_getElem? (i := 1460) (by decide +kernel)) rfl
theorem q1458 : Cond.instanceMethod ⟨"EbbWreck$Slots", "holds", "(III)Z"⟩ ∈ lw_g := mg (List.mem_of_getElem? (i := 1458) (by decide +kernel)) rfl
theorem q1459 : Cond.selects "EbbWreck$Slots" ⟨"EbbWreck$Slots", "holds", "(III)Z"⟩ ⟨"EbbWreck$Slots", "holds", "(III)Z"⟩ ∈ lw_g := mg (List.mem_of_getElem? (i := 1459) (by decide +kernel)) rfl
theorem q1457 : Cond.methodLink "EbbWreck" 408 ⟨"EbbWreck$Slots", "holds", "(III)Z"⟩ ∈ lw_g := mg (List.mem_of_getElem? (i := 1457) (by decide +kernel)) rfl
theorem q480 : Cond.fieldLink "EbbWreck" 412 "EbbWreck$Slots" "numbers" "[[J" ∈ lw_g := mg (List.mem_of_getElem? (i := 480) (by decide +kernel)) rfl
theorem q1461 : Cond.methodLink "EbbWreck" 416 ⟨"java/lang/System", "arraycopy", "(Ljava/lang/Object;ILjava/lang/Object;II)V"⟩ ∈ lw_g := mg (List.mem_of_getElem? (i := 1461) (by decide +kernel)) rfl
theorem q516 : Cond.fieldLink "EbbWreck" 9 "EbbWreck" "tape" "[B" ∈ lw_g := mg (List.mem_of_getElem? (i := 516) (by decide +kernel)) rfl
theorem q569 : Cond.code ⟨"EbbWreck", "putNumber", "(I)V"⟩ prog_1_method_3_code 3 none ∈ lw_g := mg (List.mem_of_getElem? (i := 569) (by decide +kernel)) rfl
theorem q568 : Cond.instanceMethod ⟨"EbbWreck", "putNumber", "(I)V"⟩ ∈ lw_g := mg (List.mem_of_getElem? (i := 568) (by decide +kernel)) rfl
theorem q0 : Cond.selects "EbbWreck" ⟨"EbbWreck", "putNumber", "(I)V"⟩ ⟨"EbbWreck", "putNumber", "(I)V"⟩ ∈ lw_g := mg (List.mem_of_getElem? (i := 0) (by decide +kernel)) rfl
theorem q566 : Cond.methodLink "EbbWreck" 98 ⟨"EbbWreck", "putNumber", "(I)V"⟩ ∈ lw_g := mg (List.mem_of_getElem? (i := 566) (by decide +kernel)) rfl
theorem q157 : Cond.fieldLink "EbbWreck" 176 "EbbWreck$Tide" "flood" "I" ∈ lw_g := mg (List.mem_of_getElem? (i := 157) (by decide +kernel)) rfl
theorem q160 : Cond.fieldLink "EbbWreck" 181 "EbbWreck$Tide" "slack" "I" ∈ lw_g := mg (List.mem_of_getElem? (i := 160) (by decide +kernel)) rfl
theorem q163 : Cond.fieldLink "EbbWreck" 184 "EbbWreck$Tide" "ebb" "I" ∈ lw_g := mg (List.mem_of_getElem? (i := 163) (by decide +kernel)) rfl
theorem q249 : Cond.fieldLink "EbbWreck" 187 "EbbWreck$Coast" "odds" "I" ∈ lw_g := mg (List.mem_of_getElem? (i := 249) (by decide +kernel)) rfl
theorem q266 : Cond.fieldLink "EbbWreck" 190 "EbbWreck$Coast" "beachBits" "I" ∈ lw_g := mg (List.mem_of_getElem? (i := 266) (by decide +kernel)) rfl
theorem q858 : Cond.code ⟨"java/lang/Integer", "bitCount", "(I)I"⟩ prog_15_method_49_code 1 (some .int) ∈ lw_g := mg (List.mem_of_getElem? (i := 858) (by decide +kernel)) rfl
theorem q857 : Cond.static ⟨"java/lang/Integer", "bitCount", "(I)I"⟩ ∈ lw_g := mg (List.mem_of_getElem? (i := 857) (by decide +kernel)) rfl
theorem q134 : Cond.initialized "java/lang/Integer" ∈ lw_g := mg (List.mem_of_getElem? (i := 134) (by decide +kernel)) rfl
theorem q856 : Cond.methodLink "EbbWreck" 193 ⟨"java/lang/Integer", "bitCount", "(I)I"⟩ ∈ lw_g := mg (List.mem_of_getElem? (i := 856) (by decide +kernel)) rfl
theorem q272 : Cond.fieldLink "EbbWreck" 199 "EbbWreck$Coast" "things" "I" ∈ lw_g := mg (List.mem_of_getElem? (i := 272) (by decide +kernel)) rfl
theorem q295 : Cond.fieldLink "EbbWreck" 205 "EbbWreck$Coast" "sitters" "I" ∈ lw_g := mg (List.mem_of_getElem? (i := 295) (by decide +kernel)) rfl
theorem q303 : Cond.fieldLink "EbbWreck" 208 "EbbWreck$Coast" "acts" "LEbbWreck$Acts;" ∈ lw_g := mg (List.mem_of_getElem? (i := 303) (by decide +kernel)) rfl
theorem q218 : Cond.fieldLink "EbbWreck" 212 "EbbWreck$Acts" "size" "I" ∈ lw_g := mg (List.mem_of_getElem? (i := 218) (by decide +kernel)) rfl
theorem q238 : Cond.fieldLink "EbbWreck" 113 "EbbWreck$Coast" "lines" "I" ∈ lw_g := mg (List.mem_of_getElem? (i := 238) (by decide +kernel)) rfl
theorem q865 : Cond.code ⟨"EbbWreck$Slots", "filled", "()I"⟩ prog_10_method_4_code 3 (some .int) ∈ lw_g := mg (List.mem_of_getElem? (i := 865) (by decide +kernel)) rfl
theorem q863 : Cond.instanceMethod ⟨"EbbWreck$Slots", "filled", "()I"⟩ ∈ lw_g := mg (List.mem_of_getElem? (i := 863) (by decide +kernel)) rfl
theorem q864 : Cond.selects "EbbWreck$Slots" ⟨"EbbWreck$Slots", "filled", "()I"⟩ ⟨"EbbWreck$Slots", "filled", "()I"⟩ ∈ lw_g := mg (List.mem_of_getElem? (i := 864) (by decide +kernel)) rfl
theorem q862 : Cond.methodLink "EbbWreck" 215 ⟨"EbbWreck$Slots", "filled", "()I"⟩ ∈ lw_g := mg (List.mem_of_getElem? (i := 862) (by decide +kernel)) rfl
theorem q477 : Cond.code ⟨"java/util/Arrays", "fill", "([II)V"⟩ prog_21_method_103_code 4 none ∈ lw_g := mg (List.mem_of_getElem? (i := 477) (by decide +kernel)) rfl
theorem q476 : Cond.static ⟨"java/util/Arrays", "fill", "([II)V"⟩ ∈ lw_g := mg (List.mem_of_getElem? (i := 476) (by decide +kernel)) rfl
theorem q1143 : Cond.methodLink "EbbWreck$Throwing" 45 ⟨"java/util/Arrays", "fill", "([II)V"⟩ ∈ lw_g := mg (List.mem_of_getElem? (i := 1143) (by decide +kernel)) rfl
theorem q1142 : Cond.code ⟨"EbbWreck$Throwing", "startFates", "()V"⟩ prog_11_method_3_code 1 none ∈ lw_g := mg (List.mem_of_getElem? (i := 1142) (by decide +kernel)) rfl
theorem q1141 : Cond.instanceMethod ⟨"EbbWreck$Throwing", "startFates", "()V"⟩ ∈ lw_g := mg (List.mem_of_getElem? (i := 1141) (by decide +kernel)) rfl
theorem q31 : Cond.selects "EbbWreck$Throwing" ⟨"EbbWreck$Throwing", "startFates", "()V"⟩ ⟨"EbbWreck$Throwing", "startFates", "()V"⟩ ∈ lw_g := mg (List.mem_of_getElem? (i := 31) (by decide +kernel)) rfl
theorem q122 : Cond.initialized "EbbWreck$Throwing" ∈ lw_g := mg (List.mem_of_getElem? (i := 122) (by decide +kernel)) rfl
theorem q1139 : Cond.methodLink "EbbWreck$Throwing" 61 ⟨"EbbWreck$Throwing", "startFates", "()V"⟩ ∈ lw_g := mg (List.mem_of_getElem? (i := 1139) (by decide +kernel)) rfl
theorem q1147 : Cond.code ⟨"EbbWreck$Throwing", "stepFates", "(I)V"⟩ prog_11_method_4_code 4 none ∈ lw_g := mg (List.mem_of_getElem? (i := 1147) (by decide +kernel)) rfl
theorem q1146 : Cond.instanceMethod ⟨"EbbWreck$Throwing", "stepFates", "(I)V"⟩ ∈ lw_g := mg (List.mem_of_getElem? (i := 1146) (by decide +kernel)) rfl
theorem q32 : Cond.selects "EbbWreck$Throwing" ⟨"EbbWreck$Throwing", "stepFates", "(I)V"⟩ ⟨"EbbWreck$Throwing", "stepFates", "(I)V"⟩ ∈ lw_g := mg (List.mem_of_getElem? (i := 32) (by decide +kernel)) rfl
theorem q1144 : Cond.methodLink "EbbWreck$Throwing" 64 ⟨"EbbWreck$Throwing", "stepFates", "(I)V"⟩ ∈ lw_g := mg (List.mem_of_getElem? (i := 1144) (by decide +kernel)) rfl
theorem q1138 : Cond.code ⟨"EbbWreck$Throwing", "findFates", "(I)V"⟩ prog_11_method_5_code 3 none ∈ lw_g := mg (List.mem_of_getElem? (i := 1138) (by decide +kernel)) rfl
theorem q1137 : Cond.instanceMethod ⟨"EbbWreck$Throwing", "findFates", "(I)V"⟩ ∈ lw_g := mg (List.mem_of_getElem? (i := 1137) (by decide +kernel)) rfl
theorem q30 : Cond.selects "EbbWreck$Throwing" ⟨"EbbWreck$Throwing", "findFates", "(I)V"⟩ ⟨"EbbWreck$Throwing", "findFates", "(I)V"⟩ ∈ lw_g := mg (List.mem_of_getElem? (i := 30) (by decide +kernel)) rfl
theorem q1135 : Cond.methodLink "EbbWreck$Throwing" 68 ⟨"EbbWreck$Throwing", "findFates", "(I)V"⟩ ∈ lw_g := mg (List.mem_of_getElem? (i := 1135) (by decide +kernel)) rfl
theorem q1153 : Cond.code ⟨"EbbWreck$Throwing", "cellsOf", "(I)I"⟩ prog_11_method_6_code 4 (some .int) ∈ lw_g := mg (List.mem_of_getElem? (i := 1153) (by decide +kernel)) rfl
theorem q1152 : Cond.instanceMethod ⟨"EbbWreck$Throwing", "cellsOf", "(I)I"⟩ ∈ lw_g := mg (List.mem_of_getElem? (i := 1152) (by decide +kernel)) rfl
theorem q33 : Cond.selects "EbbWreck$Throwing" ⟨"EbbWreck$Throwing", "cellsOf", "(I)I"⟩ ⟨"EbbWreck$Throwing", "cellsOf", "(I)I"⟩ ∈ lw_g := mg (List.mem_of_getElem? (i := 33) (by decide +kernel)) rfl
theorem q1150 : Cond.methodLink "EbbWreck$Throwing" 71 ⟨"EbbWreck$Throwing", "cellsOf", "(I)I"⟩ ∈ lw_g := mg (List.mem_of_getElem? (i := 1150) (by decide +kernel)) rfl
theorem q1170 : Cond.methodLink "EbbWreck$Throwing" 75 ⟨"java/lang/Integer", "bitCount", "(I)I"⟩ ∈ lw_g := mg (List.mem_of_getElem? (i := 1170) (by decide +kernel)) rfl
theorem q265 : Cond.fieldLink "EbbWreck$Throwing" 80 "EbbWreck$Coast" "beachBits" "I" ∈ lw_g := mg (List.mem_of_getElem? (i := 265) (by decide +kernel)) rfl
theorem q1182 : Cond.code ⟨"EbbWreck$Throwing", "cellsInto", "(II)I"⟩ prog_11_method_10_code 5 (some .int) ∈ lw_g := mg (List.mem_of_getElem? (i := 1182) (by decide +kernel)) rfl
theorem q1181 : Cond.instanceMethod ⟨"EbbWreck$Throwing", "cellsInto", "(II)I"⟩ ∈ lw_g := mg (List.mem_of_getElem? (i := 1181) (by decide +kernel)) rfl
theorem q34 : Cond.selects "EbbWreck$Throwing" ⟨"EbbWreck$Throwing", "cellsInto", "(II)I"⟩ ⟨"EbbWreck$Throwing", "cellsInto", "(II)I"⟩ ∈ lw_g := mg (List.mem_of_getElem? (i := 34) (by decide +kernel)) rfl
theorem q1179 : Cond.methodLink "EbbWreck$Throwing" 83 ⟨"EbbWreck$Throwing", "cellsInto", "(II)I"⟩ ∈ lw_g := mg (List.mem_of_getElem? (i := 1179) (by decide +kernel)) rfl
theorem q922 : Cond.methodLink "EbbWreck" 247 ⟨"EbbWreck$Coast", "drifted", "(II)I"⟩ ∈ lw_g := mg (List.mem_of_getElem? (i := 922) (by decide +kernel)) rfl
theorem q527 : Cond.fieldLink "EbbWreck" 69 "EbbWreck" "throwing" "LEbbWreck$Throwing;" ∈ lw_g := mg (List.mem_of_getElem? (i := 527) (by decide +kernel)) rfl
theorem q1124 : Cond.code ⟨"EbbWreck$Throwing", "tidesToReturn", "(I)I"⟩ prog_11_method_2_code 7 (some .int) ∈ lw_g := mg (List.mem_of_getElem? (i := 1124) (by decide +kernel)) rfl
theorem q1122 : Cond.instanceMethod ⟨"EbbWreck$Throwing", "tidesToReturn", "(I)I"⟩ ∈ lw_g := mg (List.mem_of_getElem? (i := 1122) (by decide +kernel)) rfl
theorem q1123 : Cond.selects "EbbWreck$Throwing" ⟨"EbbWreck$Throwing", "tidesToReturn", "(I)I"⟩ ⟨"EbbWreck$Throwing", "tidesToReturn", "(I)I"⟩ ∈ lw_g := mg (List.mem_of_getElem? (i := 1123) (by decide +kernel)) rfl
theorem q1121 : Cond.methodLink "EbbWreck" 298 ⟨"EbbWreck$Throwing", "tidesToReturn", "(I)I"⟩ ∈ lw_g := mg (List.mem_of_getElem? (i := 1121) (by decide +kernel)) rfl
theorem q1134 : Cond.code ⟨"EbbWreck$Throwing", "neverUp", "()I"⟩ prog_11_method_7_code 1 (some .int) ∈ lw_g := mg (List.mem_of_getElem? (i := 1134) (by decide +kernel)) rfl
theorem q1132 : Cond.instanceMethod ⟨"EbbWreck$Throwing", "neverUp", "()I"⟩ ∈ lw_g := mg (List.mem_of_getElem? (i := 1132) (by decide +kernel)) rfl
theorem q1133 : Cond.selects "EbbWreck$Throwing" ⟨"EbbWreck$Throwing", "neverUp", "()I"⟩ ⟨"EbbWreck$Throwing", "neverUp", "()I"⟩ ∈ lw_g := mg (List.mem_of_getElem? (i := 1133) (by decide +kernel)) rfl
theorem q1131 : Cond.methodLink "EbbWreck" 301 ⟨"EbbWreck$Throwing", "neverUp", "()I"⟩ ∈ lw_g := mg (List.mem_of_getElem? (i := 1131) (by decide +kernel)) rfl
theorem q1161 : Cond.code ⟨"EbbWreck$Throwing", "wonFrom", "(II)I"⟩ prog_11_method_8_code 3 (some .int) ∈ lw_g := mg (List.mem_of_getElem? (i := 1161) (by decide +kernel)) rfl
theorem q1159 : Cond.instanceMethod ⟨"EbbWreck$Throwing", "wonFrom", "(II)I"⟩ ∈ lw_g := mg (List.mem_of_getElem? (i := 1159) (by decide +kernel)) rfl
theorem q1160 : Cond.selects "EbbWreck$Throwing" ⟨"EbbWreck$Throwing", "wonFrom", "(II)I"⟩ ⟨"EbbWreck$Throwing", "wonFrom", "(II)I"⟩ ∈ lw_g := mg (List.mem_of_getElem? (i := 1160) (by decide +kernel)) rfl
theorem q1158 : Cond.methodLink "EbbWreck" 304 ⟨"EbbWreck$Throwing", "wonFrom", "(II)I"⟩ ∈ lw_g := mg (List.mem_of_getElem? (i := 1158) (by decide +kernel)) rfl
theorem q1169 : Cond.code ⟨"EbbWreck$Throwing", "bestHour", "(I)I"⟩ prog_11_method_9_code 6 (some .int) ∈ lw_g := mg (List.mem_of_getElem? (i := 1169) (by decide +kernel)) rfl
theorem q1167 : Cond.instanceMethod ⟨"EbbWreck$Throwing", "bestHour", "(I)I"⟩ ∈ lw_g := mg (List.mem_of_getElem? (i := 1167) (by decide +kernel)) rfl
theorem q1168 : Cond.selects "EbbWreck$Throwing" ⟨"EbbWreck$Throwing", "bestHour", "(I)I"⟩ ⟨"EbbWreck$Throwing", "bestHour", "(I)I"⟩ ∈ lw_g := mg (List.mem_of_getElem? (i := 1168) (by decide +kernel)) rfl
theorem q1166 : Cond.methodLink "EbbWreck" 307 ⟨"EbbWreck$Throwing", "bestHour", "(I)I"⟩ ∈ lw_g := mg (List.mem_of_getElem? (i := 1166) (by decide +kernel)) rfl
theorem q1178 : Cond.code ⟨"EbbWreck$Throwing", "cellsBehind", "(III)I"⟩ prog_11_method_11_code 7 (some .int) ∈ lw_g := mg (List.mem_of_getElem? (i := 1178) (by decide +kernel)) rfl
theorem q1176 : Cond.instanceMethod ⟨"EbbWreck$Throwing", "cellsBehind", "(III)I"⟩ ∈ lw_g := mg (List.mem_of_getElem? (i := 1176) (by decide +kernel)) rfl
theorem q1177 : Cond.selects "EbbWreck$Throwing" ⟨"EbbWreck$Throwing", "cellsBehind", "(III)I"⟩ ⟨"EbbWreck$Throwing", "cellsBehind", "(III)I"⟩ ∈ lw_g := mg (List.mem_of_getElem? (i := 1177) (by decide +kernel)) rfl
theorem q1175 : Cond.methodLink "EbbWreck" 310 ⟨"EbbWreck$Throwing", "cellsBehind", "(III)I"⟩ ∈ lw_g := mg (List.mem_of_getElem? (i := 1175) (by decide +kernel)) rfl
theorem q1190 : Cond.code ⟨"EbbWreck$Throwing", "latestThrow", "(III)I"⟩ prog_11_method_12_code 7 (some .int) ∈ lw_g := mg (List.mem_of_getElem? (i := 1190) (by decide +kernel)) rfl
theorem q1188 : Cond.instanceMethod ⟨"EbbWreck$Throwing", "latestThrow", "(III)I"⟩ ∈ lw_g := mg (List.mem_of_getElem? (i := 1188) (by decide +kernel)) rfl
theorem q1189 : Cond.selects "EbbWreck$Throwing" ⟨"EbbWreck$Throwing", "latestThrow", "(III)I"⟩ ⟨"EbbWreck$Throwing", "latestThrow", "(III)I"⟩ ∈ lw_g := mg (List.mem_of_getElem? (i := 1189) (by decide +kernel)) rfl
theorem q1187 : Cond.methodLink "EbbWreck" 313 ⟨"EbbWreck$Throwing", "latestThrow", "(III)I"⟩ ∈ lw_g := mg (List.mem_of_getElem? (i := 1187) (by decide +kernel)) rfl
theorem q1057 : Cond.methodLink "EbbWreck$Pushing" 28 ⟨"java/util/Arrays", "fill", "([II)V"⟩ ∈ lw_g := mg (List.mem_of_getElem? (i := 1057) (by decide +kernel)) rfl
theorem q1068 : Cond.methodLink "EbbWreck$Pushing" 43 ⟨"java/lang/Math", "min", "(II)I"⟩ ∈ lw_g := mg (List.mem_of_getElem? (i := 1068) (by decide +kernel)) rfl
theorem q1055 : Cond.code ⟨"EbbWreck$Pushing", "plan", "(IZI)V"⟩ prog_6_method_2_code 7 none ∈ lw_g := mg (List.mem_of_getElem? (i := 1055) (by decide +kernel)) rfl
theorem q1054 : Cond.instanceMethod ⟨"EbbWreck$Pushing", "plan", "(IZI)V"⟩ ∈ lw_g := mg (List.mem_of_getElem? (i := 1054) (by decide +kernel)) rfl
theorem q24 : Cond.selects "EbbWreck$Pushing" ⟨"EbbWreck$Pushing", "plan", "(IZI)V"⟩ ⟨"EbbWreck$Pushing", "plan", "(IZI)V"⟩ ∈ lw_g := mg (List.mem_of_getElem? (i := 24) (by decide +kernel)) rfl
theorem q1052 : Cond.methodLink "EbbWreck$Pushing" 68 ⟨"EbbWreck$Pushing", "plan", "(IZI)V"⟩ ∈ lw_g := mg (List.mem_of_getElem? (i := 1052) (by decide +kernel)) rfl
theorem q1072 : Cond.code ⟨"EbbWreck$Pushing", "costOf", "(I)I"⟩ prog_6_method_5_code 2 (some .int) ∈ lw_g := mg (List.mem_of_getElem? (i := 1072) (by decide +kernel)) rfl
theorem q1071 : Cond.instanceMethod ⟨"EbbWreck$Pushing", "costOf", "(I)I"⟩ ∈ lw_g := mg (List.mem_of_getElem? (i := 1071) (by decide +kernel)) rfl
theorem q26 : Cond.selects "EbbWreck$Pushing" ⟨"EbbWreck$Pushing", "costOf", "(I)I"⟩ ⟨"EbbWreck$Pushing", "costOf", "(I)I"⟩ ∈ lw_g := mg (List.mem_of_getElem? (i := 26) (by decide +kernel)) rfl
theorem q1069 : Cond.methodLink "EbbWreck$Pushing" 72 ⟨"EbbWreck$Pushing", "costOf", "(I)I"⟩ ∈ lw_g := mg (List.mem_of_getElem? (i := 1069) (by decide +kernel)) rfl
theorem q271 : Cond.fieldLink "EbbWreck$Pushing" 76 "EbbWreck$Coast" "things" "I" ∈ lw_g := mg (List.mem_of_getElem? (i := 271) (by decide +kernel)) rfl
theorem q1084 : Cond.code ⟨"EbbWreck$Pushing", "firstWay", "(II)I"⟩ prog_6_method_9_code 4 (some .int) ∈ lw_g := mg (List.mem_of_getElem? (i := 1084) (by decide +kernel)) rfl
theorem q1083 : Cond.instanceMethod ⟨"EbbWreck$Pushing", "firstWay", "(II)I"⟩ ∈ lw_g := mg (List.mem_of_getElem? (i := 1083) (by decide +kernel)) rfl
theorem q27 : Cond.selects "EbbWreck$Pushing" ⟨"EbbWreck$Pushing", "firstWay", "(II)I"⟩ ⟨"EbbWreck$Pushing", "firstWay", "(II)I"⟩ ∈ lw_g := mg (List.mem_of_getElem? (i := 27) (by decide +kernel)) rfl
theorem q1081 : Cond.methodLink "EbbWreck$Pushing" 79 ⟨"EbbWreck$Pushing", "firstWay", "(II)I"⟩ ∈ lw_g := mg (List.mem_of_getElem? (i := 1081) (by decide +kernel)) rfl
theorem q1100 : Cond.code ⟨"EbbWreck$Pushing", "reachedFrom", "(II)I"⟩ prog_6_method_11_code 5 (some .int) ∈ lw_g := mg (List.mem_of_getElem? (i := 1100) (by decide +kernel)) rfl
theorem q1099 : Cond.instanceMethod ⟨"EbbWreck$Pushing", "reachedFrom", "(II)I"⟩ ∈ lw_g := mg (List.mem_of_getElem? (i := 1099) (by decide +kernel)) rfl
theorem q28 : Cond.selects "EbbWreck$Pushing" ⟨"EbbWreck$Pushing", "reachedFrom", "(II)I"⟩ ⟨"EbbWreck$Pushing", "reachedFrom", "(II)I"⟩ ∈ lw_g := mg (List.mem_of_getElem? (i := 28) (by decide +kernel)) rfl
theorem q1097 : Cond.methodLink "EbbWreck$Pushing" 82 ⟨"EbbWreck$Pushing", "reachedFrom", "(II)I"⟩ ∈ lw_g := mg (List.mem_of_getElem? (i := 1097) (by decide +kernel)) rfl
theorem q264 : Cond.fieldLink "EbbWreck$Pushing" 85 "EbbWreck$Coast" "beachBits" "I" ∈ lw_g := mg (List.mem_of_getElem? (i := 264) (by decide +kernel)) rfl
theorem q1104 : Cond.code ⟨"EbbWreck$Pushing", "isWonBy", "(III)Z"⟩ prog_6_method_12_code 5 (some .boolean) ∈ lw_g := mg (List.mem_of_getElem? (i := 1104) (by decide +kernel)) rfl
theorem q1103 : Cond.instanceMethod ⟨"EbbWreck$Pushing", "isWonBy", "(III)Z"⟩ ∈ lw_g := mg (List.mem_of_getElem? (i := 1103) (by decide +kernel)) rfl
theorem q29 : Cond.selects "EbbWreck$Pushing" ⟨"EbbWreck$Pushing", "isWonBy", "(III)Z"⟩ ⟨"EbbWreck$Pushing", "isWonBy", "(III)Z"⟩ ∈ lw_g := mg (List.mem_of_getElem? (i := 29) (by decide +kernel)) rfl
theorem q1101 : Cond.methodLink "EbbWreck$Pushing" 88 ⟨"EbbWreck$Pushing", "isWonBy", "(III)Z"⟩ ∈ lw_g := mg (List.mem_of_getElem? (i := 1101) (by decide +kernel)) rfl
theorem q1047 : Cond.code ⟨"EbbWreck", "isWish", "(II)Z"⟩ prog_1_method_36_code 3 (some .boolean) ∈ lw_g := mg (List.mem_of_getElem? (i := 1047) (by decide +kernel)) rfl
theorem q1046 : Cond.instanceMethod ⟨"EbbWreck", "isWish", "(II)Z"⟩ ∈ lw_g := mg (List.mem_of_getElem? (i := 1046) (by decide +kernel)) rfl
theorem q23 : Cond.selects "EbbWreck" ⟨"EbbWreck", "isWish", "(II)Z"⟩ ⟨"EbbWreck", "isWish", "(II)Z"⟩ ∈ lw_g := mg (List.mem_of_getElem? (i := 23) (by decide +kernel)) rfl
theorem q1044 : Cond.methodLink "EbbWreck" 282 ⟨"EbbWreck", "isWish", "(II)Z"⟩ ∈ lw_g := mg (List.mem_of_getElem? (i := 1044) (by decide +kernel)) rfl
theorem q526 : Cond.fieldLink "EbbWreck" 62 "EbbWreck" "pushing" "LEbbWreck$Pushing;" ∈ lw_g := mg (List.mem_of_getElem? (i := 526) (by decide +kernel)) rfl
theorem q1051 : Cond.code ⟨"EbbWreck$Pushing", "fewest", "(IIZ)I"⟩ prog_6_method_6_code 5 (some .int) ∈ lw_g := mg (List.mem_of_getElem? (i := 1051) (by decide +kernel)) rfl
theorem q1049 : Cond.instanceMethod ⟨"EbbWreck$Pushing", "fewest", "(IIZ)I"⟩ ∈ lw_g := mg (List.mem_of_getElem? (i := 1049) (by decide +kernel)) rfl
theorem q1050 : Cond.selects "EbbWreck$Pushing" ⟨"EbbWreck$Pushing", "fewest", "(IIZ)I"⟩ ⟨"EbbWreck$Pushing", "fewest", "(IIZ)I"⟩ ∈ lw_g := mg (List.mem_of_getElem? (i := 1050) (by decide +kernel)) rfl
theorem q1048 : Cond.methodLink "EbbWreck" 285 ⟨"EbbWreck$Pushing", "fewest", "(IIZ)I"⟩ ∈ lw_g := mg (List.mem_of_getElem? (i := 1048) (by decide +kernel)) rfl
theorem q1080 : Cond.code ⟨"EbbWreck$Pushing", "markOf", "(III)I"⟩ prog_6_method_8_code 9 (some .int) ∈ lw_g := mg (List.mem_of_getElem? (i := 1080) (by decide +kernel)) rfl
theorem q1078 : Cond.instanceMethod ⟨"EbbWreck$Pushing", "markOf", "(III)I"⟩ ∈ lw_g := mg (List.mem_of_getElem? (i := 1078) (by decide +kernel)) rfl
theorem q1079 : Cond.selects "EbbWreck$Pushing" ⟨"EbbWreck$Pushing", "markOf", "(III)I"⟩ ⟨"EbbWreck$Pushing", "markOf", "(III)I"⟩ ∈ lw_g := mg (List.mem_of_getElem? (i := 1079) (by decide +kernel)) rfl
theorem q1077 : Cond.methodLink "EbbWreck" 289 ⟨"EbbWreck$Pushing", "markOf", "(III)I"⟩ ∈ lw_g := mg (List.mem_of_getElem? (i := 1077) (by decide +kernel)) rfl
theorem q1096 : Cond.code ⟨"EbbWreck$Pushing", "firstHour", "(II)I"⟩ prog_6_method_10_code 6 (some .int) ∈ lw_g := mg (List.mem_of_getElem? (i := 1096) (by decide +kernel)) rfl
theorem q1094 : Cond.instanceMethod ⟨"EbbWreck$Pushing", "firstHour", "(II)I"⟩ ∈ lw_g := mg (List.mem_of_getElem? (i := 1094) (by decide +kernel)) rfl
theorem q1095 : Cond.selects "EbbWreck$Pushing" ⟨"EbbWreck$Pushing", "firstHour", "(II)I"⟩ ⟨"EbbWreck$Pushing", "firstHour", "(II)I"⟩ ∈ lw_g := mg (List.mem_of_getElem? (i := 1095) (by decide +kernel)) rfl
theorem q1093 : Cond.methodLink "EbbWreck" 292 ⟨"EbbWreck$Pushing", "firstHour", "(II)I"⟩ ∈ lw_g := mg (List.mem_of_getElem? (i := 1093) (by decide +kernel)) rfl
theorem q1116 : Cond.code ⟨"EbbWreck$Pushing", "fewestOfAll", "(I)I"⟩ prog_6_method_7_code 5 (some .int) ∈ lw_g := mg (List.mem_of_getElem? (i := 1116) (by decide +kernel)) rfl
theorem q1114 : Cond.instanceMethod ⟨"EbbWreck$Pushing", "fewestOfAll", "(I)I"⟩ ∈ lw_g := mg (List.mem_of_getElem? (i := 1114) (by decide +kernel)) rfl
theorem q1115 : Cond.selects "EbbWreck$Pushing" ⟨"EbbWreck$Pushing", "fewestOfAll", "(I)I"⟩ ⟨"EbbWreck$Pushing", "fewestOfAll", "(I)I"⟩ ∈ lw_g := mg (List.mem_of_getElem? (i := 1115) (by decide +kernel)) rfl
theorem q1113 : Cond.methodLink "EbbWreck" 295 ⟨"EbbWreck$Pushing", "fewestOfAll", "(I)I"⟩ ∈ lw_g := mg (List.mem_of_getElem? (i := 1113) (by decide +kernel)) rfl
theorem q384 : Cond.fieldLink "EbbWreck$Drift" 18 "EbbWreck$Drift" "ways" "[B" ∈ lw_g := mg (List.mem_of_getElem? (i := 384) (by decide +kernel)) rfl
theorem q780 : Cond.code ⟨"java/util/Arrays", "fill", "([BB)V"⟩ prog_21_method_109_code 4 none ∈ lw_g := mg (List.mem_of_getElem? (i := 780) (by decide +kernel)) rfl
theorem q779 : Cond.static ⟨"java/util/Arrays", "fill", "([BB)V"⟩ ∈ lw_g := mg (List.mem_of_getElem? (i := 779) (by decide +kernel)) rfl
theorem q778 : Cond.methodLink "EbbWreck$Drift" 56 ⟨"java/util/Arrays", "fill", "([BB)V"⟩ ∈ lw_g := mg (List.mem_of_getElem? (i := 778) (by decide +kernel)) rfl
theorem q302 : Cond.fieldLink "EbbWreck$Drift" 62 "EbbWreck$Coast" "acts" "LEbbWreck$Acts;" ∈ lw_g := mg (List.mem_of_getElem? (i := 302) (by decide +kernel)) rfl
theorem q217 : Cond.fieldLink "EbbWreck$Drift" 66 "EbbWreck$Acts" "size" "I" ∈ lw_g := mg (List.mem_of_getElem? (i := 217) (by decide +kernel)) rfl
theorem q781 : Cond.methodLink "EbbWreck$Drift" 71 ⟨"EbbWreck$Acts", "isPushOf", "(II)Z"⟩ ∈ lw_g := mg (List.mem_of_getElem? (i := 781) (by decide +kernel)) rfl
theorem q225 : Cond.fieldLink "EbbWreck$Drift" 75 "EbbWreck$Acts" "marks" "[I" ∈ lw_g := mg (List.mem_of_getElem? (i := 225) (by decide +kernel)) rfl
theorem q220 : Cond.fieldLink "EbbWreck$Drift" 78 "EbbWreck$Acts" "ways" "[I" ∈ lw_g := mg (List.mem_of_getElem? (i := 220) (by decide +kernel)) rfl
theorem q777 : Cond.code ⟨"EbbWreck$Drift", "layWays", "(I)V"⟩ prog_4_method_4_code 3 none ∈ lw_g := mg (List.mem_of_getElem? (i := 777) (by decide +kernel)) rfl
theorem q776 : Cond.instanceMethod ⟨"EbbWreck$Drift", "layWays", "(I)V"⟩ ∈ lw_g := mg (List.mem_of_getElem? (i := 776) (by decide +kernel)) rfl
theorem q18 : Cond.selects "EbbWreck$Drift" ⟨"EbbWreck$Drift", "layWays", "(I)V"⟩ ⟨"EbbWreck$Drift", "layWays", "(I)V"⟩ ∈ lw_g := mg (List.mem_of_getElem? (i := 18) (by decide +kernel)) rfl
theorem q774 : Cond.methodLink "EbbWreck$Drift" 80 ⟨"EbbWreck$Drift", "layWays", "(I)V"⟩ ∈ lw_g := mg (List.mem_of_getElem? (i := 774) (by decide +kernel)) rfl
theorem q281 : Cond.fieldLink "EbbWreck$Drift" 83 "EbbWreck$Coast" "startCells" "[I" ∈ lw_g := mg (List.mem_of_getElem? (i := 281) (by decide +kernel)) rfl
theorem q286 : Cond.fieldLink "EbbWreck$Drift" 89 "EbbWreck$Coast" "startHours" "[I" ∈ lw_g := mg (List.mem_of_getElem? (i := 286) (by decide +kernel)) rfl
theorem q794 : Cond.methodLink "EbbWreck$Drift" 109 ⟨"EbbWreck$Coast", "pushedAndDrifted", "(III)I"⟩ ∈ lw_g := mg (List.mem_of_getElem? (i := 794) (by decide +kernel)) rfl
theorem q807 : Cond.methodLink "EbbWreck$Drift" 113 ⟨"EbbWreck$Coast", "isBeach", "(I)Z"⟩ ∈ lw_g := mg (List.mem_of_getElem? (i := 807) (by decide +kernel)) rfl
theorem q785 : Cond.constantLong "EbbWreck$Drift" 92 1103515245 ∈ lw_g := mg (List.mem_of_getElem? (i := 785) (by decide +kernel)) rfl
theorem q786 : Cond.constantLong "EbbWreck$Drift" 94 12345 ∈ lw_g := mg (List.mem_of_getElem? (i := 786) (by decide +kernel)) rfl
theorem q787 : Cond.constantLong "EbbWreck$Drift" 96 2147483647 ∈ lw_g := mg (List.mem_of_getElem? (i := 787) (by decide +kernel)) rfl
theorem q788 : Cond.constantLong "EbbWreck$Drift" 98 65536 ∈ lw_g := mg (List.mem_of_getElem? (i := 788) (by decide +kernel)) rfl
theorem q789 : Cond.constantLong "EbbWreck$Drift" 100 100 ∈ lw_g := mg (List.mem_of_getElem? (i := 789) (by decide +kernel)) rfl
theorem q248 : Cond.fieldLink "EbbWreck$Drift" 102 "EbbWreck$Coast" "odds" "I" ∈ lw_g := mg (List.mem_of_getElem? (i := 248) (by decide +kernel)) rfl
theorem q790 : Cond.methodLink "EbbWreck$Drift" 105 ⟨"EbbWreck$Coast", "shifted", "(II)I"⟩ ∈ lw_g := mg (List.mem_of_getElem? (i := 790) (by decide +kernel)) rfl
theorem q773 : Cond.code ⟨"EbbWreck$Drift", "run", "(III)V"⟩ prog_4_method_5_code 7 none ∈ lw_g := mg (List.mem_of_getElem? (i := 773) (by decide +kernel)) rfl
theorem q771 : Cond.instanceMethod ⟨"EbbWreck$Drift", "run", "(III)V"⟩ ∈ lw_g := mg (List.mem_of_getElem? (i := 771) (by decide +kernel)) rfl
theorem q772 : Cond.selects "EbbWreck$Drift" ⟨"EbbWreck$Drift", "run", "(III)V"⟩ ⟨"EbbWreck$Drift", "run", "(III)V"⟩ ∈ lw_g := mg (List.mem_of_getElem? (i := 772) (by decide +kernel)) rfl
theorem q770 : Cond.methodLink "EbbWreck$Drift" 45 ⟨"EbbWreck$Drift", "run", "(III)V"⟩ ∈ lw_g := mg (List.mem_of_getElem? (i := 770) (by decide +kernel)) rfl
theorem q814 : Cond.code ⟨"EbbWreck$Drift", "runBeach", "()I"⟩ prog_4_method_6_code 1 (some .int) ∈ lw_g := mg (List.mem_of_getElem? (i := 814) (by decide +kernel)) rfl
theorem q812 : Cond.instanceMethod ⟨"EbbWreck$Drift", "runBeach", "()I"⟩ ∈ lw_g := mg (List.mem_of_getElem? (i := 812) (by decide +kernel)) rfl
theorem q813 : Cond.selects "EbbWreck$Drift" ⟨"EbbWreck$Drift", "runBeach", "()I"⟩ ⟨"EbbWreck$Drift", "runBeach", "()I"⟩ ∈ lw_g := mg (List.mem_of_getElem? (i := 813) (by decide +kernel)) rfl
theorem q811 : Cond.methodLink "EbbWreck$Drift" 52 ⟨"EbbWreck$Drift", "runBeach", "()I"⟩ ∈ lw_g := mg (List.mem_of_getElem? (i := 811) (by decide +kernel)) rfl
theorem q769 : Cond.code ⟨"EbbWreck$Drift", "settle", "(I)V"⟩ prog_4_method_3_code 2 none ∈ lw_g := mg (List.mem_of_getElem? (i := 769) (by decide +kernel)) rfl
theorem q767 : Cond.instanceMethod ⟨"EbbWreck$Drift", "settle", "(I)V"⟩ ∈ lw_g := mg (List.mem_of_getElem? (i := 767) (by decide +kernel)) rfl
theorem q768 : Cond.selects "EbbWreck$Drift" ⟨"EbbWreck$Drift", "settle", "(I)V"⟩ ⟨"EbbWreck$Drift", "settle", "(I)V"⟩ ∈ lw_g := mg (List.mem_of_getElem? (i := 768) (by decide +kernel)) rfl
theorem q766 : Cond.methodLink "EbbWreck$Drift" 41 ⟨"EbbWreck$Drift", "settle", "(I)V"⟩ ∈ lw_g := mg (List.mem_of_getElem? (i := 766) (by decide +kernel)) rfl
theorem q996 : Cond.methodLink "EbbWreck$Drift" 155 ⟨"java/util/Arrays", "fill", "([II)V"⟩ ∈ lw_g := mg (List.mem_of_getElem? (i := 996) (by decide +kernel)) rfl
theorem q385 : Cond.fieldLink "EbbWreck$Drift" 22 "EbbWreck$Drift" "trace" "[I" ∈ lw_g := mg (List.mem_of_getElem? (i := 385) (by decide +kernel)) rfl
theorem q995 : Cond.code ⟨"EbbWreck$Drift", "traceAfloat", "(I[I)V"⟩ prog_4_method_16_code 5 none ∈ lw_g := mg (List.mem_of_getElem? (i := 995) (by decide +kernel)) rfl
theorem q994 : Cond.instanceMethod ⟨"EbbWreck$Drift", "traceAfloat", "(I[I)V"⟩ ∈ lw_g := mg (List.mem_of_getElem? (i := 994) (by decide +kernel)) rfl
theorem q21 : Cond.selects "EbbWreck$Drift" ⟨"EbbWreck$Drift", "traceAfloat", "(I[I)V"⟩ ⟨"EbbWreck$Drift", "traceAfloat", "(I[I)V"⟩ ∈ lw_g := mg (List.mem_of_getElem? (i := 21) (by decide +kernel)) rfl
theorem q992 : Cond.methodLink "EbbWreck$Drift" 151 ⟨"EbbWreck$Drift", "traceAfloat", "(I[I)V"⟩ ∈ lw_g := mg (List.mem_of_getElem? (i := 992) (by decide +kernel)) rfl
theorem q386 : Cond.fieldLink "EbbWreck$Drift" 25 "EbbWreck$Drift" "otherTrace" "[I" ∈ lw_g := mg (List.mem_of_getElem? (i := 386) (by decide +kernel)) rfl
theorem q387 : Cond.fieldLink "EbbWreck$Drift" 28 "EbbWreck$Drift" "tally" "[I" ∈ lw_g := mg (List.mem_of_getElem? (i := 387) (by decide +kernel)) rfl
theorem q246 : Cond.fieldLink "EbbWreck$Drift" 158 "EbbWreck$Coast" "cells" "I" ∈ lw_g := mg (List.mem_of_getElem? (i := 246) (by decide +kernel)) rfl
theorem q930 : Cond.code ⟨"EbbWreck$Drift", "placeOf", "(II)I"⟩ prog_4_method_8_code 3 (some .int) ∈ lw_g := mg (List.mem_of_getElem? (i := 930) (by decide +kernel)) rfl
theorem q928 : Cond.instanceMethod ⟨"EbbWreck$Drift", "placeOf", "(II)I"⟩ ∈ lw_g := mg (List.mem_of_getElem? (i := 928) (by decide +kernel)) rfl
theorem q929 : Cond.selects "EbbWreck$Drift" ⟨"EbbWreck$Drift", "placeOf", "(II)I"⟩ ⟨"EbbWreck$Drift", "placeOf", "(II)I"⟩ ∈ lw_g := mg (List.mem_of_getElem? (i := 929) (by decide +kernel)) rfl
theorem q927 : Cond.methodLink "EbbWreck" 251 ⟨"EbbWreck$Drift", "placeOf", "(II)I"⟩ ∈ lw_g := mg (List.mem_of_getElem? (i := 927) (by decide +kernel)) rfl
theorem q991 : Cond.code ⟨"EbbWreck$Drift", "firstMeeting", "(II)I"⟩ prog_4_method_15_code 4 (some .int) ∈ lw_g := mg (List.mem_of_getElem? (i := 991) (by decide +kernel)) rfl
theorem q989 : Cond.instanceMethod ⟨"EbbWreck$Drift", "firstMeeting", "(II)I"⟩ ∈ lw_g := mg (List.mem_of_getElem? (i := 989) (by decide +kernel)) rfl
theorem q990 : Cond.selects "EbbWreck$Drift" ⟨"EbbWreck$Drift", "firstMeeting", "(II)I"⟩ ⟨"EbbWreck$Drift", "firstMeeting", "(II)I"⟩ ∈ lw_g := mg (List.mem_of_getElem? (i := 990) (by decide +kernel)) rfl
theorem q988 : Cond.methodLink "EbbWreck" 273 ⟨"EbbWreck$Drift", "firstMeeting", "(II)I"⟩ ∈ lw_g := mg (List.mem_of_getElem? (i := 988) (by decide +kernel)) rfl
theorem q1399 : Cond.code ⟨"EbbWreck", "isGale", "(II)Z"⟩ prog_1_method_63_code 3 (some .boolean) ∈ lw_g := mg (List.mem_of_getElem? (i := 1399) (by decide +kernel)) rfl
theorem q1398 : Cond.instanceMethod ⟨"EbbWreck", "isGale", "(II)Z"⟩ ∈ lw_g := mg (List.mem_of_getElem? (i := 1398) (by decide +kernel)) rfl
theorem q46 : Cond.selects "EbbWreck" ⟨"EbbWreck", "isGale", "(II)Z"⟩ ⟨"EbbWreck", "isGale", "(II)Z"⟩ ∈ lw_g := mg (List.mem_of_getElem? (i := 46) (by decide +kernel)) rfl
theorem q1396 : Cond.methodLink "EbbWreck" 368 ⟨"EbbWreck", "isGale", "(II)Z"⟩ ∈ lw_g := mg (List.mem_of_getElem? (i := 1396) (by decide +kernel)) rfl
theorem q1400 : Cond.methodLink "EbbWreck" 371 ⟨"EbbWreck$Drift", "run", "(III)V"⟩ ∈ lw_g := mg (List.mem_of_getElem? (i := 1400) (by decide +kernel)) rfl
theorem q1405 : Cond.code ⟨"EbbWreck$Drift", "runOwner", "()I"⟩ prog_4_method_7_code 1 (some .int) ∈ lw_g := mg (List.mem_of_getElem? (i := 1405) (by decide +kernel)) rfl
theorem q1403 : Cond.instanceMethod ⟨"EbbWreck$Drift", "runOwner", "()I"⟩ ∈ lw_g := mg (List.mem_of_getElem? (i := 1403) (by decide +kernel)) rfl
theorem q1404 : Cond.selects "EbbWreck$Drift" ⟨"EbbWreck$Drift", "runOwner", "()I"⟩ ⟨"EbbWreck$Drift", "runOwner", "()I"⟩ ∈ lw_g := mg (List.mem_of_getElem? (i := 1404) (by decide +kernel)) rfl
theorem q1402 : Cond.methodLink "EbbWreck" 380 ⟨"EbbWreck$Drift", "runOwner", "()I"⟩ ∈ lw_g := mg (List.mem_of_getElem? (i := 1402) (by decide +kernel)) rfl
theorem q1401 : Cond.methodLink "EbbWreck" 377 ⟨"EbbWreck$Drift", "runBeach", "()I"⟩ ∈ lw_g := mg (List.mem_of_getElem? (i := 1401) (by decide +kernel)) rfl
theorem q389 : Cond.fieldLink "EbbWreck" 374 "EbbWreck$Drift" "runHour" "I" ∈ lw_g := mg (List.mem_of_getElem? (i := 389) (by decide +kernel)) rfl
theorem q1412 : Cond.code ⟨"EbbWreck", "isDrawnOften", "(I)Z"⟩ prog_1_method_64_code 1 (some .boolean) ∈ lw_g := mg (List.mem_of_getElem? (i := 1412) (by decide +kernel)) rfl
theorem q1411 : Cond.static ⟨"EbbWreck", "isDrawnOften", "(I)Z"⟩ ∈ lw_g := mg (List.mem_of_getElem? (i := 1411) (by decide +kernel)) rfl
theorem q1410 : Cond.methodLink "EbbWreck" 383 ⟨"EbbWreck", "isDrawnOften", "(I)Z"⟩ ∈ lw_g := mg (List.mem_of_getElem? (i := 1410) (by decide +kernel)) rfl
theorem q1420 : Cond.code ⟨"EbbWreck$Drift", "commonestBeach", "(III)I"⟩ prog_4_method_17_code 7 (some .int) ∈ lw_g := mg (List.mem_of_getElem? (i := 1420) (by decide +kernel)) rfl
theorem q1418 : Cond.instanceMethod ⟨"EbbWreck$Drift", "commonestBeach", "(III)I"⟩ ∈ lw_g := mg (List.mem_of_getElem? (i := 1418) (by decide +kernel)) rfl
theorem q1419 : Cond.selects "EbbWreck$Drift" ⟨"EbbWreck$Drift", "commonestBeach", "(III)I"⟩ ⟨"EbbWreck$Drift", "commonestBeach", "(III)I"⟩ ∈ lw_g := mg (List.mem_of_getElem? (i := 1419) (by decide +kernel)) rfl
theorem q1417 : Cond.methodLink "EbbWreck" 386 ⟨"EbbWreck$Drift", "commonestBeach", "(III)I"⟩ ∈ lw_g := mg (List.mem_of_getElem? (i := 1417) (by decide +kernel)) rfl
theorem q1235 : Cond.code ⟨"EbbWreck$Floats", "ebbOf", "(I)I"⟩ prog_5_method_3_code 1 (some .int) ∈ lw_g := mg (List.mem_of_getElem? (i := 1235) (by decide +kernel)) rfl
theorem q1234 : Cond.static ⟨"EbbWreck$Floats", "ebbOf", "(I)I"⟩ ∈ lw_g := mg (List.mem_of_getElem? (i := 1234) (by decide +kernel)) rfl
theorem q126 : Cond.initialized "EbbWreck$Floats" ∈ lw_g := mg (List.mem_of_getElem? (i := 126) (by decide +kernel)) rfl
theorem q1233 : Cond.methodLink "EbbWreck$Floats" 104 ⟨"EbbWreck$Floats", "ebbOf", "(I)I"⟩ ∈ lw_g := mg (List.mem_of_getElem? (i := 1233) (by decide +kernel)) rfl
theorem q1232 : Cond.code ⟨"EbbWreck$Floats", "floodOf", "(I)I"⟩ prog_5_method_2_code 1 (some .int) ∈ lw_g := mg (List.mem_of_getElem? (i := 1232) (by decide +kernel)) rfl
theorem q1231 : Cond.static ⟨"EbbWreck$Floats", "floodOf", "(I)I"⟩ ∈ lw_g := mg (List.mem_of_getElem? (i := 1231) (by decide +kernel)) rfl
theorem q1230 : Cond.methodLink "EbbWreck$Floats" 101 ⟨"EbbWreck$Floats", "floodOf", "(I)I"⟩ ∈ lw_g := mg (List.mem_of_getElem? (i := 1230) (by decide +kernel)) rfl
theorem q1248 : Cond.methodLink "EbbWreck$Floats" 110 ⟨"java/lang/Math", "abs", "(I)I"⟩ ∈ lw_g := mg (List.mem_of_getElem? (i := 1248) (by decide +kernel)) rfl
theorem q1249 : Cond.static ⟨"java/lang/Math", "abs", "(I)I"⟩ ∈ lw_g := mg (List.mem_of_getElem? (i := 1249) (by decide +kernel)) rfl
theorem q1250 : Cond.code ⟨"java/lang/Math", "abs", "(I)I"⟩ prog_16_method_59_code 1 (some .int) ∈ lw_g := mg (List.mem_of_getElem? (i := 1250) (by decide +kernel)) rfl
theorem q500 : Cond.fieldLink "EbbWreck$Floats" 18 "EbbWreck$Floats" "coast" "LEbbWreck$Coast;" ∈ lw_g := mg (List.mem_of_getElem? (i := 500) (by decide +kernel)) rfl
theorem q243 : Cond.fieldLink "EbbWreck$Floats" 67 "EbbWreck$Coast" "cells" "I" ∈ lw_g := mg (List.mem_of_getElem? (i := 243) (by decide +kernel)) rfl
theorem q1215 : Cond.constantLong "EbbWreck$Floats" 70 400 ∈ lw_g := mg (List.mem_of_getElem? (i := 1215) (by decide +kernel)) rfl
theorem q1211 : Cond.code ⟨"EbbWreck$Floats", "isCell", "(J)Z"⟩ prog_5_method_6_code 3 (some .boolean) ∈ lw_g := mg (List.mem_of_getElem? (i := 1211) (by decide +kernel)) rfl
theorem q1210 : Cond.instanceMethod ⟨"EbbWreck$Floats", "isCell", "(J)Z"⟩ ∈ lw_g := mg (List.mem_of_getElem? (i := 1210) (by decide +kernel)) rfl
theorem q36 : Cond.selects "EbbWreck$Floats" ⟨"EbbWreck$Floats", "isCell", "(J)Z"⟩ ⟨"EbbWreck$Floats", "isCell", "(J)Z"⟩ ∈ lw_g := mg (List.mem_of_getElem? (i := 36) (by decide +kernel)) rfl
theorem q1208 : Cond.methodLink "EbbWreck$Floats" 60 ⟨"EbbWreck$Floats", "isCell", "(J)Z"⟩ ∈ lw_g := mg (List.mem_of_getElem? (i := 1208) (by decide +kernel)) rfl
theorem q1214 : Cond.code ⟨"EbbWreck$Floats", "isHour", "(J)Z"⟩ prog_5_method_7_code 2 (some .boolean) ∈ lw_g := mg (List.mem_of_getElem? (i := 1214) (by decide +kernel)) rfl
theorem q1213 : Cond.static ⟨"EbbWreck$Floats", "isHour", "(J)Z"⟩ ∈ lw_g := mg (List.mem_of_getElem? (i := 1213) (by decide +kernel)) rfl
theorem q1212 : Cond.methodLink "EbbWreck$Floats" 64 ⟨"EbbWreck$Floats", "isHour", "(J)Z"⟩ ∈ lw_g := mg (List.mem_of_getElem? (i := 1212) (by decide +kernel)) rfl
theorem q253 : Cond.fieldLink "EbbWreck$Floats" 76 "EbbWreck$Coast" "tide" "LEbbWreck$Tide;" ∈ lw_g := mg (List.mem_of_getElem? (i := 253) (by decide +kernel)) rfl
theorem q1224 : Cond.methodLink "EbbWreck$Floats" 80 ⟨"EbbWreck$Tide", "hoursLeft", "(I)I"⟩ ∈ lw_g := mg (List.mem_of_getElem? (i := 1224) (by decide +kernel)) rfl
theorem q1225 : Cond.methodLink "EbbWreck$Floats" 86 ⟨"java/lang/Math", "min", "(II)I"⟩ ∈ lw_g := mg (List.mem_of_getElem? (i := 1225) (by decide +kernel)) rfl
theorem q1226 : Cond.methodLink "EbbWreck$Floats" 92 ⟨"EbbWreck$Tide", "phaseOf", "(I)I"⟩ ∈ lw_g := mg (List.mem_of_getElem? (i := 1226) (by decide +kernel)) rfl
theorem q1229 : Cond.code ⟨"EbbWreck$Floats", "stepsIn", "(II)I"⟩ prog_5_method_10_code 2 (some .int) ∈ lw_g := mg (List.mem_of_getElem? (i := 1229) (by decide +kernel)) rfl
theorem q1228 : Cond.static ⟨"EbbWreck$Floats", "stepsIn", "(II)I"⟩ ∈ lw_g := mg (List.mem_of_getElem? (i := 1228) (by decide +kernel)) rfl
theorem q1227 : Cond.methodLink "EbbWreck$Floats" 95 ⟨"EbbWreck$Floats", "stepsIn", "(II)I"⟩ ∈ lw_g := mg (List.mem_of_getElem? (i := 1227) (by decide +kernel)) rfl
theorem q1236 : Cond.methodLink "EbbWreck$Floats" 98 ⟨"EbbWreck$Coast", "shifted", "(II)I"⟩ ∈ lw_g := mg (List.mem_of_getElem? (i := 1236) (by decide +kernel)) rfl
theorem q1223 : Cond.code ⟨"EbbWreck$Floats", "carried", "(IIII)I"⟩ prog_5_method_9_code 9 (some .int) ∈ lw_g := mg (List.mem_of_getElem? (i := 1223) (by decide +kernel)) rfl
theorem q1222 : Cond.instanceMethod ⟨"EbbWreck$Floats", "carried", "(IIII)I"⟩ ∈ lw_g := mg (List.mem_of_getElem? (i := 1222) (by decide +kernel)) rfl
theorem q38 : Cond.selects "EbbWreck$Floats" ⟨"EbbWreck$Floats", "carried", "(IIII)I"⟩ ⟨"EbbWreck$Floats", "carried", "(IIII)I"⟩ ∈ lw_g := mg (List.mem_of_getElem? (i := 38) (by decide +kernel)) rfl
theorem q1220 : Cond.methodLink "EbbWreck$Floats" 72 ⟨"EbbWreck$Floats", "carried", "(IIII)I"⟩ ∈ lw_g := mg (List.mem_of_getElem? (i := 1220) (by decide +kernel)) rfl
theorem q503 : Cond.fieldLink "EbbWreck$Floats" 26 "EbbWreck$Floats" "fittingCount" "I" ∈ lw_g := mg (List.mem_of_getElem? (i := 503) (by decide +kernel)) rfl
theorem q1199 : Cond.methodLink "EbbWreck$Floats" 30 ⟨"EbbWreck$Slots", "isSlot", "(I)Z"⟩ ∈ lw_g := mg (List.mem_of_getElem? (i := 1199) (by decide +kernel)) rfl
theorem q1202 : Cond.methodLink "EbbWreck$Floats" 36 ⟨"EbbWreck$Coast", "isTold", "()Z"⟩ ∈ lw_g := mg (List.mem_of_getElem? (i := 1202) (by decide +kernel)) rfl
theorem q501 : Cond.fieldLink "EbbWreck$Floats" 22 "EbbWreck$Floats" "slots" "LEbbWreck$Slots;" ∈ lw_g := mg (List.mem_of_getElem? (i := 501) (by decide +kernel)) rfl
theorem q1203 : Cond.methodLink "EbbWreck$Floats" 42 ⟨"EbbWreck$Slots", "hasRow", "(I)Z"⟩ ∈ lw_g := mg (List.mem_of_getElem? (i := 1203) (by decide +kernel)) rfl
theorem q484 : Cond.fieldLink "EbbWreck$Floats" 45 "EbbWreck$Slots" "sizes" "[I" ∈ lw_g := mg (List.mem_of_getElem? (i := 484) (by decide +kernel)) rfl
theorem q479 : Cond.fieldLink "EbbWreck$Floats" 48 "EbbWreck$Slots" "numbers" "[[J" ∈ lw_g := mg (List.mem_of_getElem? (i := 479) (by decide +kernel)) rfl
theorem q1207 : Cond.code ⟨"EbbWreck$Floats", "areAllSuch", "([JI)Z"⟩ prog_5_method_5_code 4 (some .boolean) ∈ lw_g := mg (List.mem_of_getElem? (i := 1207) (by decide +kernel)) rfl
theorem q1206 : Cond.instanceMethod ⟨"EbbWreck$Floats", "areAllSuch", "([JI)Z"⟩ ∈ lw_g := mg (List.mem_of_getElem? (i := 1206) (by decide +kernel)) rfl
theorem q35 : Cond.selects "EbbWreck$Floats" ⟨"EbbWreck$Floats", "areAllSuch", "([JI)Z"⟩ ⟨"EbbWreck$Floats", "areAllSuch", "([JI)Z"⟩ ∈ lw_g := mg (List.mem_of_getElem? (i := 35) (by decide +kernel)) rfl
theorem q1204 : Cond.methodLink "EbbWreck$Floats" 52 ⟨"EbbWreck$Floats", "areAllSuch", "([JI)Z"⟩ ∈ lw_g := mg (List.mem_of_getElem? (i := 1204) (by decide +kernel)) rfl
theorem q1219 : Cond.code ⟨"EbbWreck$Floats", "fitsAll", "(I[JI)Z"⟩ prog_5_method_8_code 6 (some .boolean) ∈ lw_g := mg (List.mem_of_getElem? (i := 1219) (by decide +kernel)) rfl
theorem q1218 : Cond.instanceMethod ⟨"EbbWreck$Floats", "fitsAll", "(I[JI)Z"⟩ ∈ lw_g := mg (List.mem_of_getElem? (i := 1218) (by decide +kernel)) rfl
theorem q37 : Cond.selects "EbbWreck$Floats" ⟨"EbbWreck$Floats", "fitsAll", "(I[JI)Z"⟩ ⟨"EbbWreck$Floats", "fitsAll", "(I[JI)Z"⟩ ∈ lw_g := mg (List.mem_of_getElem? (i := 37) (by decide +kernel)) rfl
theorem q1216 : Cond.methodLink "EbbWreck$Floats" 56 ⟨"EbbWreck$Floats", "fitsAll", "(I[JI)Z"⟩ ∈ lw_g := mg (List.mem_of_getElem? (i := 1216) (by decide +kernel)) rfl
theorem q502 : Cond.fieldLink "EbbWreck$Floats" 11 "EbbWreck$Floats" "fitting" "[I" ∈ lw_g := mg (List.mem_of_getElem? (i := 502) (by decide +kernel)) rfl
theorem q1247 : Cond.code ⟨"EbbWreck$Floats", "stepsOf", "(I)I"⟩ prog_5_method_12_code 1 (some .int) ∈ lw_g := mg (List.mem_of_getElem? (i := 1247) (by decide +kernel)) rfl
theorem q1246 : Cond.static ⟨"EbbWreck$Floats", "stepsOf", "(I)I"⟩ ∈ lw_g := mg (List.mem_of_getElem? (i := 1246) (by decide +kernel)) rfl
theorem q1245 : Cond.methodLink "EbbWreck$Floats" 107 ⟨"EbbWreck$Floats", "stepsOf", "(I)I"⟩ ∈ lw_g := mg (List.mem_of_getElem? (i := 1245) (by decide +kernel)) rfl
theorem q504 : Cond.fieldLink "EbbWreck$Floats" 15 "EbbWreck$Floats" "found" "[I" ∈ lw_g := mg (List.mem_of_getElem? (i := 504) (by decide +kernel)) rfl
theorem q1265 : Cond.methodLink "EbbWreck$Floats" 113 ⟨"java/util/Arrays", "fill", "([II)V"⟩ ∈ lw_g := mg (List.mem_of_getElem? (i := 1265) (by decide +kernel)) rfl
theorem q1266 : Cond.methodLink "EbbWreck$Floats" 119 ⟨"java/lang/Math", "max", "(II)I"⟩ ∈ lw_g := mg (List.mem_of_getElem? (i := 1266) (by decide +kernel)) rfl
theorem q1264 : Cond.code ⟨"EbbWreck$Floats", "worstAfter", "(I)I"⟩ prog_5_method_13_code 5 (some .int) ∈ lw_g := mg (List.mem_of_getElem? (i := 1264) (by decide +kernel)) rfl
theorem q1262 : Cond.instanceMethod ⟨"EbbWreck$Floats", "worstAfter", "(I)I"⟩ ∈ lw_g := mg (List.mem_of_getElem? (i := 1262) (by decide +kernel)) rfl
theorem q1263 : Cond.selects "EbbWreck$Floats" ⟨"EbbWreck$Floats", "worstAfter", "(I)I"⟩ ⟨"EbbWreck$Floats", "worstAfter", "(I)I"⟩ ∈ lw_g := mg (List.mem_of_getElem? (i := 1263) (by decide +kernel)) rfl
theorem q1261 : Cond.methodLink "EbbWreck$Floats" 122 ⟨"EbbWreck$Floats", "worstAfter", "(I)I"⟩ ∈ lw_g := mg (List.mem_of_getElem? (i := 1261) (by decide +kernel)) rfl
theorem q530 : Cond.fieldLink "EbbWreck" 94 "EbbWreck" "floats" "LEbbWreck$Floats;" ∈ lw_g := mg (List.mem_of_getElem? (i := 530) (by decide +kernel)) rfl
theorem q1198 : Cond.code ⟨"EbbWreck$Floats", "collect", "(I)I"⟩ prog_5_method_4_code 4 (some .int) ∈ lw_g := mg (List.mem_of_getElem? (i := 1198) (by decide +kernel)) rfl
theorem q1196 : Cond.instanceMethod ⟨"EbbWreck$Floats", "collect", "(I)I"⟩ ∈ lw_g := mg (List.mem_of_getElem? (i := 1196) (by decide +kernel)) rfl
theorem q1197 : Cond.selects "EbbWreck$Floats" ⟨"EbbWreck$Floats", "collect", "(I)I"⟩ ⟨"EbbWreck$Floats", "collect", "(I)I"⟩ ∈ lw_g := mg (List.mem_of_getElem? (i := 1197) (by decide +kernel)) rfl
theorem q1195 : Cond.methodLink "EbbWreck" 316 ⟨"EbbWreck$Floats", "collect", "(I)I"⟩ ∈ lw_g := mg (List.mem_of_getElem? (i := 1195) (by decide +kernel)) rfl
theorem q1244 : Cond.code ⟨"EbbWreck$Floats", "smallest", "()I"⟩ prog_5_method_11_code 3 (some .int) ∈ lw_g := mg (List.mem_of_getElem? (i := 1244) (by decide +kernel)) rfl
theorem q1242 : Cond.instanceMethod ⟨"EbbWreck$Floats", "smallest", "()I"⟩ ∈ lw_g := mg (List.mem_of_getElem? (i := 1242) (by decide +kernel)) rfl
theorem q1243 : Cond.selects "EbbWreck$Floats" ⟨"EbbWreck$Floats", "smallest", "()I"⟩ ⟨"EbbWreck$Floats", "smallest", "()I"⟩ ∈ lw_g := mg (List.mem_of_getElem? (i := 1243) (by decide +kernel)) rfl
theorem q1241 : Cond.methodLink "EbbWreck" 319 ⟨"EbbWreck$Floats", "smallest", "()I"⟩ ∈ lw_g := mg (List.mem_of_getElem? (i := 1241) (by decide +kernel)) rfl
theorem q1251 : Cond.methodLink "EbbWreck" 322 ⟨"EbbWreck$Floats", "floodOf", "(I)I"⟩ ∈ lw_g := mg (List.mem_of_getElem? (i := 1251) (by decide +kernel)) rfl
theorem q1252 : Cond.methodLink "EbbWreck" 325 ⟨"EbbWreck$Floats", "ebbOf", "(I)I"⟩ ∈ lw_g := mg (List.mem_of_getElem? (i := 1252) (by decide +kernel)) rfl
theorem q1260 : Cond.code ⟨"EbbWreck$Floats", "bestCell", "()I"⟩ prog_5_method_14_code 5 (some .int) ∈ lw_g := mg (List.mem_of_getElem? (i := 1260) (by decide +kernel)) rfl
theorem q1258 : Cond.instanceMethod ⟨"EbbWreck$Floats", "bestCell", "()I"⟩ ∈ lw_g := mg (List.mem_of_getElem? (i := 1258) (by decide +kernel)) rfl
theorem q1259 : Cond.selects "EbbWreck$Floats" ⟨"EbbWreck$Floats", "bestCell", "()I"⟩ ⟨"EbbWreck$Floats", "bestCell", "()I"⟩ ∈ lw_g := mg (List.mem_of_getElem? (i := 1259) (by decide +kernel)) rfl
theorem q1257 : Cond.methodLink "EbbWreck" 328 ⟨"EbbWreck$Floats", "bestCell", "()I"⟩ ∈ lw_g := mg (List.mem_of_getElem? (i := 1257) (by decide +kernel)) rfl
theorem q1271 : Cond.methodLink "EbbWreck" 331 ⟨"EbbWreck$Floats", "worstAfter", "(I)I"⟩ ∈ lw_g := mg (List.mem_of_getElem? (i := 1271) (by decide +kernel)) rfl
theorem q349 : Cond.fieldLink "EbbWreck$Reader" 35 "EbbWreck$Reader" "faultKind" "I" ∈ lw_g := mg (List.mem_of_getElem? (i := 349) (by decide +kernel)) rfl
theorem q346 : Cond.fieldLink "EbbWreck$Reader" 65 "EbbWreck$Reader" "start" "I" ∈ lw_g := mg (List.mem_of_getElem? (i := 346) (by decide +kernel)) rfl
theorem q351 : Cond.fieldLink "EbbWreck$Reader" 38 "EbbWreck$Reader" "faultPlace" "I" ∈ lw_g := mg (List.mem_of_getElem? (i := 351) (by decide +kernel)) rfl
theorem q345 : Cond.fieldLink "EbbWreck$Reader" 49 "EbbWreck$Reader" "kind" "I" ∈ lw_g := mg (List.mem_of_getElem? (i := 345) (by decide +kernel)) rfl
theorem q347 : Cond.fieldLink "EbbWreck$Reader" 32 "EbbWreck$Reader" "stop" "I" ∈ lw_g := mg (List.mem_of_getElem? (i := 347) (by decide +kernel)) rfl
theorem q344 : Cond.fieldLink "EbbWreck$Reader" 28 "EbbWreck$Reader" "length" "I" ∈ lw_g := mg (List.mem_of_getElem? (i := 344) (by decide +kernel)) rfl
theorem q348 : Cond.fieldLink "EbbWreck$Reader" 72 "EbbWreck$Reader" "value" "I" ∈ lw_g := mg (List.mem_of_getElem? (i := 348) (by decide +kernel)) rfl
theorem q342 : Cond.fieldLink "EbbWreck$Reader" 9 "EbbWreck$Reader" "text" "[B" ∈ lw_g := mg (List.mem_of_getElem? (i := 342) (by decide +kernel)) rfl
theorem q604 : Cond.code ⟨"EbbWreck$Reader", "kindOf", "(B)I"⟩ prog_7_method_7_code 1 (some .int) ∈ lw_g := mg (List.mem_of_getElem? (i := 604) (by decide +kernel)) rfl
theorem q603 : Cond.static ⟨"EbbWreck$Reader", "kindOf", "(B)I"⟩ ∈ lw_g := mg (List.mem_of_getElem? (i := 603) (by decide +kernel)) rfl
theorem q119 : Cond.initialized "EbbWreck$Reader" ∈ lw_g := mg (List.mem_of_getElem? (i := 119) (by decide +kernel)) rfl
theorem q602 : Cond.methodLink "EbbWreck$Reader" 68 ⟨"EbbWreck$Reader", "kindOf", "(B)I"⟩ ∈ lw_g := mg (List.mem_of_getElem? (i := 602) (by decide +kernel)) rfl
theorem q608 : Cond.code ⟨"EbbWreck$Reader", "isLong", "()Z"⟩ prog_7_method_6_code 1 (some .boolean) ∈ lw_g := mg (List.mem_of_getElem? (i := 608) (by decide +kernel)) rfl
theorem q607 : Cond.instanceMethod ⟨"EbbWreck$Reader", "isLong", "()Z"⟩ ∈ lw_g := mg (List.mem_of_getElem? (i := 607) (by decide +kernel)) rfl
theorem q2 : Cond.selects "EbbWreck$Reader" ⟨"EbbWreck$Reader", "isLong", "()Z"⟩ ⟨"EbbWreck$Reader", "isLong", "()Z"⟩ ∈ lw_g := mg (List.mem_of_getElem? (i := 2) (by decide +kernel)) rfl
theorem q605 : Cond.methodLink "EbbWreck$Reader" 75 ⟨"EbbWreck$Reader", "isLong", "()Z"⟩ ∈ lw_g := mg (List.mem_of_getElem? (i := 605) (by decide +kernel)) rfl
theorem q609 : Cond.constant "EbbWreck$Reader" 78 1000000 ∈ lw_g := mg (List.mem_of_getElem? (i := 609) (by decide +kernel)) rfl
theorem q582 : Cond.methodLink "EbbWreck$Reader" 19 ⟨"java/lang/Math", "min", "(II)I"⟩ ∈ lw_g := mg (List.mem_of_getElem? (i := 582) (by decide +kernel)) rfl
theorem q634 : Cond.code ⟨"java/lang/String", "length", "()I"⟩ prog_17_method_54_code 1 (some .int) ∈ lw_g := mg (List.mem_of_getElem? (i := 634) (by decide +kernel)) rfl
theorem q632 : Cond.instanceMethod ⟨"java/lang/String", "length", "()I"⟩ ∈ lw_g := mg (List.mem_of_getElem? (i := 632) (by decide +kernel)) rfl
theorem q633 : Cond.selects "java/lang/String" ⟨"java/lang/String", "length", "()I"⟩ ⟨"java/lang/String", "length", "()I"⟩ ∈ lw_g := mg (List.mem_of_getElem? (i := 633) (by decide +kernel)) rfl
theorem q631 : Cond.methodLink "EbbWreck$Reader" 79 ⟨"java/lang/String", "length", "()I"⟩ ∈ lw_g := mg (List.mem_of_getElem? (i := 631) (by decide +kernel)) rfl
theorem q644 : Cond.code ⟨"java/lang/String", "charAt", "(I)C"⟩ prog_17_method_56_code 2 (some .char) ∈ lw_g := mg (List.mem_of_getElem? (i := 644) (by decide +kernel)) rfl
theorem q642 : Cond.instanceMethod ⟨"java/lang/String", "charAt", "(I)C"⟩ ∈ lw_g := mg (List.mem_of_getElem? (i := 642) (by decide +kernel)) rfl
theorem q643 : Cond.selects "java/lang/String" ⟨"java/lang/String", "charAt", "(I)C"⟩ ⟨"java/lang/String", "charAt", "(I)C"⟩ ∈ lw_g := mg (List.mem_of_getElem? (i := 643) (by decide +kernel)) rfl
theorem q641 : Cond.methodLink "EbbWreck$Reader" 84 ⟨"java/lang/String", "charAt", "(I)C"⟩ ∈ lw_g := mg (List.mem_of_getElem? (i := 641) (by decide +kernel)) rfl
theorem q630 : Cond.code ⟨"EbbWreck$Reader", "isWord", "(Ljava/lang/String;)Z"⟩ prog_7_method_8_code 3 (some .boolean) ∈ lw_g := mg (List.mem_of_getElem? (i := 630) (by decide +kernel)) rfl
theorem q629 : Cond.instanceMethod ⟨"EbbWreck$Reader", "isWord", "(Ljava/lang/String;)Z"⟩ ∈ lw_g := mg (List.mem_of_getElem? (i := 629) (by decide +kernel)) rfl
theorem q7 : Cond.selects "EbbWreck$Reader" ⟨"EbbWreck$Reader", "isWord", "(Ljava/lang/String;)Z"⟩ ⟨"EbbWreck$Reader", "isWord", "(Ljava/lang/String;)Z"⟩ ∈ lw_g := mg (List.mem_of_getElem? (i := 7) (by decide +kernel)) rfl
theorem q627 : Cond.methodLink "EbbWreck$Reader" 88 ⟨"EbbWreck$Reader", "isWord", "(Ljava/lang/String;)Z"⟩ ∈ lw_g := mg (List.mem_of_getElem? (i := 627) (by decide +kernel)) rfl
theorem q613 : Cond.code ⟨"EbbWreck$Reader", "failed", "()Z"⟩ prog_7_method_3_code 1 (some .boolean) ∈ lw_g := mg (List.mem_of_getElem? (i := 613) (by decide +kernel)) rfl
theorem q612 : Cond.instanceMethod ⟨"EbbWreck$Reader", "failed", "()Z"⟩ ∈ lw_g := mg (List.mem_of_getElem? (i := 612) (by decide +kernel)) rfl
theorem q3 : Cond.selects "EbbWreck$Reader" ⟨"EbbWreck$Reader", "failed", "()Z"⟩ ⟨"EbbWreck$Reader", "failed", "()Z"⟩ ∈ lw_g := mg (List.mem_of_getElem? (i := 3) (by decide +kernel)) rfl
theorem q610 : Cond.methodLink "EbbWreck$Reader" 52 ⟨"EbbWreck$Reader", "failed", "()Z"⟩ ∈ lw_g := mg (List.mem_of_getElem? (i := 610) (by decide +kernel)) rfl
theorem q601 : Cond.code ⟨"EbbWreck$Reader", "advance", "()V"⟩ prog_7_method_5_code 1 none ∈ lw_g := mg (List.mem_of_getElem? (i := 601) (by decide +kernel)) rfl
theorem q600 : Cond.instanceMethod ⟨"EbbWreck$Reader", "advance", "()V"⟩ ∈ lw_g := mg (List.mem_of_getElem? (i := 600) (by decide +kernel)) rfl
theorem q1 : Cond.selects "EbbWreck$Reader" ⟨"EbbWreck$Reader", "advance", "()V"⟩ ⟨"EbbWreck$Reader", "advance", "()V"⟩ ∈ lw_g := mg (List.mem_of_getElem? (i := 1) (by decide +kernel)) rfl
theorem q598 : Cond.methodLink "EbbWreck$Reader" 46 ⟨"EbbWreck$Reader", "advance", "()V"⟩ ∈ lw_g := mg (List.mem_of_getElem? (i := 598) (by decide +kernel)) rfl
theorem q682 : Cond.code ⟨"EbbWreck$Reader", "fail", "(I)V"⟩ prog_7_method_4_code 2 none ∈ lw_g := mg (List.mem_of_getElem? (i := 682) (by decide +kernel)) rfl
theorem q681 : Cond.instanceMethod ⟨"EbbWreck$Reader", "fail", "(I)V"⟩ ∈ lw_g := mg (List.mem_of_getElem? (i := 681) (by decide +kernel)) rfl
theorem q8 : Cond.selects "EbbWreck$Reader" ⟨"EbbWreck$Reader", "fail", "(I)V"⟩ ⟨"EbbWreck$Reader", "fail", "(I)V"⟩ ∈ lw_g := mg (List.mem_of_getElem? (i := 8) (by decide +kernel)) rfl
theorem q679 : Cond.methodLink "EbbWreck$Reader" 92 ⟨"EbbWreck$Reader", "fail", "(I)V"⟩ ∈ lw_g := mg (List.mem_of_getElem? (i := 679) (by decide +kernel)) rfl
theorem q596 : Cond.methodLink "EbbWreck$Tide" 28 ⟨"java/util/Arrays", "fill", "([II)V"⟩ ∈ lw_g := mg (List.mem_of_getElem? (i := 596) (by decide +kernel)) rfl
theorem q626 : Cond.code ⟨"EbbWreck$Reader", "expectWord", "(Ljava/lang/String;)V"⟩ prog_7_method_9_code 2 none ∈ lw_g := mg (List.mem_of_getElem? (i := 626) (by decide +kernel)) rfl
theorem q625 : Cond.instanceMethod ⟨"EbbWreck$Reader", "expectWord", "(Ljava/lang/String;)V"⟩ ∈ lw_g := mg (List.mem_of_getElem? (i := 625) (by decide +kernel)) rfl
theorem q6 : Cond.selects "EbbWreck$Reader" ⟨"EbbWreck$Reader", "expectWord", "(Ljava/lang/String;)V"⟩ ⟨"EbbWreck$Reader", "expectWord", "(Ljava/lang/String;)V"⟩ ∈ lw_g := mg (List.mem_of_getElem? (i := 6) (by decide +kernel)) rfl
theorem q623 : Cond.methodLink "EbbWreck$Reader" 126 ⟨"EbbWreck$Reader", "expectWord", "(Ljava/lang/String;)V"⟩ ∈ lw_g := mg (List.mem_of_getElem? (i := 623) (by decide +kernel)) rfl
theorem q343 : Cond.fieldLink "EbbWreck$Reader" 15 "EbbWreck$Reader" "draft" "LEbbWreck$Coast;" ∈ lw_g := mg (List.mem_of_getElem? (i := 343) (by decide +kernel)) rfl
theorem q687 : Cond.code ⟨"EbbWreck$Reader", "expectNumber", "(II)I"⟩ prog_7_method_11_code 4 (some .int) ∈ lw_g := mg (List.mem_of_getElem? (i := 687) (by decide +kernel)) rfl
theorem q686 : Cond.instanceMethod ⟨"EbbWreck$Reader", "expectNumber", "(II)I"⟩ ∈ lw_g := mg (List.mem_of_getElem? (i := 686) (by decide +kernel)) rfl
theorem q9 : Cond.selects "EbbWreck$Reader" ⟨"EbbWreck$Reader", "expectNumber", "(II)I"⟩ ⟨"EbbWreck$Reader", "expectNumber", "(II)I"⟩ ∈ lw_g := mg (List.mem_of_getElem? (i := 9) (by decide +kernel)) rfl
theorem q684 : Cond.methodLink "EbbWreck$Reader" 132 ⟨"EbbWreck$Reader", "expectNumber", "(II)I"⟩ ∈ lw_g := mg (List.mem_of_getElem? (i := 684) (by decide +kernel)) rfl
theorem q245 : Cond.fieldLink "EbbWreck$Reader" 135 "EbbWreck$Coast" "cells" "I" ∈ lw_g := mg (List.mem_of_getElem? (i := 245) (by decide +kernel)) rfl
theorem q250 : Cond.fieldLink "EbbWreck$Reader" 145 "EbbWreck$Coast" "odds" "I" ∈ lw_g := mg (List.mem_of_getElem? (i := 250) (by decide +kernel)) rfl
theorem q256 : Cond.fieldLink "EbbWreck$Reader" 147 "EbbWreck$Coast" "tide" "LEbbWreck$Tide;" ∈ lw_g := mg (List.mem_of_getElem? (i := 256) (by decide +kernel)) rfl
theorem q595 : Cond.code ⟨"EbbWreck$Tide", "tell", "(III)V"⟩ prog_12_method_2_code 5 none ∈ lw_g := mg (List.mem_of_getElem? (i := 595) (by decide +kernel)) rfl
theorem q593 : Cond.instanceMethod ⟨"EbbWreck$Tide", "tell", "(III)V"⟩ ∈ lw_g := mg (List.mem_of_getElem? (i := 593) (by decide +kernel)) rfl
theorem q594 : Cond.selects "EbbWreck$Tide" ⟨"EbbWreck$Tide", "tell", "(III)V"⟩ ⟨"EbbWreck$Tide", "tell", "(III)V"⟩ ∈ lw_g := mg (List.mem_of_getElem? (i := 594) (by decide +kernel)) rfl
theorem q692 : Cond.methodLink "EbbWreck$Reader" 151 ⟨"EbbWreck$Tide", "tell", "(III)V"⟩ ∈ lw_g := mg (List.mem_of_getElem? (i := 692) (by decide +kernel)) rfl
theorem q701 : Cond.code ⟨"EbbWreck$Reader", "readWay", "()I"⟩ prog_7_method_15_code 1 (some .int) ∈ lw_g := mg (List.mem_of_getElem? (i := 701) (by decide +kernel)) rfl
theorem q700 : Cond.instanceMethod ⟨"EbbWreck$Reader", "readWay", "()I"⟩ ∈ lw_g := mg (List.mem_of_getElem? (i := 700) (by decide +kernel)) rfl
theorem q11 : Cond.selects "EbbWreck$Reader" ⟨"EbbWreck$Reader", "readWay", "()I"⟩ ⟨"EbbWreck$Reader", "readWay", "()I"⟩ ∈ lw_g := mg (List.mem_of_getElem? (i := 11) (by decide +kernel)) rfl
theorem q698 : Cond.methodLink "EbbWreck$Reader" 157 ⟨"EbbWreck$Reader", "readWay", "()I"⟩ ∈ lw_g := mg (List.mem_of_getElem? (i := 698) (by decide +kernel)) rfl
theorem q259 : Cond.fieldLink "EbbWreck$Reader" 160 "EbbWreck$Coast" "floodSteps" "[I" ∈ lw_g := mg (List.mem_of_getElem? (i := 259) (by decide +kernel)) rfl
theorem q262 : Cond.fieldLink "EbbWreck$Reader" 164 "EbbWreck$Coast" "ebbSteps" "[I" ∈ lw_g := mg (List.mem_of_getElem? (i := 262) (by decide +kernel)) rfl
theorem q267 : Cond.fieldLink "EbbWreck$Reader" 169 "EbbWreck$Coast" "beachBits" "I" ∈ lw_g := mg (List.mem_of_getElem? (i := 267) (by decide +kernel)) rfl
theorem q273 : Cond.fieldLink "EbbWreck$Reader" 172 "EbbWreck$Coast" "things" "I" ∈ lw_g := mg (List.mem_of_getElem? (i := 273) (by decide +kernel)) rfl
theorem q278 : Cond.fieldLink "EbbWreck$Reader" 177 "EbbWreck$Coast" "worths" "[I" ∈ lw_g := mg (List.mem_of_getElem? (i := 278) (by decide +kernel)) rfl
theorem q283 : Cond.fieldLink "EbbWreck$Reader" 182 "EbbWreck$Coast" "startCells" "[I" ∈ lw_g := mg (List.mem_of_getElem? (i := 283) (by decide +kernel)) rfl
theorem q288 : Cond.fieldLink "EbbWreck$Reader" 187 "EbbWreck$Coast" "startHours" "[I" ∈ lw_g := mg (List.mem_of_getElem? (i := 288) (by decide +kernel)) rfl
theorem q296 : Cond.fieldLink "EbbWreck$Reader" 210 "EbbWreck$Coast" "sitters" "I" ∈ lw_g := mg (List.mem_of_getElem? (i := 296) (by decide +kernel)) rfl
theorem q300 : Cond.fieldLink "EbbWreck$Reader" 213 "EbbWreck$Coast" "seatCells" "[I" ∈ lw_g := mg (List.mem_of_getElem? (i := 300) (by decide +kernel)) rfl
theorem q724 : Cond.code ⟨"EbbWreck$RuleBook", "isFull", "()Z"⟩ prog_8_method_4_code 1 (some .boolean) ∈ lw_g := mg (List.mem_of_getElem? (i := 724) (by decide +kernel)) rfl
theorem q722 : Cond.instanceMethod ⟨"EbbWreck$RuleBook", "isFull", "()Z"⟩ ∈ lw_g := mg (List.mem_of_getElem? (i := 722) (by decide +kernel)) rfl
theorem q723 : Cond.selects "EbbWreck$RuleBook" ⟨"EbbWreck$RuleBook", "isFull", "()Z"⟩ ⟨"EbbWreck$RuleBook", "isFull", "()Z"⟩ ∈ lw_g := mg (List.mem_of_getElem? (i := 723) (by decide +kernel)) rfl
theorem q735 : Cond.methodLink "EbbWreck$RuleBook" 34 ⟨"EbbWreck$RuleBook", "isFull", "()Z"⟩ ∈ lw_g := mg (List.mem_of_getElem? (i := 735) (by decide +kernel)) rfl
theorem q292 : Cond.fieldLink "EbbWreck$Reader" 190 "EbbWreck$Coast" "rules" "LEbbWreck$RuleBook;" ∈ lw_g := mg (List.mem_of_getElem? (i := 292) (by decide +kernel)) rfl
theorem q721 : Cond.methodLink "EbbWreck$Reader" 194 ⟨"EbbWreck$RuleBook", "isFull", "()Z"⟩ ∈ lw_g := mg (List.mem_of_getElem? (i := 721) (by decide +kernel)) rfl
theorem q730 : Cond.code ⟨"EbbWreck$Reader", "readPhases", "()I"⟩ prog_7_method_19_code 4 (some .int) ∈ lw_g := mg (List.mem_of_getElem? (i := 730) (by decide +kernel)) rfl
theorem q729 : Cond.instanceMethod ⟨"EbbWreck$Reader", "readPhases", "()I"⟩ ∈ lw_g := mg (List.mem_of_getElem? (i := 729) (by decide +kernel)) rfl
theorem q15 : Cond.selects "EbbWreck$Reader" ⟨"EbbWreck$Reader", "readPhases", "()I"⟩ ⟨"EbbWreck$Reader", "readPhases", "()I"⟩ ∈ lw_g := mg (List.mem_of_getElem? (i := 15) (by decide +kernel)) rfl
theorem q727 : Cond.methodLink "EbbWreck$Reader" 203 ⟨"EbbWreck$Reader", "readPhases", "()I"⟩ ∈ lw_g := mg (List.mem_of_getElem? (i := 727) (by decide +kernel)) rfl
theorem q734 : Cond.code ⟨"EbbWreck$RuleBook", "addRule", "(IIII)V"⟩ prog_8_method_5_code 5 none ∈ lw_g := mg (List.mem_of_getElem? (i := 734) (by decide +kernel)) rfl
theorem q732 : Cond.instanceMethod ⟨"EbbWreck$RuleBook", "addRule", "(IIII)V"⟩ ∈ lw_g := mg (List.mem_of_getElem? (i := 732) (by decide +kernel)) rfl
theorem q733 : Cond.selects "EbbWreck$RuleBook" ⟨"EbbWreck$RuleBook", "addRule", "(IIII)V"⟩ ⟨"EbbWreck$RuleBook", "addRule", "(IIII)V"⟩ ∈ lw_g := mg (List.mem_of_getElem? (i := 733) (by decide +kernel)) rfl
theorem q731 : Cond.methodLink "EbbWreck$Reader" 206 ⟨"EbbWreck$RuleBook", "addRule", "(IIII)V"⟩ ∈ lw_g := mg (List.mem_of_getElem? (i := 731) (by decide +kernel)) rfl
theorem q237 : Cond.fieldLink "EbbWreck$Reader" 62 "EbbWreck$Coast" "lines" "I" ∈ lw_g := mg (List.mem_of_getElem? (i := 237) (by decide +kernel)) rfl
theorem q740 : Cond.code ⟨"EbbWreck$Reader", "readSitter", "()V"⟩ prog_7_method_20_code 1 none ∈ lw_g := mg (List.mem_of_getElem? (i := 740) (by decide +kernel)) rfl
theorem q739 : Cond.instanceMethod ⟨"EbbWreck$Reader", "readSitter", "()V"⟩ ∈ lw_g := mg (List.mem_of_getElem? (i := 739) (by decide +kernel)) rfl
theorem q16 : Cond.selects "EbbWreck$Reader" ⟨"EbbWreck$Reader", "readSitter", "()V"⟩ ⟨"EbbWreck$Reader", "readSitter", "()V"⟩ ∈ lw_g := mg (List.mem_of_getElem? (i := 16) (by decide +kernel)) rfl
theorem q737 : Cond.methodLink "EbbWreck$Reader" 121 ⟨"EbbWreck$Reader", "readSitter", "()V"⟩ ∈ lw_g := mg (List.mem_of_getElem? (i := 737) (by decide +kernel)) rfl
theorem q720 : Cond.code ⟨"EbbWreck$Reader", "readRule", "()V"⟩ prog_7_method_18_code 4 none ∈ lw_g := mg (List.mem_of_getElem? (i := 720) (by decide +kernel)) rfl
theorem q719 : Cond.instanceMethod ⟨"EbbWreck$Reader", "readRule", "()V"⟩ ∈ lw_g := mg (List.mem_of_getElem? (i := 719) (by decide +kernel)) rfl
theorem q14 : Cond.selects "EbbWreck$Reader" ⟨"EbbWreck$Reader", "readRule", "()V"⟩ ⟨"EbbWreck$Reader", "readRule", "()V"⟩ ∈ lw_g := mg (List.mem_of_getElem? (i := 14) (by decide +kernel)) rfl
theorem q717 : Cond.methodLink "EbbWreck$Reader" 116 ⟨"EbbWreck$Reader", "readRule", "()V"⟩ ∈ lw_g := mg (List.mem_of_getElem? (i := 717) (by decide +kernel)) rfl
theorem q712 : Cond.code ⟨"EbbWreck$Reader", "readThing", "()V"⟩ prog_7_method_17_code 1 none ∈ lw_g := mg (List.mem_of_getElem? (i := 712) (by decide +kernel)) rfl
theorem q711 : Cond.instanceMethod ⟨"EbbWreck$Reader", "readThing", "()V"⟩ ∈ lw_g := mg (List.mem_of_getElem? (i := 711) (by decide +kernel)) rfl
theorem q13 : Cond.selects "EbbWreck$Reader" ⟨"EbbWreck$Reader", "readThing", "()V"⟩ ⟨"EbbWreck$Reader", "readThing", "()V"⟩ ∈ lw_g := mg (List.mem_of_getElem? (i := 13) (by decide +kernel)) rfl
theorem q709 : Cond.methodLink "EbbWreck$Reader" 111 ⟨"EbbWreck$Reader", "readThing", "()V"⟩ ∈ lw_g := mg (List.mem_of_getElem? (i := 709) (by decide +kernel)) rfl
theorem q707 : Cond.code ⟨"EbbWreck$Reader", "readBeach", "()V"⟩ prog_7_method_16_code 1 none ∈ lw_g := mg (List.mem_of_getElem? (i := 707) (by decide +kernel)) rfl
theorem q706 : Cond.instanceMethod ⟨"EbbWreck$Reader", "readBeach", "()V"⟩ ∈ lw_g := mg (List.mem_of_getElem? (i := 706) (by decide +kernel)) rfl
theorem q12 : Cond.selects "EbbWreck$Reader" ⟨"EbbWreck$Reader", "readBeach", "()V"⟩ ⟨"EbbWreck$Reader", "readBeach", "()V"⟩ ∈ lw_g := mg (List.mem_of_getElem? (i := 12) (by decide +kernel)) rfl
theorem q704 : Cond.methodLink "EbbWreck$Reader" 106 ⟨"EbbWreck$Reader", "readBeach", "()V"⟩ ∈ lw_g := mg (List.mem_of_getElem? (i := 704) (by decide +kernel)) rfl
theorem q697 : Cond.code ⟨"EbbWreck$Reader", "readCurrent", "()V"⟩ prog_7_method_14_code 4 none ∈ lw_g := mg (List.mem_of_getElem? (i := 697) (by decide +kernel)) rfl
theorem q696 : Cond.instanceMethod ⟨"EbbWreck$Reader", "readCurrent", "()V"⟩ ∈ lw_g := mg (List.mem_of_getElem? (i := 696) (by decide +kernel)) rfl
theorem q10 : Cond.selects "EbbWreck$Reader" ⟨"EbbWreck$Reader", "readCurrent", "()V"⟩ ⟨"EbbWreck$Reader", "readCurrent", "()V"⟩ ∈ lw_g := mg (List.mem_of_getElem? (i := 10) (by decide +kernel)) rfl
theorem q694 : Cond.methodLink "EbbWreck$Reader" 101 ⟨"EbbWreck$Reader", "readCurrent", "()V"⟩ ∈ lw_g := mg (List.mem_of_getElem? (i := 694) (by decide +kernel)) rfl
theorem q621 : Cond.code ⟨"EbbWreck$Reader", "readShore", "()V"⟩ prog_7_method_13_code 4 none ∈ lw_g := mg (List.mem_of_getElem? (i := 621) (by decide +kernel)) rfl
theorem q620 : Cond.instanceMethod ⟨"EbbWreck$Reader", "readShore", "()V"⟩ ∈ lw_g := mg (List.mem_of_getElem? (i := 620) (by decide +kernel)) rfl
theorem q5 : Cond.selects "EbbWreck$Reader" ⟨"EbbWreck$Reader", "readShore", "()V"⟩ ⟨"EbbWreck$Reader", "readShore", "()V"⟩ ∈ lw_g := mg (List.mem_of_getElem? (i := 5) (by decide +kernel)) rfl
theorem q618 : Cond.methodLink "EbbWreck$Reader" 96 ⟨"EbbWreck$Reader", "readShore", "()V"⟩ ∈ lw_g := mg (List.mem_of_getElem? (i := 618) (by decide +kernel)) rfl
theorem q247 : Cond.fieldLink "EbbWreck$Coast" 58 "EbbWreck$Coast" "odds" "I" ∈ lw_g := mg (List.mem_of_getElem? (i := 247) (by decide +kernel)) rfl
theorem q592 : Cond.methodLink "EbbWreck$Coast" 61 ⟨"EbbWreck$Tide", "tell", "(III)V"⟩ ∈ lw_g := mg (List.mem_of_getElem? (i := 592) (by decide +kernel)) rfl
theorem q597 : Cond.methodLink "EbbWreck$Coast" 65 ⟨"java/util/Arrays", "fill", "([II)V"⟩ ∈ lw_g := mg (List.mem_of_getElem? (i := 597) (by decide +kernel)) rfl
theorem q187 : Cond.fieldLink "EbbWreck$Coast" 77 "EbbWreck$RuleBook" "size" "I" ∈ lw_g := mg (List.mem_of_getElem? (i := 187) (by decide +kernel)) rfl
theorem q301 : Cond.fieldLink "EbbWreck$Coast" 47 "EbbWreck$Coast" "acts" "LEbbWreck$Acts;" ∈ lw_g := mg (List.mem_of_getElem? (i := 301) (by decide +kernel)) rfl
theorem q216 : Cond.fieldLink "EbbWreck$Coast" 83 "EbbWreck$Acts" "size" "I" ∈ lw_g := mg (List.mem_of_getElem? (i := 216) (by decide +kernel)) rfl
theorem q585 : Cond.methodLink "EbbWreck$Reader" 25 ⟨"java/lang/Math", "max", "(II)I"⟩ ∈ lw_g := mg (List.mem_of_getElem? (i := 585) (by decide +kernel)) rfl
theorem q591 : Cond.code ⟨"EbbWreck$Coast", "clear", "()V"⟩ prog_3_method_2_code 1 none ∈ lw_g := mg (List.mem_of_getElem? (i := 591) (by decide +kernel)) rfl
theorem q589 : Cond.instanceMethod ⟨"EbbWreck$Coast", "clear", "()V"⟩ ∈ lw_g := mg (List.mem_of_getElem? (i := 589) (by decide +kernel)) rfl
theorem q590 : Cond.selects "EbbWreck$Coast" ⟨"EbbWreck$Coast", "clear", "()V"⟩ ⟨"EbbWreck$Coast", "clear", "()V"⟩ ∈ lw_g := mg (List.mem_of_getElem? (i := 590) (by decide +kernel)) rfl
theorem q588 : Cond.methodLink "EbbWreck$Reader" 41 ⟨"EbbWreck$Coast", "clear", "()V"⟩ ∈ lw_g := mg (List.mem_of_getElem? (i := 588) (by decide +kernel)) rfl
theorem q617 : Cond.code ⟨"EbbWreck$Reader", "readLine", "()V"⟩ prog_7_method_12_code 1 none ∈ lw_g := mg (List.mem_of_getElem? (i := 617) (by decide +kernel)) rfl
theorem q616 : Cond.instanceMethod ⟨"EbbWreck$Reader", "readLine", "()V"⟩ ∈ lw_g := mg (List.mem_of_getElem? (i := 616) (by decide +kernel)) rfl
theorem q4 : Cond.selects "EbbWreck$Reader" ⟨"EbbWreck$Reader", "readLine", "()V"⟩ ⟨"EbbWreck$Reader", "readLine", "()V"⟩ ∈ lw_g := mg (List.mem_of_getElem? (i := 4) (by decide +kernel)) rfl
theorem q614 : Cond.methodLink "EbbWreck$Reader" 56 ⟨"EbbWreck$Reader", "readLine", "()V"⟩ ∈ lw_g := mg (List.mem_of_getElem? (i := 614) (by decide +kernel)) rfl
theorem q744 : Cond.code ⟨"EbbWreck$Reader", "expectSign", "()V"⟩ prog_7_method_10_code 1 none ∈ lw_g := mg (List.mem_of_getElem? (i := 744) (by decide +kernel)) rfl
theorem q743 : Cond.instanceMethod ⟨"EbbWreck$Reader", "expectSign", "()V"⟩ ∈ lw_g := mg (List.mem_of_getElem? (i := 743) (by decide +kernel)) rfl
theorem q17 : Cond.selects "EbbWreck$Reader" ⟨"EbbWreck$Reader", "expectSign", "()V"⟩ ⟨"EbbWreck$Reader", "expectSign", "()V"⟩ ∈ lw_g := mg (List.mem_of_getElem? (i := 17) (by decide +kernel)) rfl
theorem q741 : Cond.methodLink "EbbWreck$Reader" 59 ⟨"EbbWreck$Reader", "expectSign", "()V"⟩ ∈ lw_g := mg (List.mem_of_getElem? (i := 741) (by decide +kernel)) rfl
theorem q1348 : Cond.code ⟨"EbbWreck$Acts", "isFull", "()Z"⟩ prog_2_method_3_code 1 (some .boolean) ∈ lw_g := mg (List.mem_of_getElem? (i := 1348) (by decide +kernel)) rfl
theorem q1346 : Cond.instanceMethod ⟨"EbbWreck$Acts", "isFull", "()Z"⟩ ∈ lw_g := mg (List.mem_of_getElem? (i := 1346) (by decide +kernel)) rfl
theorem q1347 : Cond.selects "EbbWreck$Acts" ⟨"EbbWreck$Acts", "isFull", "()Z"⟩ ⟨"EbbWreck$Acts", "isFull", "()Z"⟩ ∈ lw_g := mg (List.mem_of_getElem? (i := 1347) (by decide +kernel)) rfl
theorem q1357 : Cond.methodLink "EbbWreck$Acts" 35 ⟨"EbbWreck$Acts", "isFull", "()Z"⟩ ∈ lw_g := mg (List.mem_of_getElem? (i := 1357) (by decide +kernel)) rfl
theorem q1356 : Cond.code ⟨"EbbWreck$Acts", "addAct", "(III)V"⟩ prog_2_method_6_code 4 none ∈ lw_g := mg (List.mem_of_getElem? (i := 1356) (by decide +kernel)) rfl
theorem q1355 : Cond.instanceMethod ⟨"EbbWreck$Acts", "addAct", "(III)V"⟩ ∈ lw_g := mg (List.mem_of_getElem? (i := 1355) (by decide +kernel)) rfl
theorem q45 : Cond.selects "EbbWreck$Acts" ⟨"EbbWreck$Acts", "addAct", "(III)V"⟩ ⟨"EbbWreck$Acts", "addAct", "(III)V"⟩ ∈ lw_g := mg (List.mem_of_getElem? (i := 45) (by decide +kernel)) rfl
theorem q1353 : Cond.methodLink "EbbWreck$Acts" 31 ⟨"EbbWreck$Acts", "addAct", "(III)V"⟩ ∈ lw_g := mg (List.mem_of_getElem? (i := 1353) (by decide +kernel)) rfl
theorem q223 : Cond.fieldLink "EbbWreck$Coast" 124 "EbbWreck$Acts" "whos" "[I" ∈ lw_g := mg (List.mem_of_getElem? (i := 223) (by decide +kernel)) rfl
theorem q221 : Cond.fieldLink "EbbWreck$Coast" 127 "EbbWreck$Acts" "ways" "[I" ∈ lw_g := mg (List.mem_of_getElem? (i := 221) (by decide +kernel)) rfl
theorem q297 : Cond.fieldLink "EbbWreck$Coast" 41 "EbbWreck$Coast" "seatCells" "[I" ∈ lw_g := mg (List.mem_of_getElem? (i := 297) (by decide +kernel)) rfl
theorem q226 : Cond.fieldLink "EbbWreck$Coast" 130 "EbbWreck$Acts" "marks" "[I" ∈ lw_g := mg (List.mem_of_getElem? (i := 226) (by decide +kernel)) rfl
theorem q1345 : Cond.methodLink "EbbWreck" 345 ⟨"EbbWreck$Acts", "isFull", "()Z"⟩ ∈ lw_g := mg (List.mem_of_getElem? (i := 1345) (by decide +kernel)) rfl
theorem q1352 : Cond.code ⟨"EbbWreck$Acts", "addSit", "(II)V"⟩ prog_2_method_4_code 3 none ∈ lw_g := mg (List.mem_of_getElem? (i := 1352) (by decide +kernel)) rfl
theorem q1350 : Cond.instanceMethod ⟨"EbbWreck$Acts", "addSit", "(II)V"⟩ ∈ lw_g := mg (List.mem_of_getElem? (i := 1350) (by decide +kernel)) rfl
theorem q1351 : Cond.selects "EbbWreck$Acts" ⟨"EbbWreck$Acts", "addSit", "(II)V"⟩ ⟨"EbbWreck$Acts", "addSit", "(II)V"⟩ ∈ lw_g := mg (List.mem_of_getElem? (i := 1351) (by decide +kernel)) rfl
theorem q1349 : Cond.methodLink "EbbWreck" 348 ⟨"EbbWreck$Acts", "addSit", "(II)V"⟩ ∈ lw_g := mg (List.mem_of_getElem? (i := 1349) (by decide +kernel)) rfl
theorem q1365 : Cond.code ⟨"EbbWreck$Acts", "isPushed", "(II)Z"⟩ prog_2_method_8_code 4 (some .boolean) ∈ lw_g := mg (List.mem_of_getElem? (i := 1365) (by decide +kernel)) rfl
theorem q1363 : Cond.instanceMethod ⟨"EbbWreck$Acts", "isPushed", "(II)Z"⟩ ∈ lw_g := mg (List.mem_of_getElem? (i := 1363) (by decide +kernel)) rfl
theorem q1364 : Cond.selects "EbbWreck$Acts" ⟨"EbbWreck$Acts", "isPushed", "(II)Z"⟩ ⟨"EbbWreck$Acts", "isPushed", "(II)Z"⟩ ∈ lw_g := mg (List.mem_of_getElem? (i := 1364) (by decide +kernel)) rfl
theorem q1362 : Cond.methodLink "EbbWreck" 352 ⟨"EbbWreck$Acts", "isPushed", "(II)Z"⟩ ∈ lw_g := mg (List.mem_of_getElem? (i := 1362) (by decide +kernel)) rfl
theorem q1370 : Cond.code ⟨"EbbWreck$Acts", "addPush", "(III)V"⟩ prog_2_method_5_code 4 none ∈ lw_g := mg (List.mem_of_getElem? (i := 1370) (by decide +kernel)) rfl
theorem q1368 : Cond.instanceMethod ⟨"EbbWreck$Acts", "addPush", "(III)V"⟩ ∈ lw_g := mg (List.mem_of_getElem? (i := 1368) (by decide +kernel)) rfl
theorem q1369 : Cond.selects "EbbWreck$Acts" ⟨"EbbWreck$Acts", "addPush", "(III)V"⟩ ⟨"EbbWreck$Acts", "addPush", "(III)V"⟩ ∈ lw_g := mg (List.mem_of_getElem? (i := 1369) (by decide +kernel)) rfl
theorem q1367 : Cond.methodLink "EbbWreck" 355 ⟨"EbbWreck$Acts", "addPush", "(III)V"⟩ ∈ lw_g := mg (List.mem_of_getElem? (i := 1367) (by decide +kernel)) rfl
theorem q1371 : Cond.methodLink "EbbWreck" 359 ⟨"EbbWreck$Drift", "settle", "(I)V"⟩ ∈ lw_g := mg (List.mem_of_getElem? (i := 1371) (by decide +kernel)) rfl
theorem q1375 : Cond.code ⟨"EbbWreck$Acts", "pushesOf", "(I)I"⟩ prog_2_method_9_code 4 (some .int) ∈ lw_g := mg (List.mem_of_getElem? (i := 1375) (by decide +kernel)) rfl
theorem q1373 : Cond.instanceMethod ⟨"EbbWreck$Acts", "pushesOf", "(I)I"⟩ ∈ lw_g := mg (List.mem_of_getElem? (i := 1373) (by decide +kernel)) rfl
theorem q1374 : Cond.selects "EbbWreck$Acts" ⟨"EbbWreck$Acts", "pushesOf", "(I)I"⟩ ⟨"EbbWreck$Acts", "pushesOf", "(I)I"⟩ ∈ lw_g := mg (List.mem_of_getElem? (i := 1374) (by decide +kernel)) rfl
theorem q1372 : Cond.methodLink "EbbWreck" 362 ⟨"EbbWreck$Acts", "pushesOf", "(I)I"⟩ ∈ lw_g := mg (List.mem_of_getElem? (i := 1372) (by decide +kernel)) rfl
theorem q1383 : Cond.code ⟨"EbbWreck$Coast", "takeBack", "()I"⟩ prog_3_method_13_code 2 (some .int) ∈ lw_g := mg (List.mem_of_getElem? (i := 1383) (by decide +kernel)) rfl
theorem q1381 : Cond.instanceMethod ⟨"EbbWreck$Coast", "takeBack", "()I"⟩ ∈ lw_g := mg (List.mem_of_getElem? (i := 1381) (by decide +kernel)) rfl
theorem q1382 : Cond.selects "EbbWreck$Coast" ⟨"EbbWreck$Coast", "takeBack", "()I"⟩ ⟨"EbbWreck$Coast", "takeBack", "()I"⟩ ∈ lw_g := mg (List.mem_of_getElem? (i := 1382) (by decide +kernel)) rfl
theorem q1380 : Cond.methodLink "EbbWreck" 365 ⟨"EbbWreck$Coast", "takeBack", "()I"⟩ ∈ lw_g := mg (List.mem_of_getElem? (i := 1380) (by decide +kernel)) rfl
theorem q765 : Cond.code ⟨"EbbWreck$Drift", "settleAll", "()V"⟩ prog_4_method_2_code 2 none ∈ lw_g := mg (List.mem_of_getElem? (i := 765) (by decide +kernel)) rfl
theorem q763 : Cond.instanceMethod ⟨"EbbWreck$Drift", "settleAll", "()V"⟩ ∈ lw_g := mg (List.mem_of_getElem? (i := 763) (by decide +kernel)) rfl
theorem q764 : Cond.selects "EbbWreck$Drift" ⟨"EbbWreck$Drift", "settleAll", "()V"⟩ ⟨"EbbWreck$Drift", "settleAll", "()V"⟩ ∈ lw_g := mg (List.mem_of_getElem? (i := 764) (by decide +kernel)) rfl
theorem q762 : Cond.methodLink "EbbWreck" 110 ⟨"EbbWreck$Drift", "settleAll", "()V"⟩ ∈ lw_g := mg (List.mem_of_getElem? (i := 762) (by decide +kernel)) rfl
theorem q761 : Cond.methodLink "EbbWreck$Acts" 25 ⟨"java/lang/System", "arraycopy", "(Ljava/lang/Object;ILjava/lang/Object;II)V"⟩ ∈ lw_g := mg (List.mem_of_getElem? (i := 761) (by decide +kernel)) rfl
theorem q756 : Cond.methodLink "EbbWreck$RuleBook" 28 ⟨"java/lang/System", "arraycopy", "(Ljava/lang/Object;ILjava/lang/Object;II)V"⟩ ∈ lw_g := mg (List.mem_of_getElem? (i := 756) (by decide +kernel)) rfl
theorem q156 : Cond.fieldLink "EbbWreck$Coast" 84 "EbbWreck$Tide" "flood" "I" ∈ lw_g := mg (List.mem_of_getElem? (i := 156) (by decide +kernel)) rfl
theorem q159 : Cond.fieldLink "EbbWreck$Coast" 87 "EbbWreck$Tide" "slack" "I" ∈ lw_g := mg (List.mem_of_getElem? (i := 159) (by decide +kernel)) rfl
theorem q162 : Cond.fieldLink "EbbWreck$Coast" 90 "EbbWreck$Tide" "ebb" "I" ∈ lw_g := mg (List.mem_of_getElem? (i := 162) (by decide +kernel)) rfl
theorem q749 : Cond.methodLink "EbbWreck$Coast" 93 ⟨"java/lang/System", "arraycopy", "(Ljava/lang/Object;ILjava/lang/Object;II)V"⟩ ∈ lw_g := mg (List.mem_of_getElem? (i := 749) (by decide +kernel)) rfl
theorem q274 : Cond.fieldLink "EbbWreck$Coast" 25 "EbbWreck$Coast" "worths" "[I" ∈ lw_g := mg (List.mem_of_getElem? (i := 274) (by decide +kernel)) rfl
theorem q279 : Cond.fieldLink "EbbWreck$Coast" 28 "EbbWreck$Coast" "startCells" "[I" ∈ lw_g := mg (List.mem_of_getElem? (i := 279) (by decide +kernel)) rfl
theorem q284 : Cond.fieldLink "EbbWreck$Coast" 31 "EbbWreck$Coast" "startHours" "[I" ∈ lw_g := mg (List.mem_of_getElem? (i := 284) (by decide +kernel)) rfl
theorem q755 : Cond.code ⟨"EbbWreck$RuleBook", "copyFrom", "(LEbbWreck$RuleBook;)V"⟩ prog_8_method_2_code 2 none ∈ lw_g := mg (List.mem_of_getElem? (i := 755) (by decide +kernel)) rfl
theorem q753 : Cond.instanceMethod ⟨"EbbWreck$RuleBook", "copyFrom", "(LEbbWreck$RuleBook;)V"⟩ ∈ lw_g := mg (List.mem_of_getElem? (i := 753) (by decide +kernel)) rfl
theorem q754 : Cond.selects "EbbWreck$RuleBook" ⟨"EbbWreck$RuleBook", "copyFrom", "(LEbbWreck$RuleBook;)V"⟩ ⟨"EbbWreck$RuleBook", "copyFrom", "(LEbbWreck$RuleBook;)V"⟩ ∈ lw_g := mg (List.mem_of_getElem? (i := 754) (by decide +kernel)) rfl
theorem q752 : Cond.methodLink "EbbWreck$Coast" 99 ⟨"EbbWreck$RuleBook", "copyFrom", "(LEbbWreck$RuleBook;)V"⟩ ∈ lw_g := mg (List.mem_of_getElem? (i := 752) (by decide +kernel)) rfl
theorem q760 : Cond.code ⟨"EbbWreck$Acts", "copyFrom", "(LEbbWreck$Acts;)V"⟩ prog_2_method_2_code 2 none ∈ lw_g := mg (List.mem_of_getElem? (i := 760) (by decide +kernel)) rfl
theorem q758 : Cond.instanceMethod ⟨"EbbWreck$Acts", "copyFrom", "(LEbbWreck$Acts;)V"⟩ ∈ lw_g := mg (List.mem_of_getElem? (i := 758) (by decide +kernel)) rfl
theorem q759 : Cond.selects "EbbWreck$Acts" ⟨"EbbWreck$Acts", "copyFrom", "(LEbbWreck$Acts;)V"⟩ ⟨"EbbWreck$Acts", "copyFrom", "(LEbbWreck$Acts;)V"⟩ ∈ lw_g := mg (List.mem_of_getElem? (i := 759) (by decide +kernel)) rfl
theorem q757 : Cond.methodLink "EbbWreck$Coast" 103 ⟨"EbbWreck$Acts", "copyFrom", "(LEbbWreck$Acts;)V"⟩ ∈ lw_g := mg (List.mem_of_getElem? (i := 757) (by decide +kernel)) rfl
theorem q524 : Cond.fieldLink "EbbWreck" 46 "EbbWreck" "reader" "LEbbWreck$Reader;" ∈ lw_g := mg (List.mem_of_getElem? (i := 524) (by decide +kernel)) rfl
theorem q581 : Cond.code ⟨"EbbWreck$Reader", "read", "(I)V"⟩ prog_7_method_2_code 3 none ∈ lw_g := mg (List.mem_of_getElem? (i := 581) (by decide +kernel)) rfl
theorem q579 : Cond.instanceMethod ⟨"EbbWreck$Reader", "read", "(I)V"⟩ ∈ lw_g := mg (List.mem_of_getElem? (i := 579) (by decide +kernel)) rfl
theorem q580 : Cond.selects "EbbWreck$Reader" ⟨"EbbWreck$Reader", "read", "(I)V"⟩ ⟨"EbbWreck$Reader", "read", "(I)V"⟩ ∈ lw_g := mg (List.mem_of_getElem? (i := 580) (by decide +kernel)) rfl
theorem q578 : Cond.methodLink "EbbWreck" 102 ⟨"EbbWreck$Reader", "read", "(I)V"⟩ ∈ lw_g := mg (List.mem_of_getElem? (i := 578) (by decide +kernel)) rfl
theorem q350 : Cond.fieldLink "EbbWreck" 105 "EbbWreck$Reader" "faultKind" "I" ∈ lw_g := mg (List.mem_of_getElem? (i := 350) (by decide +kernel)) rfl
theorem q352 : Cond.fieldLink "EbbWreck" 106 "EbbWreck$Reader" "faultPlace" "I" ∈ lw_g := mg (List.mem_of_getElem? (i := 352) (by decide +kernel)) rfl
theorem q521 : Cond.fieldLink "EbbWreck" 30 "EbbWreck" "draft" "LEbbWreck$Coast;" ∈ lw_g := mg (List.mem_of_getElem? (i := 521) (by decide +kernel)) rfl
theorem q748 : Cond.code ⟨"EbbWreck$Coast", "copyFrom", "(LEbbWreck$Coast;)V"⟩ prog_3_method_3_code 2 none ∈ lw_g := mg (List.mem_of_getElem? (i := 748) (by decide +kernel)) rfl
theorem q746 : Cond.instanceMethod ⟨"EbbWreck$Coast", "copyFrom", "(LEbbWreck$Coast;)V"⟩ ∈ lw_g := mg (List.mem_of_getElem? (i := 746) (by decide +kernel)) rfl
theorem q747 : Cond.selects "EbbWreck$Coast" ⟨"EbbWreck$Coast", "copyFrom", "(LEbbWreck$Coast;)V"⟩ ⟨"EbbWreck$Coast", "copyFrom", "(LEbbWreck$Coast;)V"⟩ ∈ lw_g := mg (List.mem_of_getElem? (i := 747) (by decide +kernel)) rfl
theorem q745 : Cond.methodLink "EbbWreck" 107 ⟨"EbbWreck$Coast", "copyFrom", "(LEbbWreck$Coast;)V"⟩ ∈ lw_g := mg (List.mem_of_getElem? (i := 745) (by decide +kernel)) rfl
theorem q522 : Cond.fieldLink "EbbWreck" 33 "EbbWreck" "images" "[LEbbWreck$Coast;" ∈ lw_g := mg (List.mem_of_getElem? (i := 522) (by decide +kernel)) rfl
theorem q523 : Cond.fieldLink "EbbWreck" 37 "EbbWreck" "kept" "[Z" ∈ lw_g := mg (List.mem_of_getElem? (i := 523) (by decide +kernel)) rfl
theorem q451 : Cond.fieldLink "EbbWreck$Seating" 21 "EbbWreck$Seating" "coast" "LEbbWreck$Coast;" ∈ lw_g := mg (List.mem_of_getElem? (i := 451) (by decide +kernel)) rfl
theorem q269 : Cond.fieldLink "EbbWreck$Seating" 29 "EbbWreck$Coast" "things" "I" ∈ lw_g := mg (List.mem_of_getElem? (i := 269) (by decide +kernel)) rfl
theorem q275 : Cond.fieldLink "EbbWreck$Seating" 35 "EbbWreck$Coast" "worths" "[I" ∈ lw_g := mg (List.mem_of_getElem? (i := 275) (by decide +kernel)) rfl
theorem q294 : Cond.fieldLink "EbbWreck$Seating" 38 "EbbWreck$Coast" "sitters" "I" ∈ lw_g := mg (List.mem_of_getElem? (i := 294) (by decide +kernel)) rfl
theorem q452 : Cond.fieldLink "EbbWreck$Seating" 25 "EbbWreck$Seating" "drift" "LEbbWreck$Drift;" ∈ lw_g := mg (List.mem_of_getElem? (i := 452) (by decide +kernel)) rfl
theorem q1280 : Cond.methodLink "EbbWreck$Seating" 44 ⟨"EbbWreck$Drift", "thingsUpOn", "(I)I"⟩ ∈ lw_g := mg (List.mem_of_getElem? (i := 1280) (by decide +kernel)) rfl
theorem q1284 : Cond.code ⟨"EbbWreck$Drift", "thingsLeftToSitters", "()I"⟩ prog_4_method_14_code 3 (some .int) ∈ lw_g := mg (List.mem_of_getElem? (i := 1284) (by decide +kernel)) rfl
theorem q1282 : Cond.instanceMethod ⟨"EbbWreck$Drift", "thingsLeftToSitters", "()I"⟩ ∈ lw_g := mg (List.mem_of_getElem? (i := 1282) (by decide +kernel)) rfl
theorem q1283 : Cond.selects "EbbWreck$Drift" ⟨"EbbWreck$Drift", "thingsLeftToSitters", "()I"⟩ ⟨"EbbWreck$Drift", "thingsLeftToSitters", "()I"⟩ ∈ lw_g := mg (List.mem_of_getElem? (i := 1283) (by decide +kernel)) rfl
theorem q1281 : Cond.methodLink "EbbWreck$Seating" 50 ⟨"EbbWreck$Drift", "thingsLeftToSitters", "()I"⟩ ∈ lw_g := mg (List.mem_of_getElem? (i := 1281) (by decide +kernel)) rfl
theorem q1289 : Cond.code ⟨"EbbWreck$Seating", "payFor", "(II)I"⟩ prog_9_method_2_code 5 (some .int) ∈ lw_g := mg (List.mem_of_getElem? (i := 1289) (by decide +kernel)) rfl
theorem q1288 : Cond.instanceMethod ⟨"EbbWreck$Seating", "payFor", "(II)I"⟩ ∈ lw_g := mg (List.mem_of_getElem? (i := 1288) (by decide +kernel)) rfl
theorem q39 : Cond.selects "EbbWreck$Seating" ⟨"EbbWreck$Seating", "payFor", "(II)I"⟩ ⟨"EbbWreck$Seating", "payFor", "(II)I"⟩ ∈ lw_g := mg (List.mem_of_getElem? (i := 39) (by decide +kernel)) rfl
theorem q123 : Cond.initialized "EbbWreck$Seating" ∈ lw_g := mg (List.mem_of_getElem? (i := 123) (by decide +kernel)) rfl
theorem q1286 : Cond.methodLink "EbbWreck$Seating" 54 ⟨"EbbWreck$Seating", "payFor", "(II)I"⟩ ∈ lw_g := mg (List.mem_of_getElem? (i := 1286) (by decide +kernel)) rfl
theorem q298 : Cond.fieldLink "EbbWreck$Seating" 41 "EbbWreck$Coast" "seatCells" "[I" ∈ lw_g := mg (List.mem_of_getElem? (i := 298) (by decide +kernel)) rfl
theorem q1279 : Cond.code ⟨"EbbWreck$Seating", "worthOn", "(II)I"⟩ prog_9_method_3_code 5 (some .int) ∈ lw_g := mg (List.mem_of_getElem? (i := 1279) (by decide +kernel)) rfl
theorem q1277 : Cond.instanceMethod ⟨"EbbWreck$Seating", "worthOn", "(II)I"⟩ ∈ lw_g := mg (List.mem_of_getElem? (i := 1277) (by decide +kernel)) rfl
theorem q1278 : Cond.selects "EbbWreck$Seating" ⟨"EbbWreck$Seating", "worthOn", "(II)I"⟩ ⟨"EbbWreck$Seating", "worthOn", "(II)I"⟩ ∈ lw_g := mg (List.mem_of_getElem? (i := 1278) (by decide +kernel)) rfl
theorem q1302 : Cond.methodLink "EbbWreck$Seating" 58 ⟨"EbbWreck$Seating", "worthOn", "(II)I"⟩ ∈ lw_g := mg (List.mem_of_getElem? (i := 1302) (by decide +kernel)) rfl
theorem q242 : Cond.fieldLink "EbbWreck$Seating" 61 "EbbWreck$Coast" "cells" "I" ∈ lw_g := mg (List.mem_of_getElem? (i := 242) (by decide +kernel)) rfl
theorem q453 : Cond.fieldLink "EbbWreck$Seating" 9 "EbbWreck$Seating" "pays" "[I" ∈ lw_g := mg (List.mem_of_getElem? (i := 453) (by decide +kernel)) rfl
theorem q454 : Cond.fieldLink "EbbWreck$Seating" 15 "EbbWreck$Seating" "crowd" "[I" ∈ lw_g := mg (List.mem_of_getElem? (i := 454) (by decide +kernel)) rfl
theorem q1323 : Cond.methodLink "EbbWreck$Seating" 78 ⟨"java/util/Arrays", "fill", "([II)V"⟩ ∈ lw_g := mg (List.mem_of_getElem? (i := 1323) (by decide +kernel)) rfl
theorem q1324 : Cond.methodLink "EbbWreck$Seating" 84 ⟨"EbbWreck$Coast", "isBeach", "(I)Z"⟩ ∈ lw_g := mg (List.mem_of_getElem? (i := 1324) (by decide +kernel)) rfl
theorem q455 : Cond.fieldLink "EbbWreck$Seating" 18 "EbbWreck$Seating" "tried" "[I" ∈ lw_g := mg (List.mem_of_getElem? (i := 455) (by decide +kernel)) rfl
theorem q1332 : Cond.code ⟨"EbbWreck$Seating", "wouldMove", "(I)Z"⟩ prog_9_method_11_code 4 (some .boolean) ∈ lw_g := mg (List.mem_of_getElem? (i := 1332) (by decide +kernel)) rfl
theorem q1331 : Cond.instanceMethod ⟨"EbbWreck$Seating", "wouldMove", "(I)Z"⟩ ∈ lw_g := mg (List.mem_of_getElem? (i := 1331) (by decide +kernel)) rfl
theorem q44 : Cond.selects "EbbWreck$Seating" ⟨"EbbWreck$Seating", "wouldMove", "(I)Z"⟩ ⟨"EbbWreck$Seating", "wouldMove", "(I)Z"⟩ ∈ lw_g := mg (List.mem_of_getElem? (i := 44) (by decide +kernel)) rfl
theorem q1329 : Cond.methodLink "EbbWreck$Seating" 87 ⟨"EbbWreck$Seating", "wouldMove", "(I)Z"⟩ ∈ lw_g := mg (List.mem_of_getElem? (i := 1329) (by decide +kernel)) rfl
theorem q1314 : Cond.code ⟨"EbbWreck$Seating", "layPays", "()V"⟩ prog_9_method_5_code 5 none ∈ lw_g := mg (List.mem_of_getElem? (i := 1314) (by decide +kernel)) rfl
theorem q1313 : Cond.instanceMethod ⟨"EbbWreck$Seating", "layPays", "()V"⟩ ∈ lw_g := mg (List.mem_of_getElem? (i := 1313) (by decide +kernel)) rfl
theorem q40 : Cond.selects "EbbWreck$Seating" ⟨"EbbWreck$Seating", "layPays", "()V"⟩ ⟨"EbbWreck$Seating", "layPays", "()V"⟩ ∈ lw_g := mg (List.mem_of_getElem? (i := 40) (by decide +kernel)) rfl
theorem q1311 : Cond.methodLink "EbbWreck$Seating" 64 ⟨"EbbWreck$Seating", "layPays", "()V"⟩ ∈ lw_g := mg (List.mem_of_getElem? (i := 1311) (by decide +kernel)) rfl
theorem q1318 : Cond.code ⟨"EbbWreck$Seating", "countWays", "()I"⟩ prog_9_method_6_code 3 (some .int) ∈ lw_g := mg (List.mem_of_getElem? (i := 1318) (by decide +kernel)) rfl
theorem q1317 : Cond.instanceMethod ⟨"EbbWreck$Seating", "countWays", "()I"⟩ ∈ lw_g := mg (List.mem_of_getElem? (i := 1317) (by decide +kernel)) rfl
theorem q41 : Cond.selects "EbbWreck$Seating" ⟨"EbbWreck$Seating", "countWays", "()I"⟩ ⟨"EbbWreck$Seating", "countWays", "()I"⟩ ∈ lw_g := mg (List.mem_of_getElem? (i := 41) (by decide +kernel)) rfl
theorem q1315 : Cond.methodLink "EbbWreck$Seating" 67 ⟨"EbbWreck$Seating", "countWays", "()I"⟩ ∈ lw_g := mg (List.mem_of_getElem? (i := 1315) (by decide +kernel)) rfl
theorem q1322 : Cond.code ⟨"EbbWreck$Seating", "tryWay", "(I)Z"⟩ prog_9_method_9_code 5 (some .boolean) ∈ lw_g := mg (List.mem_of_getElem? (i := 1322) (by decide +kernel)) rfl
theorem q1321 : Cond.instanceMethod ⟨"EbbWreck$Seating", "tryWay", "(I)Z"⟩ ∈ lw_g := mg (List.mem_of_getElem? (i := 1321) (by decide +kernel)) rfl
theorem q42 : Cond.selects "EbbWreck$Seating" ⟨"EbbWreck$Seating", "tryWay", "(I)Z"⟩ ⟨"EbbWreck$Seating", "tryWay", "(I)Z"⟩ ∈ lw_g := mg (List.mem_of_getElem? (i := 42) (by decide +kernel)) rfl
theorem q1319 : Cond.methodLink "EbbWreck$Seating" 70 ⟨"EbbWreck$Seating", "tryWay", "(I)Z"⟩ ∈ lw_g := mg (List.mem_of_getElem? (i := 1319) (by decide +kernel)) rfl
theorem q1328 : Cond.code ⟨"EbbWreck$Seating", "isRest", "()Z"⟩ prog_9_method_10_code 2 (some .boolean) ∈ lw_g := mg (List.mem_of_getElem? (i := 1328) (by decide +kernel)) rfl
theorem q1327 : Cond.instanceMethod ⟨"EbbWreck$Seating", "isRest", "()Z"⟩ ∈ lw_g := mg (List.mem_of_getElem? (i := 1327) (by decide +kernel)) rfl
theorem q43 : Cond.selects "EbbWreck$Seating" ⟨"EbbWreck$Seating", "isRest", "()Z"⟩ ⟨"EbbWreck$Seating", "isRest", "()Z"⟩ ∈ lw_g := mg (List.mem_of_getElem? (i := 43) (by decide +kernel)) rfl
theorem q1325 : Cond.methodLink "EbbWreck$Seating" 74 ⟨"EbbWreck$Seating", "isRest", "()Z"⟩ ∈ lw_g := mg (List.mem_of_getElem? (i := 1325) (by decide +kernel)) rfl
theorem q528 : Cond.fieldLink "EbbWreck" 78 "EbbWreck" "seating" "LEbbWreck$Seating;" ∈ lw_g := mg (List.mem_of_getElem? (i := 528) (by decide +kernel)) rfl
theorem q1276 : Cond.methodLink "EbbWreck" 334 ⟨"EbbWreck$Seating", "worthOn", "(II)I"⟩ ∈ lw_g := mg (List.mem_of_getElem? (i := 1276) (by decide +kernel)) rfl
theorem q1301 : Cond.code ⟨"EbbWreck$Seating", "bestCell", "(I)I"⟩ prog_9_method_4_code 6 (some .int) ∈ lw_g := mg (List.mem_of_getElem? (i := 1301) (by decide +kernel)) rfl
theorem q1299 : Cond.instanceMethod ⟨"EbbWreck$Seating", "bestCell", "(I)I"⟩ ∈ lw_g := mg (List.mem_of_getElem? (i := 1299) (by decide +kernel)) rfl
theorem q1300 : Cond.selects "EbbWreck$Seating" ⟨"EbbWreck$Seating", "bestCell", "(I)I"⟩ ⟨"EbbWreck$Seating", "bestCell", "(I)I"⟩ ∈ lw_g := mg (List.mem_of_getElem? (i := 1300) (by decide +kernel)) rfl
theorem q1298 : Cond.methodLink "EbbWreck" 337 ⟨"EbbWreck$Seating", "bestCell", "(I)I"⟩ ∈ lw_g := mg (List.mem_of_getElem? (i := 1298) (by decide +kernel)) rfl
theorem q1310 : Cond.code ⟨"EbbWreck$Seating", "countRests", "()I"⟩ prog_9_method_7_code 4 (some .int) ∈ lw_g := mg (List.mem_of_getElem? (i := 1310) (by decide +kernel)) rfl
theorem q1308 : Cond.instanceMethod ⟨"EbbWreck$Seating", "countRests", "()I"⟩ ∈ lw_g := mg (List.mem_of_getElem? (i := 1308) (by decide +kernel)) rfl
theorem q1309 : Cond.selects "EbbWreck$Seating" ⟨"EbbWreck$Seating", "countRests", "()I"⟩ ⟨"EbbWreck$Seating", "countRests", "()I"⟩ ∈ lw_g := mg (List.mem_of_getElem? (i := 1309) (by decide +kernel)) rfl
theorem q1307 : Cond.methodLink "EbbWreck" 339 ⟨"EbbWreck$Seating", "countRests", "()I"⟩ ∈ lw_g := mg (List.mem_of_getElem? (i := 1307) (by decide +kernel)) rfl
theorem q1340 : Cond.code ⟨"EbbWreck$Seating", "firstRest", "(I)I"⟩ prog_9_method_8_code 4 (some .int) ∈ lw_g := mg (List.mem_of_getElem? (i := 1340) (by decide +kernel)) rfl
theorem q1338 : Cond.instanceMethod ⟨"EbbWreck$Seating", "firstRest", "(I)I"⟩ ∈ lw_g := mg (List.mem_of_getElem? (i := 1338) (by decide +kernel)) rfl
theorem q1339 : Cond.selects "EbbWreck$Seating" ⟨"EbbWreck$Seating", "firstRest", "(I)I"⟩ ⟨"EbbWreck$Seating", "firstRest", "(I)I"⟩ ∈ lw_g := mg (List.mem_of_getElem? (i := 1339) (by decide +kernel)) rfl
theorem q1337 : Cond.methodLink "EbbWreck" 342 ⟨"EbbWreck$Seating", "firstRest", "(I)I"⟩ ∈ lw_g := mg (List.mem_of_getElem? (i := 1337) (by decide +kernel)) rfl
theorem mX10_phaseOf : CmV "EbbWreck$Tide" yX10_phaseOf cX10_phaseOf 2 (some .int) 1 := ⟨q804, q805, q116, q806, ⟨rfl, by decide, by decide, by decide +kernel⟩⟩
theorem mX6_stands : CmV "EbbWreck$RuleBook" yX6_stands cX6_stands 4 (some .boolean) 3 := ⟨q956, q957, q117, q958, ⟨rfl, by decide, by decide, by decide +kernel⟩⟩
theorem mX6_decider : CmV "EbbWreck$RuleBook" yX6_decider cX6_decider 5 (some .int) 3 := ⟨q952, q953, q117, q954, ⟨rfl, by decide, by decide, by decide +kernel⟩⟩
theorem mX0_isPushOf : CmV "EbbWreck$Acts" yX0_isPushOf cX0_isPushOf 3 (some .boolean) 2 := ⟨q782, q783, q118, q784, ⟨rfl, by decide, by decide, by decide +kernel⟩⟩
theorem mX1_shifted : CmV "EbbWreck$Coast" yX1_shifted cX1_shifted 4 (some .int) 2 := ⟨q791, q792, q115, q793, ⟨rfl, by decide, by decide, by decide +kernel⟩⟩
theorem mX1_drifted : CmV "EbbWreck$Coast" yX1_drifted cX1_drifted 3 (some .int) 2 := ⟨q800, q801, q115, q802, ⟨rfl, by decide, by decide, by decide +kernel⟩⟩
theorem mX1_isTold : CmV "EbbWreck$Coast" yX1_isTold cX1_isTold 1 (some .boolean) 0 := ⟨q879, q880, q115, q881, ⟨rfl, by decide, by decide, by decide +kernel⟩⟩
theorem mX11_isWithin : CmS yX11_isWithin cX11_isWithin 2 (some .boolean) 2 := ⟨q884, q114, q885, ⟨by decide, by decide, by decide +kernel⟩⟩
theorem mX1_hasThing : CmV "EbbWreck$Coast" yX1_hasThing cX1_hasThing 2 (some .boolean) 1 := ⟨q833, q834, q115, q835, ⟨rfl, by decide, by decide, by decide +kernel⟩⟩
theorem mX11_isAskedParty : CmV "EbbWreck" yX11_isAskedParty cX11_isAskedParty 2 (some .boolean) 1 := ⟨q965, q20, q114, q966, ⟨rfl, by decide, by decide, by decide +kernel⟩⟩
theorem mX1_ownerIn : CmV "EbbWreck$Coast" yX1_ownerIn cX1_ownerIn 5 (some .int) 3 := ⟨q948, q949, q115, q950, ⟨rfl, by decide, by decide, by decide +kernel⟩⟩
theorem mX2_ownerOf : CmV "EbbWreck$Drift" yX2_ownerOf cX2_ownerOf 4 (some .int) 3 := ⟨q944, q945, q120, q946, ⟨rfl, by decide, by decide, by decide +kernel⟩⟩
theorem mX2_upPhase : CmV "EbbWreck$Drift" yX2_upPhase cX2_upPhase 2 (some .int) 1 := ⟨q1007, q22, q120, q1008, ⟨rfl, by decide, by decide, by decide +kernel⟩⟩
theorem mX6_saysTwoThings : CmV "EbbWreck$RuleBook" yX6_saysTwoThings cX6_saysTwoThings 5 (some .boolean) 2 := ⟨q1011, q1012, q117, q1013, ⟨rfl, by decide, by decide, by decide +kernel⟩⟩
theorem mX1_pushedAndDrifted : CmV "EbbWreck$Coast" yX1_pushedAndDrifted cX1_pushedAndDrifted 4 (some .int) 3 := ⟨q795, q796, q115, q797, ⟨rfl, by decide, by decide, by decide +kernel⟩⟩
theorem mX1_isBeach : CmV "EbbWreck$Coast" yX1_isBeach cX1_isBeach 2 (some .boolean) 1 := ⟨q808, q809, q115, q810, ⟨rfl, by decide, by decide, by decide +kernel⟩⟩
theorem mX4_placeIn : CmS yX4_placeIn cX4_placeIn 2 (some .int) 2 := ⟨q1065, q121, q1066, ⟨by decide, by decide, by decide +kernel⟩⟩
theorem mX4_costBy : CmV "EbbWreck$Pushing" yX4_costBy cX4_costBy 7 (some .int) 3 := ⟨q1060, q25, q121, q1061, ⟨rfl, by decide, by decide, by decide +kernel⟩⟩
theorem mX11_isTideHour : CmV "EbbWreck" yX11_isTideHour cX11_isTideHour 2 (some .boolean) 1 := ⟨q876, q19, q114, q877, ⟨rfl, by decide, by decide, by decide +kernel⟩⟩
theorem mX11_isPhase : CmS yX11_isPhase cX11_isPhase 1 (some .boolean) 1 := ⟨q893, q114, q894, ⟨by decide, by decide, by decide +kernel⟩⟩
theorem mX10_firstOf : CmV "EbbWreck$Tide" yX10_firstOf cX10_firstOf 4 (some .int) 2 := ⟨q896, q897, q116, q898, ⟨rfl, by decide, by decide, by decide +kernel⟩⟩
theorem mX10_hoursLeft : CmV "EbbWreck$Tide" yX10_hoursLeft cX10_hoursLeft 3 (some .int) 1 := ⟨q905, q906, q116, q907, ⟨rfl, by decide, by decide, by decide +kernel⟩⟩
theorem mX10_slackHoursAhead : CmV "EbbWreck$Tide" yX10_slackHoursAhead cX10_slackHoursAhead 5 (some .int) 1 := ⟨q913, q914, q116, q915, ⟨rfl, by decide, by decide, by decide +kernel⟩⟩
theorem mX1_hasCell : CmV "EbbWreck$Coast" yX1_hasCell cX1_hasCell 2 (some .boolean) 1 := ⟨q824, q825, q115, q826, ⟨rfl, by decide, by decide, by decide +kernel⟩⟩
theorem mX6_hasRule : CmV "EbbWreck$RuleBook" yX6_hasRule cX6_hasRule 2 (some .boolean) 1 := ⟨q841, q842, q117, q843, ⟨rfl, by decide, by decide, by decide +kernel⟩⟩
theorem mX1_hasSitter : CmV "EbbWreck$Coast" yX1_hasSitter cX1_hasSitter 2 (some .boolean) 1 := ⟨q849, q850, q115, q851, ⟨rfl, by decide, by decide, by decide +kernel⟩⟩
theorem mX2_worthOf : CmV "EbbWreck$Drift" yX2_worthOf cX2_worthOf 6 (some .int) 3 := ⟨q968, q969, q120, q970, ⟨rfl, by decide, by decide, by decide +kernel⟩⟩
theorem mX2_thingsUpOn : CmV "EbbWreck$Drift" yX2_thingsUpOn cX2_thingsUpOn 4 (some .int) 1 := ⟨q977, q978, q120, q979, ⟨rfl, by decide, by decide, by decide +kernel⟩⟩
theorem mX2_arguedThings : CmV "EbbWreck$Drift" yX2_arguedThings cX2_arguedThings 3 (some .int) 0 := ⟨q1002, q1003, q120, q1004, ⟨rfl, by decide, by decide, by decide +kernel⟩⟩
theorem mX8_hasRow : CmV "EbbWreck$Slots" yX8_hasRow cX8_hasRow 2 (some .boolean) 1 := ⟨q867, q868, q124, q869, ⟨rfl, by decide, by decide, by decide +kernel⟩⟩
theorem mJ7_fill_d0a16 : CmS yJ7_fill_d0a16 cJ7_fill_d0a16 5 none 2 := ⟨q1439, q125, q1440, ⟨by decide, by decide, by decide +kernel⟩⟩
theorem mX8_cut : CmS yX8_cut cX8_cut 3 (some .long) 2 := ⟨q1451, q124, q1452, ⟨by decide, by decide, by decide +kernel⟩⟩
theorem mX8_isSlot : CmS yX8_isSlot cX8_isSlot 1 (some .boolean) 1 := ⟨q1200, q124, q1201, ⟨by decide, by decide, by decide +kernel⟩⟩
theorem mX8_lay : CmV "EbbWreck$Slots" yX8_lay cX8_lay 4 none 3 := ⟨q1435, q1436, q124, q1437, ⟨rfl, by decide, by decide, by decide +kernel⟩⟩
theorem mX8_put : CmV "EbbWreck$Slots" yX8_put cX8_put 5 none 3 := ⟨q1447, q1448, q124, q1449, ⟨rfl, by decide, by decide, by decide +kernel⟩⟩
theorem mX8_holds : CmV "EbbWreck$Slots" yX8_holds cX8_holds 4 (some .boolean) 3 := ⟨q1458, q1459, q124, q1460, ⟨rfl, by decide, by decide, by decide +kernel⟩⟩
theorem mX11_putNumber : CmV "EbbWreck" yX11_putNumber cX11_putNumber 3 none 1 := ⟨q568, q0, q114, q569, ⟨rfl, by decide, by decide, by decide +kernel⟩⟩
theorem mJ6_bitCount_0f7a4 : CmS yJ6_bitCount_0f7a4 cJ6_bitCount_0f7a4 1 (some .int) 1 := ⟨q857, q134, q858, ⟨by decide, by decide, by decide +kernel⟩⟩
theorem mX8_filled : CmV "EbbWreck$Slots" yX8_filled cX8_filled 3 (some .int) 0 := ⟨q863, q864, q124, q865, ⟨rfl, by decide, by decide, by decide +kernel⟩⟩
theorem mJ7_fill_53178 : CmS yJ7_fill_53178 cJ7_fill_53178 4 none 2 := ⟨q476, q125, q477, ⟨by decide, by decide, by decide +kernel⟩⟩
theorem mX9_startFates : CmV "EbbWreck$Throwing" yX9_startFates cX9_startFates 1 none 0 := ⟨q1141, q31, q122, q1142, ⟨rfl, by decide, by decide, by decide +kernel⟩⟩
theorem mX9_stepFates : CmV "EbbWreck$Throwing" yX9_stepFates cX9_stepFates 4 none 1 := ⟨q1146, q32, q122, q1147, ⟨rfl, by decide, by decide, by decide +kernel⟩⟩
theorem mX9_findFates : CmV "EbbWreck$Throwing" yX9_findFates cX9_findFates 3 none 1 := ⟨q1137, q30, q122, q1138, ⟨rfl, by decide, by decide, by decide +kernel⟩⟩
theorem mX9_cellsOf : CmV "EbbWreck$Throwing" yX9_cellsOf cX9_cellsOf 4 (some .int) 1 := ⟨q1152, q33, q122, q1153, ⟨rfl, by decide, by decide, by decide +kernel⟩⟩
theorem mX9_cellsInto : CmV "EbbWreck$Throwing" yX9_cellsInto cX9_cellsInto 5 (some .int) 2 := ⟨q1181, q34, q122, q1182, ⟨rfl, by decide, by decide, by decide +kernel⟩⟩
theorem mX9_tidesToReturn : CmV "EbbWreck$Throwing" yX9_tidesToReturn cX9_tidesToReturn 7 (some .int) 1 := ⟨q1122, q1123, q122, q1124, ⟨rfl, by decide, by decide, by decide +kernel⟩⟩
theorem mX9_neverUp : CmV "EbbWreck$Throwing" yX9_neverUp cX9_neverUp 1 (some .int) 0 := ⟨q1132, q1133, q122, q1134, ⟨rfl, by decide, by decide, by decide +kernel⟩⟩
theorem mX9_wonFrom : CmV "EbbWreck$Throwing" yX9_wonFrom cX9_wonFrom 3 (some .int) 2 := ⟨q1159, q1160, q122, q1161, ⟨rfl, by decide, by decide, by decide +kernel⟩⟩
theorem mX9_bestHour : CmV "EbbWreck$Throwing" yX9_bestHour cX9_bestHour 6 (some .int) 1 := ⟨q1167, q1168, q122, q1169, ⟨rfl, by decide, by decide, by decide +kernel⟩⟩
theorem mX9_cellsBehind : CmV "EbbWreck$Throwing" yX9_cellsBehind cX9_cellsBehind 7 (some .int) 3 := ⟨q1176, q1177, q122, q1178, ⟨rfl, by decide, by decide, by decide +kernel⟩⟩
theorem mX9_latestThrow : CmV "EbbWreck$Throwing" yX9_latestThrow cX9_latestThrow 7 (some .int) 3 := ⟨q1188, q1189, q122, q1190, ⟨rfl, by decide, by decide, by decide +kernel⟩⟩
theorem mX4_plan : CmV "EbbWreck$Pushing" yX4_plan cX4_plan 7 none 3 := ⟨q1054, q24, q121, q1055, ⟨rfl, by decide, by decide, by decide +kernel⟩⟩
theorem mX4_costOf : CmV "EbbWreck$Pushing" yX4_costOf cX4_costOf 2 (some .int) 1 := ⟨q1071, q26, q121, q1072, ⟨rfl, by decide, by decide, by decide +kernel⟩⟩
theorem mX4_firstWay : CmV "EbbWreck$Pushing" yX4_firstWay cX4_firstWay 4 (some .int) 2 := ⟨q1083, q27, q121, q1084, ⟨rfl, by decide, by decide, by decide +kernel⟩⟩
theorem mX4_reachedFrom : CmV "EbbWreck$Pushing" yX4_reachedFrom cX4_reachedFrom 5 (some .int) 2 := ⟨q1099, q28, q121, q1100, ⟨rfl, by decide, by decide, by decide +kernel⟩⟩
theorem mX4_isWonBy : CmV "EbbWreck$Pushing" yX4_isWonBy cX4_isWonBy 5 (some .boolean) 3 := ⟨q1103, q29, q121, q1104, ⟨rfl, by decide, by decide, by decide +kernel⟩⟩
theorem mX11_isWish : CmV "EbbWreck" yX11_isWish cX11_isWish 3 (some .boolean) 2 := ⟨q1046, q23, q114, q1047, ⟨rfl, by decide, by decide, by decide +kernel⟩⟩
theorem mX4_fewest : CmV "EbbWreck$Pushing" yX4_fewest cX4_fewest 5 (some .int) 3 := ⟨q1049, q1050, q121, q1051, ⟨rfl, by decide, by decide, by decide +kernel⟩⟩
theorem mX4_markOf : CmV "EbbWreck$Pushing" yX4_markOf cX4_markOf 9 (some .int) 3 := ⟨q1078, q1079, q121, q1080, ⟨rfl, by decide, by decide, by decide +kernel⟩⟩
theorem mX4_firstHour : CmV "EbbWreck$Pushing" yX4_firstHour cX4_firstHour 6 (some .int) 2 := ⟨q1094, q1095, q121, q1096, ⟨rfl, by decide, by decide, by decide +kernel⟩⟩
theorem mX4_fewestOfAll : CmV "EbbWreck$Pushing" yX4_fewestOfAll cX4_fewestOfAll 5 (some .int) 1 := ⟨q1114, q1115, q121, q1116, ⟨rfl, by decide, by decide, by decide +kernel⟩⟩
theorem mJ7_fill_031fb : CmS yJ7_fill_031fb cJ7_fill_031fb 4 none 2 := ⟨q779, q125, q780, ⟨by decide, by decide, by decide +kernel⟩⟩
theorem mX2_layWays : CmV "EbbWreck$Drift" yX2_layWays cX2_layWays 3 none 1 := ⟨q776, q18, q120, q777, ⟨rfl, by decide, by decide, by decide +kernel⟩⟩
theorem mX2_run : CmV "EbbWreck$Drift" yX2_run cX2_run 7 none 3 := ⟨q771, q772, q120, q773, ⟨rfl, by decide, by decide, by decide +kernel⟩⟩
theorem mX2_runBeach : CmV "EbbWreck$Drift" yX2_runBeach cX2_runBeach 1 (some .int) 0 := ⟨q812, q813, q120, q814, ⟨rfl, by decide, by decide, by decide +kernel⟩⟩
theorem mX2_settle : CmV "EbbWreck$Drift" yX2_settle cX2_settle 2 none 1 := ⟨q767, q768, q120, q769, ⟨rfl, by decide, by decide, by decide +kernel⟩⟩
theorem mX2_traceAfloat : CmV "EbbWreck$Drift" yX2_traceAfloat cX2_traceAfloat 5 none 2 := ⟨q994, q21, q120, q995, ⟨rfl, by decide, by decide, by decide +kernel⟩⟩
theorem mX2_placeOf : CmV "EbbWreck$Drift" yX2_placeOf cX2_placeOf 3 (some .int) 2 := ⟨q928, q929, q120, q930, ⟨rfl, by decide, by decide, by decide +kernel⟩⟩
theorem mX2_firstMeeting : CmV "EbbWreck$Drift" yX2_firstMeeting cX2_firstMeeting 4 (some .int) 2 := ⟨q989, q990, q120, q991, ⟨rfl, by decide, by decide, by decide +kernel⟩⟩
theorem mX11_isGale : CmV "EbbWreck" yX11_isGale cX11_isGale 3 (some .boolean) 2 := ⟨q1398, q46, q114, q1399, ⟨rfl, by decide, by decide, by decide +kernel⟩⟩
theorem mX2_runOwner : CmV "EbbWreck$Drift" yX2_runOwner cX2_runOwner 1 (some .int) 0 := ⟨q1403, q1404, q120, q1405, ⟨rfl, by decide, by decide, by decide +kernel⟩⟩
theorem mX11_isDrawnOften : CmS yX11_isDrawnOften cX11_isDrawnOften 1 (some .boolean) 1 := ⟨q1411, q114, q1412, ⟨by decide, by decide, by decide +kernel⟩⟩
theorem mX2_commonestBeach : CmV "EbbWreck$Drift" yX2_commonestBeach cX2_commonestBeach 7 (some .int) 3 := ⟨q1418, q1419, q120, q1420, ⟨rfl, by decide, by decide, by decide +kernel⟩⟩
theorem mX3_ebbOf : CmS yX3_ebbOf cX3_ebbOf 1 (some .int) 1 := ⟨q1234, q126, q1235, ⟨by decide, by decide, by decide +kernel⟩⟩
theorem mX3_floodOf : CmS yX3_floodOf cX3_floodOf 1 (some .int) 1 := ⟨q1231, q126, q1232, ⟨by decide, by decide, by decide +kernel⟩⟩
theorem mX3_isCell : CmV "EbbWreck$Floats" yX3_isCell cX3_isCell 3 (some .boolean) 1 := ⟨q1210, q36, q126, q1211, ⟨rfl, by decide, by decide, by decide +kernel⟩⟩
theorem mX3_isHour : CmS yX3_isHour cX3_isHour 2 (some .boolean) 1 := ⟨q1213, q126, q1214, ⟨by decide, by decide, by decide +kernel⟩⟩
theorem mX3_stepsIn : CmS yX3_stepsIn cX3_stepsIn 2 (some .int) 2 := ⟨q1228, q126, q1229, ⟨by decide, by decide, by decide +kernel⟩⟩
theorem mX3_carried : CmV "EbbWreck$Floats" yX3_carried cX3_carried 9 (some .int) 4 := ⟨q1222, q38, q126, q1223, ⟨rfl, by decide, by decide, by decide +kernel⟩⟩
theorem mX3_areAllSuch : CmV "EbbWreck$Floats" yX3_areAllSuch cX3_areAllSuch 4 (some .boolean) 2 := ⟨q1206, q35, q126, q1207, ⟨rfl, by decide, by decide, by decide +kernel⟩⟩
theorem mX3_fitsAll : CmV "EbbWreck$Floats" yX3_fitsAll cX3_fitsAll 6 (some .boolean) 3 := ⟨q1218, q37, q126, q1219, ⟨rfl, by decide, by decide, by decide +kernel⟩⟩
theorem mX3_stepsOf : CmS yX3_stepsOf cX3_stepsOf 1 (some .int) 1 := ⟨q1246, q126, q1247, ⟨by decide, by decide, by decide +kernel⟩⟩
theorem mX3_worstAfter : CmV "EbbWreck$Floats" yX3_worstAfter cX3_worstAfter 5 (some .int) 1 := ⟨q1262, q1263, q126, q1264, ⟨rfl, by decide, by decide, by decide +kernel⟩⟩
theorem mX3_collect : CmV "EbbWreck$Floats" yX3_collect cX3_collect 4 (some .int) 1 := ⟨q1196, q1197, q126, q1198, ⟨rfl, by decide, by decide, by decide +kernel⟩⟩
theorem mX3_smallest : CmV "EbbWreck$Floats" yX3_smallest cX3_smallest 3 (some .int) 0 := ⟨q1242, q1243, q126, q1244, ⟨rfl, by decide, by decide, by decide +kernel⟩⟩
theorem mX3_bestCell : CmV "EbbWreck$Floats" yX3_bestCell cX3_bestCell 5 (some .int) 0 := ⟨q1258, q1259, q126, q1260, ⟨rfl, by decide, by decide, by decide +kernel⟩⟩
theorem mX5_kindOf : CmS yX5_kindOf cX5_kindOf 1 (some .int) 1 := ⟨q603, q119, q604, ⟨by decide, by decide, by decide +kernel⟩⟩
theorem mX5_isLong : CmV "EbbWreck$Reader" yX5_isLong cX5_isLong 1 (some .boolean) 0 := ⟨q607, q2, q119, q608, ⟨rfl, by decide, by decide, by decide +kernel⟩⟩
theorem mJ0_length_8abf5 : CmV "java/lang/String" yJ0_length_8abf5 cJ0_length_8abf5 1 (some .int) 0 := ⟨q632, q633, q129, q634, ⟨rfl, by decide, by decide, by decide +kernel⟩⟩
theorem mJ0_charAt_5068e : CmV "java/lang/String" yJ0_charAt_5068e cJ0_charAt_5068e 2 (some .char) 1 := ⟨q642, q643, q129, q644, ⟨rfl, by decide, by decide, by decide +kernel⟩⟩
theorem mX5_isWord : CmV "EbbWreck$Reader" yX5_isWord cX5_isWord 3 (some .boolean) 1 := ⟨q629, q7, q119, q630, ⟨rfl, by decide, by decide, by decide +kernel⟩⟩
theorem mX5_failed : CmV "EbbWreck$Reader" yX5_failed cX5_failed 1 (some .boolean) 0 := ⟨q612, q3, q119, q613, ⟨rfl, by decide, by decide, by decide +kernel⟩⟩
theorem mX5_advance : CmV "EbbWreck$Reader" yX5_advance cX5_advance 1 none 0 := ⟨q600, q1, q119, q601, ⟨rfl, by decide, by decide, by decide +kernel⟩⟩
theorem mX5_fail : CmV "EbbWreck$Reader" yX5_fail cX5_fail 2 none 1 := ⟨q681, q8, q119, q682, ⟨rfl, by decide, by decide, by decide +kernel⟩⟩
theorem mX5_expectWord : CmV "EbbWreck$Reader" yX5_expectWord cX5_expectWord 2 none 1 := ⟨q625, q6, q119, q626, ⟨rfl, by decide, by decide, by decide +kernel⟩⟩
theorem mX5_expectNumber : CmV "EbbWreck$Reader" yX5_expectNumber cX5_expectNumber 4 (some .int) 2 := ⟨q686, q9, q119, q687, ⟨rfl, by decide, by decide, by decide +kernel⟩⟩
theorem mX10_tell : CmV "EbbWreck$Tide" yX10_tell cX10_tell 5 none 3 := ⟨q593, q594, q116, q595, ⟨rfl, by decide, by decide, by decide +kernel⟩⟩
theorem mX5_readWay : CmV "EbbWreck$Reader" yX5_readWay cX5_readWay 1 (some .int) 0 := ⟨q700, q11, q119, q701, ⟨rfl, by decide, by decide, by decide +kernel⟩⟩
theorem mX6_isFull : CmV "EbbWreck$RuleBook" yX6_isFull cX6_isFull 1 (some .boolean) 0 := ⟨q722, q723, q117, q724, ⟨rfl, by decide, by decide, by decide +kernel⟩⟩
theorem mX5_readPhases : CmV "EbbWreck$Reader" yX5_readPhases cX5_readPhases 4 (some .int) 0 := ⟨q729, q15, q119, q730, ⟨rfl, by decide, by decide, by decide +kernel⟩⟩
theorem mX6_addRule : CmV "EbbWreck$RuleBook" yX6_addRule cX6_addRule 5 none 4 := ⟨q732, q733, q117, q734, ⟨rfl, by decide, by decide, by decide +kernel⟩⟩
theorem mX5_readSitter : CmV "EbbWreck$Reader" yX5_readSitter cX5_readSitter 1 none 0 := ⟨q739, q16, q119, q740, ⟨rfl, by decide, by decide, by decide +kernel⟩⟩
theorem mX5_readRule : CmV "EbbWreck$Reader" yX5_readRule cX5_readRule 4 none 0 := ⟨q719, q14, q119, q720, ⟨rfl, by decide, by decide, by decide +kernel⟩⟩
theorem mX5_readThing : CmV "EbbWreck$Reader" yX5_readThing cX5_readThing 1 none 0 := ⟨q711, q13, q119, q712, ⟨rfl, by decide, by decide, by decide +kernel⟩⟩
theorem mX5_readBeach : CmV "EbbWreck$Reader" yX5_readBeach cX5_readBeach 1 none 0 := ⟨q706, q12, q119, q707, ⟨rfl, by decide, by decide, by decide +kernel⟩⟩
theorem mX5_readCurrent : CmV "EbbWreck$Reader" yX5_readCurrent cX5_readCurrent 4 none 0 := ⟨q696, q10, q119, q697, ⟨rfl, by decide, by decide, by decide +kernel⟩⟩
theorem mX5_readShore : CmV "EbbWreck$Reader" yX5_readShore cX5_readShore 4 none 0 := ⟨q620, q5, q119, q621, ⟨rfl, by decide, by decide, by decide +kernel⟩⟩
theorem mX1_clear : CmV "EbbWreck$Coast" yX1_clear cX1_clear 1 none 0 := ⟨q589, q590, q115, q591, ⟨rfl, by decide, by decide, by decide +kernel⟩⟩
theorem mX5_readLine : CmV "EbbWreck$Reader" yX5_readLine cX5_readLine 1 none 0 := ⟨q616, q4, q119, q617, ⟨rfl, by decide, by decide, by decide +kernel⟩⟩
theorem mX5_expectSign : CmV "EbbWreck$Reader" yX5_expectSign cX5_expectSign 1 none 0 := ⟨q743, q17, q119, q744, ⟨rfl, by decide, by decide, by decide +kernel⟩⟩
theorem mX0_isFull : CmV "EbbWreck$Acts" yX0_isFull cX0_isFull 1 (some .boolean) 0 := ⟨q1346, q1347, q118, q1348, ⟨rfl, by decide, by decide, by decide +kernel⟩⟩
theorem mX0_addAct : CmV "EbbWreck$Acts" yX0_addAct cX0_addAct 4 none 3 := ⟨q1355, q45, q118, q1356, ⟨rfl, by decide, by decide, by decide +kernel⟩⟩
theorem mX0_addSit : CmV "EbbWreck$Acts" yX0_addSit cX0_addSit 3 none 2 := ⟨q1350, q1351, q118, q1352, ⟨rfl, by decide, by decide, by decide +kernel⟩⟩
theorem mX0_isPushed : CmV "EbbWreck$Acts" yX0_isPushed cX0_isPushed 4 (some .boolean) 2 := ⟨q1363, q1364, q118, q1365, ⟨rfl, by decide, by decide, by decide +kernel⟩⟩
theorem mX0_addPush : CmV "EbbWreck$Acts" yX0_addPush cX0_addPush 4 none 3 := ⟨q1368, q1369, q118, q1370, ⟨rfl, by decide, by decide, by decide +kernel⟩⟩
theorem mX0_pushesOf : CmV "EbbWreck$Acts" yX0_pushesOf cX0_pushesOf 4 (some .int) 1 := ⟨q1373, q1374, q118, q1375, ⟨rfl, by decide, by decide, by decide +kernel⟩⟩
theorem mX1_takeBack : CmV "EbbWreck$Coast" yX1_takeBack cX1_takeBack 2 (some .int) 0 := ⟨q1381, q1382, q115, q1383, ⟨rfl, by decide, by decide, by decide +kernel⟩⟩
theorem mX2_settleAll : CmV "EbbWreck$Drift" yX2_settleAll cX2_settleAll 2 none 0 := ⟨q763, q764, q120, q765, ⟨rfl, by decide, by decide, by decide +kernel⟩⟩
theorem mX6_copyFrom : CmV "EbbWreck$RuleBook" yX6_copyFrom cX6_copyFrom 2 none 1 := ⟨q753, q754, q117, q755, ⟨rfl, by decide, by decide, by decide +kernel⟩⟩
theorem mX0_copyFrom : CmV "EbbWreck$Acts" yX0_copyFrom cX0_copyFrom 2 none 1 := ⟨q758, q759, q118, q760, ⟨rfl, by decide, by decide, by decide +kernel⟩⟩
theorem mX5_read : CmV "EbbWreck$Reader" yX5_read cX5_read 3 none 1 := ⟨q579, q580, q119, q581, ⟨rfl, by decide, by decide, by decide +kernel⟩⟩
theorem mX1_copyFrom : CmV "EbbWreck$Coast" yX1_copyFrom cX1_copyFrom 2 none 1 := ⟨q746, q747, q115, q748, ⟨rfl, by decide, by decide, by decide +kernel⟩⟩
theorem mX2_thingsLeftToSitters : CmV "EbbWreck$Drift" yX2_thingsLeftToSitters cX2_thingsLeftToSitters 3 (some .int) 0 := ⟨q1282, q1283, q120, q1284, ⟨rfl, by decide, by decide, by decide +kernel⟩⟩
theorem mX7_payFor : CmV "EbbWreck$Seating" yX7_payFor cX7_payFor 5 (some .int) 2 := ⟨q1288, q39, q123, q1289, ⟨rfl, by decide, by decide, by decide +kernel⟩⟩
theorem mX7_worthOn : CmV "EbbWreck$Seating" yX7_worthOn cX7_worthOn 5 (some .int) 2 := ⟨q1277, q1278, q123, q1279, ⟨rfl, by decide, by decide, by decide +kernel⟩⟩
theorem mX7_wouldMove : CmV "EbbWreck$Seating" yX7_wouldMove cX7_wouldMove 4 (some .boolean) 1 := ⟨q1331, q44, q123, q1332, ⟨rfl, by decide, by decide, by decide +kernel⟩⟩
theorem mX7_layPays : CmV "EbbWreck$Seating" yX7_layPays cX7_layPays 5 none 0 := ⟨q1313, q40, q123, q1314, ⟨rfl, by decide, by decide, by decide +kernel⟩⟩
theorem mX7_countWays : CmV "EbbWreck$Seating" yX7_countWays cX7_countWays 3 (some .int) 0 := ⟨q1317, q41, q123, q1318, ⟨rfl, by decide, by decide, by decide +kernel⟩⟩
theorem mX7_tryWay : CmV "EbbWreck$Seating" yX7_tryWay cX7_tryWay 5 (some .boolean) 1 := ⟨q1321, q42, q123, q1322, ⟨rfl, by decide, by decide, by decide +kernel⟩⟩
theorem mX7_isRest : CmV "EbbWreck$Seating" yX7_isRest cX7_isRest 2 (some .boolean) 0 := ⟨q1327, q43, q123, q1328, ⟨rfl, by decide, by decide, by decide +kernel⟩⟩
theorem mX7_bestCell : CmV "EbbWreck$Seating" yX7_bestCell cX7_bestCell 6 (some .int) 1 := ⟨q1299, q1300, q123, q1301, ⟨rfl, by decide, by decide, by decide +kernel⟩⟩
theorem mX7_countRests : CmV "EbbWreck$Seating" yX7_countRests cX7_countRests 4 (some .int) 0 := ⟨q1308, q1309, q123, q1310, ⟨rfl, by decide, by decide, by decide +kernel⟩⟩
theorem mX7_firstRest : CmV "EbbWreck$Seating" yX7_firstRest cX7_firstRest 4 (some .int) 1 := ⟨q1338, q1339, q123, q1340, ⟨rfl, by decide, by decide, by decide +kernel⟩⟩
