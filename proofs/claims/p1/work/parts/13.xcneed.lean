theorem dX11_putNumber_0 : decode cX11_putNumber 0 = .ok (.bipush 24, 2) := by decide +kernel
theorem dX11_putNumber_2 : decode cX11_putNumber 2 = .ok (.istore_n 2, 1) := by decide +kernel
theorem dX11_putNumber_3 : decode cX11_putNumber 3 = .ok (.iload_n 2, 1) := by decide +kernel
theorem dX11_putNumber_4 : decode cX11_putNumber 4 = .ok (.ifCond .lt 42, 3) := by decide +kernel
theorem dX11_putNumber_7 : decode cX11_putNumber 7 = .ok (.aload_n 0, 1) := by decide +kernel
theorem dX11_putNumber_8 : decode cX11_putNumber 8 = .ok (.getfield 13, 3) := by decide +kernel
theorem dX11_putNumber_11 : decode cX11_putNumber 11 = .ok (.sipush 1200, 3) := by decide +kernel
theorem dX11_putNumber_14 : decode cX11_putNumber 14 = .ok (.if_icmp .ge 26, 3) := by decide +kernel
theorem dX11_putNumber_17 : decode cX11_putNumber 17 = .ok (.aload_n 0, 1) := by decide +kernel
theorem dX11_putNumber_18 : decode cX11_putNumber 18 = .ok (.getfield 9, 3) := by decide +kernel
theorem dX11_putNumber_21 : decode cX11_putNumber 21 = .ok (.aload_n 0, 1) := by decide +kernel
theorem dX11_putNumber_22 : decode cX11_putNumber 22 = .ok (.getfield 13, 3) := by decide +kernel
theorem dX11_putNumber_25 : decode cX11_putNumber 25 = .ok (.iload_n 1, 1) := by decide +kernel
theorem dX11_putNumber_26 : decode cX11_putNumber 26 = .ok (.iload_n 2, 1) := by decide +kernel
theorem dX11_putNumber_27 : decode cX11_putNumber 27 = .ok (.ishr, 1) := by decide +kernel
theorem dX11_putNumber_28 : decode cX11_putNumber 28 = .ok (.i2b, 1) := by decide +kernel
theorem dX11_putNumber_29 : decode cX11_putNumber 29 = .ok (.bastore, 1) := by decide +kernel
theorem dX11_putNumber_30 : decode cX11_putNumber 30 = .ok (.aload_n 0, 1) := by decide +kernel
theorem dX11_putNumber_31 : decode cX11_putNumber 31 = .ok (.dup, 1) := by decide +kernel
theorem dX11_putNumber_32 : decode cX11_putNumber 32 = .ok (.getfield 13, 3) := by decide +kernel
theorem dX11_putNumber_35 : decode cX11_putNumber 35 = .ok (.iconst 1, 1) := by decide +kernel
theorem dX11_putNumber_36 : decode cX11_putNumber 36 = .ok (.iadd, 1) := by decide +kernel
theorem dX11_putNumber_37 : decode cX11_putNumber 37 = .ok (.putfield 13, 3) := by decide +kernel
theorem dX11_putNumber_40 : decode cX11_putNumber 40 = .ok (.iinc 2 (-8), 3) := by decide +kernel
theorem dX11_putNumber_43 : decode cX11_putNumber 43 = .ok (.goto (-40), 3) := by decide +kernel
theorem dX11_putNumber_46 : decode cX11_putNumber 46 = .ok (.return_, 1) := by decide +kernel
theorem dX11_feed_0 : decode cX11_feed 0 = .ok (.aload_n 0, 1) := by decide +kernel
theorem dX11_feed_1 : decode cX11_feed 1 = .ok (.getfield 13, 3) := by decide +kernel
theorem dX11_feed_4 : decode cX11_feed 4 = .ok (.bipush 20, 2) := by decide +kernel
theorem dX11_feed_6 : decode cX11_feed 6 = .ok (.iadd, 1) := by decide +kernel
theorem dX11_feed_7 : decode cX11_feed 7 = .ok (.sipush 1200, 3) := by decide +kernel
theorem dX11_feed_10 : decode cX11_feed 10 = .ok (.if_icmp .le 5, 3) := by decide +kernel
theorem dX11_feed_15 : decode cX11_feed 15 = .ok (.aload_n 0, 1) := by decide +kernel
theorem dX11_feed_16 : decode cX11_feed 16 = .ok (.iload_n 1, 1) := by decide +kernel
theorem dX11_feed_17 : decode cX11_feed 17 = .ok (.invokevirtual 98, 3) := by decide +kernel
theorem dX11_feed_20 : decode cX11_feed 20 = .ok (.aload_n 0, 1) := by decide +kernel
theorem dX11_feed_21 : decode cX11_feed 21 = .ok (.iload_n 2, 1) := by decide +kernel
theorem dX11_feed_22 : decode cX11_feed 22 = .ok (.invokevirtual 98, 3) := by decide +kernel
theorem dX11_feed_25 : decode cX11_feed 25 = .ok (.aload_n 0, 1) := by decide +kernel
theorem dX11_feed_26 : decode cX11_feed 26 = .ok (.iload_n 3, 1) := by decide +kernel
theorem dX11_feed_27 : decode cX11_feed 27 = .ok (.invokevirtual 98, 3) := by decide +kernel
theorem dX11_feed_30 : decode cX11_feed 30 = .ok (.aload_n 0, 1) := by decide +kernel
theorem dX11_feed_31 : decode cX11_feed 31 = .ok (.iload 4, 2) := by decide +kernel
theorem dX11_feed_33 : decode cX11_feed 33 = .ok (.invokevirtual 98, 3) := by decide +kernel
theorem dX11_feed_36 : decode cX11_feed 36 = .ok (.aload_n 0, 1) := by decide +kernel
theorem dX11_feed_37 : decode cX11_feed 37 = .ok (.iload 5, 2) := by decide +kernel
theorem dX11_feed_39 : decode cX11_feed 39 = .ok (.invokevirtual 98, 3) := by decide +kernel
theorem dX11_feed_42 : decode cX11_feed 42 = .ok (.aload_n 0, 1) := by decide +kernel
theorem dX11_feed_43 : decode cX11_feed 43 = .ok (.getfield 13, 3) := by decide +kernel
theorem dX11_feed_46 : decode cX11_feed 46 = .ok (.ireturn, 1) := by decide +kernel
theorem dJ6_bitCount_0f7a4_0 : decode cJ6_bitCount_0f7a4 0 = .ok (.iload_n 0, 1) := by decide +kernel
theorem dJ6_bitCount_0f7a4_1 : decode cJ6_bitCount_0f7a4 1 = .ok (.iload_n 0, 1) := by decide +kernel
theorem dJ6_bitCount_0f7a4_2 : decode cJ6_bitCount_0f7a4 2 = .ok (.iconst 1, 1) := by decide +kernel
theorem dJ6_bitCount_0f7a4_3 : decode cJ6_bitCount_0f7a4 3 = .ok (.iushr, 1) := by decide +kernel
theorem dJ6_bitCount_0f7a4_4 : decode cJ6_bitCount_0f7a4 4 = .ok (.ldc_w 265, 3) := by decide +kernel
theorem dJ6_bitCount_0f7a4_7 : decode cJ6_bitCount_0f7a4 7 = .ok (.iand, 1) := by decide +kernel
theorem dJ6_bitCount_0f7a4_8 : decode cJ6_bitCount_0f7a4 8 = .ok (.isub, 1) := by decide +kernel
theorem dJ6_bitCount_0f7a4_9 : decode cJ6_bitCount_0f7a4 9 = .ok (.istore_n 0, 1) := by decide +kernel
theorem dJ6_bitCount_0f7a4_10 : decode cJ6_bitCount_0f7a4 10 = .ok (.iload_n 0, 1) := by decide +kernel
theorem dJ6_bitCount_0f7a4_11 : decode cJ6_bitCount_0f7a4 11 = .ok (.ldc_w 266, 3) := by decide +kernel
theorem dJ6_bitCount_0f7a4_14 : decode cJ6_bitCount_0f7a4 14 = .ok (.iand, 1) := by decide +kernel
theorem dJ6_bitCount_0f7a4_15 : decode cJ6_bitCount_0f7a4 15 = .ok (.iload_n 0, 1) := by decide +kernel
theorem dJ6_bitCount_0f7a4_16 : decode cJ6_bitCount_0f7a4 16 = .ok (.iconst 2, 1) := by decide +kernel
theorem dJ6_bitCount_0f7a4_17 : decode cJ6_bitCount_0f7a4 17 = .ok (.iushr, 1) := by decide +kernel
theorem dJ6_bitCount_0f7a4_18 : decode cJ6_bitCount_0f7a4 18 = .ok (.ldc_w 266, 3) := by decide +kernel
theorem dJ6_bitCount_0f7a4_21 : decode cJ6_bitCount_0f7a4 21 = .ok (.iand, 1) := by decide +kernel
theorem dJ6_bitCount_0f7a4_22 : decode cJ6_bitCount_0f7a4 22 = .ok (.iadd, 1) := by decide +kernel
theorem dJ6_bitCount_0f7a4_23 : decode cJ6_bitCount_0f7a4 23 = .ok (.istore_n 0, 1) := by decide +kernel
theorem dJ6_bitCount_0f7a4_24 : decode cJ6_bitCount_0f7a4 24 = .ok (.iload_n 0, 1) := by decide +kernel
theorem dJ6_bitCount_0f7a4_25 : decode cJ6_bitCount_0f7a4 25 = .ok (.iload_n 0, 1) := by decide +kernel
theorem dJ6_bitCount_0f7a4_26 : decode cJ6_bitCount_0f7a4 26 = .ok (.iconst 4, 1) := by decide +kernel
theorem dJ6_bitCount_0f7a4_27 : decode cJ6_bitCount_0f7a4 27 = .ok (.iushr, 1) := by decide +kernel
theorem dJ6_bitCount_0f7a4_28 : decode cJ6_bitCount_0f7a4 28 = .ok (.iadd, 1) := by decide +kernel
theorem dJ6_bitCount_0f7a4_29 : decode cJ6_bitCount_0f7a4 29 = .ok (.ldc_w 267, 3) := by decide +kernel
theorem dJ6_bitCount_0f7a4_32 : decode cJ6_bitCount_0f7a4 32 = .ok (.iand, 1) := by decide +kernel
theorem dJ6_bitCount_0f7a4_33 : decode cJ6_bitCount_0f7a4 33 = .ok (.istore_n 0, 1) := by decide +kernel
theorem dJ6_bitCount_0f7a4_34 : decode cJ6_bitCount_0f7a4 34 = .ok (.iload_n 0, 1) := by decide +kernel
theorem dJ6_bitCount_0f7a4_35 : decode cJ6_bitCount_0f7a4 35 = .ok (.iload_n 0, 1) := by decide +kernel
theorem dJ6_bitCount_0f7a4_36 : decode cJ6_bitCount_0f7a4 36 = .ok (.bipush 8, 2) := by decide +kernel
theorem dJ6_bitCount_0f7a4_38 : decode cJ6_bitCount_0f7a4 38 = .ok (.iushr, 1) := by decide +kernel
theorem dJ6_bitCount_0f7a4_39 : decode cJ6_bitCount_0f7a4 39 = .ok (.iadd, 1) := by decide +kernel
theorem dJ6_bitCount_0f7a4_40 : decode cJ6_bitCount_0f7a4 40 = .ok (.istore_n 0, 1) := by decide +kernel
theorem dJ6_bitCount_0f7a4_41 : decode cJ6_bitCount_0f7a4 41 = .ok (.iload_n 0, 1) := by decide +kernel
theorem dJ6_bitCount_0f7a4_42 : decode cJ6_bitCount_0f7a4 42 = .ok (.iload_n 0, 1) := by decide +kernel
theorem dJ6_bitCount_0f7a4_43 : decode cJ6_bitCount_0f7a4 43 = .ok (.bipush 16, 2) := by decide +kernel
theorem dJ6_bitCount_0f7a4_45 : decode cJ6_bitCount_0f7a4 45 = .ok (.iushr, 1) := by decide +kernel
theorem dJ6_bitCount_0f7a4_46 : decode cJ6_bitCount_0f7a4 46 = .ok (.iadd, 1) := by decide +kernel
theorem dJ6_bitCount_0f7a4_47 : decode cJ6_bitCount_0f7a4 47 = .ok (.istore_n 0, 1) := by decide +kernel
theorem dJ6_bitCount_0f7a4_48 : decode cJ6_bitCount_0f7a4 48 = .ok (.iload_n 0, 1) := by decide +kernel
theorem dJ6_bitCount_0f7a4_49 : decode cJ6_bitCount_0f7a4 49 = .ok (.bipush 63, 2) := by decide +kernel
theorem dJ6_bitCount_0f7a4_51 : decode cJ6_bitCount_0f7a4 51 = .ok (.iand, 1) := by decide +kernel
theorem dJ6_bitCount_0f7a4_52 : decode cJ6_bitCount_0f7a4 52 = .ok (.ireturn, 1) := by decide +kernel
theorem dX11_count_0 : decode cX11_count 0 = .ok (.iload_n 1, 1) := by decide +kernel
theorem dX11_count_1 : decode cX11_count 1 = .ok (.tableswitch 186 0 12 #[67, 75, 86, 97, 108, 116, 127, 135, 146, 154, 165, 173, 178], 67) := by decide +kernel
theorem dX11_count_187 : decode cX11_count 187 = .ok (.iconst (-1), 1) := by decide +kernel
theorem dX11_count_188 : decode cX11_count 188 = .ok (.ireturn, 1) := by decide +kernel
theorem dX11_count_68 : decode cX11_count 68 = .ok (.aload_n 0, 1) := by decide +kernel
theorem dX11_count_69 : decode cX11_count 69 = .ok (.getfield 26, 3) := by decide +kernel
theorem dX11_count_72 : decode cX11_count 72 = .ok (.getfield 169, 3) := by decide +kernel
theorem dX11_count_75 : decode cX11_count 75 = .ok (.ireturn, 1) := by decide +kernel
theorem dX11_count_76 : decode cX11_count 76 = .ok (.aload_n 0, 1) := by decide +kernel
theorem dX11_count_77 : decode cX11_count 77 = .ok (.getfield 26, 3) := by decide +kernel
theorem dX11_count_80 : decode cX11_count 80 = .ok (.getfield 172, 3) := by decide +kernel
theorem dX11_count_83 : decode cX11_count 83 = .ok (.getfield 176, 3) := by decide +kernel
theorem dX11_count_86 : decode cX11_count 86 = .ok (.ireturn, 1) := by decide +kernel
theorem dX11_count_87 : decode cX11_count 87 = .ok (.aload_n 0, 1) := by decide +kernel
theorem dX11_count_88 : decode cX11_count 88 = .ok (.getfield 26, 3) := by decide +kernel
theorem dX11_count_91 : decode cX11_count 91 = .ok (.getfield 172, 3) := by decide +kernel
theorem dX11_count_94 : decode cX11_count 94 = .ok (.getfield 181, 3) := by decide +kernel
theorem dX11_count_97 : decode cX11_count 97 = .ok (.ireturn, 1) := by decide +kernel
theorem dX11_count_98 : decode cX11_count 98 = .ok (.aload_n 0, 1) := by decide +kernel
theorem dX11_count_99 : decode cX11_count 99 = .ok (.getfield 26, 3) := by decide +kernel
theorem dX11_count_102 : decode cX11_count 102 = .ok (.getfield 172, 3) := by decide +kernel
theorem dX11_count_105 : decode cX11_count 105 = .ok (.getfield 184, 3) := by decide +kernel
theorem dX11_count_108 : decode cX11_count 108 = .ok (.ireturn, 1) := by decide +kernel
theorem dX11_count_109 : decode cX11_count 109 = .ok (.aload_n 0, 1) := by decide +kernel
theorem dX11_count_110 : decode cX11_count 110 = .ok (.getfield 26, 3) := by decide +kernel
theorem dX11_count_113 : decode cX11_count 113 = .ok (.getfield 187, 3) := by decide +kernel
theorem dX11_count_116 : decode cX11_count 116 = .ok (.ireturn, 1) := by decide +kernel
theorem dX11_count_117 : decode cX11_count 117 = .ok (.aload_n 0, 1) := by decide +kernel
theorem dX11_count_118 : decode cX11_count 118 = .ok (.getfield 26, 3) := by decide +kernel
theorem dX11_count_121 : decode cX11_count 121 = .ok (.getfield 190, 3) := by decide +kernel
theorem dX11_count_124 : decode cX11_count 124 = .ok (.invokestatic 193, 3) := by decide +kernel
theorem dX11_count_127 : decode cX11_count 127 = .ok (.ireturn, 1) := by decide +kernel
theorem dX11_count_128 : decode cX11_count 128 = .ok (.aload_n 0, 1) := by decide +kernel
theorem dX11_count_129 : decode cX11_count 129 = .ok (.getfield 26, 3) := by decide +kernel
theorem dX11_count_132 : decode cX11_count 132 = .ok (.getfield 199, 3) := by decide +kernel
theorem dX11_count_135 : decode cX11_count 135 = .ok (.ireturn, 1) := by decide +kernel
theorem dX11_count_136 : decode cX11_count 136 = .ok (.aload_n 0, 1) := by decide +kernel
theorem dX11_count_137 : decode cX11_count 137 = .ok (.getfield 26, 3) := by decide +kernel
theorem dX11_count_140 : decode cX11_count 140 = .ok (.getfield 142, 3) := by decide +kernel
theorem dX11_count_143 : decode cX11_count 143 = .ok (.getfield 202, 3) := by decide +kernel
theorem dX11_count_146 : decode cX11_count 146 = .ok (.ireturn, 1) := by decide +kernel
theorem dX11_count_147 : decode cX11_count 147 = .ok (.aload_n 0, 1) := by decide +kernel
theorem dX11_count_148 : decode cX11_count 148 = .ok (.getfield 26, 3) := by decide +kernel
theorem dX11_count_151 : decode cX11_count 151 = .ok (.getfield 205, 3) := by decide +kernel
theorem dX11_count_154 : decode cX11_count 154 = .ok (.ireturn, 1) := by decide +kernel
theorem dX11_count_155 : decode cX11_count 155 = .ok (.aload_n 0, 1) := by decide +kernel
theorem dX11_count_156 : decode cX11_count 156 = .ok (.getfield 26, 3) := by decide +kernel
theorem dX11_count_159 : decode cX11_count 159 = .ok (.getfield 208, 3) := by decide +kernel
theorem dX11_count_162 : decode cX11_count 162 = .ok (.getfield 212, 3) := by decide +kernel
theorem dX11_count_165 : decode cX11_count 165 = .ok (.ireturn, 1) := by decide +kernel
theorem dX11_count_166 : decode cX11_count 166 = .ok (.aload_n 0, 1) := by decide +kernel
theorem dX11_count_167 : decode cX11_count 167 = .ok (.getfield 26, 3) := by decide +kernel
theorem dX11_count_170 : decode cX11_count 170 = .ok (.getfield 113, 3) := by decide +kernel
theorem dX11_count_173 : decode cX11_count 173 = .ok (.ireturn, 1) := by decide +kernel
theorem dX11_count_174 : decode cX11_count 174 = .ok (.aload_n 0, 1) := by decide +kernel
theorem dX11_count_175 : decode cX11_count 175 = .ok (.getfield 13, 3) := by decide +kernel
theorem dX11_count_178 : decode cX11_count 178 = .ok (.ireturn, 1) := by decide +kernel
theorem dX11_count_179 : decode cX11_count 179 = .ok (.aload_n 0, 1) := by decide +kernel
theorem dX11_count_180 : decode cX11_count 180 = .ok (.getfield 85, 3) := by decide +kernel
theorem dX11_count_183 : decode cX11_count 183 = .ok (.invokevirtual 215, 3) := by decide +kernel
theorem dX11_count_186 : decode cX11_count 186 = .ok (.ireturn, 1) := by decide +kernel
theorem dX6_copyFrom_0 : decode cX6_copyFrom 0 = .ok (.aload_n 0, 1) := by decide +kernel
theorem dX6_copyFrom_1 : decode cX6_copyFrom 1 = .ok (.aload_n 1, 1) := by decide +kernel
theorem dX6_copyFrom_2 : decode cX6_copyFrom 2 = .ok (.getfield 24, 3) := by decide +kernel
theorem dX6_copyFrom_5 : decode cX6_copyFrom 5 = .ok (.putfield 24, 3) := by decide +kernel
theorem dX6_copyFrom_8 : decode cX6_copyFrom 8 = .ok (.aload_n 1, 1) := by decide +kernel
theorem dX6_copyFrom_9 : decode cX6_copyFrom 9 = .ok (.getfield 9, 3) := by decide +kernel
theorem dX6_copyFrom_12 : decode cX6_copyFrom 12 = .ok (.iconst 0, 1) := by decide +kernel
theorem dX6_copyFrom_13 : decode cX6_copyFrom 13 = .ok (.aload_n 0, 1) := by decide +kernel
theorem dX6_copyFrom_14 : decode cX6_copyFrom 14 = .ok (.getfield 9, 3) := by decide +kernel
theorem dX6_copyFrom_17 : decode cX6_copyFrom 17 = .ok (.iconst 0, 1) := by decide +kernel
theorem dX6_copyFrom_18 : decode cX6_copyFrom 18 = .ok (.bipush 6, 2) := by decide +kernel
theorem dX6_copyFrom_20 : decode cX6_copyFrom 20 = .ok (.invokestatic 28, 3) := by decide +kernel
theorem dX6_copyFrom_23 : decode cX6_copyFrom 23 = .ok (.aload_n 1, 1) := by decide +kernel
theorem dX6_copyFrom_24 : decode cX6_copyFrom 24 = .ok (.getfield 15, 3) := by decide +kernel
theorem dX6_copyFrom_27 : decode cX6_copyFrom 27 = .ok (.iconst 0, 1) := by decide +kernel
theorem dX6_copyFrom_28 : decode cX6_copyFrom 28 = .ok (.aload_n 0, 1) := by decide +kernel
theorem dX6_copyFrom_29 : decode cX6_copyFrom 29 = .ok (.getfield 15, 3) := by decide +kernel
theorem dX6_copyFrom_32 : decode cX6_copyFrom 32 = .ok (.iconst 0, 1) := by decide +kernel
theorem dX6_copyFrom_33 : decode cX6_copyFrom 33 = .ok (.bipush 6, 2) := by decide +kernel
theorem dX6_copyFrom_35 : decode cX6_copyFrom 35 = .ok (.invokestatic 28, 3) := by decide +kernel
theorem dX6_copyFrom_38 : decode cX6_copyFrom 38 = .ok (.aload_n 1, 1) := by decide +kernel
theorem dX6_copyFrom_39 : decode cX6_copyFrom 39 = .ok (.getfield 18, 3) := by decide +kernel
theorem dX6_copyFrom_42 : decode cX6_copyFrom 42 = .ok (.iconst 0, 1) := by decide +kernel
theorem dX6_copyFrom_43 : decode cX6_copyFrom 43 = .ok (.aload_n 0, 1) := by decide +kernel
theorem dX6_copyFrom_44 : decode cX6_copyFrom 44 = .ok (.getfield 18, 3) := by decide +kernel
theorem dX6_copyFrom_47 : decode cX6_copyFrom 47 = .ok (.iconst 0, 1) := by decide +kernel
theorem dX6_copyFrom_48 : decode cX6_copyFrom 48 = .ok (.bipush 6, 2) := by decide +kernel
theorem dX6_copyFrom_50 : decode cX6_copyFrom 50 = .ok (.invokestatic 28, 3) := by decide +kernel
theorem dX6_copyFrom_53 : decode cX6_copyFrom 53 = .ok (.aload_n 1, 1) := by decide +kernel
theorem dX6_copyFrom_54 : decode cX6_copyFrom 54 = .ok (.getfield 21, 3) := by decide +kernel
theorem dX6_copyFrom_57 : decode cX6_copyFrom 57 = .ok (.iconst 0, 1) := by decide +kernel
theorem dX6_copyFrom_58 : decode cX6_copyFrom 58 = .ok (.aload_n 0, 1) := by decide +kernel
theorem dX6_copyFrom_59 : decode cX6_copyFrom 59 = .ok (.getfield 21, 3) := by decide +kernel
theorem dX6_copyFrom_62 : decode cX6_copyFrom 62 = .ok (.iconst 0, 1) := by decide +kernel
theorem dX6_copyFrom_63 : decode cX6_copyFrom 63 = .ok (.bipush 6, 2) := by decide +kernel
theorem dX6_copyFrom_65 : decode cX6_copyFrom 65 = .ok (.invokestatic 28, 3) := by decide +kernel
theorem dX6_copyFrom_68 : decode cX6_copyFrom 68 = .ok (.return_, 1) := by decide +kernel
theorem dX0_copyFrom_0 : decode cX0_copyFrom 0 = .ok (.aload_n 0, 1) := by decide +kernel
theorem dX0_copyFrom_1 : decode cX0_copyFrom 1 = .ok (.aload_n 1, 1) := by decide +kernel
theorem dX0_copyFrom_2 : decode cX0_copyFrom 2 = .ok (.getfield 21, 3) := by decide +kernel
theorem dX0_copyFrom_5 : decode cX0_copyFrom 5 = .ok (.putfield 21, 3) := by decide +kernel
theorem dX0_copyFrom_8 : decode cX0_copyFrom 8 = .ok (.aload_n 1, 1) := by decide +kernel
theorem dX0_copyFrom_9 : decode cX0_copyFrom 9 = .ok (.getfield 9, 3) := by decide +kernel
theorem dX0_copyFrom_12 : decode cX0_copyFrom 12 = .ok (.iconst 0, 1) := by decide +kernel
theorem dX0_copyFrom_13 : decode cX0_copyFrom 13 = .ok (.aload_n 0, 1) := by decide +kernel
theorem dX0_copyFrom_14 : decode cX0_copyFrom 14 = .ok (.getfield 9, 3) := by decide +kernel
theorem dX0_copyFrom_17 : decode cX0_copyFrom 17 = .ok (.iconst 0, 1) := by decide +kernel
theorem dX0_copyFrom_18 : decode cX0_copyFrom 18 = .ok (.bipush 40, 2) := by decide +kernel
theorem dX0_copyFrom_20 : decode cX0_copyFrom 20 = .ok (.invokestatic 25, 3) := by decide +kernel
theorem dX0_copyFrom_23 : decode cX0_copyFrom 23 = .ok (.aload_n 1, 1) := by decide +kernel
theorem dX0_copyFrom_24 : decode cX0_copyFrom 24 = .ok (.getfield 15, 3) := by decide +kernel
theorem dX0_copyFrom_27 : decode cX0_copyFrom 27 = .ok (.iconst 0, 1) := by decide +kernel
theorem dX0_copyFrom_28 : decode cX0_copyFrom 28 = .ok (.aload_n 0, 1) := by decide +kernel
theorem dX0_copyFrom_29 : decode cX0_copyFrom 29 = .ok (.getfield 15, 3) := by decide +kernel
theorem dX0_copyFrom_32 : decode cX0_copyFrom 32 = .ok (.iconst 0, 1) := by decide +kernel
theorem dX0_copyFrom_33 : decode cX0_copyFrom 33 = .ok (.bipush 40, 2) := by decide +kernel
theorem dX0_copyFrom_35 : decode cX0_copyFrom 35 = .ok (.invokestatic 25, 3) := by decide +kernel
theorem dX0_copyFrom_38 : decode cX0_copyFrom 38 = .ok (.aload_n 1, 1) := by decide +kernel
theorem dX0_copyFrom_39 : decode cX0_copyFrom 39 = .ok (.getfield 18, 3) := by decide +kernel
theorem dX0_copyFrom_42 : decode cX0_copyFrom 42 = .ok (.iconst 0, 1) := by decide +kernel
theorem dX0_copyFrom_43 : decode cX0_copyFrom 43 = .ok (.aload_n 0, 1) := by decide +kernel
theorem dX0_copyFrom_44 : decode cX0_copyFrom 44 = .ok (.getfield 18, 3) := by decide +kernel
theorem dX0_copyFrom_47 : decode cX0_copyFrom 47 = .ok (.iconst 0, 1) := by decide +kernel
theorem dX0_copyFrom_48 : decode cX0_copyFrom 48 = .ok (.bipush 40, 2) := by decide +kernel
theorem dX0_copyFrom_50 : decode cX0_copyFrom 50 = .ok (.invokestatic 25, 3) := by decide +kernel
theorem dX0_copyFrom_53 : decode cX0_copyFrom 53 = .ok (.return_, 1) := by decide +kernel
theorem dX10_tell_0 : decode cX10_tell 0 = .ok (.aload_n 0, 1) := by decide +kernel
theorem dX10_tell_1 : decode cX10_tell 1 = .ok (.iload_n 1, 1) := by decide +kernel
theorem dX10_tell_2 : decode cX10_tell 2 = .ok (.putfield 15, 3) := by decide +kernel
theorem dX10_tell_5 : decode cX10_tell 5 = .ok (.aload_n 0, 1) := by decide +kernel
theorem dX10_tell_6 : decode cX10_tell 6 = .ok (.iload_n 2, 1) := by decide +kernel
theorem dX10_tell_7 : decode cX10_tell 7 = .ok (.putfield 19, 3) := by decide +kernel
theorem dX10_tell_10 : decode cX10_tell 10 = .ok (.aload_n 0, 1) := by decide +kernel
theorem dX10_tell_11 : decode cX10_tell 11 = .ok (.iload_n 3, 1) := by decide +kernel
theorem dX10_tell_12 : decode cX10_tell 12 = .ok (.putfield 22, 3) := by decide +kernel
theorem dX10_tell_15 : decode cX10_tell 15 = .ok (.aload_n 0, 1) := by decide +kernel
theorem dX10_tell_16 : decode cX10_tell 16 = .ok (.aload_n 0, 1) := by decide +kernel
theorem dX10_tell_17 : decode cX10_tell 17 = .ok (.getfield 15, 3) := by decide +kernel
theorem dX10_tell_20 : decode cX10_tell 20 = .ok (.aload_n 0, 1) := by decide +kernel
theorem dX10_tell_21 : decode cX10_tell 21 = .ok (.getfield 19, 3) := by decide +kernel
theorem dX10_tell_24 : decode cX10_tell 24 = .ok (.iadd, 1) := by decide +kernel
theorem dX10_tell_25 : decode cX10_tell 25 = .ok (.aload_n 0, 1) := by decide +kernel
theorem dX10_tell_26 : decode cX10_tell 26 = .ok (.getfield 22, 3) := by decide +kernel
theorem dX10_tell_29 : decode cX10_tell 29 = .ok (.iadd, 1) := by decide +kernel
theorem dX10_tell_30 : decode cX10_tell 30 = .ok (.aload_n 0, 1) := by decide +kernel
theorem dX10_tell_31 : decode cX10_tell 31 = .ok (.getfield 19, 3) := by decide +kernel
theorem dX10_tell_34 : decode cX10_tell 34 = .ok (.iadd, 1) := by decide +kernel
theorem dX10_tell_35 : decode cX10_tell 35 = .ok (.putfield 25, 3) := by decide +kernel
theorem dX10_tell_38 : decode cX10_tell 38 = .ok (.aload_n 0, 1) := by decide +kernel
theorem dX10_tell_39 : decode cX10_tell 39 = .ok (.getfield 9, 3) := by decide +kernel
theorem dX10_tell_42 : decode cX10_tell 42 = .ok (.iconst 1, 1) := by decide +kernel
theorem dX10_tell_43 : decode cX10_tell 43 = .ok (.invokestatic 28, 3) := by decide +kernel
theorem dX10_tell_46 : decode cX10_tell 46 = .ok (.iconst 0, 1) := by decide +kernel
theorem dX10_tell_47 : decode cX10_tell 47 = .ok (.istore 4, 2) := by decide +kernel
theorem dX10_tell_49 : decode cX10_tell 49 = .ok (.iload 4, 2) := by decide +kernel
theorem dX10_tell_51 : decode cX10_tell 51 = .ok (.aload_n 0, 1) := by decide +kernel
theorem dX10_tell_52 : decode cX10_tell 52 = .ok (.getfield 15, 3) := by decide +kernel
theorem dX10_tell_55 : decode cX10_tell 55 = .ok (.if_icmp .ge 24, 3) := by decide +kernel
theorem dX10_tell_79 : decode cX10_tell 79 = .ok (.aload_n 0, 1) := by decide +kernel
theorem dX10_tell_80 : decode cX10_tell 80 = .ok (.getfield 15, 3) := by decide +kernel
theorem dX10_tell_83 : decode cX10_tell 83 = .ok (.aload_n 0, 1) := by decide +kernel
theorem dX10_tell_84 : decode cX10_tell 84 = .ok (.getfield 19, 3) := by decide +kernel
theorem dX10_tell_87 : decode cX10_tell 87 = .ok (.iadd, 1) := by decide +kernel
theorem dX10_tell_88 : decode cX10_tell 88 = .ok (.istore 4, 2) := by decide +kernel
theorem dX10_tell_90 : decode cX10_tell 90 = .ok (.iload 4, 2) := by decide +kernel
theorem dX10_tell_92 : decode cX10_tell 92 = .ok (.aload_n 0, 1) := by decide +kernel
theorem dX10_tell_93 : decode cX10_tell 93 = .ok (.getfield 25, 3) := by decide +kernel
theorem dX10_tell_96 : decode cX10_tell 96 = .ok (.aload_n 0, 1) := by decide +kernel
theorem dX10_tell_97 : decode cX10_tell 97 = .ok (.getfield 19, 3) := by decide +kernel
theorem dX10_tell_100 : decode cX10_tell 100 = .ok (.isub, 1) := by decide +kernel
theorem dX10_tell_101 : decode cX10_tell 101 = .ok (.if_icmp .ge 24, 3) := by decide +kernel
theorem dX10_tell_125 : decode cX10_tell 125 = .ok (.return_, 1) := by decide +kernel
theorem dX1_copyFrom_0 : decode cX1_copyFrom 0 = .ok (.aload_n 0, 1) := by decide +kernel
theorem dX1_copyFrom_1 : decode cX1_copyFrom 1 = .ok (.aload_n 1, 1) := by decide +kernel
theorem dX1_copyFrom_2 : decode cX1_copyFrom 2 = .ok (.getfield 51, 3) := by decide +kernel
theorem dX1_copyFrom_5 : decode cX1_copyFrom 5 = .ok (.putfield 51, 3) := by decide +kernel
theorem dX1_copyFrom_8 : decode cX1_copyFrom 8 = .ok (.aload_n 0, 1) := by decide +kernel
theorem dX1_copyFrom_9 : decode cX1_copyFrom 9 = .ok (.aload_n 1, 1) := by decide +kernel
theorem dX1_copyFrom_10 : decode cX1_copyFrom 10 = .ok (.getfield 55, 3) := by decide +kernel
theorem dX1_copyFrom_13 : decode cX1_copyFrom 13 = .ok (.putfield 55, 3) := by decide +kernel
theorem dX1_copyFrom_16 : decode cX1_copyFrom 16 = .ok (.aload_n 0, 1) := by decide +kernel
theorem dX1_copyFrom_17 : decode cX1_copyFrom 17 = .ok (.aload_n 1, 1) := by decide +kernel
theorem dX1_copyFrom_18 : decode cX1_copyFrom 18 = .ok (.getfield 58, 3) := by decide +kernel
theorem dX1_copyFrom_21 : decode cX1_copyFrom 21 = .ok (.putfield 58, 3) := by decide +kernel
theorem dX1_copyFrom_24 : decode cX1_copyFrom 24 = .ok (.aload_n 0, 1) := by decide +kernel
theorem dX1_copyFrom_25 : decode cX1_copyFrom 25 = .ok (.getfield 12, 3) := by decide +kernel
theorem dX1_copyFrom_28 : decode cX1_copyFrom 28 = .ok (.aload_n 1, 1) := by decide +kernel
theorem dX1_copyFrom_29 : decode cX1_copyFrom 29 = .ok (.getfield 12, 3) := by decide +kernel
theorem dX1_copyFrom_32 : decode cX1_copyFrom 32 = .ok (.getfield 84, 3) := by decide +kernel
theorem dX1_copyFrom_35 : decode cX1_copyFrom 35 = .ok (.aload_n 1, 1) := by decide +kernel
theorem dX1_copyFrom_36 : decode cX1_copyFrom 36 = .ok (.getfield 12, 3) := by decide +kernel
theorem dX1_copyFrom_39 : decode cX1_copyFrom 39 = .ok (.getfield 87, 3) := by decide +kernel
theorem dX1_copyFrom_42 : decode cX1_copyFrom 42 = .ok (.aload_n 1, 1) := by decide +kernel
theorem dX1_copyFrom_43 : decode cX1_copyFrom 43 = .ok (.getfield 12, 3) := by decide +kernel
theorem dX1_copyFrom_46 : decode cX1_copyFrom 46 = .ok (.getfield 90, 3) := by decide +kernel
theorem dX1_copyFrom_49 : decode cX1_copyFrom 49 = .ok (.invokevirtual 61, 3) := by decide +kernel
theorem dX1_copyFrom_52 : decode cX1_copyFrom 52 = .ok (.aload_n 1, 1) := by decide +kernel
theorem dX1_copyFrom_53 : decode cX1_copyFrom 53 = .ok (.getfield 18, 3) := by decide +kernel
theorem dX1_copyFrom_56 : decode cX1_copyFrom 56 = .ok (.iconst 0, 1) := by decide +kernel
theorem dX1_copyFrom_57 : decode cX1_copyFrom 57 = .ok (.aload_n 0, 1) := by decide +kernel
theorem dX1_copyFrom_58 : decode cX1_copyFrom 58 = .ok (.getfield 18, 3) := by decide +kernel
theorem dX1_copyFrom_61 : decode cX1_copyFrom 61 = .ok (.iconst 0, 1) := by decide +kernel
theorem dX1_copyFrom_62 : decode cX1_copyFrom 62 = .ok (.bipush 12, 2) := by decide +kernel
theorem dX1_copyFrom_64 : decode cX1_copyFrom 64 = .ok (.invokestatic 93, 3) := by decide +kernel
theorem dX1_copyFrom_67 : decode cX1_copyFrom 67 = .ok (.aload_n 1, 1) := by decide +kernel
theorem dX1_copyFrom_68 : decode cX1_copyFrom 68 = .ok (.getfield 22, 3) := by decide +kernel
theorem dX1_copyFrom_71 : decode cX1_copyFrom 71 = .ok (.iconst 0, 1) := by decide +kernel
theorem dX1_copyFrom_72 : decode cX1_copyFrom 72 = .ok (.aload_n 0, 1) := by decide +kernel
theorem dX1_copyFrom_73 : decode cX1_copyFrom 73 = .ok (.getfield 22, 3) := by decide +kernel
theorem dX1_copyFrom_76 : decode cX1_copyFrom 76 = .ok (.iconst 0, 1) := by decide +kernel
theorem dX1_copyFrom_77 : decode cX1_copyFrom 77 = .ok (.bipush 12, 2) := by decide +kernel
theorem dX1_copyFrom_79 : decode cX1_copyFrom 79 = .ok (.invokestatic 93, 3) := by decide +kernel
theorem dX1_copyFrom_82 : decode cX1_copyFrom 82 = .ok (.aload_n 0, 1) := by decide +kernel
theorem dX1_copyFrom_83 : decode cX1_copyFrom 83 = .ok (.aload_n 1, 1) := by decide +kernel
theorem dX1_copyFrom_84 : decode cX1_copyFrom 84 = .ok (.getfield 71, 3) := by decide +kernel
theorem dX1_copyFrom_87 : decode cX1_copyFrom 87 = .ok (.putfield 71, 3) := by decide +kernel
theorem dX1_copyFrom_90 : decode cX1_copyFrom 90 = .ok (.aload_n 0, 1) := by decide +kernel
theorem dX1_copyFrom_91 : decode cX1_copyFrom 91 = .ok (.aload_n 1, 1) := by decide +kernel
theorem dX1_copyFrom_92 : decode cX1_copyFrom 92 = .ok (.getfield 74, 3) := by decide +kernel
theorem dX1_copyFrom_95 : decode cX1_copyFrom 95 = .ok (.putfield 74, 3) := by decide +kernel
theorem dX1_copyFrom_98 : decode cX1_copyFrom 98 = .ok (.aload_n 1, 1) := by decide +kernel
theorem dX1_copyFrom_99 : decode cX1_copyFrom 99 = .ok (.getfield 25, 3) := by decide +kernel
theorem dX1_copyFrom_102 : decode cX1_copyFrom 102 = .ok (.iconst 0, 1) := by decide +kernel
theorem dX1_copyFrom_103 : decode cX1_copyFrom 103 = .ok (.aload_n 0, 1) := by decide +kernel
theorem dX1_copyFrom_104 : decode cX1_copyFrom 104 = .ok (.getfield 25, 3) := by decide +kernel
theorem dX1_copyFrom_107 : decode cX1_copyFrom 107 = .ok (.iconst 0, 1) := by decide +kernel
theorem dX1_copyFrom_108 : decode cX1_copyFrom 108 = .ok (.bipush 8, 2) := by decide +kernel
theorem dX1_copyFrom_110 : decode cX1_copyFrom 110 = .ok (.invokestatic 93, 3) := by decide +kernel
theorem dX1_copyFrom_113 : decode cX1_copyFrom 113 = .ok (.aload_n 1, 1) := by decide +kernel
theorem dX1_copyFrom_114 : decode cX1_copyFrom 114 = .ok (.getfield 28, 3) := by decide +kernel
theorem dX1_copyFrom_117 : decode cX1_copyFrom 117 = .ok (.iconst 0, 1) := by decide +kernel
theorem dX1_copyFrom_118 : decode cX1_copyFrom 118 = .ok (.aload_n 0, 1) := by decide +kernel
theorem dX1_copyFrom_119 : decode cX1_copyFrom 119 = .ok (.getfield 28, 3) := by decide +kernel
theorem dX1_copyFrom_122 : decode cX1_copyFrom 122 = .ok (.iconst 0, 1) := by decide +kernel
theorem dX1_copyFrom_123 : decode cX1_copyFrom 123 = .ok (.bipush 8, 2) := by decide +kernel
theorem dX1_copyFrom_125 : decode cX1_copyFrom 125 = .ok (.invokestatic 93, 3) := by decide +kernel
theorem dX1_copyFrom_128 : decode cX1_copyFrom 128 = .ok (.aload_n 1, 1) := by decide +kernel
theorem dX1_copyFrom_129 : decode cX1_copyFrom 129 = .ok (.getfield 31, 3) := by decide +kernel
theorem dX1_copyFrom_132 : decode cX1_copyFrom 132 = .ok (.iconst 0, 1) := by decide +kernel
theorem dX1_copyFrom_133 : decode cX1_copyFrom 133 = .ok (.aload_n 0, 1) := by decide +kernel
theorem dX1_copyFrom_134 : decode cX1_copyFrom 134 = .ok (.getfield 31, 3) := by decide +kernel
theorem dX1_copyFrom_137 : decode cX1_copyFrom 137 = .ok (.iconst 0, 1) := by decide +kernel
theorem dX1_copyFrom_138 : decode cX1_copyFrom 138 = .ok (.bipush 8, 2) := by decide +kernel
theorem dX1_copyFrom_140 : decode cX1_copyFrom 140 = .ok (.invokestatic 93, 3) := by decide +kernel
theorem dX1_copyFrom_143 : decode cX1_copyFrom 143 = .ok (.aload_n 0, 1) := by decide +kernel
theorem dX1_copyFrom_144 : decode cX1_copyFrom 144 = .ok (.getfield 37, 3) := by decide +kernel
theorem dX1_copyFrom_147 : decode cX1_copyFrom 147 = .ok (.aload_n 1, 1) := by decide +kernel
theorem dX1_copyFrom_148 : decode cX1_copyFrom 148 = .ok (.getfield 37, 3) := by decide +kernel
theorem dX1_copyFrom_151 : decode cX1_copyFrom 151 = .ok (.invokevirtual 99, 3) := by decide +kernel
theorem dX1_copyFrom_154 : decode cX1_copyFrom 154 = .ok (.aload_n 0, 1) := by decide +kernel
theorem dX1_copyFrom_155 : decode cX1_copyFrom 155 = .ok (.aload_n 1, 1) := by decide +kernel
theorem dX1_copyFrom_156 : decode cX1_copyFrom 156 = .ok (.getfield 80, 3) := by decide +kernel
theorem dX1_copyFrom_159 : decode cX1_copyFrom 159 = .ok (.putfield 80, 3) := by decide +kernel
theorem dX1_copyFrom_162 : decode cX1_copyFrom 162 = .ok (.aload_n 1, 1) := by decide +kernel
theorem dX1_copyFrom_163 : decode cX1_copyFrom 163 = .ok (.getfield 41, 3) := by decide +kernel
theorem dX1_copyFrom_166 : decode cX1_copyFrom 166 = .ok (.iconst 0, 1) := by decide +kernel
theorem dX1_copyFrom_167 : decode cX1_copyFrom 167 = .ok (.aload_n 0, 1) := by decide +kernel
theorem dX1_copyFrom_168 : decode cX1_copyFrom 168 = .ok (.getfield 41, 3) := by decide +kernel
theorem dX1_copyFrom_171 : decode cX1_copyFrom 171 = .ok (.iconst 0, 1) := by decide +kernel
theorem dX1_copyFrom_172 : decode cX1_copyFrom 172 = .ok (.iconst 3, 1) := by decide +kernel
theorem dX1_copyFrom_173 : decode cX1_copyFrom 173 = .ok (.invokestatic 93, 3) := by decide +kernel
theorem dX1_copyFrom_176 : decode cX1_copyFrom 176 = .ok (.aload_n 0, 1) := by decide +kernel
theorem dX1_copyFrom_177 : decode cX1_copyFrom 177 = .ok (.getfield 47, 3) := by decide +kernel
theorem dX1_copyFrom_180 : decode cX1_copyFrom 180 = .ok (.aload_n 1, 1) := by decide +kernel
theorem dX1_copyFrom_181 : decode cX1_copyFrom 181 = .ok (.getfield 47, 3) := by decide +kernel
theorem dX1_copyFrom_184 : decode cX1_copyFrom 184 = .ok (.invokevirtual 103, 3) := by decide +kernel
theorem dX1_copyFrom_187 : decode cX1_copyFrom 187 = .ok (.return_, 1) := by decide +kernel
theorem dX11_image_0 : decode cX11_image 0 = .ok (.iload_n 1, 1) := by decide +kernel
theorem dX11_image_1 : decode cX11_image 1 = .ok (.ifCond .lt 8, 3) := by decide +kernel
theorem dX11_image_4 : decode cX11_image 4 = .ok (.iload_n 1, 1) := by decide +kernel
theorem dX11_image_5 : decode cX11_image 5 = .ok (.iconst 3, 1) := by decide +kernel
theorem dX11_image_6 : decode cX11_image 6 = .ok (.if_icmp .lt 6, 3) := by decide +kernel
theorem dX11_image_12 : decode cX11_image 12 = .ok (.aload_n 0, 1) := by decide +kernel
theorem dX11_image_13 : decode cX11_image 13 = .ok (.getfield 33, 3) := by decide +kernel
theorem dX11_image_16 : decode cX11_image 16 = .ok (.iload_n 1, 1) := by decide +kernel
theorem dX11_image_17 : decode cX11_image 17 = .ok (.aaload, 1) := by decide +kernel
theorem dX11_image_18 : decode cX11_image 18 = .ok (.aload_n 0, 1) := by decide +kernel
theorem dX11_image_19 : decode cX11_image 19 = .ok (.getfield 26, 3) := by decide +kernel
theorem dX11_image_22 : decode cX11_image 22 = .ok (.invokevirtual 107, 3) := by decide +kernel
theorem dX11_image_25 : decode cX11_image 25 = .ok (.aload_n 0, 1) := by decide +kernel
theorem dX11_image_26 : decode cX11_image 26 = .ok (.getfield 37, 3) := by decide +kernel
theorem dX11_image_29 : decode cX11_image 29 = .ok (.iload_n 1, 1) := by decide +kernel
theorem dX11_image_30 : decode cX11_image 30 = .ok (.iconst 1, 1) := by decide +kernel
theorem dX11_image_31 : decode cX11_image 31 = .ok (.bastore, 1) := by decide +kernel
theorem dX11_image_32 : decode cX11_image 32 = .ok (.iconst 0, 1) := by decide +kernel
theorem dX11_image_33 : decode cX11_image 33 = .ok (.ireturn, 1) := by decide +kernel
theorem dX11_image_9 : decode cX11_image 9 = .ok (.bipush (-2), 2) := by decide +kernel
theorem dX11_image_11 : decode cX11_image 11 = .ok (.ireturn, 1) := by decide +kernel
theorem dX8_lay_0 : decode cX8_lay 0 = .ok (.aload_n 0, 1) := by decide +kernel
theorem dX8_lay_1 : decode cX8_lay 1 = .ok (.getfield 16, 3) := by decide +kernel
theorem dX8_lay_4 : decode cX8_lay 4 = .ok (.iload_n 1, 1) := by decide +kernel
theorem dX8_lay_5 : decode cX8_lay 5 = .ok (.iload_n 2, 1) := by decide +kernel
theorem dX8_lay_6 : decode cX8_lay 6 = .ok (.iastore, 1) := by decide +kernel
theorem dX8_lay_7 : decode cX8_lay 7 = .ok (.aload_n 0, 1) := by decide +kernel
theorem dX8_lay_8 : decode cX8_lay 8 = .ok (.getfield 20, 3) := by decide +kernel
theorem dX8_lay_11 : decode cX8_lay 11 = .ok (.iload_n 1, 1) := by decide +kernel
theorem dX8_lay_12 : decode cX8_lay 12 = .ok (.iload_n 3, 1) := by decide +kernel
theorem dX8_lay_13 : decode cX8_lay 13 = .ok (.iastore, 1) := by decide +kernel
theorem dX8_lay_14 : decode cX8_lay 14 = .ok (.aload_n 0, 1) := by decide +kernel
theorem dX8_lay_15 : decode cX8_lay 15 = .ok (.getfield 11, 3) := by decide +kernel
theorem dX8_lay_18 : decode cX8_lay 18 = .ok (.iload_n 1, 1) := by decide +kernel
theorem dX8_lay_19 : decode cX8_lay 19 = .ok (.aaload, 1) := by decide +kernel
theorem dX8_lay_20 : decode cX8_lay 20 = .ok (.lconst 0, 1) := by decide +kernel
theorem dX8_lay_21 : decode cX8_lay 21 = .ok (.invokestatic 33, 3) := by decide +kernel
theorem dX8_lay_24 : decode cX8_lay 24 = .ok (.return_, 1) := by decide +kernel
theorem dX11_row_0 : decode cX11_row 0 = .ok (.iload_n 1, 1) := by decide +kernel
theorem dX11_row_1 : decode cX11_row 1 = .ok (.invokestatic 389, 3) := by decide +kernel
theorem dX11_row_4 : decode cX11_row 4 = .ok (.ifCond .eq 18, 3) := by decide +kernel
theorem dX11_row_7 : decode cX11_row 7 = .ok (.iload_n 2, 1) := by decide +kernel
theorem dX11_row_8 : decode cX11_row 8 = .ok (.ifCond .lt 14, 3) := by decide +kernel
theorem dX11_row_22 : decode cX11_row 22 = .ok (.bipush (-2), 2) := by decide +kernel
theorem dX11_row_24 : decode cX11_row 24 = .ok (.ireturn, 1) := by decide +kernel
theorem dX11_row_11 : decode cX11_row 11 = .ok (.iload_n 2, 1) := by decide +kernel
theorem dX11_row_12 : decode cX11_row 12 = .ok (.iconst 4, 1) := by decide +kernel
theorem dX11_row_13 : decode cX11_row 13 = .ok (.if_icmp .ge 9, 3) := by decide +kernel
theorem dX11_row_16 : decode cX11_row 16 = .ok (.iload_n 3, 1) := by decide +kernel
theorem dX11_row_17 : decode cX11_row 17 = .ok (.bipush 60, 2) := by decide +kernel
theorem dX11_row_19 : decode cX11_row 19 = .ok (.if_icmp .le 6, 3) := by decide +kernel
theorem dX11_row_25 : decode cX11_row 25 = .ok (.iload_n 3, 1) := by decide +kernel
theorem dX11_row_26 : decode cX11_row 26 = .ok (.ifCond .ge 6, 3) := by decide +kernel
theorem dX11_row_32 : decode cX11_row 32 = .ok (.aload_n 0, 1) := by decide +kernel
theorem dX11_row_33 : decode cX11_row 33 = .ok (.getfield 85, 3) := by decide +kernel
theorem dX11_row_36 : decode cX11_row 36 = .ok (.iload_n 1, 1) := by decide +kernel
theorem dX11_row_37 : decode cX11_row 37 = .ok (.iload_n 2, 1) := by decide +kernel
theorem dX11_row_38 : decode cX11_row 38 = .ok (.iload_n 3, 1) := by decide +kernel
theorem dX11_row_39 : decode cX11_row 39 = .ok (.invokevirtual 392, 3) := by decide +kernel
theorem dX11_row_42 : decode cX11_row 42 = .ok (.iconst 0, 1) := by decide +kernel
theorem dX11_row_43 : decode cX11_row 43 = .ok (.ireturn, 1) := by decide +kernel
theorem dX11_row_29 : decode cX11_row 29 = .ok (.bipush (-3), 2) := by decide +kernel
theorem dX11_row_31 : decode cX11_row 31 = .ok (.ireturn, 1) := by decide +kernel
theorem dX1_clear_0 : decode cX1_clear 0 = .ok (.aload_n 0, 1) := by decide +kernel
theorem dX1_clear_1 : decode cX1_clear 1 = .ok (.iconst 0, 1) := by decide +kernel
theorem dX1_clear_2 : decode cX1_clear 2 = .ok (.putfield 51, 3) := by decide +kernel
theorem dX1_clear_5 : decode cX1_clear 5 = .ok (.aload_n 0, 1) := by decide +kernel
theorem dX1_clear_6 : decode cX1_clear 6 = .ok (.iconst 0, 1) := by decide +kernel
theorem dX1_clear_7 : decode cX1_clear 7 = .ok (.putfield 55, 3) := by decide +kernel
theorem dX1_clear_10 : decode cX1_clear 10 = .ok (.aload_n 0, 1) := by decide +kernel
theorem dX1_clear_11 : decode cX1_clear 11 = .ok (.iconst 0, 1) := by decide +kernel
theorem dX1_clear_12 : decode cX1_clear 12 = .ok (.putfield 58, 3) := by decide +kernel
theorem dX1_clear_15 : decode cX1_clear 15 = .ok (.aload_n 0, 1) := by decide +kernel
theorem dX1_clear_16 : decode cX1_clear 16 = .ok (.getfield 12, 3) := by decide +kernel
theorem dX1_clear_19 : decode cX1_clear 19 = .ok (.iconst 0, 1) := by decide +kernel
theorem dX1_clear_20 : decode cX1_clear 20 = .ok (.iconst 0, 1) := by decide +kernel
theorem dX1_clear_21 : decode cX1_clear 21 = .ok (.iconst 0, 1) := by decide +kernel
theorem dX1_clear_22 : decode cX1_clear 22 = .ok (.invokevirtual 61, 3) := by decide +kernel
theorem dX1_clear_25 : decode cX1_clear 25 = .ok (.aload_n 0, 1) := by decide +kernel
theorem dX1_clear_26 : decode cX1_clear 26 = .ok (.getfield 18, 3) := by decide +kernel
theorem dX1_clear_29 : decode cX1_clear 29 = .ok (.iconst 0, 1) := by decide +kernel
theorem dX1_clear_30 : decode cX1_clear 30 = .ok (.invokestatic 65, 3) := by decide +kernel
theorem dX1_clear_33 : decode cX1_clear 33 = .ok (.aload_n 0, 1) := by decide +kernel
theorem dX1_clear_34 : decode cX1_clear 34 = .ok (.getfield 22, 3) := by decide +kernel
theorem dX1_clear_37 : decode cX1_clear 37 = .ok (.iconst 0, 1) := by decide +kernel
theorem dX1_clear_38 : decode cX1_clear 38 = .ok (.invokestatic 65, 3) := by decide +kernel
theorem dX1_clear_41 : decode cX1_clear 41 = .ok (.aload_n 0, 1) := by decide +kernel
theorem dX1_clear_42 : decode cX1_clear 42 = .ok (.iconst 0, 1) := by decide +kernel
theorem dX1_clear_43 : decode cX1_clear 43 = .ok (.putfield 71, 3) := by decide +kernel
theorem dX1_clear_46 : decode cX1_clear 46 = .ok (.aload_n 0, 1) := by decide +kernel
theorem dX1_clear_47 : decode cX1_clear 47 = .ok (.iconst 0, 1) := by decide +kernel
theorem dX1_clear_48 : decode cX1_clear 48 = .ok (.putfield 74, 3) := by decide +kernel
theorem dX1_clear_51 : decode cX1_clear 51 = .ok (.aload_n 0, 1) := by decide +kernel
theorem dX1_clear_52 : decode cX1_clear 52 = .ok (.getfield 37, 3) := by decide +kernel
theorem dX1_clear_55 : decode cX1_clear 55 = .ok (.iconst 0, 1) := by decide +kernel
theorem dX1_clear_56 : decode cX1_clear 56 = .ok (.putfield 77, 3) := by decide +kernel
theorem dX1_clear_59 : decode cX1_clear 59 = .ok (.aload_n 0, 1) := by decide +kernel
theorem dX1_clear_60 : decode cX1_clear 60 = .ok (.iconst 0, 1) := by decide +kernel
theorem dX1_clear_61 : decode cX1_clear 61 = .ok (.putfield 80, 3) := by decide +kernel
theorem dX1_clear_64 : decode cX1_clear 64 = .ok (.aload_n 0, 1) := by decide +kernel
theorem dX1_clear_65 : decode cX1_clear 65 = .ok (.getfield 47, 3) := by decide +kernel
theorem dX1_clear_68 : decode cX1_clear 68 = .ok (.iconst 0, 1) := by decide +kernel
theorem dX1_clear_69 : decode cX1_clear 69 = .ok (.putfield 83, 3) := by decide +kernel
theorem dX1_clear_72 : decode cX1_clear 72 = .ok (.return_, 1) := by decide +kernel
theorem dX5_advance_0 : decode cX5_advance 0 = .ok (.aload_n 0, 1) := by decide +kernel
theorem dX5_advance_1 : decode cX5_advance 1 = .ok (.aload_n 0, 1) := by decide +kernel
theorem dX5_advance_2 : decode cX5_advance 2 = .ok (.getfield 32, 3) := by decide +kernel
theorem dX5_advance_5 : decode cX5_advance 5 = .ok (.putfield 65, 3) := by decide +kernel
theorem dX5_advance_8 : decode cX5_advance 8 = .ok (.aload_n 0, 1) := by decide +kernel
theorem dX5_advance_9 : decode cX5_advance 9 = .ok (.getfield 65, 3) := by decide +kernel
theorem dX5_advance_12 : decode cX5_advance 12 = .ok (.aload_n 0, 1) := by decide +kernel
theorem dX5_advance_13 : decode cX5_advance 13 = .ok (.getfield 28, 3) := by decide +kernel
theorem dX5_advance_16 : decode cX5_advance 16 = .ok (.if_icmp .ge 32, 3) := by decide +kernel
theorem dX5_advance_48 : decode cX5_advance 48 = .ok (.aload_n 0, 1) := by decide +kernel
theorem dX5_advance_49 : decode cX5_advance 49 = .ok (.aload_n 0, 1) := by decide +kernel
theorem dX5_advance_50 : decode cX5_advance 50 = .ok (.getfield 65, 3) := by decide +kernel
theorem dX5_advance_53 : decode cX5_advance 53 = .ok (.putfield 32, 3) := by decide +kernel
theorem dX5_advance_56 : decode cX5_advance 56 = .ok (.aload_n 0, 1) := by decide +kernel
theorem dX5_advance_57 : decode cX5_advance 57 = .ok (.iconst 0, 1) := by decide +kernel
theorem dX5_advance_58 : decode cX5_advance 58 = .ok (.putfield 72, 3) := by decide +kernel
theorem dX5_advance_61 : decode cX5_advance 61 = .ok (.aload_n 0, 1) := by decide +kernel
theorem dX5_advance_62 : decode cX5_advance 62 = .ok (.aload_n 0, 1) := by decide +kernel
theorem dX5_advance_63 : decode cX5_advance 63 = .ok (.getfield 65, 3) := by decide +kernel
theorem dX5_advance_66 : decode cX5_advance 66 = .ok (.aload_n 0, 1) := by decide +kernel
theorem dX5_advance_67 : decode cX5_advance 67 = .ok (.getfield 28, 3) := by decide +kernel
theorem dX5_advance_70 : decode cX5_advance 70 = .ok (.if_icmp .ge 18, 3) := by decide +kernel
theorem dX5_advance_88 : decode cX5_advance 88 = .ok (.iconst 0, 1) := by decide +kernel
theorem dX5_advance_89 : decode cX5_advance 89 = .ok (.putfield 49, 3) := by decide +kernel
theorem dX5_advance_92 : decode cX5_advance 92 = .ok (.aload_n 0, 1) := by decide +kernel
theorem dX5_advance_93 : decode cX5_advance 93 = .ok (.getfield 32, 3) := by decide +kernel
theorem dX5_advance_96 : decode cX5_advance 96 = .ok (.aload_n 0, 1) := by decide +kernel
theorem dX5_advance_97 : decode cX5_advance 97 = .ok (.getfield 28, 3) := by decide +kernel
theorem dX5_advance_100 : decode cX5_advance 100 = .ok (.if_icmp .ge 90, 3) := by decide +kernel
theorem dX5_advance_190 : decode cX5_advance 190 = .ok (.return_, 1) := by decide +kernel
theorem dX5_read_0 : decode cX5_read 0 = .ok (.aload_n 0, 1) := by decide +kernel
theorem dX5_read_1 : decode cX5_read 1 = .ok (.iconst 0, 1) := by decide +kernel
theorem dX5_read_2 : decode cX5_read 2 = .ok (.iload_n 1, 1) := by decide +kernel
theorem dX5_read_3 : decode cX5_read 3 = .ok (.aload_n 0, 1) := by decide +kernel
theorem dX5_read_4 : decode cX5_read 4 = .ok (.getfield 9, 3) := by decide +kernel
theorem dX5_read_7 : decode cX5_read 7 = .ok (.arraylength, 1) := by decide +kernel
theorem dX5_read_8 : decode cX5_read 8 = .ok (.invokestatic 19, 3) := by decide +kernel
theorem dX5_read_11 : decode cX5_read 11 = .ok (.invokestatic 25, 3) := by decide +kernel
theorem dX5_read_14 : decode cX5_read 14 = .ok (.putfield 28, 3) := by decide +kernel
theorem dX5_read_17 : decode cX5_read 17 = .ok (.aload_n 0, 1) := by decide +kernel
theorem dX5_read_18 : decode cX5_read 18 = .ok (.iconst 0, 1) := by decide +kernel
theorem dX5_read_19 : decode cX5_read 19 = .ok (.putfield 32, 3) := by decide +kernel
theorem dX5_read_22 : decode cX5_read 22 = .ok (.aload_n 0, 1) := by decide +kernel
theorem dX5_read_23 : decode cX5_read 23 = .ok (.iconst 0, 1) := by decide +kernel
theorem dX5_read_24 : decode cX5_read 24 = .ok (.putfield 35, 3) := by decide +kernel
theorem dX5_read_27 : decode cX5_read 27 = .ok (.aload_n 0, 1) := by decide +kernel
theorem dX5_read_28 : decode cX5_read 28 = .ok (.iconst (-1), 1) := by decide +kernel
theorem dX5_read_29 : decode cX5_read 29 = .ok (.putfield 38, 3) := by decide +kernel
theorem dX5_read_32 : decode cX5_read 32 = .ok (.aload_n 0, 1) := by decide +kernel
theorem dX5_read_33 : decode cX5_read 33 = .ok (.getfield 15, 3) := by decide +kernel
theorem dX5_read_36 : decode cX5_read 36 = .ok (.invokevirtual 41, 3) := by decide +kernel
theorem dX5_read_39 : decode cX5_read 39 = .ok (.aload_n 0, 1) := by decide +kernel
theorem dX5_read_40 : decode cX5_read 40 = .ok (.invokevirtual 46, 3) := by decide +kernel
theorem dX5_read_43 : decode cX5_read 43 = .ok (.iconst 0, 1) := by decide +kernel
theorem dX5_read_44 : decode cX5_read 44 = .ok (.istore_n 2, 1) := by decide +kernel
theorem dX5_read_45 : decode cX5_read 45 = .ok (.iload_n 2, 1) := by decide +kernel
theorem dX5_read_46 : decode cX5_read 46 = .ok (.sipush 1200, 3) := by decide +kernel
theorem dX5_read_49 : decode cX5_read 49 = .ok (.if_icmp .gt 44, 3) := by decide +kernel
theorem dX5_read_52 : decode cX5_read 52 = .ok (.aload_n 0, 1) := by decide +kernel
theorem dX5_read_53 : decode cX5_read 53 = .ok (.getfield 49, 3) := by decide +kernel
theorem dX5_read_56 : decode cX5_read 56 = .ok (.ifCond .eq 37, 3) := by decide +kernel
theorem dX5_read_93 : decode cX5_read 93 = .ok (.return_, 1) := by decide +kernel
theorem dX2_settleAll_0 : decode cX2_settleAll 0 = .ok (.iconst 0, 1) := by decide +kernel
theorem dX2_settleAll_1 : decode cX2_settleAll 1 = .ok (.istore_n 1, 1) := by decide +kernel
theorem dX2_settleAll_2 : decode cX2_settleAll 2 = .ok (.iload_n 1, 1) := by decide +kernel
theorem dX2_settleAll_3 : decode cX2_settleAll 3 = .ok (.aload_n 0, 1) := by decide +kernel
theorem dX2_settleAll_4 : decode cX2_settleAll 4 = .ok (.getfield 31, 3) := by decide +kernel
theorem dX2_settleAll_7 : decode cX2_settleAll 7 = .ok (.getfield 35, 3) := by decide +kernel
theorem dX2_settleAll_10 : decode cX2_settleAll 10 = .ok (.if_icmp .ge 14, 3) := by decide +kernel
theorem dX2_settleAll_24 : decode cX2_settleAll 24 = .ok (.return_, 1) := by decide +kernel
theorem dX11_shore_0 : decode cX11_shore 0 = .ok (.aload_n 0, 1) := by decide +kernel
theorem dX11_shore_1 : decode cX11_shore 1 = .ok (.getfield 46, 3) := by decide +kernel
theorem dX11_shore_4 : decode cX11_shore 4 = .ok (.aload_n 0, 1) := by decide +kernel
theorem dX11_shore_5 : decode cX11_shore 5 = .ok (.getfield 13, 3) := by decide +kernel
theorem dX11_shore_8 : decode cX11_shore 8 = .ok (.invokevirtual 102, 3) := by decide +kernel
theorem dX11_shore_11 : decode cX11_shore 11 = .ok (.aload_n 0, 1) := by decide +kernel
theorem dX11_shore_12 : decode cX11_shore 12 = .ok (.aload_n 0, 1) := by decide +kernel
theorem dX11_shore_13 : decode cX11_shore 13 = .ok (.getfield 46, 3) := by decide +kernel
theorem dX11_shore_16 : decode cX11_shore 16 = .ok (.getfield 105, 3) := by decide +kernel
theorem dX11_shore_19 : decode cX11_shore 19 = .ok (.putfield 17, 3) := by decide +kernel
theorem dX11_shore_22 : decode cX11_shore 22 = .ok (.aload_n 0, 1) := by decide +kernel
theorem dX11_shore_23 : decode cX11_shore 23 = .ok (.aload_n 0, 1) := by decide +kernel
theorem dX11_shore_24 : decode cX11_shore 24 = .ok (.getfield 46, 3) := by decide +kernel
theorem dX11_shore_27 : decode cX11_shore 27 = .ok (.getfield 106, 3) := by decide +kernel
theorem dX11_shore_30 : decode cX11_shore 30 = .ok (.putfield 20, 3) := by decide +kernel
theorem dX11_shore_33 : decode cX11_shore 33 = .ok (.aload_n 0, 1) := by decide +kernel
theorem dX11_shore_34 : decode cX11_shore 34 = .ok (.getfield 17, 3) := by decide +kernel
theorem dX11_shore_37 : decode cX11_shore 37 = .ok (.ifCond .eq 6, 3) := by decide +kernel
theorem dX11_shore_43 : decode cX11_shore 43 = .ok (.aload_n 0, 1) := by decide +kernel
theorem dX11_shore_44 : decode cX11_shore 44 = .ok (.getfield 26, 3) := by decide +kernel
theorem dX11_shore_47 : decode cX11_shore 47 = .ok (.aload_n 0, 1) := by decide +kernel
theorem dX11_shore_48 : decode cX11_shore 48 = .ok (.getfield 30, 3) := by decide +kernel
theorem dX11_shore_51 : decode cX11_shore 51 = .ok (.invokevirtual 107, 3) := by decide +kernel
theorem dX11_shore_54 : decode cX11_shore 54 = .ok (.aload_n 0, 1) := by decide +kernel
theorem dX11_shore_55 : decode cX11_shore 55 = .ok (.iconst 0, 1) := by decide +kernel
theorem dX11_shore_56 : decode cX11_shore 56 = .ok (.putfield 13, 3) := by decide +kernel
theorem dX11_shore_59 : decode cX11_shore 59 = .ok (.aload_n 0, 1) := by decide +kernel
theorem dX11_shore_60 : decode cX11_shore 60 = .ok (.getfield 55, 3) := by decide +kernel
theorem dX11_shore_63 : decode cX11_shore 63 = .ok (.invokevirtual 110, 3) := by decide +kernel
theorem dX11_shore_66 : decode cX11_shore 66 = .ok (.aload_n 0, 1) := by decide +kernel
theorem dX11_shore_67 : decode cX11_shore 67 = .ok (.getfield 26, 3) := by decide +kernel
theorem dX11_shore_70 : decode cX11_shore 70 = .ok (.getfield 113, 3) := by decide +kernel
theorem dX11_shore_73 : decode cX11_shore 73 = .ok (.ireturn, 1) := by decide +kernel
theorem q516 : Cond.fieldLink "EbbWreck" 9 "EbbWreck" "tape" "[B" ∈ lw_g := mg (List.mem_of_getElem? (i := 516) (by decide +kernel)) rfl
theorem q569 : Cond.code ⟨"EbbWreck", "putNumber", "(I)V"⟩ prog_1_method_3_code 3 none ∈ lw_g := mg (List.mem_of_getElem? (i := 569) (by decide +kernel)) rfl
theorem q568 : Cond.instanceMethod ⟨"EbbWreck", "putNumber", "(I)V"⟩ ∈ lw_g := mg (List.mem_of_getElem? (i := 568) (by decide +kernel)) rfl
theorem q0 : Cond.selects "EbbWreck" ⟨"EbbWreck", "putNumber", "(I)V"⟩ ⟨"EbbWreck", "putNumber", "(I)V"⟩ ∈ lw_g := mg (List.mem_of_getElem? (i := 0) (by decide +kernel)) rfl
theorem q566 : Cond.methodLink "EbbWreck" 98 ⟨"EbbWreck", "putNumber", "(I)V"⟩ ∈ lw_g := mg (List.mem_of_getElem? (i := 566) (by decide +kernel)) rfl
theorem q859 : Cond.constant "java/lang/Integer" 265 1431655765 ∈ lw_g := mg (List.mem_of_getElem? (i := 859) (by decide +kernel)) rfl
theorem q860 : Cond.constant "java/lang/Integer" 266 858993459 ∈ lw_g := mg (List.mem_of_getElem? (i := 860) (by decide +kernel)) rfl
theorem q861 : Cond.constant "java/lang/Integer" 267 252645135 ∈ lw_g := mg (List.mem_of_getElem? (i := 861) (by decide +kernel)) rfl
theorem q244 : Cond.fieldLink "EbbWreck" 169 "EbbWreck$Coast" "cells" "I" ∈ lw_g := mg (List.mem_of_getElem? (i := 244) (by decide +kernel)) rfl
theorem q254 : Cond.fieldLink "EbbWreck" 172 "EbbWreck$Coast" "tide" "LEbbWreck$Tide;" ∈ lw_g := mg (List.mem_of_getElem? (i := 254) (by decide +kernel)) rfl
theorem q157 : Cond.fieldLink "EbbWreck" 176 "EbbWreck$Tide" "flood" "I" ∈ lw_g := mg (List.mem_of_getElem? (i := 157) (by decide +kernel)) rfl
theorem q160 : Cond.fieldLink "EbbWreck" 181 "EbbWreck$Tide" "slack" "I" ∈ lw_g := mg (List.mem_of_getElem? (i := 160) (by decide +kernel)) rfl
theorem q163 : Cond.fieldLink "EbbWreck" 184 "EbbWreck$Tide" "ebb" "I" ∈ lw_g := mg (List.mem_of_getElem? (i := 163) (by decide +kernel)) rfl
theorem q249 : Cond.fieldLink "EbbWreck" 187 "EbbWreck$Coast" "odds" "I" ∈ lw_g := mg (List.mem_of_getElem? (i := 249) (by decide +kernel)) rfl
theorem q266 : Cond.fieldLink "EbbWreck" 190 "EbbWreck$Coast" "beachBits" "I" ∈ lw_g := mg (List.mem_of_getElem? (i := 266) (by decide +kernel)) rfl
theorem q858 : Cond.code ⟨"java/lang/Integer", "bitCount", "(I)I"⟩ prog_15_method_49_code 1 (some .int) ∈ lw_g := mg (List.mem_of_getElem? (i := 858) (by decide +kernel)) rfl
theorem q857 : Cond.static ⟨"java/lang/Integer", "bitCount", "(I)I"⟩ ∈ lw_g := mg (List.mem_of_getElem? (i := 857) (by decide +kernel)) rfl
theorem q134 : Cond.initialized "java/lang/Integer" ∈ lw_g := mg (List.mem_of_getElem? (i := 134) (by decide +kernel)) rfl
theorem q856 : Cond.methodLink "EbbWreck" 193 ⟨"java/lang/Integer", "bitCount", "(I)I"⟩ ∈ lw_g := mg (List.mem_of_getElem? (i := 856) (by decide +kernel)) rfl
theorem q272 : Cond.fieldLink "EbbWreck" 199 "EbbWreck$Coast" "things" "I" ∈ lw_g := mg (List.mem_of_getElem? (i := 272) (by decide +kernel)) rfl
theorem q188 : Cond.fieldLink "EbbWreck" 202 "EbbWreck$RuleBook" "size" "I" ∈ lw_g := mg (List.mem_of_getElem? (i := 188) (by decide +kernel)) rfl
theorem q295 : Cond.fieldLink "EbbWreck" 205 "EbbWreck$Coast" "sitters" "I" ∈ lw_g := mg (List.mem_of_getElem? (i := 295) (by decide +kernel)) rfl
theorem q303 : Cond.fieldLink "EbbWreck" 208 "EbbWreck$Coast" "acts" "LEbbWreck$Acts;" ∈ lw_g := mg (List.mem_of_getElem? (i := 303) (by decide +kernel)) rfl
theorem q218 : Cond.fieldLink "EbbWreck" 212 "EbbWreck$Acts" "size" "I" ∈ lw_g := mg (List.mem_of_getElem? (i := 218) (by decide +kernel)) rfl
theorem q238 : Cond.fieldLink "EbbWreck" 113 "EbbWreck$Coast" "lines" "I" ∈ lw_g := mg (List.mem_of_getElem? (i := 238) (by decide +kernel)) rfl
theorem q865 : Cond.code ⟨"EbbWreck$Slots", "filled", "()I"⟩ prog_10_method_4_code 3 (some .int) ∈ lw_g := mg (List.mem_of_getElem? (i := 865) (by decide +kernel)) rfl
theorem q863 : Cond.instanceMethod ⟨"EbbWreck$Slots", "filled", "()I"⟩ ∈ lw_g := mg (List.mem_of_getElem? (i := 863) (by decide +kernel)) rfl
theorem q864 : Cond.selects "EbbWreck$Slots" ⟨"EbbWreck$Slots", "filled", "()I"⟩ ⟨"EbbWreck$Slots", "filled", "()I"⟩ ∈ lw_g := mg (List.mem_of_getElem? (i := 864) (by decide +kernel)) rfl
theorem q862 : Cond.methodLink "EbbWreck" 215 ⟨"EbbWreck$Slots", "filled", "()I"⟩ ∈ lw_g := mg (List.mem_of_getElem? (i := 862) (by decide +kernel)) rfl
theorem q189 : Cond.fieldLink "EbbWreck$RuleBook" 9 "EbbWreck$RuleBook" "firstCells" "[I" ∈ lw_g := mg (List.mem_of_getElem? (i := 189) (by decide +kernel)) rfl
theorem q756 : Cond.methodLink "EbbWreck$RuleBook" 28 ⟨"java/lang/System", "arraycopy", "(Ljava/lang/Object;ILjava/lang/Object;II)V"⟩ ∈ lw_g := mg (List.mem_of_getElem? (i := 756) (by decide +kernel)) rfl
theorem q191 : Cond.fieldLink "EbbWreck$RuleBook" 15 "EbbWreck$RuleBook" "lastCells" "[I" ∈ lw_g := mg (List.mem_of_getElem? (i := 191) (by decide +kernel)) rfl
theorem q193 : Cond.fieldLink "EbbWreck$RuleBook" 18 "EbbWreck$RuleBook" "phaseBits" "[I" ∈ lw_g := mg (List.mem_of_getElem? (i := 193) (by decide +kernel)) rfl
theorem q195 : Cond.fieldLink "EbbWreck$RuleBook" 21 "EbbWreck$RuleBook" "parties" "[I" ∈ lw_g := mg (List.mem_of_getElem? (i := 195) (by decide +kernel)) rfl
theorem q215 : Cond.fieldLink "EbbWreck$Acts" 21 "EbbWreck$Acts" "size" "I" ∈ lw_g := mg (List.mem_of_getElem? (i := 215) (by decide +kernel)) rfl
theorem q219 : Cond.fieldLink "EbbWreck$Acts" 9 "EbbWreck$Acts" "ways" "[I" ∈ lw_g := mg (List.mem_of_getElem? (i := 219) (by decide +kernel)) rfl
theorem q761 : Cond.methodLink "EbbWreck$Acts" 25 ⟨"java/lang/System", "arraycopy", "(Ljava/lang/Object;ILjava/lang/Object;II)V"⟩ ∈ lw_g := mg (List.mem_of_getElem? (i := 761) (by decide +kernel)) rfl
theorem q222 : Cond.fieldLink "EbbWreck$Acts" 15 "EbbWreck$Acts" "whos" "[I" ∈ lw_g := mg (List.mem_of_getElem? (i := 222) (by decide +kernel)) rfl
theorem q224 : Cond.fieldLink "EbbWreck$Acts" 18 "EbbWreck$Acts" "marks" "[I" ∈ lw_g := mg (List.mem_of_getElem? (i := 224) (by decide +kernel)) rfl
theorem q155 : Cond.fieldLink "EbbWreck$Tide" 15 "EbbWreck$Tide" "flood" "I" ∈ lw_g := mg (List.mem_of_getElem? (i := 155) (by decide +kernel)) rfl
theorem q158 : Cond.fieldLink "EbbWreck$Tide" 19 "EbbWreck$Tide" "slack" "I" ∈ lw_g := mg (List.mem_of_getElem? (i := 158) (by decide +kernel)) rfl
theorem q161 : Cond.fieldLink "EbbWreck$Tide" 22 "EbbWreck$Tide" "ebb" "I" ∈ lw_g := mg (List.mem_of_getElem? (i := 161) (by decide +kernel)) rfl
theorem q165 : Cond.fieldLink "EbbWreck$Tide" 25 "EbbWreck$Tide" "round" "I" ∈ lw_g := mg (List.mem_of_getElem? (i := 165) (by decide +kernel)) rfl
theorem q166 : Cond.fieldLink "EbbWreck$Tide" 9 "EbbWreck$Tide" "phases" "[I" ∈ lw_g := mg (List.mem_of_getElem? (i := 166) (by decide +kernel)) rfl
theorem q477 : Cond.code ⟨"java/util/Arrays", "fill", "([II)V"⟩ prog_21_method_103_code 4 none ∈ lw_g := mg (List.mem_of_getElem? (i := 477) (by decide +kernel)) rfl
theorem q476 : Cond.static ⟨"java/util/Arrays", "fill", "([II)V"⟩ ∈ lw_g := mg (List.mem_of_getElem? (i := 476) (by decide +kernel)) rfl
theorem q125 : Cond.initialized "java/util/Arrays" ∈ lw_g := mg (List.mem_of_getElem? (i := 125) (by decide +kernel)) rfl
theorem q596 : Cond.methodLink "EbbWreck$Tide" 28 ⟨"java/util/Arrays", "fill", "([II)V"⟩ ∈ lw_g := mg (List.mem_of_getElem? (i := 596) (by decide +kernel)) rfl
theorem q247 : Cond.fieldLink "EbbWreck$Coast" 58 "EbbWreck$Coast" "odds" "I" ∈ lw_g := mg (List.mem_of_getElem? (i := 247) (by decide +kernel)) rfl
theorem q251 : Cond.fieldLink "EbbWreck$Coast" 12 "EbbWreck$Coast" "tide" "LEbbWreck$Tide;" ∈ lw_g := mg (List.mem_of_getElem? (i := 251) (by decide +kernel)) rfl
theorem q156 : Cond.fieldLink "EbbWreck$Coast" 84 "EbbWreck$Tide" "flood" "I" ∈ lw_g := mg (List.mem_of_getElem? (i := 156) (by decide +kernel)) rfl
theorem q159 : Cond.fieldLink "EbbWreck$Coast" 87 "EbbWreck$Tide" "slack" "I" ∈ lw_g := mg (List.mem_of_getElem? (i := 159) (by decide +kernel)) rfl
theorem q162 : Cond.fieldLink "EbbWreck$Coast" 90 "EbbWreck$Tide" "ebb" "I" ∈ lw_g := mg (List.mem_of_getElem? (i := 162) (by decide +kernel)) rfl
theorem q595 : Cond.code ⟨"EbbWreck$Tide", "tell", "(III)V"⟩ prog_12_method_2_code 5 none ∈ lw_g := mg (List.mem_of_getElem? (i := 595) (by decide +kernel)) rfl
theorem q593 : Cond.instanceMethod ⟨"EbbWreck$Tide", "tell", "(III)V"⟩ ∈ lw_g := mg (List.mem_of_getElem? (i := 593) (by decide +kernel)) rfl
theorem q594 : Cond.selects "EbbWreck$Tide" ⟨"EbbWreck$Tide", "tell", "(III)V"⟩ ⟨"EbbWreck$Tide", "tell", "(III)V"⟩ ∈ lw_g := mg (List.mem_of_getElem? (i := 594) (by decide +kernel)) rfl
theorem q116 : Cond.initialized "EbbWreck$Tide" ∈ lw_g := mg (List.mem_of_getElem? (i := 116) (by decide +kernel)) rfl
theorem q592 : Cond.methodLink "EbbWreck$Coast" 61 ⟨"EbbWreck$Tide", "tell", "(III)V"⟩ ∈ lw_g := mg (List.mem_of_getElem? (i := 592) (by decide +kernel)) rfl
theorem q257 : Cond.fieldLink "EbbWreck$Coast" 18 "EbbWreck$Coast" "floodSteps" "[I" ∈ lw_g := mg (List.mem_of_getElem? (i := 257) (by decide +kernel)) rfl
theorem q749 : Cond.methodLink "EbbWreck$Coast" 93 ⟨"java/lang/System", "arraycopy", "(Ljava/lang/Object;ILjava/lang/Object;II)V"⟩ ∈ lw_g := mg (List.mem_of_getElem? (i := 749) (by decide +kernel)) rfl
theorem q260 : Cond.fieldLink "EbbWreck$Coast" 22 "EbbWreck$Coast" "ebbSteps" "[I" ∈ lw_g := mg (List.mem_of_getElem? (i := 260) (by decide +kernel)) rfl
theorem q263 : Cond.fieldLink "EbbWreck$Coast" 71 "EbbWreck$Coast" "beachBits" "I" ∈ lw_g := mg (List.mem_of_getElem? (i := 263) (by decide +kernel)) rfl
theorem q274 : Cond.fieldLink "EbbWreck$Coast" 25 "EbbWreck$Coast" "worths" "[I" ∈ lw_g := mg (List.mem_of_getElem? (i := 274) (by decide +kernel)) rfl
theorem q279 : Cond.fieldLink "EbbWreck$Coast" 28 "EbbWreck$Coast" "startCells" "[I" ∈ lw_g := mg (List.mem_of_getElem? (i := 279) (by decide +kernel)) rfl
theorem q284 : Cond.fieldLink "EbbWreck$Coast" 31 "EbbWreck$Coast" "startHours" "[I" ∈ lw_g := mg (List.mem_of_getElem? (i := 284) (by decide +kernel)) rfl
theorem q289 : Cond.fieldLink "EbbWreck$Coast" 37 "EbbWreck$Coast" "rules" "LEbbWreck$RuleBook;" ∈ lw_g := mg (List.mem_of_getElem? (i := 289) (by decide +kernel)) rfl
theorem q755 : Cond.code ⟨"EbbWreck$RuleBook", "copyFrom", "(LEbbWreck$RuleBook;)V"⟩ prog_8_method_2_code 2 none ∈ lw_g := mg (List.mem_of_getElem? (i := 755) (by decide +kernel)) rfl
theorem q753 : Cond.instanceMethod ⟨"EbbWreck$RuleBook", "copyFrom", "(LEbbWreck$RuleBook;)V"⟩ ∈ lw_g := mg (List.mem_of_getElem? (i := 753) (by decide +kernel)) rfl
theorem q754 : Cond.selects "EbbWreck$RuleBook" ⟨"EbbWreck$RuleBook", "copyFrom", "(LEbbWreck$RuleBook;)V"⟩ ⟨"EbbWreck$RuleBook", "copyFrom", "(LEbbWreck$RuleBook;)V"⟩ ∈ lw_g := mg (List.mem_of_getElem? (i := 754) (by decide +kernel)) rfl
theorem q752 : Cond.methodLink "EbbWreck$Coast" 99 ⟨"EbbWreck$RuleBook", "copyFrom", "(LEbbWreck$RuleBook;)V"⟩ ∈ lw_g := mg (List.mem_of_getElem? (i := 752) (by decide +kernel)) rfl
theorem q297 : Cond.fieldLink "EbbWreck$Coast" 41 "EbbWreck$Coast" "seatCells" "[I" ∈ lw_g := mg (List.mem_of_getElem? (i := 297) (by decide +kernel)) rfl
theorem q301 : Cond.fieldLink "EbbWreck$Coast" 47 "EbbWreck$Coast" "acts" "LEbbWreck$Acts;" ∈ lw_g := mg (List.mem_of_getElem? (i := 301) (by decide +kernel)) rfl
theorem q760 : Cond.code ⟨"EbbWreck$Acts", "copyFrom", "(LEbbWreck$Acts;)V"⟩ prog_2_method_2_code 2 none ∈ lw_g := mg (List.mem_of_getElem? (i := 760) (by decide +kernel)) rfl
theorem q758 : Cond.instanceMethod ⟨"EbbWreck$Acts", "copyFrom", "(LEbbWreck$Acts;)V"⟩ ∈ lw_g := mg (List.mem_of_getElem? (i := 758) (by decide +kernel)) rfl
theorem q759 : Cond.selects "EbbWreck$Acts" ⟨"EbbWreck$Acts", "copyFrom", "(LEbbWreck$Acts;)V"⟩ ⟨"EbbWreck$Acts", "copyFrom", "(LEbbWreck$Acts;)V"⟩ ∈ lw_g := mg (List.mem_of_getElem? (i := 759) (by decide +kernel)) rfl
theorem q118 : Cond.initialized "EbbWreck$Acts" ∈ lw_g := mg (List.mem_of_getElem? (i := 118) (by decide +kernel)) rfl
theorem q757 : Cond.methodLink "EbbWreck$Coast" 103 ⟨"EbbWreck$Acts", "copyFrom", "(LEbbWreck$Acts;)V"⟩ ∈ lw_g := mg (List.mem_of_getElem? (i := 757) (by decide +kernel)) rfl
theorem q522 : Cond.fieldLink "EbbWreck" 33 "EbbWreck" "images" "[LEbbWreck$Coast;" ∈ lw_g := mg (List.mem_of_getElem? (i := 522) (by decide +kernel)) rfl
theorem q748 : Cond.code ⟨"EbbWreck$Coast", "copyFrom", "(LEbbWreck$Coast;)V"⟩ prog_3_method_3_code 2 none ∈ lw_g := mg (List.mem_of_getElem? (i := 748) (by decide +kernel)) rfl
theorem q746 : Cond.instanceMethod ⟨"EbbWreck$Coast", "copyFrom", "(LEbbWreck$Coast;)V"⟩ ∈ lw_g := mg (List.mem_of_getElem? (i := 746) (by decide +kernel)) rfl
theorem q747 : Cond.selects "EbbWreck$Coast" ⟨"EbbWreck$Coast", "copyFrom", "(LEbbWreck$Coast;)V"⟩ ⟨"EbbWreck$Coast", "copyFrom", "(LEbbWreck$Coast;)V"⟩ ∈ lw_g := mg (List.mem_of_getElem? (i := 747) (by decide +kernel)) rfl
theorem q745 : Cond.methodLink "EbbWreck" 107 ⟨"EbbWreck$Coast", "copyFrom", "(LEbbWreck$Coast;)V"⟩ ∈ lw_g := mg (List.mem_of_getElem? (i := 745) (by decide +kernel)) rfl
theorem q481 : Cond.fieldLink "EbbWreck$Slots" 16 "EbbWreck$Slots" "widths" "[I" ∈ lw_g := mg (List.mem_of_getElem? (i := 481) (by decide +kernel)) rfl
theorem q478 : Cond.fieldLink "EbbWreck$Slots" 11 "EbbWreck$Slots" "numbers" "[[J" ∈ lw_g := mg (List.mem_of_getElem? (i := 478) (by decide +kernel)) rfl
theorem q1440 : Cond.code ⟨"java/util/Arrays", "fill", "([JJ)V"⟩ prog_21_method_101_code 5 none ∈ lw_g := mg (List.mem_of_getElem? (i := 1440) (by decide +kernel)) rfl
theorem q1439 : Cond.static ⟨"java/util/Arrays", "fill", "([JJ)V"⟩ ∈ lw_g := mg (List.mem_of_getElem? (i := 1439) (by decide +kernel)) rfl
theorem q1438 : Cond.methodLink "EbbWreck$Slots" 33 ⟨"java/util/Arrays", "fill", "([JJ)V"⟩ ∈ lw_g := mg (List.mem_of_getElem? (i := 1438) (by decide +kernel)) rfl
theorem q1437 : Cond.code ⟨"EbbWreck$Slots", "lay", "(III)V"⟩ prog_10_method_5_code 4 none ∈ lw_g := mg (List.mem_of_getElem? (i := 1437) (by decide +kernel)) rfl
theorem q1435 : Cond.instanceMethod ⟨"EbbWreck$Slots", "lay", "(III)V"⟩ ∈ lw_g := mg (List.mem_of_getElem? (i := 1435) (by decide +kernel)) rfl
theorem q1436 : Cond.selects "EbbWreck$Slots" ⟨"EbbWreck$Slots", "lay", "(III)V"⟩ ⟨"EbbWreck$Slots", "lay", "(III)V"⟩ ∈ lw_g := mg (List.mem_of_getElem? (i := 1436) (by decide +kernel)) rfl
theorem q1434 : Cond.methodLink "EbbWreck" 392 ⟨"EbbWreck$Slots", "lay", "(III)V"⟩ ∈ lw_g := mg (List.mem_of_getElem? (i := 1434) (by decide +kernel)) rfl
theorem q597 : Cond.methodLink "EbbWreck$Coast" 65 ⟨"java/util/Arrays", "fill", "([II)V"⟩ ∈ lw_g := mg (List.mem_of_getElem? (i := 597) (by decide +kernel)) rfl
theorem q187 : Cond.fieldLink "EbbWreck$Coast" 77 "EbbWreck$RuleBook" "size" "I" ∈ lw_g := mg (List.mem_of_getElem? (i := 187) (by decide +kernel)) rfl
theorem q216 : Cond.fieldLink "EbbWreck$Coast" 83 "EbbWreck$Acts" "size" "I" ∈ lw_g := mg (List.mem_of_getElem? (i := 216) (by decide +kernel)) rfl
theorem q347 : Cond.fieldLink "EbbWreck$Reader" 32 "EbbWreck$Reader" "stop" "I" ∈ lw_g := mg (List.mem_of_getElem? (i := 347) (by decide +kernel)) rfl
theorem q346 : Cond.fieldLink "EbbWreck$Reader" 65 "EbbWreck$Reader" "start" "I" ∈ lw_g := mg (List.mem_of_getElem? (i := 346) (by decide +kernel)) rfl
theorem q344 : Cond.fieldLink "EbbWreck$Reader" 28 "EbbWreck$Reader" "length" "I" ∈ lw_g := mg (List.mem_of_getElem? (i := 344) (by decide +kernel)) rfl
theorem q348 : Cond.fieldLink "EbbWreck$Reader" 72 "EbbWreck$Reader" "value" "I" ∈ lw_g := mg (List.mem_of_getElem? (i := 348) (by decide +kernel)) rfl
theorem q345 : Cond.fieldLink "EbbWreck$Reader" 49 "EbbWreck$Reader" "kind" "I" ∈ lw_g := mg (List.mem_of_getElem? (i := 345) (by decide +kernel)) rfl
theorem q342 : Cond.fieldLink "EbbWreck$Reader" 9 "EbbWreck$Reader" "text" "[B" ∈ lw_g := mg (List.mem_of_getElem? (i := 342) (by decide +kernel)) rfl
theorem q582 : Cond.methodLink "EbbWreck$Reader" 19 ⟨"java/lang/Math", "min", "(II)I"⟩ ∈ lw_g := mg (List.mem_of_getElem? (i := 582) (by decide +kernel)) rfl
theorem q583 : Cond.static ⟨"java/lang/Math", "min", "(II)I"⟩ ∈ lw_g := mg (List.mem_of_getElem? (i := 583) (by decide +kernel)) rfl
theorem q128 : Cond.initialized "java/lang/Math" ∈ lw_g := mg (List.mem_of_getElem? (i := 128) (by decide +kernel)) rfl
theorem q584 : Cond.code ⟨"java/lang/Math", "min", "(II)I"⟩ prog_16_method_69_code 2 (some .int) ∈ lw_g := mg (List.mem_of_getElem? (i := 584) (by decide +kernel)) rfl
theorem q585 : Cond.methodLink "EbbWreck$Reader" 25 ⟨"java/lang/Math", "max", "(II)I"⟩ ∈ lw_g := mg (List.mem_of_getElem? (i := 585) (by decide +kernel)) rfl
theorem q586 : Cond.static ⟨"java/lang/Math", "max", "(II)I"⟩ ∈ lw_g := mg (List.mem_of_getElem? (i := 586) (by decide +kernel)) rfl
theorem q587 : Cond.code ⟨"java/lang/Math", "max", "(II)I"⟩ prog_16_method_65_code 2 (some .int) ∈ lw_g := mg (List.mem_of_getElem? (i := 587) (by decide +kernel)) rfl
theorem q349 : Cond.fieldLink "EbbWreck$Reader" 35 "EbbWreck$Reader" "faultKind" "I" ∈ lw_g := mg (List.mem_of_getElem? (i := 349) (by decide +kernel)) rfl
theorem q351 : Cond.fieldLink "EbbWreck$Reader" 38 "EbbWreck$Reader" "faultPlace" "I" ∈ lw_g := mg (List.mem_of_getElem? (i := 351) (by decide +kernel)) rfl
theorem q343 : Cond.fieldLink "EbbWreck$Reader" 15 "EbbWreck$Reader" "draft" "LEbbWreck$Coast;" ∈ lw_g := mg (List.mem_of_getElem? (i := 343) (by decide +kernel)) rfl
theorem q591 : Cond.code ⟨"EbbWreck$Coast", "clear", "()V"⟩ prog_3_method_2_code 1 none ∈ lw_g := mg (List.mem_of_getElem? (i := 591) (by decide +kernel)) rfl
theorem q589 : Cond.instanceMethod ⟨"EbbWreck$Coast", "clear", "()V"⟩ ∈ lw_g := mg (List.mem_of_getElem? (i := 589) (by decide +kernel)) rfl
theorem q590 : Cond.selects "EbbWreck$Coast" ⟨"EbbWreck$Coast", "clear", "()V"⟩ ⟨"EbbWreck$Coast", "clear", "()V"⟩ ∈ lw_g := mg (List.mem_of_getElem? (i := 590) (by decide +kernel)) rfl
theorem q588 : Cond.methodLink "EbbWreck$Reader" 41 ⟨"EbbWreck$Coast", "clear", "()V"⟩ ∈ lw_g := mg (List.mem_of_getElem? (i := 588) (by decide +kernel)) rfl
theorem q601 : Cond.code ⟨"EbbWreck$Reader", "advance", "()V"⟩ prog_7_method_5_code 1 none ∈ lw_g := mg (List.mem_of_getElem? (i := 601) (by decide +kernel)) rfl
theorem q600 : Cond.instanceMethod ⟨"EbbWreck$Reader", "advance", "()V"⟩ ∈ lw_g := mg (List.mem_of_getElem? (i := 600) (by decide +kernel)) rfl
theorem q1 : Cond.selects "EbbWreck$Reader" ⟨"EbbWreck$Reader", "advance", "()V"⟩ ⟨"EbbWreck$Reader", "advance", "()V"⟩ ∈ lw_g := mg (List.mem_of_getElem? (i := 1) (by decide +kernel)) rfl
theorem q119 : Cond.initialized "EbbWreck$Reader" ∈ lw_g := mg (List.mem_of_getElem? (i := 119) (by decide +kernel)) rfl
theorem q598 : Cond.methodLink "EbbWreck$Reader" 46 ⟨"EbbWreck$Reader", "advance", "()V"⟩ ∈ lw_g := mg (List.mem_of_getElem? (i := 598) (by decide +kernel)) rfl
theorem q379 : Cond.fieldLink "EbbWreck$Drift" 31 "EbbWreck$Drift" "coast" "LEbbWreck$Coast;" ∈ lw_g := mg (List.mem_of_getElem? (i := 379) (by decide +kernel)) rfl
theorem q268 : Cond.fieldLink "EbbWreck$Drift" 35 "EbbWreck$Coast" "things" "I" ∈ lw_g := mg (List.mem_of_getElem? (i := 268) (by decide +kernel)) rfl
theorem q524 : Cond.fieldLink "EbbWreck" 46 "EbbWreck" "reader" "LEbbWreck$Reader;" ∈ lw_g := mg (List.mem_of_getElem? (i := 524) (by decide +kernel)) rfl
theorem q581 : Cond.code ⟨"EbbWreck$Reader", "read", "(I)V"⟩ prog_7_method_2_code 3 none ∈ lw_g := mg (List.mem_of_getElem? (i := 581) (by decide +kernel)) rfl
theorem q579 : Cond.instanceMethod ⟨"EbbWreck$Reader", "read", "(I)V"⟩ ∈ lw_g := mg (List.mem_of_getElem? (i := 579) (by decide +kernel)) rfl
theorem q580 : Cond.selects "EbbWreck$Reader" ⟨"EbbWreck$Reader", "read", "(I)V"⟩ ⟨"EbbWreck$Reader", "read", "(I)V"⟩ ∈ lw_g := mg (List.mem_of_getElem? (i := 580) (by decide +kernel)) rfl
theorem q578 : Cond.methodLink "EbbWreck" 102 ⟨"EbbWreck$Reader", "read", "(I)V"⟩ ∈ lw_g := mg (List.mem_of_getElem? (i := 578) (by decide +kernel)) rfl
theorem q350 : Cond.fieldLink "EbbWreck" 105 "EbbWreck$Reader" "faultKind" "I" ∈ lw_g := mg (List.mem_of_getElem? (i := 350) (by decide +kernel)) rfl
theorem q352 : Cond.fieldLink "EbbWreck" 106 "EbbWreck$Reader" "faultPlace" "I" ∈ lw_g := mg (List.mem_of_getElem? (i := 352) (by decide +kernel)) rfl
theorem q521 : Cond.fieldLink "EbbWreck" 30 "EbbWreck" "draft" "LEbbWreck$Coast;" ∈ lw_g := mg (List.mem_of_getElem? (i := 521) (by decide +kernel)) rfl
theorem q525 : Cond.fieldLink "EbbWreck" 55 "EbbWreck" "drift" "LEbbWreck$Drift;" ∈ lw_g := mg (List.mem_of_getElem? (i := 525) (by decide +kernel)) rfl
theorem q765 : Cond.code ⟨"EbbWreck$Drift", "settleAll", "()V"⟩ prog_4_method_2_code 2 none ∈ lw_g := mg (List.mem_of_getElem? (i := 765) (by decide +kernel)) rfl
theorem q763 : Cond.instanceMethod ⟨"EbbWreck$Drift", "settleAll", "()V"⟩ ∈ lw_g := mg (List.mem_of_getElem? (i := 763) (by decide +kernel)) rfl
theorem q764 : Cond.selects "EbbWreck$Drift" ⟨"EbbWreck$Drift", "settleAll", "()V"⟩ ⟨"EbbWreck$Drift", "settleAll", "()V"⟩ ∈ lw_g := mg (List.mem_of_getElem? (i := 764) (by decide +kernel)) rfl
theorem q120 : Cond.initialized "EbbWreck$Drift" ∈ lw_g := mg (List.mem_of_getElem? (i := 120) (by decide +kernel)) rfl
theorem q762 : Cond.methodLink "EbbWreck" 110 ⟨"EbbWreck$Drift", "settleAll", "()V"⟩ ∈ lw_g := mg (List.mem_of_getElem? (i := 762) (by decide +kernel)) rfl
theorem mX11_putNumber : CmV "EbbWreck" yX11_putNumber cX11_putNumber 3 none 1 := ⟨q568, q0, q114, q569, ⟨rfl, by decide, by decide, by decide +kernel⟩⟩
theorem mJ6_bitCount_0f7a4 : CmS yJ6_bitCount_0f7a4 cJ6_bitCount_0f7a4 1 (some .int) 1 := ⟨q857, q134, q858, ⟨by decide, by decide, by decide +kernel⟩⟩
theorem mX8_filled : CmV "EbbWreck$Slots" yX8_filled cX8_filled 3 (some .int) 0 := ⟨q863, q864, q124, q865, ⟨rfl, by decide, by decide, by decide +kernel⟩⟩
theorem mJ7_fill_53178 : CmS yJ7_fill_53178 cJ7_fill_53178 4 none 2 := ⟨q476, q125, q477, ⟨by decide, by decide, by decide +kernel⟩⟩
theorem mX10_tell : CmV "EbbWreck$Tide" yX10_tell cX10_tell 5 none 3 := ⟨q593, q594, q116, q595, ⟨rfl, by decide, by decide, by decide +kernel⟩⟩
theorem mX6_copyFrom : CmV "EbbWreck$RuleBook" yX6_copyFrom cX6_copyFrom 2 none 1 := ⟨q753, q754, q117, q755, ⟨rfl, by decide, by decide, by decide +kernel⟩⟩
theorem mX0_copyFrom : CmV "EbbWreck$Acts" yX0_copyFrom cX0_copyFrom 2 none 1 := ⟨q758, q759, q118, q760, ⟨rfl, by decide, by decide, by decide +kernel⟩⟩
theorem mX1_copyFrom : CmV "EbbWreck$Coast" yX1_copyFrom cX1_copyFrom 2 none 1 := ⟨q746, q747, q115, q748, ⟨rfl, by decide, by decide, by decide +kernel⟩⟩
theorem mJ7_fill_d0a16 : CmS yJ7_fill_d0a16 cJ7_fill_d0a16 5 none 2 := ⟨q1439, q125, q1440, ⟨by decide, by decide, by decide +kernel⟩⟩
theorem mX8_lay : CmV "EbbWreck$Slots" yX8_lay cX8_lay 4 none 3 := ⟨q1435, q1436, q124, q1437, ⟨rfl, by decide, by decide, by decide +kernel⟩⟩
theorem mX1_clear : CmV "EbbWreck$Coast" yX1_clear cX1_clear 1 none 0 := ⟨q589, q590, q115, q591, ⟨rfl, by decide, by decide, by decide +kernel⟩⟩
theorem mX5_advance : CmV "EbbWreck$Reader" yX5_advance cX5_advance 1 none 0 := ⟨q600, q1, q119, q601, ⟨rfl, by decide, by decide, by decide +kernel⟩⟩
theorem mX5_read : CmV "EbbWreck$Reader" yX5_read cX5_read 3 none 1 := ⟨q579, q580, q119, q581, ⟨rfl, by decide, by decide, by decide +kernel⟩⟩
theorem mX2_settleAll : CmV "EbbWreck$Drift" yX2_settleAll cX2_settleAll 2 none 0 := ⟨q763, q764, q120, q765, ⟨rfl, by decide, by decide, by decide +kernel⟩⟩
