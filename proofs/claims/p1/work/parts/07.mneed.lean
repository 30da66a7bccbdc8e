theorem dX12_in_0 : decode cX12_in 0 = .ok (.lload_n 0, 1) := by decide +kernel
theorem dX12_in_1 : decode cX12_in 1 = .ok (.lload_n 2, 1) := by decide +kernel
theorem dX12_in_2 : decode cX12_in 2 = .ok (.lcmp, 1) := by decide +kernel
theorem dX12_in_3 : decode cX12_in 3 = .ok (.ifCond .lt 14, 3) := by decide +kernel
theorem dX12_in_17 : decode cX12_in 17 = .ok (.iconst 0, 1) := by decide +kernel
theorem dX12_in_18 : decode cX12_in 18 = .ok (.ireturn, 1) := by decide +kernel
theorem dX12_in_6 : decode cX12_in 6 = .ok (.lload_n 0, 1) := by decide +kernel
theorem dX12_in_7 : decode cX12_in 7 = .ok (.lload 4, 2) := by decide +kernel
theorem dX12_in_9 : decode cX12_in 9 = .ok (.lcmp, 1) := by decide +kernel
theorem dX12_in_10 : decode cX12_in 10 = .ok (.ifCond .gt 7, 3) := by decide +kernel
theorem dX12_in_13 : decode cX12_in 13 = .ok (.iconst 1, 1) := by decide +kernel
theorem dX12_in_14 : decode cX12_in 14 = .ok (.goto 4, 3) := by decide +kernel
theorem dX12_isShore_0 : decode cX12_isShore 0 = .ok (.aload_n 0, 1) := by decide +kernel
theorem dX12_isShore_1 : decode cX12_isShore 1 = .ok (.getfield 31, 3) := by decide +kernel
theorem dX12_isShore_4 : decode cX12_isShore 4 = .ok (.iconst 0, 1) := by decide +kernel
theorem dX12_isShore_5 : decode cX12_isShore 5 = .ok (.iaload, 1) := by decide +kernel
theorem dX12_isShore_6 : decode cX12_isShore 6 = .ok (.ifCond .le 7, 3) := by decide +kernel
theorem dX12_isShore_13 : decode cX12_isShore 13 = .ok (.iconst 0, 1) := by decide +kernel
theorem dX12_isShore_14 : decode cX12_isShore 14 = .ok (.ireturn, 1) := by decide +kernel
theorem dX12_isCell_0 : decode cX12_isCell 0 = .ok (.lload_n 1, 1) := by decide +kernel
theorem dX12_isCell_1 : decode cX12_isCell 1 = .ok (.lconst 0, 1) := by decide +kernel
theorem dX12_isCell_2 : decode cX12_isCell 2 = .ok (.aload_n 0, 1) := by decide +kernel
theorem dX12_isCell_3 : decode cX12_isCell 3 = .ok (.getfield 34, 3) := by decide +kernel
theorem dX12_isCell_6 : decode cX12_isCell 6 = .ok (.iconst 0, 1) := by decide +kernel
theorem dX12_isCell_7 : decode cX12_isCell 7 = .ok (.iaload, 1) := by decide +kernel
theorem dX12_isCell_8 : decode cX12_isCell 8 = .ok (.i2l, 1) := by decide +kernel
theorem dX12_isCell_9 : decode cX12_isCell 9 = .ok (.lconst 1, 1) := by decide +kernel
theorem dX12_isCell_10 : decode cX12_isCell 10 = .ok (.lsub, 1) := by decide +kernel
theorem dX12_isCell_11 : decode cX12_isCell 11 = .ok (.invokestatic 79, 3) := by decide +kernel
theorem dX12_isCell_14 : decode cX12_isCell 14 = .ok (.ireturn, 1) := by decide +kernel
theorem dX12_isThing_0 : decode cX12_isThing 0 = .ok (.iload_n 1, 1) := by decide +kernel
theorem dX12_isThing_1 : decode cX12_isThing 1 = .ok (.i2l, 1) := by decide +kernel
theorem dX12_isThing_2 : decode cX12_isThing 2 = .ok (.lconst 0, 1) := by decide +kernel
theorem dX12_isThing_3 : decode cX12_isThing 3 = .ok (.aload_n 0, 1) := by decide +kernel
theorem dX12_isThing_4 : decode cX12_isThing 4 = .ok (.getfield 34, 3) := by decide +kernel
theorem dX12_isThing_7 : decode cX12_isThing 7 = .ok (.bipush 6, 2) := by decide +kernel
theorem dX12_isThing_9 : decode cX12_isThing 9 = .ok (.iaload, 1) := by decide +kernel
theorem dX12_isThing_10 : decode cX12_isThing 10 = .ok (.iconst 1, 1) := by decide +kernel
theorem dX12_isThing_11 : decode cX12_isThing 11 = .ok (.isub, 1) := by decide +kernel
theorem dX12_isThing_12 : decode cX12_isThing 12 = .ok (.i2l, 1) := by decide +kernel
theorem dX12_isThing_13 : decode cX12_isThing 13 = .ok (.invokestatic 79, 3) := by decide +kernel
theorem dX12_isThing_16 : decode cX12_isThing 16 = .ok (.ireturn, 1) := by decide +kernel
theorem dX12_isRule_0 : decode cX12_isRule 0 = .ok (.iload_n 1, 1) := by decide +kernel
theorem dX12_isRule_1 : decode cX12_isRule 1 = .ok (.i2l, 1) := by decide +kernel
theorem dX12_isRule_2 : decode cX12_isRule 2 = .ok (.lconst 0, 1) := by decide +kernel
theorem dX12_isRule_3 : decode cX12_isRule 3 = .ok (.aload_n 0, 1) := by decide +kernel
theorem dX12_isRule_4 : decode cX12_isRule 4 = .ok (.getfield 34, 3) := by decide +kernel
theorem dX12_isRule_7 : decode cX12_isRule 7 = .ok (.bipush 7, 2) := by decide +kernel
theorem dX12_isRule_9 : decode cX12_isRule 9 = .ok (.iaload, 1) := by decide +kernel
theorem dX12_isRule_10 : decode cX12_isRule 10 = .ok (.iconst 1, 1) := by decide +kernel
theorem dX12_isRule_11 : decode cX12_isRule 11 = .ok (.isub, 1) := by decide +kernel
theorem dX12_isRule_12 : decode cX12_isRule 12 = .ok (.i2l, 1) := by decide +kernel
theorem dX12_isRule_13 : decode cX12_isRule 13 = .ok (.invokestatic 79, 3) := by decide +kernel
theorem dX12_isRule_16 : decode cX12_isRule 16 = .ok (.ireturn, 1) := by decide +kernel
theorem dX12_isSitter_0 : decode cX12_isSitter 0 = .ok (.iload_n 1, 1) := by decide +kernel
theorem dX12_isSitter_1 : decode cX12_isSitter 1 = .ok (.i2l, 1) := by decide +kernel
theorem dX12_isSitter_2 : decode cX12_isSitter 2 = .ok (.lconst 0, 1) := by decide +kernel
theorem dX12_isSitter_3 : decode cX12_isSitter 3 = .ok (.aload_n 0, 1) := by decide +kernel
theorem dX12_isSitter_4 : decode cX12_isSitter 4 = .ok (.getfield 34, 3) := by decide +kernel
theorem dX12_isSitter_7 : decode cX12_isSitter 7 = .ok (.bipush 8, 2) := by decide +kernel
theorem dX12_isSitter_9 : decode cX12_isSitter 9 = .ok (.iaload, 1) := by decide +kernel
theorem dX12_isSitter_10 : decode cX12_isSitter 10 = .ok (.iconst 1, 1) := by decide +kernel
theorem dX12_isSitter_11 : decode cX12_isSitter 11 = .ok (.isub, 1) := by decide +kernel
theorem dX12_isSitter_12 : decode cX12_isSitter 12 = .ok (.i2l, 1) := by decide +kernel
theorem dX12_isSitter_13 : decode cX12_isSitter 13 = .ok (.invokestatic 79, 3) := by decide +kernel
theorem dX12_isSitter_16 : decode cX12_isSitter 16 = .ok (.ireturn, 1) := by decide +kernel
theorem dX12_isParty_0 : decode cX12_isParty 0 = .ok (.aload_n 0, 1) := by decide +kernel
theorem dX12_isParty_1 : decode cX12_isParty 1 = .ok (.invokevirtual 250, 3) := by decide +kernel
theorem dX12_isParty_4 : decode cX12_isParty 4 = .ok (.ifCond .eq 19, 3) := by decide +kernel
theorem dX12_isParty_23 : decode cX12_isParty 23 = .ok (.iconst 0, 1) := by decide +kernel
theorem dX12_isParty_24 : decode cX12_isParty 24 = .ok (.ireturn, 1) := by decide +kernel
theorem dX12_isPush_0 : decode cX12_isPush 0 = .ok (.aload_n 0, 1) := by decide +kernel
theorem dX12_isPush_1 : decode cX12_isPush 1 = .ok (.iload_n 1, 1) := by decide +kernel
theorem dX12_isPush_2 : decode cX12_isPush 2 = .ok (.invokevirtual 276, 3) := by decide +kernel
theorem dX12_isPush_5 : decode cX12_isPush 5 = .ok (.ifCond .eq 15, 3) := by decide +kernel
theorem dX12_isPush_20 : decode cX12_isPush 20 = .ok (.iconst 0, 1) := by decide +kernel
theorem dX12_isPush_21 : decode cX12_isPush 21 = .ok (.ireturn, 1) := by decide +kernel
theorem dX12_isDraw_0 : decode cX12_isDraw 0 = .ok (.iload_n 1, 1) := by decide +kernel
theorem dX12_isDraw_1 : decode cX12_isDraw 1 = .ok (.i2l, 1) := by decide +kernel
theorem dX12_isDraw_2 : decode cX12_isDraw 2 = .ok (.lconst 0, 1) := by decide +kernel
theorem dX12_isDraw_3 : decode cX12_isDraw 3 = .ok (.ldc2_w 282, 3) := by decide +kernel
theorem dX12_isDraw_6 : decode cX12_isDraw 6 = .ok (.invokestatic 79, 3) := by decide +kernel
theorem dX12_isDraw_9 : decode cX12_isDraw 9 = .ok (.ifCond .eq 15, 3) := by decide +kernel
theorem dX12_isDraw_12 : decode cX12_isDraw 12 = .ok (.aload_n 0, 1) := by decide +kernel
theorem dX12_isDraw_13 : decode cX12_isDraw 13 = .ok (.iload_n 2, 1) := by decide +kernel
theorem dX12_isDraw_14 : decode cX12_isDraw 14 = .ok (.invokevirtual 276, 3) := by decide +kernel
theorem dX12_isDraw_17 : decode cX12_isDraw 17 = .ok (.ifCond .eq 7, 3) := by decide +kernel
theorem dX12_isDraw_24 : decode cX12_isDraw 24 = .ok (.iconst 0, 1) := by decide +kernel
theorem dX12_isDraw_25 : decode cX12_isDraw 25 = .ok (.ireturn, 1) := by decide +kernel
theorem dX12_cell_0 : decode cX12_cell 0 = .ok (.aload_n 0, 1) := by decide +kernel
theorem dX12_cell_1 : decode cX12_cell 1 = .ok (.iconst 0, 1) := by decide +kernel
theorem dX12_cell_2 : decode cX12_cell 2 = .ok (.putfield 74, 3) := by decide +kernel
theorem dX12_cell_5 : decode cX12_cell 5 = .ok (.aload_n 0, 1) := by decide +kernel
theorem dX12_cell_6 : decode cX12_cell 6 = .ok (.iload_n 1, 1) := by decide +kernel
theorem dX12_cell_7 : decode cX12_cell 7 = .ok (.i2l, 1) := by decide +kernel
theorem dX12_cell_8 : decode cX12_cell 8 = .ok (.invokevirtual 268, 3) := by decide +kernel
theorem dX12_cell_11 : decode cX12_cell 11 = .ok (.ifCond .eq 15, 3) := by decide +kernel
theorem dX12_cell_26 : decode cX12_cell 26 = .ok (.sipush (-1000), 3) := by decide +kernel
theorem dX12_cell_29 : decode cX12_cell 29 = .ok (.ireturn, 1) := by decide +kernel
theorem dX12_thing_0 : decode cX12_thing 0 = .ok (.aload_n 0, 1) := by decide +kernel
theorem dX12_thing_1 : decode cX12_thing 1 = .ok (.iconst 0, 1) := by decide +kernel
theorem dX12_thing_2 : decode cX12_thing 2 = .ok (.putfield 74, 3) := by decide +kernel
theorem dX12_thing_5 : decode cX12_thing 5 = .ok (.aload_n 0, 1) := by decide +kernel
theorem dX12_thing_6 : decode cX12_thing 6 = .ok (.iload_n 1, 1) := by decide +kernel
theorem dX12_thing_7 : decode cX12_thing 7 = .ok (.invokevirtual 276, 3) := by decide +kernel
theorem dX12_thing_10 : decode cX12_thing 10 = .ok (.ifCond .eq 28, 3) := by decide +kernel
theorem dX12_thing_38 : decode cX12_thing 38 = .ok (.bipush (-2), 2) := by decide +kernel
theorem dX12_thing_40 : decode cX12_thing 40 = .ok (.ireturn, 1) := by decide +kernel
theorem dX12_rule_0 : decode cX12_rule 0 = .ok (.aload_n 0, 1) := by decide +kernel
theorem dX12_rule_1 : decode cX12_rule 1 = .ok (.iconst 0, 1) := by decide +kernel
theorem dX12_rule_2 : decode cX12_rule 2 = .ok (.putfield 74, 3) := by decide +kernel
theorem dX12_rule_5 : decode cX12_rule 5 = .ok (.aload_n 0, 1) := by decide +kernel
theorem dX12_rule_6 : decode cX12_rule 6 = .ok (.iload_n 1, 1) := by decide +kernel
theorem dX12_rule_7 : decode cX12_rule 7 = .ok (.invokevirtual 279, 3) := by decide +kernel
theorem dX12_rule_10 : decode cX12_rule 10 = .ok (.ifCond .eq 28, 3) := by decide +kernel
theorem dX12_rule_38 : decode cX12_rule 38 = .ok (.bipush (-2), 2) := by decide +kernel
theorem dX12_rule_40 : decode cX12_rule 40 = .ok (.ireturn, 1) := by decide +kernel
theorem dX12_sitter_0 : decode cX12_sitter 0 = .ok (.aload_n 0, 1) := by decide +kernel
theorem dX12_sitter_1 : decode cX12_sitter 1 = .ok (.iconst 0, 1) := by decide +kernel
theorem dX12_sitter_2 : decode cX12_sitter 2 = .ok (.putfield 74, 3) := by decide +kernel
theorem dX12_sitter_5 : decode cX12_sitter 5 = .ok (.aload_n 0, 1) := by decide +kernel
theorem dX12_sitter_6 : decode cX12_sitter 6 = .ok (.iload_n 1, 1) := by decide +kernel
theorem dX12_sitter_7 : decode cX12_sitter 7 = .ok (.invokevirtual 319, 3) := by decide +kernel
theorem dX12_sitter_10 : decode cX12_sitter 10 = .ok (.ifCond .ne 6, 3) := by decide +kernel
theorem dX12_sitter_13 : decode cX12_sitter 13 = .ok (.bipush (-2), 2) := by decide +kernel
theorem dX12_sitter_15 : decode cX12_sitter 15 = .ok (.ireturn, 1) := by decide +kernel
theorem dX12_phase_0 : decode cX12_phase 0 = .ok (.aload_n 0, 1) := by decide +kernel
theorem dX12_phase_1 : decode cX12_phase 1 = .ok (.iconst 0, 1) := by decide +kernel
theorem dX12_phase_2 : decode cX12_phase 2 = .ok (.putfield 74, 3) := by decide +kernel
theorem dX12_phase_5 : decode cX12_phase 5 = .ok (.aload_n 0, 1) := by decide +kernel
theorem dX12_phase_6 : decode cX12_phase 6 = .ok (.invokevirtual 250, 3) := by decide +kernel
theorem dX12_phase_9 : decode cX12_phase 9 = .ok (.ifCond .eq 23, 3) := by decide +kernel
theorem dX12_phase_32 : decode cX12_phase 32 = .ok (.bipush (-2), 2) := by decide +kernel
theorem dX12_phase_34 : decode cX12_phase 34 = .ok (.ireturn, 1) := by decide +kernel
theorem dX12_next__0 : decode cX12_next_ 0 = .ok (.aload_n 0, 1) := by decide +kernel
theorem dX12_next__1 : decode cX12_next_ 1 = .ok (.iconst 0, 1) := by decide +kernel
theorem dX12_next__2 : decode cX12_next_ 2 = .ok (.putfield 74, 3) := by decide +kernel
theorem dX12_next__5 : decode cX12_next_ 5 = .ok (.aload_n 0, 1) := by decide +kernel
theorem dX12_next__6 : decode cX12_next_ 6 = .ok (.invokevirtual 250, 3) := by decide +kernel
theorem dX12_next__9 : decode cX12_next_ 9 = .ok (.ifCond .eq 27, 3) := by decide +kernel
theorem dX12_next__36 : decode cX12_next_ 36 = .ok (.bipush (-2), 2) := by decide +kernel
theorem dX12_next__38 : decode cX12_next_ 38 = .ok (.ireturn, 1) := by decide +kernel
theorem dX12_lasts_0 : decode cX12_lasts 0 = .ok (.aload_n 0, 1) := by decide +kernel
theorem dX12_lasts_1 : decode cX12_lasts 1 = .ok (.iconst 0, 1) := by decide +kernel
theorem dX12_lasts_2 : decode cX12_lasts 2 = .ok (.putfield 74, 3) := by decide +kernel
theorem dX12_lasts_5 : decode cX12_lasts 5 = .ok (.aload_n 0, 1) := by decide +kernel
theorem dX12_lasts_6 : decode cX12_lasts 6 = .ok (.invokevirtual 250, 3) := by decide +kernel
theorem dX12_lasts_9 : decode cX12_lasts 9 = .ok (.ifCond .eq 15, 3) := by decide +kernel
theorem dX12_lasts_24 : decode cX12_lasts 24 = .ok (.bipush (-2), 2) := by decide +kernel
theorem dX12_lasts_26 : decode cX12_lasts 26 = .ok (.ireturn, 1) := by decide +kernel
theorem dX12_slacks_0 : decode cX12_slacks 0 = .ok (.aload_n 0, 1) := by decide +kernel
theorem dX12_slacks_1 : decode cX12_slacks 1 = .ok (.iconst 0, 1) := by decide +kernel
theorem dX12_slacks_2 : decode cX12_slacks 2 = .ok (.putfield 74, 3) := by decide +kernel
theorem dX12_slacks_5 : decode cX12_slacks 5 = .ok (.aload_n 0, 1) := by decide +kernel
theorem dX12_slacks_6 : decode cX12_slacks 6 = .ok (.invokevirtual 250, 3) := by decide +kernel
theorem dX12_slacks_9 : decode cX12_slacks 9 = .ok (.ifCond .eq 15, 3) := by decide +kernel
theorem dX12_slacks_24 : decode cX12_slacks 24 = .ok (.bipush (-2), 2) := by decide +kernel
theorem dX12_slacks_26 : decode cX12_slacks 26 = .ok (.ireturn, 1) := by decide +kernel
theorem dX12_drifts_0 : decode cX12_drifts 0 = .ok (.aload_n 0, 1) := by decide +kernel
theorem dX12_drifts_1 : decode cX12_drifts 1 = .ok (.iconst 0, 1) := by decide +kernel
theorem dX12_drifts_2 : decode cX12_drifts 2 = .ok (.putfield 74, 3) := by decide +kernel
theorem dX12_drifts_5 : decode cX12_drifts 5 = .ok (.aload_n 0, 1) := by decide +kernel
theorem dX12_drifts_6 : decode cX12_drifts 6 = .ok (.iload_n 1, 1) := by decide +kernel
theorem dX12_drifts_7 : decode cX12_drifts 7 = .ok (.i2l, 1) := by decide +kernel
theorem dX12_drifts_8 : decode cX12_drifts 8 = .ok (.invokevirtual 268, 3) := by decide +kernel
theorem dX12_drifts_11 : decode cX12_drifts 11 = .ok (.ifCond .eq 24, 3) := by decide +kernel
theorem dX12_drifts_35 : decode cX12_drifts 35 = .ok (.bipush (-2), 2) := by decide +kernel
theorem dX12_drifts_37 : decode cX12_drifts 37 = .ok (.ireturn, 1) := by decide +kernel
theorem dX12_at_0 : decode cX12_at 0 = .ok (.aload_n 0, 1) := by decide +kernel
theorem dX12_at_1 : decode cX12_at 1 = .ok (.iconst 0, 1) := by decide +kernel
theorem dX12_at_2 : decode cX12_at 2 = .ok (.putfield 74, 3) := by decide +kernel
theorem dX12_at_5 : decode cX12_at 5 = .ok (.aload_n 0, 1) := by decide +kernel
theorem dX12_at_6 : decode cX12_at 6 = .ok (.iload_n 1, 1) := by decide +kernel
theorem dX12_at_7 : decode cX12_at 7 = .ok (.invokevirtual 276, 3) := by decide +kernel
theorem dX12_at_10 : decode cX12_at 10 = .ok (.ifCond .eq 15, 3) := by decide +kernel
theorem dX12_at_25 : decode cX12_at 25 = .ok (.bipush (-2), 2) := by decide +kernel
theorem dX12_at_27 : decode cX12_at 27 = .ok (.ireturn, 1) := by decide +kernel
theorem dX12_comes_0 : decode cX12_comes 0 = .ok (.aload_n 0, 1) := by decide +kernel
theorem dX12_comes_1 : decode cX12_comes 1 = .ok (.iconst 0, 1) := by decide +kernel
theorem dX12_comes_2 : decode cX12_comes 2 = .ok (.putfield 74, 3) := by decide +kernel
theorem dX12_comes_5 : decode cX12_comes 5 = .ok (.aload_n 0, 1) := by decide +kernel
theorem dX12_comes_6 : decode cX12_comes 6 = .ok (.iload_n 1, 1) := by decide +kernel
theorem dX12_comes_7 : decode cX12_comes 7 = .ok (.invokevirtual 276, 3) := by decide +kernel
theorem dX12_comes_10 : decode cX12_comes 10 = .ok (.ifCond .ne 6, 3) := by decide +kernel
theorem dX12_comes_13 : decode cX12_comes 13 = .ok (.bipush (-2), 2) := by decide +kernel
theorem dX12_comes_15 : decode cX12_comes 15 = .ok (.ireturn, 1) := by decide +kernel
theorem dX12_beach_0 : decode cX12_beach 0 = .ok (.aload_n 0, 1) := by decide +kernel
theorem dX12_beach_1 : decode cX12_beach 1 = .ok (.iconst 0, 1) := by decide +kernel
theorem dX12_beach_2 : decode cX12_beach 2 = .ok (.putfield 74, 3) := by decide +kernel
theorem dX12_beach_5 : decode cX12_beach 5 = .ok (.aload_n 0, 1) := by decide +kernel
theorem dX12_beach_6 : decode cX12_beach 6 = .ok (.iload_n 1, 1) := by decide +kernel
theorem dX12_beach_7 : decode cX12_beach 7 = .ok (.invokevirtual 276, 3) := by decide +kernel
theorem dX12_beach_10 : decode cX12_beach 10 = .ok (.ifCond .ne 6, 3) := by decide +kernel
theorem dX12_beach_13 : decode cX12_beach 13 = .ok (.bipush (-2), 2) := by decide +kernel
theorem dX12_beach_15 : decode cX12_beach 15 = .ok (.ireturn, 1) := by decide +kernel
theorem dX12_whose_0 : decode cX12_whose 0 = .ok (.aload_n 0, 1) := by decide +kernel
theorem dX12_whose_1 : decode cX12_whose 1 = .ok (.iconst 0, 1) := by decide +kernel
theorem dX12_whose_2 : decode cX12_whose 2 = .ok (.putfield 74, 3) := by decide +kernel
theorem dX12_whose_5 : decode cX12_whose 5 = .ok (.aload_n 0, 1) := by decide +kernel
theorem dX12_whose_6 : decode cX12_whose 6 = .ok (.iload_n 1, 1) := by decide +kernel
theorem dX12_whose_7 : decode cX12_whose 7 = .ok (.invokevirtual 276, 3) := by decide +kernel
theorem dX12_whose_10 : decode cX12_whose 10 = .ok (.ifCond .ne 6, 3) := by decide +kernel
theorem dX12_whose_13 : decode cX12_whose 13 = .ok (.bipush (-2), 2) := by decide +kernel
theorem dX12_whose_15 : decode cX12_whose 15 = .ok (.ireturn, 1) := by decide +kernel
theorem dX12_has_0 : decode cX12_has 0 = .ok (.aload_n 0, 1) := by decide +kernel
theorem dX12_has_1 : decode cX12_has 1 = .ok (.iconst 0, 1) := by decide +kernel
theorem dX12_has_2 : decode cX12_has 2 = .ok (.putfield 74, 3) := by decide +kernel
theorem dX12_has_5 : decode cX12_has 5 = .ok (.aload_n 0, 1) := by decide +kernel
theorem dX12_has_6 : decode cX12_has 6 = .ok (.iload_n 1, 1) := by decide +kernel
theorem dX12_has_7 : decode cX12_has 7 = .ok (.invokevirtual 336, 3) := by decide +kernel
theorem dX12_has_10 : decode cX12_has 10 = .ok (.ifCond .ne 6, 3) := by decide +kernel
theorem dX12_has_13 : decode cX12_has 13 = .ok (.bipush (-2), 2) := by decide +kernel
theorem dX12_has_15 : decode cX12_has 15 = .ok (.ireturn, 1) := by decide +kernel
theorem dX12_line__0 : decode cX12_line_ 0 = .ok (.aload_n 0, 1) := by decide +kernel
theorem dX12_line__1 : decode cX12_line_ 1 = .ok (.iconst 0, 1) := by decide +kernel
theorem dX12_line__2 : decode cX12_line_ 2 = .ok (.putfield 74, 3) := by decide +kernel
theorem dX12_line__5 : decode cX12_line_ 5 = .ok (.aload_n 0, 1) := by decide +kernel
theorem dX12_line__6 : decode cX12_line_ 6 = .ok (.iload_n 1, 1) := by decide +kernel
theorem dX12_line__7 : decode cX12_line_ 7 = .ok (.i2l, 1) := by decide +kernel
theorem dX12_line__8 : decode cX12_line_ 8 = .ok (.invokevirtual 268, 3) := by decide +kernel
theorem dX12_line__11 : decode cX12_line_ 11 = .ok (.ifCond .ne 6, 3) := by decide +kernel
theorem dX12_line__14 : decode cX12_line_ 14 = .ok (.bipush (-2), 2) := by decide +kernel
theorem dX12_line__16 : decode cX12_line_ 16 = .ok (.ireturn, 1) := by decide +kernel
theorem dX12_richest_0 : decode cX12_richest 0 = .ok (.aload_n 0, 1) := by decide +kernel
theorem dX12_richest_1 : decode cX12_richest 1 = .ok (.iconst 0, 1) := by decide +kernel
theorem dX12_richest_2 : decode cX12_richest 2 = .ok (.putfield 74, 3) := by decide +kernel
theorem dX12_richest_5 : decode cX12_richest 5 = .ok (.aload_n 0, 1) := by decide +kernel
theorem dX12_richest_6 : decode cX12_richest 6 = .ok (.invokevirtual 250, 3) := by decide +kernel
theorem dX12_richest_9 : decode cX12_richest 9 = .ok (.ifCond .ne 6, 3) := by decide +kernel
theorem dX12_richest_12 : decode cX12_richest 12 = .ok (.bipush (-2), 2) := by decide +kernel
theorem dX12_richest_14 : decode cX12_richest 14 = .ok (.ireturn, 1) := by decide +kernel
theorem dX12_meet_0 : decode cX12_meet 0 = .ok (.aload_n 0, 1) := by decide +kernel
theorem dX12_meet_1 : decode cX12_meet 1 = .ok (.iconst 0, 1) := by decide +kernel
theorem dX12_meet_2 : decode cX12_meet 2 = .ok (.putfield 74, 3) := by decide +kernel
theorem dX12_meet_5 : decode cX12_meet 5 = .ok (.aload_n 0, 1) := by decide +kernel
theorem dX12_meet_6 : decode cX12_meet 6 = .ok (.iload_n 1, 1) := by decide +kernel
theorem dX12_meet_7 : decode cX12_meet 7 = .ok (.invokevirtual 276, 3) := by decide +kernel
theorem dX12_meet_10 : decode cX12_meet 10 = .ok (.ifCond .eq 16, 3) := by decide +kernel
theorem dX12_meet_26 : decode cX12_meet 26 = .ok (.bipush (-2), 2) := by decide +kernel
theorem dX12_meet_28 : decode cX12_meet 28 = .ok (.ireturn, 1) := by decide +kernel
theorem dX12_argued_0 : decode cX12_argued 0 = .ok (.aload_n 0, 1) := by decide +kernel
theorem dX12_argued_1 : decode cX12_argued 1 = .ok (.iconst 0, 1) := by decide +kernel
theorem dX12_argued_2 : decode cX12_argued 2 = .ok (.putfield 74, 3) := by decide +kernel
theorem dX12_argued_5 : decode cX12_argued 5 = .ok (.aload_n 0, 1) := by decide +kernel
theorem dX12_argued_6 : decode cX12_argued 6 = .ok (.invokevirtual 250, 3) := by decide +kernel
theorem dX12_argued_9 : decode cX12_argued 9 = .ok (.ifCond .ne 6, 3) := by decide +kernel
theorem dX12_argued_12 : decode cX12_argued 12 = .ok (.bipush (-2), 2) := by decide +kernel
theorem dX12_argued_14 : decode cX12_argued 14 = .ok (.ireturn, 1) := by decide +kernel
theorem dX12_gaps_0 : decode cX12_gaps 0 = .ok (.aload_n 0, 1) := by decide +kernel
theorem dX12_gaps_1 : decode cX12_gaps 1 = .ok (.iconst 0, 1) := by decide +kernel
theorem dX12_gaps_2 : decode cX12_gaps 2 = .ok (.putfield 74, 3) := by decide +kernel
theorem dX12_gaps_5 : decode cX12_gaps 5 = .ok (.aload_n 0, 1) := by decide +kernel
theorem dX12_gaps_6 : decode cX12_gaps 6 = .ok (.invokevirtual 250, 3) := by decide +kernel
theorem dX12_gaps_9 : decode cX12_gaps 9 = .ok (.ifCond .eq 15, 3) := by decide +kernel
theorem dX12_gaps_24 : decode cX12_gaps 24 = .ok (.bipush (-2), 2) := by decide +kernel
theorem dX12_gaps_26 : decode cX12_gaps 26 = .ok (.ireturn, 1) := by decide +kernel
theorem dX12_idle_0 : decode cX12_idle 0 = .ok (.aload_n 0, 1) := by decide +kernel
theorem dX12_idle_1 : decode cX12_idle 1 = .ok (.iconst 0, 1) := by decide +kernel
theorem dX12_idle_2 : decode cX12_idle 2 = .ok (.putfield 74, 3) := by decide +kernel
theorem dX12_idle_5 : decode cX12_idle 5 = .ok (.aload_n 0, 1) := by decide +kernel
theorem dX12_idle_6 : decode cX12_idle 6 = .ok (.invokevirtual 250, 3) := by decide +kernel
theorem dX12_idle_9 : decode cX12_idle 9 = .ok (.ifCond .ne 6, 3) := by decide +kernel
theorem dX12_idle_12 : decode cX12_idle 12 = .ok (.bipush (-2), 2) := by decide +kernel
theorem dX12_idle_14 : decode cX12_idle 14 = .ok (.ireturn, 1) := by decide +kernel
theorem dX12_without_0 : decode cX12_without 0 = .ok (.aload_n 0, 1) := by decide +kernel
theorem dX12_without_1 : decode cX12_without 1 = .ok (.iconst 0, 1) := by decide +kernel
theorem dX12_without_2 : decode cX12_without 2 = .ok (.putfield 74, 3) := by decide +kernel
theorem dX12_without_5 : decode cX12_without 5 = .ok (.aload_n 0, 1) := by decide +kernel
theorem dX12_without_6 : decode cX12_without 6 = .ok (.iload_n 1, 1) := by decide +kernel
theorem dX12_without_7 : decode cX12_without 7 = .ok (.invokevirtual 279, 3) := by decide +kernel
theorem dX12_without_10 : decode cX12_without 10 = .ok (.ifCond .eq 11, 3) := by decide +kernel
theorem dX12_without_21 : decode cX12_without 21 = .ok (.bipush (-2), 2) := by decide +kernel
theorem dX12_without_23 : decode cX12_without 23 = .ok (.ireturn, 1) := by decide +kernel
theorem dX12_strike_0 : decode cX12_strike 0 = .ok (.aload_n 0, 1) := by decide +kernel
theorem dX12_strike_1 : decode cX12_strike 1 = .ok (.iconst 0, 1) := by decide +kernel
theorem dX12_strike_2 : decode cX12_strike 2 = .ok (.putfield 74, 3) := by decide +kernel
theorem dX12_strike_5 : decode cX12_strike 5 = .ok (.aload_n 0, 1) := by decide +kernel
theorem dX12_strike_6 : decode cX12_strike 6 = .ok (.iload_n 1, 1) := by decide +kernel
theorem dX12_strike_7 : decode cX12_strike 7 = .ok (.invokevirtual 336, 3) := by decide +kernel
theorem dX12_strike_10 : decode cX12_strike 10 = .ok (.ifCond .ne 6, 3) := by decide +kernel
theorem dX12_strike_13 : decode cX12_strike 13 = .ok (.bipush (-2), 2) := by decide +kernel
theorem dX12_strike_15 : decode cX12_strike 15 = .ok (.ireturn, 1) := by decide +kernel
theorem dX12_clock_0 : decode cX12_clock 0 = .ok (.aload_n 0, 1) := by decide +kernel
theorem dX12_clock_1 : decode cX12_clock 1 = .ok (.iconst 0, 1) := by decide +kernel
theorem dX12_clock_2 : decode cX12_clock 2 = .ok (.putfield 74, 3) := by decide +kernel
theorem dX12_clock_5 : decode cX12_clock 5 = .ok (.aload_n 0, 1) := by decide +kernel
theorem dX12_clock_6 : decode cX12_clock 6 = .ok (.iload_n 1, 1) := by decide +kernel
theorem dX12_clock_7 : decode cX12_clock 7 = .ok (.invokevirtual 336, 3) := by decide +kernel
theorem dX12_clock_10 : decode cX12_clock 10 = .ok (.ifCond .eq 17, 3) := by decide +kernel
theorem dX12_clock_27 : decode cX12_clock 27 = .ok (.bipush (-2), 2) := by decide +kernel
theorem dX12_clock_29 : decode cX12_clock 29 = .ok (.ireturn, 1) := by decide +kernel
theorem dX12_set_0 : decode cX12_set 0 = .ok (.aload_n 0, 1) := by decide +kernel
theorem dX12_set_1 : decode cX12_set 1 = .ok (.iconst 0, 1) := by decide +kernel
theorem dX12_set_2 : decode cX12_set 2 = .ok (.putfield 74, 3) := by decide +kernel
theorem dX12_set_5 : decode cX12_set 5 = .ok (.aload_n 0, 1) := by decide +kernel
theorem dX12_set_6 : decode cX12_set 6 = .ok (.iload_n 1, 1) := by decide +kernel
theorem dX12_set_7 : decode cX12_set 7 = .ok (.invokevirtual 336, 3) := by decide +kernel
theorem dX12_set_10 : decode cX12_set 10 = .ok (.ifCond .ne 7, 3) := by decide +kernel
theorem dX12_set_13 : decode cX12_set 13 = .ok (.sipush (-1000), 3) := by decide +kernel
theorem dX12_set_16 : decode cX12_set 16 = .ok (.ireturn, 1) := by decide +kernel
theorem dX12_pushes_0 : decode cX12_pushes 0 = .ok (.aload_n 0, 1) := by decide +kernel
theorem dX12_pushes_1 : decode cX12_pushes 1 = .ok (.iconst 0, 1) := by decide +kernel
theorem dX12_pushes_2 : decode cX12_pushes 2 = .ok (.putfield 74, 3) := by decide +kernel
theorem dX12_pushes_5 : decode cX12_pushes 5 = .ok (.aload_n 0, 1) := by decide +kernel
theorem dX12_pushes_6 : decode cX12_pushes 6 = .ok (.iload_n 1, 1) := by decide +kernel
theorem dX12_pushes_7 : decode cX12_pushes 7 = .ok (.iload_n 2, 1) := by decide +kernel
theorem dX12_pushes_8 : decode cX12_pushes 8 = .ok (.invokevirtual 352, 3) := by decide +kernel
theorem dX12_pushes_11 : decode cX12_pushes 11 = .ok (.ifCond .ne 6, 3) := by decide +kernel
theorem dX12_pushes_14 : decode cX12_pushes 14 = .ok (.bipush (-2), 2) := by decide +kernel
theorem dX12_pushes_16 : decode cX12_pushes 16 = .ok (.ireturn, 1) := by decide +kernel
theorem dX12_push_0 : decode cX12_push 0 = .ok (.aload_n 0, 1) := by decide +kernel
theorem dX12_push_1 : decode cX12_push 1 = .ok (.iconst 0, 1) := by decide +kernel
theorem dX12_push_2 : decode cX12_push 2 = .ok (.putfield 74, 3) := by decide +kernel
theorem dX12_push_5 : decode cX12_push 5 = .ok (.aload_n 0, 1) := by decide +kernel
theorem dX12_push_6 : decode cX12_push 6 = .ok (.iload_n 1, 1) := by decide +kernel
theorem dX12_push_7 : decode cX12_push 7 = .ok (.iload_n 2, 1) := by decide +kernel
theorem dX12_push_8 : decode cX12_push 8 = .ok (.invokevirtual 352, 3) := by decide +kernel
theorem dX12_push_11 : decode cX12_push 11 = .ok (.ifCond .eq 13, 3) := by decide +kernel
theorem dX12_push_24 : decode cX12_push 24 = .ok (.bipush (-2), 2) := by decide +kernel
theorem dX12_push_26 : decode cX12_push 26 = .ok (.ireturn, 1) := by decide +kernel
theorem dX12_way_0 : decode cX12_way 0 = .ok (.aload_n 0, 1) := by decide +kernel
theorem dX12_way_1 : decode cX12_way 1 = .ok (.iconst 0, 1) := by decide +kernel
theorem dX12_way_2 : decode cX12_way 2 = .ok (.putfield 74, 3) := by decide +kernel
theorem dX12_way_5 : decode cX12_way 5 = .ok (.aload_n 0, 1) := by decide +kernel
theorem dX12_way_6 : decode cX12_way 6 = .ok (.iload_n 1, 1) := by decide +kernel
theorem dX12_way_7 : decode cX12_way 7 = .ok (.iload_n 2, 1) := by decide +kernel
theorem dX12_way_8 : decode cX12_way 8 = .ok (.invokevirtual 352, 3) := by decide +kernel
theorem dX12_way_11 : decode cX12_way 11 = .ok (.ifCond .ne 6, 3) := by decide +kernel
theorem dX12_way_14 : decode cX12_way 14 = .ok (.bipush (-2), 2) := by decide +kernel
theorem dX12_way_16 : decode cX12_way 16 = .ok (.ireturn, 1) := by decide +kernel
theorem dX12_soonest_0 : decode cX12_soonest 0 = .ok (.aload_n 0, 1) := by decide +kernel
theorem dX12_soonest_1 : decode cX12_soonest 1 = .ok (.iconst 0, 1) := by decide +kernel
theorem dX12_soonest_2 : decode cX12_soonest 2 = .ok (.putfield 74, 3) := by decide +kernel
theorem dX12_soonest_5 : decode cX12_soonest 5 = .ok (.aload_n 0, 1) := by decide +kernel
theorem dX12_soonest_6 : decode cX12_soonest 6 = .ok (.iload_n 1, 1) := by decide +kernel
theorem dX12_soonest_7 : decode cX12_soonest 7 = .ok (.iload_n 2, 1) := by decide +kernel
theorem dX12_soonest_8 : decode cX12_soonest 8 = .ok (.invokevirtual 352, 3) := by decide +kernel
theorem dX12_soonest_11 : decode cX12_soonest 11 = .ok (.ifCond .ne 6, 3) := by decide +kernel
theorem dX12_soonest_14 : decode cX12_soonest 14 = .ok (.bipush (-2), 2) := by decide +kernel
theorem dX12_soonest_16 : decode cX12_soonest 16 = .ok (.ireturn, 1) := by decide +kernel
theorem dX12_ward_0 : decode cX12_ward 0 = .ok (.aload_n 0, 1) := by decide +kernel
theorem dX12_ward_1 : decode cX12_ward 1 = .ok (.iconst 0, 1) := by decide +kernel
theorem dX12_ward_2 : decode cX12_ward 2 = .ok (.putfield 74, 3) := by decide +kernel
theorem dX12_ward_5 : decode cX12_ward 5 = .ok (.aload_n 0, 1) := by decide +kernel
theorem dX12_ward_6 : decode cX12_ward 6 = .ok (.iload_n 1, 1) := by decide +kernel
theorem dX12_ward_7 : decode cX12_ward 7 = .ok (.iload_n 2, 1) := by decide +kernel
theorem dX12_ward_8 : decode cX12_ward 8 = .ok (.invokevirtual 352, 3) := by decide +kernel
theorem dX12_ward_11 : decode cX12_ward 11 = .ok (.ifCond .ne 6, 3) := by decide +kernel
theorem dX12_ward_14 : decode cX12_ward 14 = .ok (.bipush (-2), 2) := by decide +kernel
theorem dX12_ward_16 : decode cX12_ward 16 = .ok (.ireturn, 1) := by decide +kernel
theorem dX12_all_0 : decode cX12_all 0 = .ok (.aload_n 0, 1) := by decide +kernel
theorem dX12_all_1 : decode cX12_all 1 = .ok (.iconst 0, 1) := by decide +kernel
theorem dX12_all_2 : decode cX12_all 2 = .ok (.putfield 74, 3) := by decide +kernel
theorem dX12_all_5 : decode cX12_all 5 = .ok (.aload_n 0, 1) := by decide +kernel
theorem dX12_all_6 : decode cX12_all 6 = .ok (.iload_n 1, 1) := by decide +kernel
theorem dX12_all_7 : decode cX12_all 7 = .ok (.invokevirtual 336, 3) := by decide +kernel
theorem dX12_all_10 : decode cX12_all 10 = .ok (.ifCond .ne 6, 3) := by decide +kernel
theorem dX12_all_13 : decode cX12_all 13 = .ok (.bipush (-2), 2) := by decide +kernel
theorem dX12_all_15 : decode cX12_all 15 = .ok (.ireturn, 1) := by decide +kernel
theorem dX12_eddy_0 : decode cX12_eddy 0 = .ok (.aload_n 0, 1) := by decide +kernel
theorem dX12_eddy_1 : decode cX12_eddy 1 = .ok (.iconst 0, 1) := by decide +kernel
theorem dX12_eddy_2 : decode cX12_eddy 2 = .ok (.putfield 74, 3) := by decide +kernel
theorem dX12_eddy_5 : decode cX12_eddy 5 = .ok (.aload_n 0, 1) := by decide +kernel
theorem dX12_eddy_6 : decode cX12_eddy 6 = .ok (.iload_n 1, 1) := by decide +kernel
theorem dX12_eddy_7 : decode cX12_eddy 7 = .ok (.i2l, 1) := by decide +kernel
theorem dX12_eddy_8 : decode cX12_eddy 8 = .ok (.invokevirtual 268, 3) := by decide +kernel
theorem dX12_eddy_11 : decode cX12_eddy 11 = .ok (.ifCond .ne 6, 3) := by decide +kernel
theorem dX12_eddy_14 : decode cX12_eddy 14 = .ok (.bipush (-2), 2) := by decide +kernel
theorem dX12_eddy_16 : decode cX12_eddy 16 = .ok (.ireturn, 1) := by decide +kernel
theorem dX12_stuck_0 : decode cX12_stuck 0 = .ok (.aload_n 0, 1) := by decide +kernel
theorem dX12_stuck_1 : decode cX12_stuck 1 = .ok (.iconst 0, 1) := by decide +kernel
theorem dX12_stuck_2 : decode cX12_stuck 2 = .ok (.putfield 74, 3) := by decide +kernel
theorem dX12_stuck_5 : decode cX12_stuck 5 = .ok (.aload_n 0, 1) := by decide +kernel
theorem dX12_stuck_6 : decode cX12_stuck 6 = .ok (.invokevirtual 250, 3) := by decide +kernel
theorem dX12_stuck_9 : decode cX12_stuck 9 = .ok (.ifCond .ne 6, 3) := by decide +kernel
theorem dX12_stuck_12 : decode cX12_stuck 12 = .ok (.bipush (-2), 2) := by decide +kernel
theorem dX12_stuck_14 : decode cX12_stuck 14 = .ok (.ireturn, 1) := by decide +kernel
theorem dX12_drop_0 : decode cX12_drop 0 = .ok (.aload_n 0, 1) := by decide +kernel
theorem dX12_drop_1 : decode cX12_drop 1 = .ok (.iconst 0, 1) := by decide +kernel
theorem dX12_drop_2 : decode cX12_drop 2 = .ok (.putfield 74, 3) := by decide +kernel
theorem dX12_drop_5 : decode cX12_drop 5 = .ok (.aload_n 0, 1) := by decide +kernel
theorem dX12_drop_6 : decode cX12_drop 6 = .ok (.iload_n 1, 1) := by decide +kernel
theorem dX12_drop_7 : decode cX12_drop 7 = .ok (.invokevirtual 336, 3) := by decide +kernel
theorem dX12_drop_10 : decode cX12_drop 10 = .ok (.ifCond .eq 24, 3) := by decide +kernel
theorem dX12_drop_34 : decode cX12_drop 34 = .ok (.bipush (-2), 2) := by decide +kernel
theorem dX12_drop_36 : decode cX12_drop 36 = .ok (.ireturn, 1) := by decide +kernel
theorem dX12_drops_0 : decode cX12_drops 0 = .ok (.aload_n 0, 1) := by decide +kernel
theorem dX12_drops_1 : decode cX12_drops 1 = .ok (.iconst 0, 1) := by decide +kernel
theorem dX12_drops_2 : decode cX12_drops 2 = .ok (.putfield 74, 3) := by decide +kernel
theorem dX12_drops_5 : decode cX12_drops 5 = .ok (.aload_n 0, 1) := by decide +kernel
theorem dX12_drops_6 : decode cX12_drops 6 = .ok (.iload_n 1, 1) := by decide +kernel
theorem dX12_drops_7 : decode cX12_drops 7 = .ok (.invokevirtual 336, 3) := by decide +kernel
theorem dX12_drops_10 : decode cX12_drops 10 = .ok (.ifCond .ne 6, 3) := by decide +kernel
theorem dX12_drops_13 : decode cX12_drops 13 = .ok (.bipush (-2), 2) := by decide +kernel
theorem dX12_drops_15 : decode cX12_drops 15 = .ok (.ireturn, 1) := by decide +kernel
theorem dX12_origins_0 : decode cX12_origins 0 = .ok (.aload_n 0, 1) := by decide +kernel
theorem dX12_origins_1 : decode cX12_origins 1 = .ok (.iconst 0, 1) := by decide +kernel
theorem dX12_origins_2 : decode cX12_origins 2 = .ok (.putfield 74, 3) := by decide +kernel
theorem dX12_origins_5 : decode cX12_origins 5 = .ok (.aload_n 0, 1) := by decide +kernel
theorem dX12_origins_6 : decode cX12_origins 6 = .ok (.iload_n 3, 1) := by decide +kernel
theorem dX12_origins_7 : decode cX12_origins 7 = .ok (.i2l, 1) := by decide +kernel
theorem dX12_origins_8 : decode cX12_origins 8 = .ok (.invokevirtual 268, 3) := by decide +kernel
theorem dX12_origins_11 : decode cX12_origins 11 = .ok (.ifCond .eq 28, 3) := by decide +kernel
theorem dX12_origins_39 : decode cX12_origins 39 = .ok (.bipush (-2), 2) := by decide +kernel
theorem dX12_origins_41 : decode cX12_origins 41 = .ok (.ireturn, 1) := by decide +kernel
theorem dX12_when_0 : decode cX12_when 0 = .ok (.aload_n 0, 1) := by decide +kernel
theorem dX12_when_1 : decode cX12_when 1 = .ok (.iconst 0, 1) := by decide +kernel
theorem dX12_when_2 : decode cX12_when 2 = .ok (.putfield 74, 3) := by decide +kernel
theorem dX12_when_5 : decode cX12_when 5 = .ok (.aload_n 0, 1) := by decide +kernel
theorem dX12_when_6 : decode cX12_when 6 = .ok (.iload_n 1, 1) := by decide +kernel
theorem dX12_when_7 : decode cX12_when 7 = .ok (.i2l, 1) := by decide +kernel
theorem dX12_when_8 : decode cX12_when 8 = .ok (.invokevirtual 268, 3) := by decide +kernel
theorem dX12_when_11 : decode cX12_when 11 = .ok (.ifCond .eq 24, 3) := by decide +kernel
theorem dX12_when_35 : decode cX12_when 35 = .ok (.bipush (-2), 2) := by decide +kernel
theorem dX12_when_37 : decode cX12_when 37 = .ok (.ireturn, 1) := by decide +kernel
theorem dX12_share_0 : decode cX12_share 0 = .ok (.aload_n 0, 1) := by decide +kernel
theorem dX12_share_1 : decode cX12_share 1 = .ok (.iconst 0, 1) := by decide +kernel
theorem dX12_share_2 : decode cX12_share 2 = .ok (.putfield 74, 3) := by decide +kernel
theorem dX12_share_5 : decode cX12_share 5 = .ok (.aload_n 0, 1) := by decide +kernel
theorem dX12_share_6 : decode cX12_share 6 = .ok (.iload_n 1, 1) := by decide +kernel
theorem dX12_share_7 : decode cX12_share 7 = .ok (.invokevirtual 319, 3) := by decide +kernel
theorem dX12_share_10 : decode cX12_share 10 = .ok (.ifCond .ne 6, 3) := by decide +kernel
theorem dX12_share_13 : decode cX12_share 13 = .ok (.bipush (-2), 2) := by decide +kernel
theorem dX12_share_15 : decode cX12_share 15 = .ok (.ireturn, 1) := by decide +kernel
theorem dX12_seat_0 : decode cX12_seat 0 = .ok (.aload_n 0, 1) := by decide +kernel
theorem dX12_seat_1 : decode cX12_seat 1 = .ok (.iconst 0, 1) := by decide +kernel
theorem dX12_seat_2 : decode cX12_seat 2 = .ok (.putfield 74, 3) := by decide +kernel
theorem dX12_seat_5 : decode cX12_seat 5 = .ok (.aload_n 0, 1) := by decide +kernel
theorem dX12_seat_6 : decode cX12_seat 6 = .ok (.iload_n 1, 1) := by decide +kernel
theorem dX12_seat_7 : decode cX12_seat 7 = .ok (.invokevirtual 319, 3) := by decide +kernel
theorem dX12_seat_10 : decode cX12_seat 10 = .ok (.ifCond .eq 12, 3) := by decide +kernel
theorem dX12_seat_22 : decode cX12_seat 22 = .ok (.bipush (-2), 2) := by decide +kernel
theorem dX12_seat_24 : decode cX12_seat 24 = .ok (.ireturn, 1) := by decide +kernel
theorem dX12_seats_0 : decode cX12_seats 0 = .ok (.aload_n 0, 1) := by decide +kernel
theorem dX12_seats_1 : decode cX12_seats 1 = .ok (.iconst 0, 1) := by decide +kernel
theorem dX12_seats_2 : decode cX12_seats 2 = .ok (.putfield 74, 3) := by decide +kernel
theorem dX12_seats_5 : decode cX12_seats 5 = .ok (.aload_n 0, 1) := by decide +kernel
theorem dX12_seats_6 : decode cX12_seats 6 = .ok (.iload_n 1, 1) := by decide +kernel
theorem dX12_seats_7 : decode cX12_seats 7 = .ok (.invokevirtual 319, 3) := by decide +kernel
theorem dX12_seats_10 : decode cX12_seats 10 = .ok (.ifCond .ne 6, 3) := by decide +kernel
theorem dX12_seats_13 : decode cX12_seats 13 = .ok (.bipush (-2), 2) := by decide +kernel
theorem dX12_seats_15 : decode cX12_seats 15 = .ok (.ireturn, 1) := by decide +kernel
theorem dX12_rests__0 : decode cX12_rests_ 0 = .ok (.aload_n 0, 1) := by decide +kernel
theorem dX12_rests__1 : decode cX12_rests_ 1 = .ok (.iconst 0, 1) := by decide +kernel
theorem dX12_rests__2 : decode cX12_rests_ 2 = .ok (.putfield 74, 3) := by decide +kernel
theorem dX12_rests__5 : decode cX12_rests_ 5 = .ok (.aload_n 0, 1) := by decide +kernel
theorem dX12_rests__6 : decode cX12_rests_ 6 = .ok (.invokevirtual 250, 3) := by decide +kernel
theorem dX12_rests__9 : decode cX12_rests_ 9 = .ok (.ifCond .eq 10, 3) := by decide +kernel
theorem dX12_rests__19 : decode cX12_rests_ 19 = .ok (.bipush (-2), 2) := by decide +kernel
theorem dX12_rests__21 : decode cX12_rests_ 21 = .ok (.ireturn, 1) := by decide +kernel
theorem dX12_rest_0 : decode cX12_rest 0 = .ok (.aload_n 0, 1) := by decide +kernel
theorem dX12_rest_1 : decode cX12_rest 1 = .ok (.iconst 0, 1) := by decide +kernel
theorem dX12_rest_2 : decode cX12_rest 2 = .ok (.putfield 74, 3) := by decide +kernel
theorem dX12_rest_5 : decode cX12_rest 5 = .ok (.aload_n 0, 1) := by decide +kernel
theorem dX12_rest_6 : decode cX12_rest 6 = .ok (.iload_n 1, 1) := by decide +kernel
theorem dX12_rest_7 : decode cX12_rest 7 = .ok (.invokevirtual 319, 3) := by decide +kernel
theorem dX12_rest_10 : decode cX12_rest 10 = .ok (.ifCond .ne 6, 3) := by decide +kernel
theorem dX12_rest_13 : decode cX12_rest 13 = .ok (.bipush (-2), 2) := by decide +kernel
theorem dX12_rest_15 : decode cX12_rest 15 = .ok (.ireturn, 1) := by decide +kernel
theorem dX12_sit_0 : decode cX12_sit 0 = .ok (.aload_n 0, 1) := by decide +kernel
theorem dX12_sit_1 : decode cX12_sit 1 = .ok (.iconst 0, 1) := by decide +kernel
theorem dX12_sit_2 : decode cX12_sit 2 = .ok (.putfield 74, 3) := by decide +kernel
theorem dX12_sit_5 : decode cX12_sit 5 = .ok (.aload_n 0, 1) := by decide +kernel
theorem dX12_sit_6 : decode cX12_sit 6 = .ok (.iload_n 1, 1) := by decide +kernel
theorem dX12_sit_7 : decode cX12_sit 7 = .ok (.invokevirtual 319, 3) := by decide +kernel
theorem dX12_sit_10 : decode cX12_sit 10 = .ok (.ifCond .eq 12, 3) := by decide +kernel
theorem dX12_sit_22 : decode cX12_sit 22 = .ok (.bipush (-2), 2) := by decide +kernel
theorem dX12_sit_24 : decode cX12_sit 24 = .ok (.ireturn, 1) := by decide +kernel
theorem dX12_shove_0 : decode cX12_shove 0 = .ok (.aload_n 0, 1) := by decide +kernel
theorem dX12_shove_1 : decode cX12_shove 1 = .ok (.iconst 0, 1) := by decide +kernel
theorem dX12_shove_2 : decode cX12_shove 2 = .ok (.putfield 74, 3) := by decide +kernel
theorem dX12_shove_5 : decode cX12_shove 5 = .ok (.aload_n 0, 1) := by decide +kernel
theorem dX12_shove_6 : decode cX12_shove 6 = .ok (.iload_n 1, 1) := by decide +kernel
theorem dX12_shove_7 : decode cX12_shove 7 = .ok (.invokevirtual 276, 3) := by decide +kernel
theorem dX12_shove_10 : decode cX12_shove 10 = .ok (.ifCond .eq 25, 3) := by decide +kernel
theorem dX12_shove_35 : decode cX12_shove 35 = .ok (.bipush (-2), 2) := by decide +kernel
theorem dX12_shove_37 : decode cX12_shove 37 = .ok (.ireturn, 1) := by decide +kernel
theorem dX12_undo_0 : decode cX12_undo 0 = .ok (.aload_n 0, 1) := by decide +kernel
theorem dX12_undo_1 : decode cX12_undo 1 = .ok (.iconst 0, 1) := by decide +kernel
theorem dX12_undo_2 : decode cX12_undo 2 = .ok (.putfield 74, 3) := by decide +kernel
theorem dX12_undo_5 : decode cX12_undo 5 = .ok (.aload_n 0, 1) := by decide +kernel
theorem dX12_undo_6 : decode cX12_undo 6 = .ok (.invokevirtual 250, 3) := by decide +kernel
theorem dX12_undo_9 : decode cX12_undo 9 = .ok (.ifCond .ne 6, 3) := by decide +kernel
theorem dX12_undo_12 : decode cX12_undo 12 = .ok (.bipush (-2), 2) := by decide +kernel
theorem dX12_undo_14 : decode cX12_undo 14 = .ok (.ireturn, 1) := by decide +kernel
theorem dX12_anew_0 : decode cX12_anew 0 = .ok (.aload_n 0, 1) := by decide +kernel
theorem dX12_anew_1 : decode cX12_anew 1 = .ok (.iconst 0, 1) := by decide +kernel
theorem dX12_anew_2 : decode cX12_anew 2 = .ok (.putfield 74, 3) := by decide +kernel
theorem dX12_anew_5 : decode cX12_anew 5 = .ok (.aload_n 0, 1) := by decide +kernel
theorem dX12_anew_6 : decode cX12_anew 6 = .ok (.invokevirtual 250, 3) := by decide +kernel
theorem dX12_anew_9 : decode cX12_anew 9 = .ok (.ifCond .ne 6, 3) := by decide +kernel
theorem dX12_anew_12 : decode cX12_anew 12 = .ok (.bipush (-2), 2) := by decide +kernel
theorem dX12_anew_14 : decode cX12_anew 14 = .ok (.ireturn, 1) := by decide +kernel
theorem dX12_rate_0 : decode cX12_rate 0 = .ok (.aload_n 0, 1) := by decide +kernel
theorem dX12_rate_1 : decode cX12_rate 1 = .ok (.iconst 0, 1) := by decide +kernel
theorem dX12_rate_2 : decode cX12_rate 2 = .ok (.putfield 74, 3) := by decide +kernel
theorem dX12_rate_5 : decode cX12_rate 5 = .ok (.aload_n 0, 1) := by decide +kernel
theorem dX12_rate_6 : decode cX12_rate 6 = .ok (.iload_n 1, 1) := by decide +kernel
theorem dX12_rate_7 : decode cX12_rate 7 = .ok (.invokevirtual 276, 3) := by decide +kernel
theorem dX12_rate_10 : decode cX12_rate 10 = .ok (.ifCond .eq 15, 3) := by decide +kernel
theorem dX12_rate_25 : decode cX12_rate 25 = .ok (.bipush (-2), 2) := by decide +kernel
theorem dX12_rate_27 : decode cX12_rate 27 = .ok (.ireturn, 1) := by decide +kernel
theorem dX12_drawn_0 : decode cX12_drawn 0 = .ok (.aload_n 0, 1) := by decide +kernel
theorem dX12_drawn_1 : decode cX12_drawn 1 = .ok (.iconst 0, 1) := by decide +kernel
theorem dX12_drawn_2 : decode cX12_drawn 2 = .ok (.putfield 74, 3) := by decide +kernel
theorem dX12_drawn_5 : decode cX12_drawn 5 = .ok (.aload_n 0, 1) := by decide +kernel
theorem dX12_drawn_6 : decode cX12_drawn 6 = .ok (.iload_n 1, 1) := by decide +kernel
theorem dX12_drawn_7 : decode cX12_drawn 7 = .ok (.iload_n 2, 1) := by decide +kernel
theorem dX12_drawn_8 : decode cX12_drawn 8 = .ok (.invokevirtual 436, 3) := by decide +kernel
theorem dX12_drawn_11 : decode cX12_drawn 11 = .ok (.ifCond .eq 15, 3) := by decide +kernel
theorem dX12_drawn_26 : decode cX12_drawn 26 = .ok (.bipush (-2), 2) := by decide +kernel
theorem dX12_drawn_28 : decode cX12_drawn 28 = .ok (.ireturn, 1) := by decide +kernel
theorem dX12_luck_0 : decode cX12_luck 0 = .ok (.aload_n 0, 1) := by decide +kernel
theorem dX12_luck_1 : decode cX12_luck 1 = .ok (.iconst 0, 1) := by decide +kernel
theorem dX12_luck_2 : decode cX12_luck 2 = .ok (.putfield 74, 3) := by decide +kernel
theorem dX12_luck_5 : decode cX12_luck 5 = .ok (.aload_n 0, 1) := by decide +kernel
theorem dX12_luck_6 : decode cX12_luck 6 = .ok (.iload_n 1, 1) := by decide +kernel
theorem dX12_luck_7 : decode cX12_luck 7 = .ok (.iload_n 3, 1) := by decide +kernel
theorem dX12_luck_8 : decode cX12_luck 8 = .ok (.invokevirtual 436, 3) := by decide +kernel
theorem dX12_luck_11 : decode cX12_luck 11 = .ok (.ifCond .eq 24, 3) := by decide +kernel
theorem dX12_luck_35 : decode cX12_luck 35 = .ok (.bipush (-2), 2) := by decide +kernel
theorem dX12_luck_37 : decode cX12_luck 37 = .ok (.ireturn, 1) := by decide +kernel
theorem dX12_waits_0 : decode cX12_waits 0 = .ok (.aload_n 0, 1) := by decide +kernel
theorem dX12_waits_1 : decode cX12_waits 1 = .ok (.iconst 0, 1) := by decide +kernel
theorem dX12_waits_2 : decode cX12_waits 2 = .ok (.putfield 74, 3) := by decide +kernel
theorem dX12_waits_5 : decode cX12_waits 5 = .ok (.aload_n 0, 1) := by decide +kernel
theorem dX12_waits_6 : decode cX12_waits 6 = .ok (.iload_n 1, 1) := by decide +kernel
theorem dX12_waits_7 : decode cX12_waits 7 = .ok (.iload_n 3, 1) := by decide +kernel
theorem dX12_waits_8 : decode cX12_waits 8 = .ok (.invokevirtual 436, 3) := by decide +kernel
theorem dX12_waits_11 : decode cX12_waits 11 = .ok (.ifCond .eq 15, 3) := by decide +kernel
theorem dX12_waits_26 : decode cX12_waits 26 = .ok (.bipush (-2), 2) := by decide +kernel
theorem dX12_waits_28 : decode cX12_waits 28 = .ok (.ireturn, 1) := by decide +kernel
theorem q1484 : Cond.fieldLink "EbbWreckModel" 31 "EbbWreckModel" "lines" "[I" ∈ lw_g := mg (List.mem_of_getElem? (i := 1484) (by decide +kernel)) rfl
theorem q1485 : Cond.fieldLink "EbbWreckModel" 34 "EbbWreckModel" "has" "[I" ∈ lw_g := mg (List.mem_of_getElem? (i := 1485) (by decide +kernel)) rfl
theorem q1593 : Cond.code ⟨"EbbWreckModel", "in", "(JJJ)Z"⟩ prog_14_method_3_code 6 (some .boolean) ∈ lw_g := mg (List.mem_of_getElem? (i := 1593) (by decide +kernel)) rfl
theorem q1592 : Cond.static ⟨"EbbWreckModel", "in", "(JJJ)Z"⟩ ∈ lw_g := mg (List.mem_of_getElem? (i := 1592) (by decide +kernel)) rfl
theorem q127 : Cond.initialized "EbbWreckModel" ∈ lw_g := mg (List.mem_of_getElem? (i := 127) (by decide +kernel)) rfl
theorem q1591 : Cond.methodLink "EbbWreckModel" 79 ⟨"EbbWreckModel", "in", "(JJJ)Z"⟩ ∈ lw_g := mg (List.mem_of_getElem? (i := 1591) (by decide +kernel)) rfl
theorem q1785 : Cond.code ⟨"EbbWreckModel", "isShore", "()Z"⟩ prog_14_method_39_code 1 (some .boolean) ∈ lw_g := mg (List.mem_of_getElem? (i := 1785) (by decide +kernel)) rfl
theorem q1784 : Cond.instanceMethod ⟨"EbbWreckModel", "isShore", "()Z"⟩ ∈ lw_g := mg (List.mem_of_getElem? (i := 1784) (by decide +kernel)) rfl
theorem q76 : Cond.selects "EbbWreckModel" ⟨"EbbWreckModel", "isShore", "()Z"⟩ ⟨"EbbWreckModel", "isShore", "()Z"⟩ ∈ lw_g := mg (List.mem_of_getElem? (i := 76) (by decide +kernel)) rfl
theorem q1782 : Cond.methodLink "EbbWreckModel" 250 ⟨"EbbWreckModel", "isShore", "()Z"⟩ ∈ lw_g := mg (List.mem_of_getElem? (i := 1782) (by decide +kernel)) rfl
theorem q1769 : Cond.code ⟨"EbbWreckModel", "isThing", "(I)Z"⟩ prog_14_method_41_code 2 (some .boolean) ∈ lw_g := mg (List.mem_of_getElem? (i := 1769) (by decide +kernel)) rfl
theorem q1768 : Cond.instanceMethod ⟨"EbbWreckModel", "isThing", "(I)Z"⟩ ∈ lw_g := mg (List.mem_of_getElem? (i := 1768) (by decide +kernel)) rfl
theorem q74 : Cond.selects "EbbWreckModel" ⟨"EbbWreckModel", "isThing", "(I)Z"⟩ ⟨"EbbWreckModel", "isThing", "(I)Z"⟩ ∈ lw_g := mg (List.mem_of_getElem? (i := 74) (by decide +kernel)) rfl
theorem q1766 : Cond.methodLink "EbbWreckModel" 276 ⟨"EbbWreckModel", "isThing", "(I)Z"⟩ ∈ lw_g := mg (List.mem_of_getElem? (i := 1766) (by decide +kernel)) rfl
theorem q1786 : Cond.constantLong "EbbWreckModel" 282 2000000000 ∈ lw_g := mg (List.mem_of_getElem? (i := 1786) (by decide +kernel)) rfl
theorem q1468 : Cond.fieldLink "EbbWreckModel" 74 "EbbWreckModel" "thrown" "I" ∈ lw_g := mg (List.mem_of_getElem? (i := 1468) (by decide +kernel)) rfl
theorem q1753 : Cond.code ⟨"EbbWreckModel", "isCell", "(J)Z"⟩ prog_14_method_40_code 3 (some .boolean) ∈ lw_g := mg (List.mem_of_getElem? (i := 1753) (by decide +kernel)) rfl
theorem q1752 : Cond.instanceMethod ⟨"EbbWreckModel", "isCell", "(J)Z"⟩ ∈ lw_g := mg (List.mem_of_getElem? (i := 1752) (by decide +kernel)) rfl
theorem q72 : Cond.selects "EbbWreckModel" ⟨"EbbWreckModel", "isCell", "(J)Z"⟩ ⟨"EbbWreckModel", "isCell", "(J)Z"⟩ ∈ lw_g := mg (List.mem_of_getElem? (i := 72) (by decide +kernel)) rfl
theorem q1750 : Cond.methodLink "EbbWreckModel" 268 ⟨"EbbWreckModel", "isCell", "(J)Z"⟩ ∈ lw_g := mg (List.mem_of_getElem? (i := 1750) (by decide +kernel)) rfl
theorem q1777 : Cond.code ⟨"EbbWreckModel", "isRule", "(I)Z"⟩ prog_14_method_42_code 2 (some .boolean) ∈ lw_g := mg (List.mem_of_getElem? (i := 1777) (by decide +kernel)) rfl
theorem q1776 : Cond.instanceMethod ⟨"EbbWreckModel", "isRule", "(I)Z"⟩ ∈ lw_g := mg (List.mem_of_getElem? (i := 1776) (by decide +kernel)) rfl
theorem q75 : Cond.selects "EbbWreckModel" ⟨"EbbWreckModel", "isRule", "(I)Z"⟩ ⟨"EbbWreckModel", "isRule", "(I)Z"⟩ ∈ lw_g := mg (List.mem_of_getElem? (i := 75) (by decide +kernel)) rfl
theorem q1774 : Cond.methodLink "EbbWreckModel" 279 ⟨"EbbWreckModel", "isRule", "(I)Z"⟩ ∈ lw_g := mg (List.mem_of_getElem? (i := 1774) (by decide +kernel)) rfl
theorem q1819 : Cond.code ⟨"EbbWreckModel", "isSitter", "(I)Z"⟩ prog_14_method_43_code 2 (some .boolean) ∈ lw_g := mg (List.mem_of_getElem? (i := 1819) (by decide +kernel)) rfl
theorem q1818 : Cond.instanceMethod ⟨"EbbWreckModel", "isSitter", "(I)Z"⟩ ∈ lw_g := mg (List.mem_of_getElem? (i := 1818) (by decide +kernel)) rfl
theorem q81 : Cond.selects "EbbWreckModel" ⟨"EbbWreckModel", "isSitter", "(I)Z"⟩ ⟨"EbbWreckModel", "isSitter", "(I)Z"⟩ ∈ lw_g := mg (List.mem_of_getElem? (i := 81) (by decide +kernel)) rfl
theorem q1816 : Cond.methodLink "EbbWreckModel" 319 ⟨"EbbWreckModel", "isSitter", "(I)Z"⟩ ∈ lw_g := mg (List.mem_of_getElem? (i := 1816) (by decide +kernel)) rfl
theorem q1877 : Cond.code ⟨"EbbWreckModel", "isParty", "(I)Z"⟩ prog_14_method_44_code 2 (some .boolean) ∈ lw_g := mg (List.mem_of_getElem? (i := 1877) (by decide +kernel)) rfl
theorem q1876 : Cond.instanceMethod ⟨"EbbWreckModel", "isParty", "(I)Z"⟩ ∈ lw_g := mg (List.mem_of_getElem? (i := 1876) (by decide +kernel)) rfl
theorem q89 : Cond.selects "EbbWreckModel" ⟨"EbbWreckModel", "isParty", "(I)Z"⟩ ⟨"EbbWreckModel", "isParty", "(I)Z"⟩ ∈ lw_g := mg (List.mem_of_getElem? (i := 89) (by decide +kernel)) rfl
theorem q1874 : Cond.methodLink "EbbWreckModel" 336 ⟨"EbbWreckModel", "isParty", "(I)Z"⟩ ∈ lw_g := mg (List.mem_of_getElem? (i := 1874) (by decide +kernel)) rfl
theorem q1925 : Cond.code ⟨"EbbWreckModel", "isPush", "(II)Z"⟩ prog_14_method_83_code 3 (some .boolean) ∈ lw_g := mg (List.mem_of_getElem? (i := 1925) (by decide +kernel)) rfl
theorem q1924 : Cond.instanceMethod ⟨"EbbWreckModel", "isPush", "(II)Z"⟩ ∈ lw_g := mg (List.mem_of_getElem? (i := 1924) (by decide +kernel)) rfl
theorem q93 : Cond.selects "EbbWreckModel" ⟨"EbbWreckModel", "isPush", "(II)Z"⟩ ⟨"EbbWreckModel", "isPush", "(II)Z"⟩ ∈ lw_g := mg (List.mem_of_getElem? (i := 93) (by decide +kernel)) rfl
theorem q1922 : Cond.methodLink "EbbWreckModel" 352 ⟨"EbbWreckModel", "isPush", "(II)Z"⟩ ∈ lw_g := mg (List.mem_of_getElem? (i := 1922) (by decide +kernel)) rfl
theorem q2131 : Cond.code ⟨"EbbWreckModel", "isDraw", "(II)Z"⟩ prog_14_method_131_code 3 (some .boolean) ∈ lw_g := mg (List.mem_of_getElem? (i := 2131) (by decide +kernel)) rfl
theorem q2130 : Cond.instanceMethod ⟨"EbbWreckModel", "isDraw", "(II)Z"⟩ ∈ lw_g := mg (List.mem_of_getElem? (i := 2130) (by decide +kernel)) rfl
theorem q112 : Cond.selects "EbbWreckModel" ⟨"EbbWreckModel", "isDraw", "(II)Z"⟩ ⟨"EbbWreckModel", "isDraw", "(II)Z"⟩ ∈ lw_g := mg (List.mem_of_getElem? (i := 112) (by decide +kernel)) rfl
theorem q2128 : Cond.methodLink "EbbWreckModel" 436 ⟨"EbbWreckModel", "isDraw", "(II)Z"⟩ ∈ lw_g := mg (List.mem_of_getElem? (i := 2128) (by decide +kernel)) rfl
theorem mX12_in : CmS yX12_in cX12_in 6 (some .boolean) 3 := ⟨q1592, q127, q1593, ⟨by decide, by decide, by decide +kernel⟩⟩
theorem mX12_isShore : CmV "EbbWreckModel" yX12_isShore cX12_isShore 1 (some .boolean) 0 := ⟨q1784, q76, q127, q1785, ⟨rfl, by decide, by decide, by decide +kernel⟩⟩
theorem mX12_isThing : CmV "EbbWreckModel" yX12_isThing cX12_isThing 2 (some .boolean) 1 := ⟨q1768, q74, q127, q1769, ⟨rfl, by decide, by decide, by decide +kernel⟩⟩
theorem mX12_isCell : CmV "EbbWreckModel" yX12_isCell cX12_isCell 3 (some .boolean) 1 := ⟨q1752, q72, q127, q1753, ⟨rfl, by decide, by decide, by decide +kernel⟩⟩
theorem mX12_isRule : CmV "EbbWreckModel" yX12_isRule cX12_isRule 2 (some .boolean) 1 := ⟨q1776, q75, q127, q1777, ⟨rfl, by decide, by decide, by decide +kernel⟩⟩
theorem mX12_isSitter : CmV "EbbWreckModel" yX12_isSitter cX12_isSitter 2 (some .boolean) 1 := ⟨q1818, q81, q127, q1819, ⟨rfl, by decide, by decide, by decide +kernel⟩⟩
theorem mX12_isParty : CmV "EbbWreckModel" yX12_isParty cX12_isParty 2 (some .boolean) 1 := ⟨q1876, q89, q127, q1877, ⟨rfl, by decide, by decide, by decide +kernel⟩⟩
theorem mX12_isPush : CmV "EbbWreckModel" yX12_isPush cX12_isPush 3 (some .boolean) 2 := ⟨q1924, q93, q127, q1925, ⟨rfl, by decide, by decide, by decide +kernel⟩⟩
theorem mX12_isDraw : CmV "EbbWreckModel" yX12_isDraw cX12_isDraw 3 (some .boolean) 2 := ⟨q2130, q112, q127, q2131, ⟨rfl, by decide, by decide, by decide +kernel⟩⟩
