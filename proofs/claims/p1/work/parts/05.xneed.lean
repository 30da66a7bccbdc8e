theorem dX1_isTold_0 : decode cX1_isTold 0 = .ok (.aload_n 0, 1) := by decide +kernel
theorem dX1_isTold_1 : decode cX1_isTold 1 = .ok (.getfield 51, 3) := by decide +kernel
theorem dX1_isTold_4 : decode cX1_isTold 4 = .ok (.ifCond .le 7, 3) := by decide +kernel
theorem dX1_isTold_11 : decode cX1_isTold 11 = .ok (.iconst 0, 1) := by decide +kernel
theorem dX1_isTold_12 : decode cX1_isTold 12 = .ok (.ireturn, 1) := by decide +kernel
theorem dX1_hasCell_0 : decode cX1_hasCell 0 = .ok (.iload_n 1, 1) := by decide +kernel
theorem dX1_hasCell_1 : decode cX1_hasCell 1 = .ok (.ifCond .lt 15, 3) := by decide +kernel
theorem dX1_hasCell_16 : decode cX1_hasCell 16 = .ok (.iconst 0, 1) := by decide +kernel
theorem dX1_hasCell_17 : decode cX1_hasCell 17 = .ok (.ireturn, 1) := by decide +kernel
theorem dX1_hasCell_4 : decode cX1_hasCell 4 = .ok (.iload_n 1, 1) := by decide +kernel
theorem dX1_hasCell_5 : decode cX1_hasCell 5 = .ok (.aload_n 0, 1) := by decide +kernel
theorem dX1_hasCell_6 : decode cX1_hasCell 6 = .ok (.getfield 55, 3) := by decide +kernel
theorem dX1_hasCell_9 : decode cX1_hasCell 9 = .ok (.if_icmp .ge 7, 3) := by decide +kernel
theorem dX1_hasThing_0 : decode cX1_hasThing 0 = .ok (.iload_n 1, 1) := by decide +kernel
theorem dX1_hasThing_1 : decode cX1_hasThing 1 = .ok (.ifCond .lt 15, 3) := by decide +kernel
theorem dX1_hasThing_16 : decode cX1_hasThing 16 = .ok (.iconst 0, 1) := by decide +kernel
theorem dX1_hasThing_17 : decode cX1_hasThing 17 = .ok (.ireturn, 1) := by decide +kernel
theorem dX1_hasThing_4 : decode cX1_hasThing 4 = .ok (.iload_n 1, 1) := by decide +kernel
theorem dX1_hasThing_5 : decode cX1_hasThing 5 = .ok (.aload_n 0, 1) := by decide +kernel
theorem dX1_hasThing_6 : decode cX1_hasThing 6 = .ok (.getfield 74, 3) := by decide +kernel
theorem dX1_hasThing_9 : decode cX1_hasThing 9 = .ok (.if_icmp .ge 7, 3) := by decide +kernel
theorem dX1_hasSitter_0 : decode cX1_hasSitter 0 = .ok (.iload_n 1, 1) := by decide +kernel
theorem dX1_hasSitter_1 : decode cX1_hasSitter 1 = .ok (.ifCond .lt 15, 3) := by decide +kernel
theorem dX1_hasSitter_16 : decode cX1_hasSitter 16 = .ok (.iconst 0, 1) := by decide +kernel
theorem dX1_hasSitter_17 : decode cX1_hasSitter 17 = .ok (.ireturn, 1) := by decide +kernel
theorem dX1_hasSitter_4 : decode cX1_hasSitter 4 = .ok (.iload_n 1, 1) := by decide +kernel
theorem dX1_hasSitter_5 : decode cX1_hasSitter 5 = .ok (.aload_n 0, 1) := by decide +kernel
theorem dX1_hasSitter_6 : decode cX1_hasSitter 6 = .ok (.getfield 80, 3) := by decide +kernel
theorem dX1_hasSitter_9 : decode cX1_hasSitter 9 = .ok (.if_icmp .ge 7, 3) := by decide +kernel
theorem dX6_hasRule_0 : decode cX6_hasRule 0 = .ok (.iload_n 1, 1) := by decide +kernel
theorem dX6_hasRule_1 : decode cX6_hasRule 1 = .ok (.ifCond .lt 15, 3) := by decide +kernel
theorem dX6_hasRule_16 : decode cX6_hasRule 16 = .ok (.iconst 0, 1) := by decide +kernel
theorem dX6_hasRule_17 : decode cX6_hasRule 17 = .ok (.ireturn, 1) := by decide +kernel
theorem dX6_hasRule_4 : decode cX6_hasRule 4 = .ok (.iload_n 1, 1) := by decide +kernel
theorem dX6_hasRule_5 : decode cX6_hasRule 5 = .ok (.aload_n 0, 1) := by decide +kernel
theorem dX6_hasRule_6 : decode cX6_hasRule 6 = .ok (.getfield 24, 3) := by decide +kernel
theorem dX6_hasRule_9 : decode cX6_hasRule 9 = .ok (.if_icmp .ge 7, 3) := by decide +kernel
theorem dX11_isTideHour_0 : decode cX11_isTideHour 0 = .ok (.aload_n 0, 1) := by decide +kernel
theorem dX11_isTideHour_1 : decode cX11_isTideHour 1 = .ok (.getfield 26, 3) := by decide +kernel
theorem dX11_isTideHour_4 : decode cX11_isTideHour 4 = .ok (.invokevirtual 225, 3) := by decide +kernel
theorem dX11_isTideHour_7 : decode cX11_isTideHour 7 = .ok (.ifCond .eq 16, 3) := by decide +kernel
theorem dX11_isTideHour_23 : decode cX11_isTideHour 23 = .ok (.iconst 0, 1) := by decide +kernel
theorem dX11_isTideHour_24 : decode cX11_isTideHour 24 = .ok (.ireturn, 1) := by decide +kernel
theorem dX11_isAskedParty_0 : decode cX11_isAskedParty 0 = .ok (.aload_n 0, 1) := by decide +kernel
theorem dX11_isAskedParty_1 : decode cX11_isAskedParty 1 = .ok (.getfield 26, 3) := by decide +kernel
theorem dX11_isAskedParty_4 : decode cX11_isAskedParty 4 = .ok (.invokevirtual 225, 3) := by decide +kernel
theorem dX11_isAskedParty_7 : decode cX11_isAskedParty 7 = .ok (.ifCond .eq 17, 3) := by decide +kernel
theorem dX11_isAskedParty_24 : decode cX11_isAskedParty 24 = .ok (.iconst 0, 1) := by decide +kernel
theorem dX11_isAskedParty_25 : decode cX11_isAskedParty 25 = .ok (.ireturn, 1) := by decide +kernel
theorem dX11_isWish_0 : decode cX11_isWish 0 = .ok (.aload_n 0, 1) := by decide +kernel
theorem dX11_isWish_1 : decode cX11_isWish 1 = .ok (.getfield 26, 3) := by decide +kernel
theorem dX11_isWish_4 : decode cX11_isWish 4 = .ok (.iload_n 1, 1) := by decide +kernel
theorem dX11_isWish_5 : decode cX11_isWish 5 = .ok (.invokevirtual 130, 3) := by decide +kernel
theorem dX11_isWish_8 : decode cX11_isWish 8 = .ok (.ifCond .eq 15, 3) := by decide +kernel
theorem dX11_isWish_23 : decode cX11_isWish 23 = .ok (.iconst 0, 1) := by decide +kernel
theorem dX11_isWish_24 : decode cX11_isWish 24 = .ok (.ireturn, 1) := by decide +kernel
theorem dX11_isGale_0 : decode cX11_isGale 0 = .ok (.aload_n 0, 1) := by decide +kernel
theorem dX11_isGale_1 : decode cX11_isGale 1 = .ok (.getfield 26, 3) := by decide +kernel
theorem dX11_isGale_4 : decode cX11_isGale 4 = .ok (.iload_n 2, 1) := by decide +kernel
theorem dX11_isGale_5 : decode cX11_isGale 5 = .ok (.invokevirtual 130, 3) := by decide +kernel
theorem dX11_isGale_8 : decode cX11_isGale 8 = .ok (.ifCond .eq 16, 3) := by decide +kernel
theorem dX11_isGale_24 : decode cX11_isGale 24 = .ok (.iconst 0, 1) := by decide +kernel
theorem dX11_isGale_25 : decode cX11_isGale 25 = .ok (.ireturn, 1) := by decide +kernel
theorem dX11_cell_0 : decode cX11_cell 0 = .ok (.aload_n 0, 1) := by decide +kernel
theorem dX11_cell_1 : decode cX11_cell 1 = .ok (.getfield 26, 3) := by decide +kernel
theorem dX11_cell_4 : decode cX11_cell 4 = .ok (.iload_n 1, 1) := by decide +kernel
theorem dX11_cell_5 : decode cX11_cell 5 = .ok (.invokevirtual 116, 3) := by decide +kernel
theorem dX11_cell_8 : decode cX11_cell 8 = .ok (.ifCond .ne 7, 3) := by decide +kernel
theorem dX11_cell_11 : decode cX11_cell 11 = .ok (.sipush (-1000), 3) := by decide +kernel
theorem dX11_cell_14 : decode cX11_cell 14 = .ok (.ireturn, 1) := by decide +kernel
theorem dX11_thing_0 : decode cX11_thing 0 = .ok (.aload_n 0, 1) := by decide +kernel
theorem dX11_thing_1 : decode cX11_thing 1 = .ok (.getfield 26, 3) := by decide +kernel
theorem dX11_thing_4 : decode cX11_thing 4 = .ok (.iload_n 1, 1) := by decide +kernel
theorem dX11_thing_5 : decode cX11_thing 5 = .ok (.invokevirtual 130, 3) := by decide +kernel
theorem dX11_thing_8 : decode cX11_thing 8 = .ok (.ifCond .ne 6, 3) := by decide +kernel
theorem dX11_thing_11 : decode cX11_thing 11 = .ok (.bipush (-2), 2) := by decide +kernel
theorem dX11_thing_13 : decode cX11_thing 13 = .ok (.ireturn, 1) := by decide +kernel
theorem dX11_rule_0 : decode cX11_rule 0 = .ok (.aload_n 0, 1) := by decide +kernel
theorem dX11_rule_1 : decode cX11_rule 1 = .ok (.getfield 26, 3) := by decide +kernel
theorem dX11_rule_4 : decode cX11_rule 4 = .ok (.getfield 142, 3) := by decide +kernel
theorem dX11_rule_7 : decode cX11_rule 7 = .ok (.astore_n 3, 1) := by decide +kernel
theorem dX11_rule_8 : decode cX11_rule 8 = .ok (.aload_n 3, 1) := by decide +kernel
theorem dX11_rule_9 : decode cX11_rule 9 = .ok (.iload_n 1, 1) := by decide +kernel
theorem dX11_rule_10 : decode cX11_rule 10 = .ok (.invokevirtual 146, 3) := by decide +kernel
theorem dX11_rule_13 : decode cX11_rule 13 = .ok (.ifCond .ne 6, 3) := by decide +kernel
theorem dX11_rule_16 : decode cX11_rule 16 = .ok (.bipush (-2), 2) := by decide +kernel
theorem dX11_rule_18 : decode cX11_rule 18 = .ok (.ireturn, 1) := by decide +kernel
theorem dX11_sitter_0 : decode cX11_sitter 0 = .ok (.aload_n 0, 1) := by decide +kernel
theorem dX11_sitter_1 : decode cX11_sitter 1 = .ok (.getfield 26, 3) := by decide +kernel
theorem dX11_sitter_4 : decode cX11_sitter 4 = .ok (.iload_n 1, 1) := by decide +kernel
theorem dX11_sitter_5 : decode cX11_sitter 5 = .ok (.invokevirtual 163, 3) := by decide +kernel
theorem dX11_sitter_8 : decode cX11_sitter 8 = .ok (.ifCond .eq 15, 3) := by decide +kernel
theorem dX11_sitter_23 : decode cX11_sitter 23 = .ok (.bipush (-2), 2) := by decide +kernel
theorem dX11_sitter_25 : decode cX11_sitter 25 = .ok (.ireturn, 1) := by decide +kernel
theorem dX11_phase_0 : decode cX11_phase 0 = .ok (.aload_n 0, 1) := by decide +kernel
theorem dX11_phase_1 : decode cX11_phase 1 = .ok (.iload_n 1, 1) := by decide +kernel
theorem dX11_phase_2 : decode cX11_phase 2 = .ok (.invokevirtual 219, 3) := by decide +kernel
theorem dX11_phase_5 : decode cX11_phase 5 = .ok (.ifCond .eq 17, 3) := by decide +kernel
theorem dX11_phase_22 : decode cX11_phase 22 = .ok (.bipush (-2), 2) := by decide +kernel
theorem dX11_phase_24 : decode cX11_phase 24 = .ok (.ireturn, 1) := by decide +kernel
theorem dX11_next_0 : decode cX11_next 0 = .ok (.aload_n 0, 1) := by decide +kernel
theorem dX11_next_1 : decode cX11_next 1 = .ok (.getfield 26, 3) := by decide +kernel
theorem dX11_next_4 : decode cX11_next 4 = .ok (.invokevirtual 225, 3) := by decide +kernel
theorem dX11_next_7 : decode cX11_next 7 = .ok (.ifCond .eq 19, 3) := by decide +kernel
theorem dX11_next_26 : decode cX11_next 26 = .ok (.bipush (-2), 2) := by decide +kernel
theorem dX11_next_28 : decode cX11_next 28 = .ok (.ireturn, 1) := by decide +kernel
theorem dX11_lasts_0 : decode cX11_lasts 0 = .ok (.aload_n 0, 1) := by decide +kernel
theorem dX11_lasts_1 : decode cX11_lasts 1 = .ok (.iload_n 1, 1) := by decide +kernel
theorem dX11_lasts_2 : decode cX11_lasts 2 = .ok (.invokevirtual 219, 3) := by decide +kernel
theorem dX11_lasts_5 : decode cX11_lasts 5 = .ok (.ifCond .eq 17, 3) := by decide +kernel
theorem dX11_lasts_22 : decode cX11_lasts 22 = .ok (.bipush (-2), 2) := by decide +kernel
theorem dX11_lasts_24 : decode cX11_lasts 24 = .ok (.ireturn, 1) := by decide +kernel
theorem dX11_slacks_0 : decode cX11_slacks 0 = .ok (.aload_n 0, 1) := by decide +kernel
theorem dX11_slacks_1 : decode cX11_slacks 1 = .ok (.iload_n 1, 1) := by decide +kernel
theorem dX11_slacks_2 : decode cX11_slacks 2 = .ok (.invokevirtual 219, 3) := by decide +kernel
theorem dX11_slacks_5 : decode cX11_slacks 5 = .ok (.ifCond .eq 17, 3) := by decide +kernel
theorem dX11_slacks_22 : decode cX11_slacks 22 = .ok (.bipush (-2), 2) := by decide +kernel
theorem dX11_slacks_24 : decode cX11_slacks 24 = .ok (.ireturn, 1) := by decide +kernel
theorem dX11_drifts_0 : decode cX11_drifts 0 = .ok (.aload_n 0, 1) := by decide +kernel
theorem dX11_drifts_1 : decode cX11_drifts 1 = .ok (.getfield 26, 3) := by decide +kernel
theorem dX11_drifts_4 : decode cX11_drifts 4 = .ok (.iload_n 1, 1) := by decide +kernel
theorem dX11_drifts_5 : decode cX11_drifts 5 = .ok (.invokevirtual 116, 3) := by decide +kernel
theorem dX11_drifts_8 : decode cX11_drifts 8 = .ok (.ifCond .eq 11, 3) := by decide +kernel
theorem dX11_drifts_19 : decode cX11_drifts 19 = .ok (.bipush (-2), 2) := by decide +kernel
theorem dX11_drifts_21 : decode cX11_drifts 21 = .ok (.ireturn, 1) := by decide +kernel
theorem dX11_at_0 : decode cX11_at 0 = .ok (.aload_n 0, 1) := by decide +kernel
theorem dX11_at_1 : decode cX11_at 1 = .ok (.getfield 26, 3) := by decide +kernel
theorem dX11_at_4 : decode cX11_at 4 = .ok (.iload_n 1, 1) := by decide +kernel
theorem dX11_at_5 : decode cX11_at 5 = .ok (.invokevirtual 130, 3) := by decide +kernel
theorem dX11_at_8 : decode cX11_at 8 = .ok (.ifCond .eq 13, 3) := by decide +kernel
theorem dX11_at_21 : decode cX11_at 21 = .ok (.bipush (-2), 2) := by decide +kernel
theorem dX11_at_23 : decode cX11_at 23 = .ok (.ireturn, 1) := by decide +kernel
theorem dX11_comes_0 : decode cX11_comes 0 = .ok (.aload_n 0, 1) := by decide +kernel
theorem dX11_comes_1 : decode cX11_comes 1 = .ok (.getfield 26, 3) := by decide +kernel
theorem dX11_comes_4 : decode cX11_comes 4 = .ok (.iload_n 1, 1) := by decide +kernel
theorem dX11_comes_5 : decode cX11_comes 5 = .ok (.invokevirtual 130, 3) := by decide +kernel
theorem dX11_comes_8 : decode cX11_comes 8 = .ok (.ifCond .eq 15, 3) := by decide +kernel
theorem dX11_comes_23 : decode cX11_comes 23 = .ok (.bipush (-2), 2) := by decide +kernel
theorem dX11_comes_25 : decode cX11_comes 25 = .ok (.ireturn, 1) := by decide +kernel
theorem dX11_beach_0 : decode cX11_beach 0 = .ok (.aload_n 0, 1) := by decide +kernel
theorem dX11_beach_1 : decode cX11_beach 1 = .ok (.getfield 26, 3) := by decide +kernel
theorem dX11_beach_4 : decode cX11_beach 4 = .ok (.iload_n 1, 1) := by decide +kernel
theorem dX11_beach_5 : decode cX11_beach 5 = .ok (.invokevirtual 130, 3) := by decide +kernel
theorem dX11_beach_8 : decode cX11_beach 8 = .ok (.ifCond .eq 15, 3) := by decide +kernel
theorem dX11_beach_23 : decode cX11_beach 23 = .ok (.bipush (-2), 2) := by decide +kernel
theorem dX11_beach_25 : decode cX11_beach 25 = .ok (.ireturn, 1) := by decide +kernel
theorem dX11_whose_0 : decode cX11_whose 0 = .ok (.aload_n 0, 1) := by decide +kernel
theorem dX11_whose_1 : decode cX11_whose 1 = .ok (.getfield 26, 3) := by decide +kernel
theorem dX11_whose_4 : decode cX11_whose 4 = .ok (.iload_n 1, 1) := by decide +kernel
theorem dX11_whose_5 : decode cX11_whose 5 = .ok (.invokevirtual 130, 3) := by decide +kernel
theorem dX11_whose_8 : decode cX11_whose 8 = .ok (.ifCond .eq 16, 3) := by decide +kernel
theorem dX11_whose_24 : decode cX11_whose 24 = .ok (.bipush (-2), 2) := by decide +kernel
theorem dX11_whose_26 : decode cX11_whose 26 = .ok (.ireturn, 1) := by decide +kernel
theorem dX11_has_0 : decode cX11_has 0 = .ok (.aload_n 0, 1) := by decide +kernel
theorem dX11_has_1 : decode cX11_has 1 = .ok (.iload_n 1, 1) := by decide +kernel
theorem dX11_has_2 : decode cX11_has 2 = .ok (.invokevirtual 264, 3) := by decide +kernel
theorem dX11_has_5 : decode cX11_has 5 = .ok (.ifCond .eq 16, 3) := by decide +kernel
theorem dX11_has_21 : decode cX11_has 21 = .ok (.bipush (-2), 2) := by decide +kernel
theorem dX11_has_23 : decode cX11_has 23 = .ok (.ireturn, 1) := by decide +kernel
theorem dX11_line_0 : decode cX11_line 0 = .ok (.aload_n 0, 1) := by decide +kernel
theorem dX11_line_1 : decode cX11_line 1 = .ok (.getfield 26, 3) := by decide +kernel
theorem dX11_line_4 : decode cX11_line 4 = .ok (.iload_n 1, 1) := by decide +kernel
theorem dX11_line_5 : decode cX11_line 5 = .ok (.invokevirtual 116, 3) := by decide +kernel
theorem dX11_line_8 : decode cX11_line 8 = .ok (.ifCond .eq 14, 3) := by decide +kernel
theorem dX11_line_22 : decode cX11_line 22 = .ok (.bipush (-2), 2) := by decide +kernel
theorem dX11_line_24 : decode cX11_line 24 = .ok (.ireturn, 1) := by decide +kernel
theorem dX11_richest_0 : decode cX11_richest 0 = .ok (.aload_n 0, 1) := by decide +kernel
theorem dX11_richest_1 : decode cX11_richest 1 = .ok (.getfield 26, 3) := by decide +kernel
theorem dX11_richest_4 : decode cX11_richest 4 = .ok (.invokevirtual 225, 3) := by decide +kernel
theorem dX11_richest_7 : decode cX11_richest 7 = .ok (.ifCond .ne 6, 3) := by decide +kernel
theorem dX11_richest_10 : decode cX11_richest 10 = .ok (.bipush (-2), 2) := by decide +kernel
theorem dX11_richest_12 : decode cX11_richest 12 = .ok (.ireturn, 1) := by decide +kernel
theorem dX11_meet_0 : decode cX11_meet 0 = .ok (.aload_n 0, 1) := by decide +kernel
theorem dX11_meet_1 : decode cX11_meet 1 = .ok (.getfield 26, 3) := by decide +kernel
theorem dX11_meet_4 : decode cX11_meet 4 = .ok (.iload_n 1, 1) := by decide +kernel
theorem dX11_meet_5 : decode cX11_meet 5 = .ok (.invokevirtual 130, 3) := by decide +kernel
theorem dX11_meet_8 : decode cX11_meet 8 = .ok (.ifCond .eq 19, 3) := by decide +kernel
theorem dX11_meet_27 : decode cX11_meet 27 = .ok (.bipush (-2), 2) := by decide +kernel
theorem dX11_meet_29 : decode cX11_meet 29 = .ok (.ireturn, 1) := by decide +kernel
theorem dX11_argued_0 : decode cX11_argued 0 = .ok (.aload_n 0, 1) := by decide +kernel
theorem dX11_argued_1 : decode cX11_argued 1 = .ok (.getfield 26, 3) := by decide +kernel
theorem dX11_argued_4 : decode cX11_argued 4 = .ok (.invokevirtual 225, 3) := by decide +kernel
theorem dX11_argued_7 : decode cX11_argued 7 = .ok (.ifCond .eq 13, 3) := by decide +kernel
theorem dX11_argued_20 : decode cX11_argued 20 = .ok (.bipush (-2), 2) := by decide +kernel
theorem dX11_argued_22 : decode cX11_argued 22 = .ok (.ireturn, 1) := by decide +kernel
theorem dX11_gaps_0 : decode cX11_gaps 0 = .ok (.aload_n 0, 1) := by decide +kernel
theorem dX11_gaps_1 : decode cX11_gaps 1 = .ok (.getfield 26, 3) := by decide +kernel
theorem dX11_gaps_4 : decode cX11_gaps 4 = .ok (.invokevirtual 225, 3) := by decide +kernel
theorem dX11_gaps_7 : decode cX11_gaps 7 = .ok (.ifCond .eq 10, 3) := by decide +kernel
theorem dX11_gaps_17 : decode cX11_gaps 17 = .ok (.bipush (-2), 2) := by decide +kernel
theorem dX11_gaps_19 : decode cX11_gaps 19 = .ok (.ireturn, 1) := by decide +kernel
theorem dX11_idle_0 : decode cX11_idle 0 = .ok (.aload_n 0, 1) := by decide +kernel
theorem dX11_idle_1 : decode cX11_idle 1 = .ok (.getfield 26, 3) := by decide +kernel
theorem dX11_idle_4 : decode cX11_idle 4 = .ok (.invokevirtual 225, 3) := by decide +kernel
theorem dX11_idle_7 : decode cX11_idle 7 = .ok (.ifCond .ne 6, 3) := by decide +kernel
theorem dX11_idle_10 : decode cX11_idle 10 = .ok (.bipush (-2), 2) := by decide +kernel
theorem dX11_idle_12 : decode cX11_idle 12 = .ok (.ireturn, 1) := by decide +kernel
theorem dX11_without_0 : decode cX11_without 0 = .ok (.aload_n 0, 1) := by decide +kernel
theorem dX11_without_1 : decode cX11_without 1 = .ok (.getfield 26, 3) := by decide +kernel
theorem dX11_without_4 : decode cX11_without 4 = .ok (.getfield 142, 3) := by decide +kernel
theorem dX11_without_7 : decode cX11_without 7 = .ok (.iload_n 1, 1) := by decide +kernel
theorem dX11_without_8 : decode cX11_without 8 = .ok (.invokevirtual 146, 3) := by decide +kernel
theorem dX11_without_11 : decode cX11_without 11 = .ok (.ifCond .eq 11, 3) := by decide +kernel
theorem dX11_without_22 : decode cX11_without 22 = .ok (.bipush (-2), 2) := by decide +kernel
theorem dX11_without_24 : decode cX11_without 24 = .ok (.ireturn, 1) := by decide +kernel
theorem dX11_strike_0 : decode cX11_strike 0 = .ok (.aload_n 0, 1) := by decide +kernel
theorem dX11_strike_1 : decode cX11_strike 1 = .ok (.iload_n 1, 1) := by decide +kernel
theorem dX11_strike_2 : decode cX11_strike 2 = .ok (.invokevirtual 264, 3) := by decide +kernel
theorem dX11_strike_5 : decode cX11_strike 5 = .ok (.ifCond .ne 6, 3) := by decide +kernel
theorem dX11_strike_8 : decode cX11_strike 8 = .ok (.bipush (-2), 2) := by decide +kernel
theorem dX11_strike_10 : decode cX11_strike 10 = .ok (.ireturn, 1) := by decide +kernel
theorem dX11_clock_0 : decode cX11_clock 0 = .ok (.aload_n 0, 1) := by decide +kernel
theorem dX11_clock_1 : decode cX11_clock 1 = .ok (.iload_n 1, 1) := by decide +kernel
theorem dX11_clock_2 : decode cX11_clock 2 = .ok (.invokevirtual 264, 3) := by decide +kernel
theorem dX11_clock_5 : decode cX11_clock 5 = .ok (.ifCond .eq 15, 3) := by decide +kernel
theorem dX11_clock_20 : decode cX11_clock 20 = .ok (.bipush (-2), 2) := by decide +kernel
theorem dX11_clock_22 : decode cX11_clock 22 = .ok (.ireturn, 1) := by decide +kernel
theorem dX11_set_0 : decode cX11_set 0 = .ok (.aload_n 0, 1) := by decide +kernel
theorem dX11_set_1 : decode cX11_set 1 = .ok (.iload_n 1, 1) := by decide +kernel
theorem dX11_set_2 : decode cX11_set 2 = .ok (.invokevirtual 264, 3) := by decide +kernel
theorem dX11_set_5 : decode cX11_set 5 = .ok (.ifCond .ne 7, 3) := by decide +kernel
theorem dX11_set_8 : decode cX11_set 8 = .ok (.sipush (-1000), 3) := by decide +kernel
theorem dX11_set_11 : decode cX11_set 11 = .ok (.ireturn, 1) := by decide +kernel
theorem dX11_pushes_0 : decode cX11_pushes 0 = .ok (.aload_n 0, 1) := by decide +kernel
theorem dX11_pushes_1 : decode cX11_pushes 1 = .ok (.iload_n 1, 1) := by decide +kernel
theorem dX11_pushes_2 : decode cX11_pushes 2 = .ok (.iload_n 2, 1) := by decide +kernel
theorem dX11_pushes_3 : decode cX11_pushes 3 = .ok (.invokevirtual 282, 3) := by decide +kernel
theorem dX11_pushes_6 : decode cX11_pushes 6 = .ok (.ifCond .eq 16, 3) := by decide +kernel
theorem dX11_pushes_22 : decode cX11_pushes 22 = .ok (.bipush (-2), 2) := by decide +kernel
theorem dX11_pushes_24 : decode cX11_pushes 24 = .ok (.ireturn, 1) := by decide +kernel
theorem dX11_push_0 : decode cX11_push 0 = .ok (.aload_n 0, 1) := by decide +kernel
theorem dX11_push_1 : decode cX11_push 1 = .ok (.iload_n 1, 1) := by decide +kernel
theorem dX11_push_2 : decode cX11_push 2 = .ok (.iload_n 2, 1) := by decide +kernel
theorem dX11_push_3 : decode cX11_push 3 = .ok (.invokevirtual 282, 3) := by decide +kernel
theorem dX11_push_6 : decode cX11_push 6 = .ok (.ifCond .ne 6, 3) := by decide +kernel
theorem dX11_push_9 : decode cX11_push 9 = .ok (.bipush (-2), 2) := by decide +kernel
theorem dX11_push_11 : decode cX11_push 11 = .ok (.ireturn, 1) := by decide +kernel
theorem dX11_way_0 : decode cX11_way 0 = .ok (.aload_n 0, 1) := by decide +kernel
theorem dX11_way_1 : decode cX11_way 1 = .ok (.iload_n 1, 1) := by decide +kernel
theorem dX11_way_2 : decode cX11_way 2 = .ok (.iload_n 2, 1) := by decide +kernel
theorem dX11_way_3 : decode cX11_way 3 = .ok (.invokevirtual 282, 3) := by decide +kernel
theorem dX11_way_6 : decode cX11_way 6 = .ok (.ifCond .ne 6, 3) := by decide +kernel
theorem dX11_way_9 : decode cX11_way 9 = .ok (.bipush (-2), 2) := by decide +kernel
theorem dX11_way_11 : decode cX11_way 11 = .ok (.ireturn, 1) := by decide +kernel
theorem dX11_soonest_0 : decode cX11_soonest 0 = .ok (.aload_n 0, 1) := by decide +kernel
theorem dX11_soonest_1 : decode cX11_soonest 1 = .ok (.iload_n 1, 1) := by decide +kernel
theorem dX11_soonest_2 : decode cX11_soonest 2 = .ok (.iload_n 2, 1) := by decide +kernel
theorem dX11_soonest_3 : decode cX11_soonest 3 = .ok (.invokevirtual 282, 3) := by decide +kernel
theorem dX11_soonest_6 : decode cX11_soonest 6 = .ok (.ifCond .eq 15, 3) := by decide +kernel
theorem dX11_soonest_21 : decode cX11_soonest 21 = .ok (.bipush (-2), 2) := by decide +kernel
theorem dX11_soonest_23 : decode cX11_soonest 23 = .ok (.ireturn, 1) := by decide +kernel
theorem dX11_ward_0 : decode cX11_ward 0 = .ok (.aload_n 0, 1) := by decide +kernel
theorem dX11_ward_1 : decode cX11_ward 1 = .ok (.iload_n 1, 1) := by decide +kernel
theorem dX11_ward_2 : decode cX11_ward 2 = .ok (.iload_n 2, 1) := by decide +kernel
theorem dX11_ward_3 : decode cX11_ward 3 = .ok (.invokevirtual 282, 3) := by decide +kernel
theorem dX11_ward_6 : decode cX11_ward 6 = .ok (.ifCond .eq 16, 3) := by decide +kernel
theorem dX11_ward_22 : decode cX11_ward 22 = .ok (.bipush (-2), 2) := by decide +kernel
theorem dX11_ward_24 : decode cX11_ward 24 = .ok (.ireturn, 1) := by decide +kernel
theorem dX11_all_0 : decode cX11_all 0 = .ok (.aload_n 0, 1) := by decide +kernel
theorem dX11_all_1 : decode cX11_all 1 = .ok (.iload_n 1, 1) := by decide +kernel
theorem dX11_all_2 : decode cX11_all 2 = .ok (.invokevirtual 264, 3) := by decide +kernel
theorem dX11_all_5 : decode cX11_all 5 = .ok (.ifCond .eq 14, 3) := by decide +kernel
theorem dX11_all_19 : decode cX11_all 19 = .ok (.bipush (-2), 2) := by decide +kernel
theorem dX11_all_21 : decode cX11_all 21 = .ok (.ireturn, 1) := by decide +kernel
theorem dX11_eddy_0 : decode cX11_eddy 0 = .ok (.aload_n 0, 1) := by decide +kernel
theorem dX11_eddy_1 : decode cX11_eddy 1 = .ok (.getfield 26, 3) := by decide +kernel
theorem dX11_eddy_4 : decode cX11_eddy 4 = .ok (.iload_n 1, 1) := by decide +kernel
theorem dX11_eddy_5 : decode cX11_eddy 5 = .ok (.invokevirtual 116, 3) := by decide +kernel
theorem dX11_eddy_8 : decode cX11_eddy 8 = .ok (.ifCond .eq 14, 3) := by decide +kernel
theorem dX11_eddy_22 : decode cX11_eddy 22 = .ok (.bipush (-2), 2) := by decide +kernel
theorem dX11_eddy_24 : decode cX11_eddy 24 = .ok (.ireturn, 1) := by decide +kernel
theorem dX11_stuck_0 : decode cX11_stuck 0 = .ok (.aload_n 0, 1) := by decide +kernel
theorem dX11_stuck_1 : decode cX11_stuck 1 = .ok (.getfield 26, 3) := by decide +kernel
theorem dX11_stuck_4 : decode cX11_stuck 4 = .ok (.invokevirtual 225, 3) := by decide +kernel
theorem dX11_stuck_7 : decode cX11_stuck 7 = .ok (.ifCond .eq 13, 3) := by decide +kernel
theorem dX11_stuck_20 : decode cX11_stuck 20 = .ok (.bipush (-2), 2) := by decide +kernel
theorem dX11_stuck_22 : decode cX11_stuck 22 = .ok (.ireturn, 1) := by decide +kernel
theorem dX11_drop_0 : decode cX11_drop 0 = .ok (.aload_n 0, 1) := by decide +kernel
theorem dX11_drop_1 : decode cX11_drop 1 = .ok (.iload_n 1, 1) := by decide +kernel
theorem dX11_drop_2 : decode cX11_drop 2 = .ok (.invokevirtual 264, 3) := by decide +kernel
theorem dX11_drop_5 : decode cX11_drop 5 = .ok (.ifCond .eq 12, 3) := by decide +kernel
theorem dX11_drop_17 : decode cX11_drop 17 = .ok (.bipush (-2), 2) := by decide +kernel
theorem dX11_drop_19 : decode cX11_drop 19 = .ok (.ireturn, 1) := by decide +kernel
theorem dX11_drops_0 : decode cX11_drops 0 = .ok (.aload_n 0, 1) := by decide +kernel
theorem dX11_drops_1 : decode cX11_drops 1 = .ok (.iload_n 1, 1) := by decide +kernel
theorem dX11_drops_2 : decode cX11_drops 2 = .ok (.invokevirtual 264, 3) := by decide +kernel
theorem dX11_drops_5 : decode cX11_drops 5 = .ok (.ifCond .eq 14, 3) := by decide +kernel
theorem dX11_drops_19 : decode cX11_drops 19 = .ok (.bipush (-2), 2) := by decide +kernel
theorem dX11_drops_21 : decode cX11_drops 21 = .ok (.ireturn, 1) := by decide +kernel
theorem dX11_origins_0 : decode cX11_origins 0 = .ok (.aload_n 0, 1) := by decide +kernel
theorem dX11_origins_1 : decode cX11_origins 1 = .ok (.getfield 26, 3) := by decide +kernel
theorem dX11_origins_4 : decode cX11_origins 4 = .ok (.iload_n 3, 1) := by decide +kernel
theorem dX11_origins_5 : decode cX11_origins 5 = .ok (.invokevirtual 116, 3) := by decide +kernel
theorem dX11_origins_8 : decode cX11_origins 8 = .ok (.ifCond .eq 21, 3) := by decide +kernel
theorem dX11_origins_29 : decode cX11_origins 29 = .ok (.bipush (-2), 2) := by decide +kernel
theorem dX11_origins_31 : decode cX11_origins 31 = .ok (.ireturn, 1) := by decide +kernel
theorem dX11_when_0 : decode cX11_when 0 = .ok (.aload_n 0, 1) := by decide +kernel
theorem dX11_when_1 : decode cX11_when 1 = .ok (.getfield 26, 3) := by decide +kernel
theorem dX11_when_4 : decode cX11_when 4 = .ok (.iload_n 1, 1) := by decide +kernel
theorem dX11_when_5 : decode cX11_when 5 = .ok (.invokevirtual 116, 3) := by decide +kernel
theorem dX11_when_8 : decode cX11_when 8 = .ok (.ifCond .eq 24, 3) := by decide +kernel
theorem dX11_when_32 : decode cX11_when 32 = .ok (.bipush (-2), 2) := by decide +kernel
theorem dX11_when_34 : decode cX11_when 34 = .ok (.ireturn, 1) := by decide +kernel
theorem dX11_share_0 : decode cX11_share 0 = .ok (.aload_n 0, 1) := by decide +kernel
theorem dX11_share_1 : decode cX11_share 1 = .ok (.getfield 26, 3) := by decide +kernel
theorem dX11_share_4 : decode cX11_share 4 = .ok (.iload_n 1, 1) := by decide +kernel
theorem dX11_share_5 : decode cX11_share 5 = .ok (.invokevirtual 163, 3) := by decide +kernel
theorem dX11_share_8 : decode cX11_share 8 = .ok (.ifCond .ne 6, 3) := by decide +kernel
theorem dX11_share_11 : decode cX11_share 11 = .ok (.bipush (-2), 2) := by decide +kernel
theorem dX11_share_13 : decode cX11_share 13 = .ok (.ireturn, 1) := by decide +kernel
theorem dX11_seat_0 : decode cX11_seat 0 = .ok (.aload_n 0, 1) := by decide +kernel
theorem dX11_seat_1 : decode cX11_seat 1 = .ok (.getfield 26, 3) := by decide +kernel
theorem dX11_seat_4 : decode cX11_seat 4 = .ok (.iload_n 1, 1) := by decide +kernel
theorem dX11_seat_5 : decode cX11_seat 5 = .ok (.invokevirtual 163, 3) := by decide +kernel
theorem dX11_seat_8 : decode cX11_seat 8 = .ok (.ifCond .eq 14, 3) := by decide +kernel
theorem dX11_seat_22 : decode cX11_seat 22 = .ok (.bipush (-2), 2) := by decide +kernel
theorem dX11_seat_24 : decode cX11_seat 24 = .ok (.ireturn, 1) := by decide +kernel
theorem dX11_seats_0 : decode cX11_seats 0 = .ok (.aload_n 0, 1) := by decide +kernel
theorem dX11_seats_1 : decode cX11_seats 1 = .ok (.getfield 26, 3) := by decide +kernel
theorem dX11_seats_4 : decode cX11_seats 4 = .ok (.iload_n 1, 1) := by decide +kernel
theorem dX11_seats_5 : decode cX11_seats 5 = .ok (.invokevirtual 163, 3) := by decide +kernel
theorem dX11_seats_8 : decode cX11_seats 8 = .ok (.ifCond .eq 14, 3) := by decide +kernel
theorem dX11_seats_22 : decode cX11_seats 22 = .ok (.bipush (-2), 2) := by decide +kernel
theorem dX11_seats_24 : decode cX11_seats 24 = .ok (.ireturn, 1) := by decide +kernel
theorem dX11_rests_0 : decode cX11_rests 0 = .ok (.aload_n 0, 1) := by decide +kernel
theorem dX11_rests_1 : decode cX11_rests 1 = .ok (.getfield 26, 3) := by decide +kernel
theorem dX11_rests_4 : decode cX11_rests 4 = .ok (.invokevirtual 225, 3) := by decide +kernel
theorem dX11_rests_7 : decode cX11_rests 7 = .ok (.ifCond .eq 13, 3) := by decide +kernel
theorem dX11_rests_20 : decode cX11_rests 20 = .ok (.bipush (-2), 2) := by decide +kernel
theorem dX11_rests_22 : decode cX11_rests 22 = .ok (.ireturn, 1) := by decide +kernel
theorem dX11_rest_0 : decode cX11_rest 0 = .ok (.aload_n 0, 1) := by decide +kernel
theorem dX11_rest_1 : decode cX11_rest 1 = .ok (.getfield 26, 3) := by decide +kernel
theorem dX11_rest_4 : decode cX11_rest 4 = .ok (.iload_n 1, 1) := by decide +kernel
theorem dX11_rest_5 : decode cX11_rest 5 = .ok (.invokevirtual 163, 3) := by decide +kernel
theorem dX11_rest_8 : decode cX11_rest 8 = .ok (.ifCond .eq 14, 3) := by decide +kernel
theorem dX11_rest_22 : decode cX11_rest 22 = .ok (.bipush (-2), 2) := by decide +kernel
theorem dX11_rest_24 : decode cX11_rest 24 = .ok (.ireturn, 1) := by decide +kernel
theorem dX11_sit_0 : decode cX11_sit 0 = .ok (.aload_n 0, 1) := by decide +kernel
theorem dX11_sit_1 : decode cX11_sit 1 = .ok (.getfield 26, 3) := by decide +kernel
theorem dX11_sit_4 : decode cX11_sit 4 = .ok (.iload_n 1, 1) := by decide +kernel
theorem dX11_sit_5 : decode cX11_sit 5 = .ok (.invokevirtual 163, 3) := by decide +kernel
theorem dX11_sit_8 : decode cX11_sit 8 = .ok (.ifCond .eq 14, 3) := by decide +kernel
theorem dX11_sit_22 : decode cX11_sit 22 = .ok (.bipush (-2), 2) := by decide +kernel
theorem dX11_sit_24 : decode cX11_sit 24 = .ok (.ireturn, 1) := by decide +kernel
theorem dX11_shove_0 : decode cX11_shove 0 = .ok (.aload_n 0, 1) := by decide +kernel
theorem dX11_shove_1 : decode cX11_shove 1 = .ok (.getfield 26, 3) := by decide +kernel
theorem dX11_shove_4 : decode cX11_shove 4 = .ok (.iload_n 1, 1) := by decide +kernel
theorem dX11_shove_5 : decode cX11_shove 5 = .ok (.invokevirtual 130, 3) := by decide +kernel
theorem dX11_shove_8 : decode cX11_shove 8 = .ok (.ifCond .eq 21, 3) := by decide +kernel
theorem dX11_shove_29 : decode cX11_shove 29 = .ok (.bipush (-2), 2) := by decide +kernel
theorem dX11_shove_31 : decode cX11_shove 31 = .ok (.ireturn, 1) := by decide +kernel
theorem dX11_undo_0 : decode cX11_undo 0 = .ok (.aload_n 0, 1) := by decide +kernel
theorem dX11_undo_1 : decode cX11_undo 1 = .ok (.getfield 26, 3) := by decide +kernel
theorem dX11_undo_4 : decode cX11_undo 4 = .ok (.invokevirtual 225, 3) := by decide +kernel
theorem dX11_undo_7 : decode cX11_undo 7 = .ok (.ifCond .ne 6, 3) := by decide +kernel
theorem dX11_undo_10 : decode cX11_undo 10 = .ok (.bipush (-2), 2) := by decide +kernel
theorem dX11_undo_12 : decode cX11_undo 12 = .ok (.ireturn, 1) := by decide +kernel
theorem dX11_anew_0 : decode cX11_anew 0 = .ok (.aload_n 0, 1) := by decide +kernel
theorem dX11_anew_1 : decode cX11_anew 1 = .ok (.getfield 26, 3) := by decide +kernel
theorem dX11_anew_4 : decode cX11_anew 4 = .ok (.invokevirtual 225, 3) := by decide +kernel
theorem dX11_anew_7 : decode cX11_anew 7 = .ok (.ifCond .ne 6, 3) := by decide +kernel
theorem dX11_anew_10 : decode cX11_anew 10 = .ok (.bipush (-2), 2) := by decide +kernel
theorem dX11_anew_12 : decode cX11_anew 12 = .ok (.ireturn, 1) := by decide +kernel
theorem dX11_rate_0 : decode cX11_rate 0 = .ok (.aload_n 0, 1) := by decide +kernel
theorem dX11_rate_1 : decode cX11_rate 1 = .ok (.getfield 26, 3) := by decide +kernel
theorem dX11_rate_4 : decode cX11_rate 4 = .ok (.iload_n 1, 1) := by decide +kernel
theorem dX11_rate_5 : decode cX11_rate 5 = .ok (.invokevirtual 130, 3) := by decide +kernel
theorem dX11_rate_8 : decode cX11_rate 8 = .ok (.ifCond .eq 13, 3) := by decide +kernel
theorem dX11_rate_21 : decode cX11_rate 21 = .ok (.bipush (-2), 2) := by decide +kernel
theorem dX11_rate_23 : decode cX11_rate 23 = .ok (.ireturn, 1) := by decide +kernel
theorem dX11_drawn_0 : decode cX11_drawn 0 = .ok (.aload_n 0, 1) := by decide +kernel
theorem dX11_drawn_1 : decode cX11_drawn 1 = .ok (.iload_n 1, 1) := by decide +kernel
theorem dX11_drawn_2 : decode cX11_drawn 2 = .ok (.iload_n 2, 1) := by decide +kernel
theorem dX11_drawn_3 : decode cX11_drawn 3 = .ok (.invokevirtual 368, 3) := by decide +kernel
theorem dX11_drawn_6 : decode cX11_drawn 6 = .ok (.ifCond .eq 11, 3) := by decide +kernel
theorem dX11_drawn_17 : decode cX11_drawn 17 = .ok (.bipush (-2), 2) := by decide +kernel
theorem dX11_drawn_19 : decode cX11_drawn 19 = .ok (.ireturn, 1) := by decide +kernel
theorem dX11_luck_0 : decode cX11_luck 0 = .ok (.aload_n 0, 1) := by decide +kernel
theorem dX11_luck_1 : decode cX11_luck 1 = .ok (.iload_n 1, 1) := by decide +kernel
theorem dX11_luck_2 : decode cX11_luck 2 = .ok (.iload_n 3, 1) := by decide +kernel
theorem dX11_luck_3 : decode cX11_luck 3 = .ok (.invokevirtual 368, 3) := by decide +kernel
theorem dX11_luck_6 : decode cX11_luck 6 = .ok (.ifCond .eq 19, 3) := by decide +kernel
theorem dX11_luck_25 : decode cX11_luck 25 = .ok (.bipush (-2), 2) := by decide +kernel
theorem dX11_luck_27 : decode cX11_luck 27 = .ok (.ireturn, 1) := by decide +kernel
theorem dX11_waits_0 : decode cX11_waits 0 = .ok (.aload_n 0, 1) := by decide +kernel
theorem dX11_waits_1 : decode cX11_waits 1 = .ok (.iload_n 1, 1) := by decide +kernel
theorem dX11_waits_2 : decode cX11_waits 2 = .ok (.iload_n 3, 1) := by decide +kernel
theorem dX11_waits_3 : decode cX11_waits 3 = .ok (.invokevirtual 368, 3) := by decide +kernel
theorem dX11_waits_6 : decode cX11_waits 6 = .ok (.ifCond .eq 10, 3) := by decide +kernel
theorem dX11_waits_16 : decode cX11_waits 16 = .ok (.bipush (-2), 2) := by decide +kernel
theorem dX11_waits_18 : decode cX11_waits 18 = .ok (.ireturn, 1) := by decide +kernel
theorem q236 : Cond.fieldLink "EbbWreck$Coast" 51 "EbbWreck$Coast" "lines" "I" ∈ lw_g := mg (List.mem_of_getElem? (i := 236) (by decide +kernel)) rfl
theorem q239 : Cond.fieldLink "EbbWreck$Coast" 55 "EbbWreck$Coast" "cells" "I" ∈ lw_g := mg (List.mem_of_getElem? (i := 239) (by decide +kernel)) rfl
theorem q270 : Cond.fieldLink "EbbWreck$Coast" 74 "EbbWreck$Coast" "things" "I" ∈ lw_g := mg (List.mem_of_getElem? (i := 270) (by decide +kernel)) rfl
theorem q293 : Cond.fieldLink "EbbWreck$Coast" 80 "EbbWreck$Coast" "sitters" "I" ∈ lw_g := mg (List.mem_of_getElem? (i := 293) (by decide +kernel)) rfl
theorem q186 : Cond.fieldLink "EbbWreck$RuleBook" 24 "EbbWreck$RuleBook" "size" "I" ∈ lw_g := mg (List.mem_of_getElem? (i := 186) (by decide +kernel)) rfl
theorem q520 : Cond.fieldLink "EbbWreck" 26 "EbbWreck" "coast" "LEbbWreck$Coast;" ∈ lw_g := mg (List.mem_of_getElem? (i := 520) (by decide +kernel)) rfl
theorem q881 : Cond.code ⟨"EbbWreck$Coast", "isTold", "()Z"⟩ prog_3_method_4_code 1 (some .boolean) ∈ lw_g := mg (List.mem_of_getElem? (i := 881) (by decide +kernel)) rfl
theorem q879 : Cond.instanceMethod ⟨"EbbWreck$Coast", "isTold", "()Z"⟩ ∈ lw_g := mg (List.mem_of_getElem? (i := 879) (by decide +kernel)) rfl
theorem q880 : Cond.selects "EbbWreck$Coast" ⟨"EbbWreck$Coast", "isTold", "()Z"⟩ ⟨"EbbWreck$Coast", "isTold", "()Z"⟩ ∈ lw_g := mg (List.mem_of_getElem? (i := 880) (by decide +kernel)) rfl
theorem q115 : Cond.initialized "EbbWreck$Coast" ∈ lw_g := mg (List.mem_of_getElem? (i := 115) (by decide +kernel)) rfl
theorem q878 : Cond.methodLink "EbbWreck" 225 ⟨"EbbWreck$Coast", "isTold", "()Z"⟩ ∈ lw_g := mg (List.mem_of_getElem? (i := 878) (by decide +kernel)) rfl
theorem q835 : Cond.code ⟨"EbbWreck$Coast", "hasThing", "(I)Z"⟩ prog_3_method_6_code 2 (some .boolean) ∈ lw_g := mg (List.mem_of_getElem? (i := 835) (by decide +kernel)) rfl
theorem q833 : Cond.instanceMethod ⟨"EbbWreck$Coast", "hasThing", "(I)Z"⟩ ∈ lw_g := mg (List.mem_of_getElem? (i := 833) (by decide +kernel)) rfl
theorem q834 : Cond.selects "EbbWreck$Coast" ⟨"EbbWreck$Coast", "hasThing", "(I)Z"⟩ ⟨"EbbWreck$Coast", "hasThing", "(I)Z"⟩ ∈ lw_g := mg (List.mem_of_getElem? (i := 834) (by decide +kernel)) rfl
theorem q832 : Cond.methodLink "EbbWreck" 130 ⟨"EbbWreck$Coast", "hasThing", "(I)Z"⟩ ∈ lw_g := mg (List.mem_of_getElem? (i := 832) (by decide +kernel)) rfl
theorem q826 : Cond.code ⟨"EbbWreck$Coast", "hasCell", "(I)Z"⟩ prog_3_method_5_code 2 (some .boolean) ∈ lw_g := mg (List.mem_of_getElem? (i := 826) (by decide +kernel)) rfl
theorem q824 : Cond.instanceMethod ⟨"EbbWreck$Coast", "hasCell", "(I)Z"⟩ ∈ lw_g := mg (List.mem_of_getElem? (i := 824) (by decide +kernel)) rfl
theorem q825 : Cond.selects "EbbWreck$Coast" ⟨"EbbWreck$Coast", "hasCell", "(I)Z"⟩ ⟨"EbbWreck$Coast", "hasCell", "(I)Z"⟩ ∈ lw_g := mg (List.mem_of_getElem? (i := 825) (by decide +kernel)) rfl
theorem q823 : Cond.methodLink "EbbWreck" 116 ⟨"EbbWreck$Coast", "hasCell", "(I)Z"⟩ ∈ lw_g := mg (List.mem_of_getElem? (i := 823) (by decide +kernel)) rfl
theorem q290 : Cond.fieldLink "EbbWreck" 142 "EbbWreck$Coast" "rules" "LEbbWreck$RuleBook;" ∈ lw_g := mg (List.mem_of_getElem? (i := 290) (by decide +kernel)) rfl
theorem q843 : Cond.code ⟨"EbbWreck$RuleBook", "hasRule", "(I)Z"⟩ prog_8_method_3_code 2 (some .boolean) ∈ lw_g := mg (List.mem_of_getElem? (i := 843) (by decide +kernel)) rfl
theorem q841 : Cond.instanceMethod ⟨"EbbWreck$RuleBook", "hasRule", "(I)Z"⟩ ∈ lw_g := mg (List.mem_of_getElem? (i := 841) (by decide +kernel)) rfl
theorem q842 : Cond.selects "EbbWreck$RuleBook" ⟨"EbbWreck$RuleBook", "hasRule", "(I)Z"⟩ ⟨"EbbWreck$RuleBook", "hasRule", "(I)Z"⟩ ∈ lw_g := mg (List.mem_of_getElem? (i := 842) (by decide +kernel)) rfl
theorem q117 : Cond.initialized "EbbWreck$RuleBook" ∈ lw_g := mg (List.mem_of_getElem? (i := 117) (by decide +kernel)) rfl
theorem q840 : Cond.methodLink "EbbWreck" 146 ⟨"EbbWreck$RuleBook", "hasRule", "(I)Z"⟩ ∈ lw_g := mg (List.mem_of_getElem? (i := 840) (by decide +kernel)) rfl
theorem q851 : Cond.code ⟨"EbbWreck$Coast", "hasSitter", "(I)Z"⟩ prog_3_method_7_code 2 (some .boolean) ∈ lw_g := mg (List.mem_of_getElem? (i := 851) (by decide +kernel)) rfl
theorem q849 : Cond.instanceMethod ⟨"EbbWreck$Coast", "hasSitter", "(I)Z"⟩ ∈ lw_g := mg (List.mem_of_getElem? (i := 849) (by decide +kernel)) rfl
theorem q850 : Cond.selects "EbbWreck$Coast" ⟨"EbbWreck$Coast", "hasSitter", "(I)Z"⟩ ⟨"EbbWreck$Coast", "hasSitter", "(I)Z"⟩ ∈ lw_g := mg (List.mem_of_getElem? (i := 850) (by decide +kernel)) rfl
theorem q848 : Cond.methodLink "EbbWreck" 163 ⟨"EbbWreck$Coast", "hasSitter", "(I)Z"⟩ ∈ lw_g := mg (List.mem_of_getElem? (i := 848) (by decide +kernel)) rfl
theorem q877 : Cond.code ⟨"EbbWreck", "isTideHour", "(I)Z"⟩ prog_1_method_17_code 2 (some .boolean) ∈ lw_g := mg (List.mem_of_getElem? (i := 877) (by decide +kernel)) rfl
theorem q876 : Cond.instanceMethod ⟨"EbbWreck", "isTideHour", "(I)Z"⟩ ∈ lw_g := mg (List.mem_of_getElem? (i := 876) (by decide +kernel)) rfl
theorem q19 : Cond.selects "EbbWreck" ⟨"EbbWreck", "isTideHour", "(I)Z"⟩ ⟨"EbbWreck", "isTideHour", "(I)Z"⟩ ∈ lw_g := mg (List.mem_of_getElem? (i := 19) (by decide +kernel)) rfl
theorem q114 : Cond.initialized "EbbWreck" ∈ lw_g := mg (List.mem_of_getElem? (i := 114) (by decide +kernel)) rfl
theorem q874 : Cond.methodLink "EbbWreck" 219 ⟨"EbbWreck", "isTideHour", "(I)Z"⟩ ∈ lw_g := mg (List.mem_of_getElem? (i := 874) (by decide +kernel)) rfl
theorem q966 : Cond.code ⟨"EbbWreck", "isAskedParty", "(I)Z"⟩ prog_1_method_20_code 2 (some .boolean) ∈ lw_g := mg (List.mem_of_getElem? (i := 966) (by decide +kernel)) rfl
theorem q965 : Cond.instanceMethod ⟨"EbbWreck", "isAskedParty", "(I)Z"⟩ ∈ lw_g := mg (List.mem_of_getElem? (i := 965) (by decide +kernel)) rfl
theorem q20 : Cond.selects "EbbWreck" ⟨"EbbWreck", "isAskedParty", "(I)Z"⟩ ⟨"EbbWreck", "isAskedParty", "(I)Z"⟩ ∈ lw_g := mg (List.mem_of_getElem? (i := 20) (by decide +kernel)) rfl
theorem q963 : Cond.methodLink "EbbWreck" 264 ⟨"EbbWreck", "isAskedParty", "(I)Z"⟩ ∈ lw_g := mg (List.mem_of_getElem? (i := 963) (by decide +kernel)) rfl
theorem q1047 : Cond.code ⟨"EbbWreck", "isWish", "(II)Z"⟩ prog_1_method_36_code 3 (some .boolean) ∈ lw_g := mg (List.mem_of_getElem? (i := 1047) (by decide +kernel)) rfl
theorem q1046 : Cond.instanceMethod ⟨"EbbWreck", "isWish", "(II)Z"⟩ ∈ lw_g := mg (List.mem_of_getElem? (i := 1046) (by decide +kernel)) rfl
theorem q23 : Cond.selects "EbbWreck" ⟨"EbbWreck", "isWish", "(II)Z"⟩ ⟨"EbbWreck", "isWish", "(II)Z"⟩ ∈ lw_g := mg (List.mem_of_getElem? (i := 23) (by decide +kernel)) rfl
theorem q1044 : Cond.methodLink "EbbWreck" 282 ⟨"EbbWreck", "isWish", "(II)Z"⟩ ∈ lw_g := mg (List.mem_of_getElem? (i := 1044) (by decide +kernel)) rfl
theorem q1399 : Cond.code ⟨"EbbWreck", "isGale", "(II)Z"⟩ prog_1_method_63_code 3 (some .boolean) ∈ lw_g := mg (List.mem_of_getElem? (i := 1399) (by decide +kernel)) rfl
theorem q1398 : Cond.instanceMethod ⟨"EbbWreck", "isGale", "(II)Z"⟩ ∈ lw_g := mg (List.mem_of_getElem? (i := 1398) (by decide +kernel)) rfl
theorem q46 : Cond.selects "EbbWreck" ⟨"EbbWreck", "isGale", "(II)Z"⟩ ⟨"EbbWreck", "isGale", "(II)Z"⟩ ∈ lw_g := mg (List.mem_of_getElem? (i := 46) (by decide +kernel)) rfl
theorem q1396 : Cond.methodLink "EbbWreck" 368 ⟨"EbbWreck", "isGale", "(II)Z"⟩ ∈ lw_g := mg (List.mem_of_getElem? (i := 1396) (by decide +kernel)) rfl
theorem mX1_isTold : CmV "EbbWreck$Coast" yX1_isTold cX1_isTold 1 (some .boolean) 0 := ⟨q879, q880, q115, q881, ⟨rfl, by decide, by decide, by decide +kernel⟩⟩
theorem mX1_hasThing : CmV "EbbWreck$Coast" yX1_hasThing cX1_hasThing 2 (some .boolean) 1 := ⟨q833, q834, q115, q835, ⟨rfl, by decide, by decide, by decide +kernel⟩⟩
theorem mX1_hasCell : CmV "EbbWreck$Coast" yX1_hasCell cX1_hasCell 2 (some .boolean) 1 := ⟨q824, q825, q115, q826, ⟨rfl, by decide, by decide, by decide +kernel⟩⟩
theorem mX6_hasRule : CmV "EbbWreck$RuleBook" yX6_hasRule cX6_hasRule 2 (some .boolean) 1 := ⟨q841, q842, q117, q843, ⟨rfl, by decide, by decide, by decide +kernel⟩⟩
theorem mX1_hasSitter : CmV "EbbWreck$Coast" yX1_hasSitter cX1_hasSitter 2 (some .boolean) 1 := ⟨q849, q850, q115, q851, ⟨rfl, by decide, by decide, by decide +kernel⟩⟩
theorem mX11_isTideHour : CmV "EbbWreck" yX11_isTideHour cX11_isTideHour 2 (some .boolean) 1 := ⟨q876, q19, q114, q877, ⟨rfl, by decide, by decide, by decide +kernel⟩⟩
theorem mX11_isAskedParty : CmV "EbbWreck" yX11_isAskedParty cX11_isAskedParty 2 (some .boolean) 1 := ⟨q965, q20, q114, q966, ⟨rfl, by decide, by decide, by decide +kernel⟩⟩
theorem mX11_isWish : CmV "EbbWreck" yX11_isWish cX11_isWish 3 (some .boolean) 2 := ⟨q1046, q23, q114, q1047, ⟨rfl, by decide, by decide, by decide +kernel⟩⟩
theorem mX11_isGale : CmV "EbbWreck" yX11_isGale cX11_isGale 3 (some .boolean) 2 := ⟨q1398, q46, q114, q1399, ⟨rfl, by decide, by decide, by decide +kernel⟩⟩
