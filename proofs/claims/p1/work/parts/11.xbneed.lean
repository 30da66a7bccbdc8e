theorem dX8_isSlot_0 : decode cX8_isSlot 0 = .ok (.iload_n 0, 1) := by decide +kernel
theorem dX8_isSlot_1 : decode cX8_isSlot 1 = .ok (.ifCond .lt 12, 3) := by decide +kernel
theorem dX8_isSlot_13 : decode cX8_isSlot 13 = .ok (.iconst 0, 1) := by decide +kernel
theorem dX8_isSlot_14 : decode cX8_isSlot 14 = .ok (.ireturn, 1) := by decide +kernel
theorem dX8_isSlot_4 : decode cX8_isSlot 4 = .ok (.iload_n 0, 1) := by decide +kernel
theorem dX8_isSlot_5 : decode cX8_isSlot 5 = .ok (.iconst 4, 1) := by decide +kernel
theorem dX8_isSlot_6 : decode cX8_isSlot 6 = .ok (.if_icmp .ge 7, 3) := by decide +kernel
theorem dX8_isSlot_9 : decode cX8_isSlot 9 = .ok (.iconst 1, 1) := by decide +kernel
theorem dX8_isSlot_10 : decode cX8_isSlot 10 = .ok (.goto 4, 3) := by decide +kernel
theorem dX8_hasRow_0 : decode cX8_hasRow 0 = .ok (.aload_n 0, 1) := by decide +kernel
theorem dX8_hasRow_1 : decode cX8_hasRow 1 = .ok (.getfield 20, 3) := by decide +kernel
theorem dX8_hasRow_4 : decode cX8_hasRow 4 = .ok (.iload_n 1, 1) := by decide +kernel
theorem dX8_hasRow_5 : decode cX8_hasRow 5 = .ok (.iaload, 1) := by decide +kernel
theorem dX8_hasRow_6 : decode cX8_hasRow 6 = .ok (.iconst (-1), 1) := by decide +kernel
theorem dX8_hasRow_7 : decode cX8_hasRow 7 = .ok (.if_icmp .eq 7, 3) := by decide +kernel
theorem dX8_hasRow_14 : decode cX8_hasRow 14 = .ok (.iconst 0, 1) := by decide +kernel
theorem dX8_hasRow_15 : decode cX8_hasRow 15 = .ok (.ireturn, 1) := by decide +kernel
theorem dX8_filled_0 : decode cX8_filled 0 = .ok (.iconst 0, 1) := by decide +kernel
theorem dX8_filled_1 : decode cX8_filled 1 = .ok (.istore_n 1, 1) := by decide +kernel
theorem dX8_filled_2 : decode cX8_filled 2 = .ok (.iconst 0, 1) := by decide +kernel
theorem dX8_filled_3 : decode cX8_filled 3 = .ok (.istore_n 2, 1) := by decide +kernel
theorem dX8_filled_4 : decode cX8_filled 4 = .ok (.iload_n 2, 1) := by decide +kernel
theorem dX8_filled_5 : decode cX8_filled 5 = .ok (.iconst 4, 1) := by decide +kernel
theorem dX8_filled_6 : decode cX8_filled 6 = .ok (.if_icmp .ge 20, 3) := by decide +kernel
theorem dX8_filled_9 : decode cX8_filled 9 = .ok (.aload_n 0, 1) := by decide +kernel
theorem dX8_filled_10 : decode cX8_filled 10 = .ok (.iload_n 2, 1) := by decide +kernel
theorem dX8_filled_11 : decode cX8_filled 11 = .ok (.invokevirtual 29, 3) := by decide +kernel
theorem dX8_filled_14 : decode cX8_filled 14 = .ok (.ifCond .eq 6, 3) := by decide +kernel
theorem dX8_filled_20 : decode cX8_filled 20 = .ok (.iinc 2 1, 3) := by decide +kernel
theorem dX8_filled_23 : decode cX8_filled 23 = .ok (.goto (-19), 3) := by decide +kernel
theorem dX8_filled_26 : decode cX8_filled 26 = .ok (.iload_n 1, 1) := by decide +kernel
theorem dX8_filled_27 : decode cX8_filled 27 = .ok (.ireturn, 1) := by decide +kernel
theorem dX3_collect_0 : decode cX3_collect 0 = .ok (.aload_n 0, 1) := by decide +kernel
theorem dX3_collect_1 : decode cX3_collect 1 = .ok (.iconst 0, 1) := by decide +kernel
theorem dX3_collect_2 : decode cX3_collect 2 = .ok (.putfield 26, 3) := by decide +kernel
theorem dX3_collect_5 : decode cX3_collect 5 = .ok (.iload_n 1, 1) := by decide +kernel
theorem dX3_collect_6 : decode cX3_collect 6 = .ok (.invokestatic 30, 3) := by decide +kernel
theorem dX3_collect_9 : decode cX3_collect 9 = .ok (.ifCond .eq 13, 3) := by decide +kernel
theorem dX3_collect_12 : decode cX3_collect 12 = .ok (.aload_n 0, 1) := by decide +kernel
theorem dX3_collect_13 : decode cX3_collect 13 = .ok (.getfield 18, 3) := by decide +kernel
theorem dX3_collect_16 : decode cX3_collect 16 = .ok (.invokevirtual 36, 3) := by decide +kernel
theorem dX3_collect_19 : decode cX3_collect 19 = .ok (.ifCond .ne 6, 3) := by decide +kernel
theorem dX3_collect_22 : decode cX3_collect 22 = .ok (.bipush (-2), 2) := by decide +kernel
theorem dX3_collect_24 : decode cX3_collect 24 = .ok (.ireturn, 1) := by decide +kernel
theorem dX11_fits_0 : decode cX11_fits 0 = .ok (.aload_n 0, 1) := by decide +kernel
theorem dX11_fits_1 : decode cX11_fits 1 = .ok (.getfield 94, 3) := by decide +kernel
theorem dX11_fits_4 : decode cX11_fits 4 = .ok (.iload_n 1, 1) := by decide +kernel
theorem dX11_fits_5 : decode cX11_fits 5 = .ok (.invokevirtual 316, 3) := by decide +kernel
theorem dX11_fits_8 : decode cX11_fits 8 = .ok (.ireturn, 1) := by decide +kernel
theorem dX11_fit_0 : decode cX11_fit 0 = .ok (.aload_n 0, 1) := by decide +kernel
theorem dX11_fit_1 : decode cX11_fit 1 = .ok (.getfield 94, 3) := by decide +kernel
theorem dX11_fit_4 : decode cX11_fit 4 = .ok (.iload_n 1, 1) := by decide +kernel
theorem dX11_fit_5 : decode cX11_fit 5 = .ok (.invokevirtual 316, 3) := by decide +kernel
theorem dX11_fit_8 : decode cX11_fit 8 = .ok (.iconst 1, 1) := by decide +kernel
theorem dX11_fit_9 : decode cX11_fit 9 = .ok (.if_icmp .ge 7, 3) := by decide +kernel
theorem dX11_fit_12 : decode cX11_fit 12 = .ok (.sipush (-1000), 3) := by decide +kernel
theorem dX11_fit_15 : decode cX11_fit 15 = .ok (.ireturn, 1) := by decide +kernel
theorem dX11_ask_0 : decode cX11_ask 0 = .ok (.aload_n 0, 1) := by decide +kernel
theorem dX11_ask_1 : decode cX11_ask 1 = .ok (.getfield 94, 3) := by decide +kernel
theorem dX11_ask_4 : decode cX11_ask 4 = .ok (.iload_n 1, 1) := by decide +kernel
theorem dX11_ask_5 : decode cX11_ask 5 = .ok (.invokevirtual 316, 3) := by decide +kernel
theorem dX11_ask_8 : decode cX11_ask 8 = .ok (.istore_n 2, 1) := by decide +kernel
theorem dX11_ask_9 : decode cX11_ask 9 = .ok (.iload_n 2, 1) := by decide +kernel
theorem dX11_ask_10 : decode cX11_ask 10 = .ok (.ifCond .ge 7, 3) := by decide +kernel
theorem dX11_ask_13 : decode cX11_ask 13 = .ok (.iload_n 2, 1) := by decide +kernel
theorem dX11_ask_14 : decode cX11_ask 14 = .ok (.goto 10, 3) := by decide +kernel
theorem dX11_ask_24 : decode cX11_ask 24 = .ok (.ireturn, 1) := by decide +kernel
theorem dX11_leaves_0 : decode cX11_leaves 0 = .ok (.aload_n 0, 1) := by decide +kernel
theorem dX11_leaves_1 : decode cX11_leaves 1 = .ok (.getfield 94, 3) := by decide +kernel
theorem dX11_leaves_4 : decode cX11_leaves 4 = .ok (.iload_n 1, 1) := by decide +kernel
theorem dX11_leaves_5 : decode cX11_leaves 5 = .ok (.invokevirtual 316, 3) := by decide +kernel
theorem dX11_leaves_8 : decode cX11_leaves 8 = .ok (.istore_n 2, 1) := by decide +kernel
theorem dX11_leaves_9 : decode cX11_leaves 9 = .ok (.iload_n 2, 1) := by decide +kernel
theorem dX11_leaves_10 : decode cX11_leaves 10 = .ok (.ifCond .ge 5, 3) := by decide +kernel
theorem dX11_leaves_13 : decode cX11_leaves 13 = .ok (.iload_n 2, 1) := by decide +kernel
theorem dX11_leaves_14 : decode cX11_leaves 14 = .ok (.ireturn, 1) := by decide +kernel
theorem dX11_end_0 : decode cX11_end 0 = .ok (.iload_n 1, 1) := by decide +kernel
theorem dX11_end_1 : decode cX11_end 1 = .ok (.ifCond .lt 11, 3) := by decide +kernel
theorem dX11_end_12 : decode cX11_end 12 = .ok (.iconst (-1), 1) := by decide +kernel
theorem dX11_end_13 : decode cX11_end 13 = .ok (.ireturn, 1) := by decide +kernel
theorem dX11_end_4 : decode cX11_end 4 = .ok (.iload_n 1, 1) := by decide +kernel
theorem dX11_end_5 : decode cX11_end 5 = .ok (.aload_n 0, 1) := by decide +kernel
theorem dX11_end_6 : decode cX11_end 6 = .ok (.getfield 13, 3) := by decide +kernel
theorem dX11_end_9 : decode cX11_end 9 = .ok (.if_icmp .le 5, 3) := by decide +kernel
theorem dX11_end_14 : decode cX11_end 14 = .ok (.aload_n 0, 1) := by decide +kernel
theorem dX11_end_15 : decode cX11_end 15 = .ok (.iload_n 1, 1) := by decide +kernel
theorem dX11_end_16 : decode cX11_end 16 = .ok (.putfield 13, 3) := by decide +kernel
theorem dX11_end_19 : decode cX11_end 19 = .ok (.iload_n 1, 1) := by decide +kernel
theorem dX11_end_20 : decode cX11_end 20 = .ok (.ireturn, 1) := by decide +kernel
theorem dX11_fault_0 : decode cX11_fault 0 = .ok (.iload_n 1, 1) := by decide +kernel
theorem dX11_fault_1 : decode cX11_fault 1 = .ok (.ifCond .ne 8, 3) := by decide +kernel
theorem dX11_fault_9 : decode cX11_fault 9 = .ok (.iload_n 1, 1) := by decide +kernel
theorem dX11_fault_10 : decode cX11_fault 10 = .ok (.iconst 1, 1) := by decide +kernel
theorem dX11_fault_11 : decode cX11_fault 11 = .ok (.if_icmp .ne 10, 3) := by decide +kernel
theorem dX11_fault_21 : decode cX11_fault 21 = .ok (.iconst (-1), 1) := by decide +kernel
theorem dX11_fault_22 : decode cX11_fault 22 = .ok (.ireturn, 1) := by decide +kernel
theorem dX11_fault_14 : decode cX11_fault 14 = .ok (.aload_n 0, 1) := by decide +kernel
theorem dX11_fault_15 : decode cX11_fault 15 = .ok (.getfield 20, 3) := by decide +kernel
theorem dX11_fault_18 : decode cX11_fault 18 = .ok (.goto 4, 3) := by decide +kernel
theorem dX11_fault_4 : decode cX11_fault 4 = .ok (.aload_n 0, 1) := by decide +kernel
theorem dX11_fault_5 : decode cX11_fault 5 = .ok (.getfield 17, 3) := by decide +kernel
theorem dX11_fault_8 : decode cX11_fault 8 = .ok (.ireturn, 1) := by decide +kernel
theorem dX11_back_0 : decode cX11_back 0 = .ok (.iload_n 1, 1) := by decide +kernel
theorem dX11_back_1 : decode cX11_back 1 = .ok (.ifCond .lt 8, 3) := by decide +kernel
theorem dX11_back_9 : decode cX11_back 9 = .ok (.bipush (-2), 2) := by decide +kernel
theorem dX11_back_11 : decode cX11_back 11 = .ok (.ireturn, 1) := by decide +kernel
theorem dX11_back_4 : decode cX11_back 4 = .ok (.iload_n 1, 1) := by decide +kernel
theorem dX11_back_5 : decode cX11_back 5 = .ok (.iconst 3, 1) := by decide +kernel
theorem dX11_back_6 : decode cX11_back 6 = .ok (.if_icmp .lt 6, 3) := by decide +kernel
theorem dX11_back_12 : decode cX11_back 12 = .ok (.aload_n 0, 1) := by decide +kernel
theorem dX11_back_13 : decode cX11_back 13 = .ok (.getfield 37, 3) := by decide +kernel
theorem dX11_back_16 : decode cX11_back 16 = .ok (.iload_n 1, 1) := by decide +kernel
theorem dX11_back_17 : decode cX11_back 17 = .ok (.baload, 1) := by decide +kernel
theorem dX11_back_18 : decode cX11_back 18 = .ok (.ifCond .ne 6, 3) := by decide +kernel
theorem dX11_back_21 : decode cX11_back 21 = .ok (.bipush (-6), 2) := by decide +kernel
theorem dX11_back_23 : decode cX11_back 23 = .ok (.ireturn, 1) := by decide +kernel
theorem dX11_write_0 : decode cX11_write 0 = .ok (.iload_n 1, 1) := by decide +kernel
theorem dX11_write_1 : decode cX11_write 1 = .ok (.invokestatic 389, 3) := by decide +kernel
theorem dX11_write_4 : decode cX11_write 4 = .ok (.ifCond .ne 6, 3) := by decide +kernel
theorem dX11_write_10 : decode cX11_write 10 = .ok (.aload_n 0, 1) := by decide +kernel
theorem dX11_write_11 : decode cX11_write 11 = .ok (.getfield 85, 3) := by decide +kernel
theorem dX11_write_14 : decode cX11_write 14 = .ok (.iload_n 1, 1) := by decide +kernel
theorem dX11_write_15 : decode cX11_write 15 = .ok (.invokevirtual 395, 3) := by decide +kernel
theorem dX11_write_18 : decode cX11_write 18 = .ok (.ifCond .ne 6, 3) := by decide +kernel
theorem dX11_write_21 : decode cX11_write 21 = .ok (.bipush (-6), 2) := by decide +kernel
theorem dX11_write_23 : decode cX11_write 23 = .ok (.ireturn, 1) := by decide +kernel
theorem dX11_write_7 : decode cX11_write 7 = .ok (.bipush (-2), 2) := by decide +kernel
theorem dX11_write_9 : decode cX11_write 9 = .ok (.ireturn, 1) := by decide +kernel
theorem dX11_paste_0 : decode cX11_paste 0 = .ok (.iload_n 1, 1) := by decide +kernel
theorem dX11_paste_1 : decode cX11_paste 1 = .ok (.invokestatic 389, 3) := by decide +kernel
theorem dX11_paste_4 : decode cX11_paste 4 = .ok (.ifCond .eq 10, 3) := by decide +kernel
theorem dX11_paste_7 : decode cX11_paste 7 = .ok (.iload_n 3, 1) := by decide +kernel
theorem dX11_paste_8 : decode cX11_paste 8 = .ok (.invokestatic 389, 3) := by decide +kernel
theorem dX11_paste_11 : decode cX11_paste 11 = .ok (.ifCond .ne 6, 3) := by decide +kernel
theorem dX11_paste_17 : decode cX11_paste 17 = .ok (.aload_n 0, 1) := by decide +kernel
theorem dX11_paste_18 : decode cX11_paste 18 = .ok (.getfield 85, 3) := by decide +kernel
theorem dX11_paste_21 : decode cX11_paste 21 = .ok (.iload_n 1, 1) := by decide +kernel
theorem dX11_paste_22 : decode cX11_paste 22 = .ok (.invokevirtual 395, 3) := by decide +kernel
theorem dX11_paste_25 : decode cX11_paste 25 = .ok (.ifCond .eq 14, 3) := by decide +kernel
theorem dX11_paste_39 : decode cX11_paste 39 = .ok (.bipush (-6), 2) := by decide +kernel
theorem dX11_paste_41 : decode cX11_paste 41 = .ok (.ireturn, 1) := by decide +kernel
theorem dX11_paste_14 : decode cX11_paste 14 = .ok (.bipush (-2), 2) := by decide +kernel
theorem dX11_paste_16 : decode cX11_paste 16 = .ok (.ireturn, 1) := by decide +kernel
theorem q483 : Cond.fieldLink "EbbWreck$Slots" 20 "EbbWreck$Slots" "sizes" "[I" ∈ lw_g := mg (List.mem_of_getElem? (i := 483) (by decide +kernel)) rfl
theorem q869 : Cond.code ⟨"EbbWreck$Slots", "hasRow", "(I)Z"⟩ prog_10_method_3_code 2 (some .boolean) ∈ lw_g := mg (List.mem_of_getElem? (i := 869) (by decide +kernel)) rfl
theorem q867 : Cond.instanceMethod ⟨"EbbWreck$Slots", "hasRow", "(I)Z"⟩ ∈ lw_g := mg (List.mem_of_getElem? (i := 867) (by decide +kernel)) rfl
theorem q868 : Cond.selects "EbbWreck$Slots" ⟨"EbbWreck$Slots", "hasRow", "(I)Z"⟩ ⟨"EbbWreck$Slots", "hasRow", "(I)Z"⟩ ∈ lw_g := mg (List.mem_of_getElem? (i := 868) (by decide +kernel)) rfl
theorem q124 : Cond.initialized "EbbWreck$Slots" ∈ lw_g := mg (List.mem_of_getElem? (i := 124) (by decide +kernel)) rfl
theorem q866 : Cond.methodLink "EbbWreck$Slots" 29 ⟨"EbbWreck$Slots", "hasRow", "(I)Z"⟩ ∈ lw_g := mg (List.mem_of_getElem? (i := 866) (by decide +kernel)) rfl
theorem q503 : Cond.fieldLink "EbbWreck$Floats" 26 "EbbWreck$Floats" "fittingCount" "I" ∈ lw_g := mg (List.mem_of_getElem? (i := 503) (by decide +kernel)) rfl
theorem q1201 : Cond.code ⟨"EbbWreck$Slots", "isSlot", "(I)Z"⟩ prog_10_method_2_code 1 (some .boolean) ∈ lw_g := mg (List.mem_of_getElem? (i := 1201) (by decide +kernel)) rfl
theorem q1200 : Cond.static ⟨"EbbWreck$Slots", "isSlot", "(I)Z"⟩ ∈ lw_g := mg (List.mem_of_getElem? (i := 1200) (by decide +kernel)) rfl
theorem q1199 : Cond.methodLink "EbbWreck$Floats" 30 ⟨"EbbWreck$Slots", "isSlot", "(I)Z"⟩ ∈ lw_g := mg (List.mem_of_getElem? (i := 1199) (by decide +kernel)) rfl
theorem q500 : Cond.fieldLink "EbbWreck$Floats" 18 "EbbWreck$Floats" "coast" "LEbbWreck$Coast;" ∈ lw_g := mg (List.mem_of_getElem? (i := 500) (by decide +kernel)) rfl
theorem q1202 : Cond.methodLink "EbbWreck$Floats" 36 ⟨"EbbWreck$Coast", "isTold", "()Z"⟩ ∈ lw_g := mg (List.mem_of_getElem? (i := 1202) (by decide +kernel)) rfl
theorem q530 : Cond.fieldLink "EbbWreck" 94 "EbbWreck" "floats" "LEbbWreck$Floats;" ∈ lw_g := mg (List.mem_of_getElem? (i := 530) (by decide +kernel)) rfl
theorem q1198 : Cond.code ⟨"EbbWreck$Floats", "collect", "(I)I"⟩ prog_5_method_4_code 4 (some .int) ∈ lw_g := mg (List.mem_of_getElem? (i := 1198) (by decide +kernel)) rfl
theorem q1196 : Cond.instanceMethod ⟨"EbbWreck$Floats", "collect", "(I)I"⟩ ∈ lw_g := mg (List.mem_of_getElem? (i := 1196) (by decide +kernel)) rfl
theorem q1197 : Cond.selects "EbbWreck$Floats" ⟨"EbbWreck$Floats", "collect", "(I)I"⟩ ⟨"EbbWreck$Floats", "collect", "(I)I"⟩ ∈ lw_g := mg (List.mem_of_getElem? (i := 1197) (by decide +kernel)) rfl
theorem q126 : Cond.initialized "EbbWreck$Floats" ∈ lw_g := mg (List.mem_of_getElem? (i := 126) (by decide +kernel)) rfl
theorem q1195 : Cond.methodLink "EbbWreck" 316 ⟨"EbbWreck$Floats", "collect", "(I)I"⟩ ∈ lw_g := mg (List.mem_of_getElem? (i := 1195) (by decide +kernel)) rfl
theorem q517 : Cond.fieldLink "EbbWreck" 13 "EbbWreck" "tapeSize" "I" ∈ lw_g := mg (List.mem_of_getElem? (i := 517) (by decide +kernel)) rfl
theorem q519 : Cond.fieldLink "EbbWreck" 20 "EbbWreck" "faultPlace" "I" ∈ lw_g := mg (List.mem_of_getElem? (i := 519) (by decide +kernel)) rfl
theorem q518 : Cond.fieldLink "EbbWreck" 17 "EbbWreck" "faultKind" "I" ∈ lw_g := mg (List.mem_of_getElem? (i := 518) (by decide +kernel)) rfl
theorem q523 : Cond.fieldLink "EbbWreck" 37 "EbbWreck" "kept" "[Z" ∈ lw_g := mg (List.mem_of_getElem? (i := 523) (by decide +kernel)) rfl
theorem q1433 : Cond.methodLink "EbbWreck" 389 ⟨"EbbWreck$Slots", "isSlot", "(I)Z"⟩ ∈ lw_g := mg (List.mem_of_getElem? (i := 1433) (by decide +kernel)) rfl
theorem q529 : Cond.fieldLink "EbbWreck" 85 "EbbWreck" "slots" "LEbbWreck$Slots;" ∈ lw_g := mg (List.mem_of_getElem? (i := 529) (by decide +kernel)) rfl
theorem q1445 : Cond.methodLink "EbbWreck" 395 ⟨"EbbWreck$Slots", "hasRow", "(I)Z"⟩ ∈ lw_g := mg (List.mem_of_getElem? (i := 1445) (by decide +kernel)) rfl
theorem mX8_hasRow : CmV "EbbWreck$Slots" yX8_hasRow cX8_hasRow 2 (some .boolean) 1 := ⟨q867, q868, q124, q869, ⟨rfl, by decide, by decide, by decide +kernel⟩⟩
theorem mX8_isSlot : CmS yX8_isSlot cX8_isSlot 1 (some .boolean) 1 := ⟨q1200, q124, q1201, ⟨by decide, by decide, by decide +kernel⟩⟩
theorem mX3_collect : CmV "EbbWreck$Floats" yX3_collect cX3_collect 4 (some .int) 1 := ⟨q1196, q1197, q126, q1198, ⟨rfl, by decide, by decide, by decide +kernel⟩⟩
