theorem dX12_image_0 : decode cX12_image 0 = .ok (.aload_n 0, 1) := by decide +kernel
theorem dX12_image_1 : decode cX12_image 1 = .ok (.iconst 0, 1) := by decide +kernel
theorem dX12_image_2 : decode cX12_image 2 = .ok (.putfield 74, 3) := by decide +kernel
theorem dX12_image_5 : decode cX12_image 5 = .ok (.iload_n 1, 1) := by decide +kernel
theorem dX12_image_6 : decode cX12_image 6 = .ok (.i2l, 1) := by decide +kernel
theorem dX12_image_7 : decode cX12_image 7 = .ok (.lconst 0, 1) := by decide +kernel
theorem dX12_image_8 : decode cX12_image 8 = .ok (.ldc2_w 271, 3) := by decide +kernel
theorem dX12_image_11 : decode cX12_image 11 = .ok (.invokestatic 79, 3) := by decide +kernel
theorem dX12_image_14 : decode cX12_image 14 = .ok (.ifCond .ne 6, 3) := by decide +kernel
theorem dX12_image_20 : decode cX12_image 20 = .ok (.aload_n 0, 1) := by decide +kernel
theorem dX12_image_21 : decode cX12_image 21 = .ok (.iconst 0, 1) := by decide +kernel
theorem dX12_image_22 : decode cX12_image 22 = .ok (.iconst 1, 1) := by decide +kernel
theorem dX12_image_23 : decode cX12_image 23 = .ok (.iload_n 1, 1) := by decide +kernel
theorem dX12_image_24 : decode cX12_image 24 = .ok (.iadd, 1) := by decide +kernel
theorem dX12_image_25 : decode cX12_image 25 = .ok (.invokevirtual 243, 3) := by decide +kernel
theorem dX12_image_28 : decode cX12_image 28 = .ok (.aload_n 0, 1) := by decide +kernel
theorem dX12_image_29 : decode cX12_image 29 = .ok (.getfield 52, 3) := by decide +kernel
theorem dX12_image_32 : decode cX12_image 32 = .ok (.iload_n 1, 1) := by decide +kernel
theorem dX12_image_33 : decode cX12_image 33 = .ok (.iconst 1, 1) := by decide +kernel
theorem dX12_image_34 : decode cX12_image 34 = .ok (.bastore, 1) := by decide +kernel
theorem dX12_image_35 : decode cX12_image 35 = .ok (.iconst 0, 1) := by decide +kernel
theorem dX12_image_36 : decode cX12_image 36 = .ok (.ireturn, 1) := by decide +kernel
theorem dX12_image_17 : decode cX12_image 17 = .ok (.bipush (-2), 2) := by decide +kernel
theorem dX12_image_19 : decode cX12_image 19 = .ok (.ireturn, 1) := by decide +kernel
theorem dX12_tells_0 : decode cX12_tells 0 = .ok (.aload_n 0, 1) := by decide +kernel
theorem dX12_tells_1 : decode cX12_tells 1 = .ok (.getfield 34, 3) := by decide +kernel
theorem dX12_tells_4 : decode cX12_tells 4 = .ok (.bipush 40, 2) := by decide +kernel
theorem dX12_tells_6 : decode cX12_tells 6 = .ok (.iload_n 1, 1) := by decide +kernel
theorem dX12_tells_7 : decode cX12_tells 7 = .ok (.iadd, 1) := by decide +kernel
theorem dX12_tells_8 : decode cX12_tells 8 = .ok (.iload_n 2, 1) := by decide +kernel
theorem dX12_tells_9 : decode cX12_tells 9 = .ok (.iastore, 1) := by decide +kernel
theorem dX12_tells_10 : decode cX12_tells 10 = .ok (.return_, 1) := by decide +kernel
theorem dX12_clears_0 : decode cX12_clears 0 = .ok (.aload_n 0, 1) := by decide +kernel
theorem dX12_clears_1 : decode cX12_clears 1 = .ok (.getfield 31, 3) := by decide +kernel
theorem dX12_clears_4 : decode cX12_clears 4 = .ok (.iconst 4, 1) := by decide +kernel
theorem dX12_clears_5 : decode cX12_clears 5 = .ok (.iconst 0, 1) := by decide +kernel
theorem dX12_clears_6 : decode cX12_clears 6 = .ok (.iastore, 1) := by decide +kernel
theorem dX12_clears_7 : decode cX12_clears 7 = .ok (.iconst 0, 1) := by decide +kernel
theorem dX12_clears_8 : decode cX12_clears 8 = .ok (.istore_n 1, 1) := by decide +kernel
theorem dX12_clears_9 : decode cX12_clears 9 = .ok (.iload_n 1, 1) := by decide +kernel
theorem dX12_clears_10 : decode cX12_clears 10 = .ok (.bipush 10, 2) := by decide +kernel
theorem dX12_clears_12 : decode cX12_clears 12 = .ok (.if_icmp .ge 15, 3) := by decide +kernel
theorem dX12_clears_15 : decode cX12_clears 15 = .ok (.aload_n 0, 1) := by decide +kernel
theorem dX12_clears_16 : decode cX12_clears 16 = .ok (.iload_n 1, 1) := by decide +kernel
theorem dX12_clears_17 : decode cX12_clears 17 = .ok (.iconst 0, 1) := by decide +kernel
theorem dX12_clears_18 : decode cX12_clears 18 = .ok (.invokevirtual 186, 3) := by decide +kernel
theorem dX12_clears_21 : decode cX12_clears 21 = .ok (.iinc 1 1, 3) := by decide +kernel
theorem dX12_clears_24 : decode cX12_clears 24 = .ok (.goto (-15), 3) := by decide +kernel
theorem dX12_clears_27 : decode cX12_clears 27 = .ok (.iconst 0, 1) := by decide +kernel
theorem dX12_clears_28 : decode cX12_clears 28 = .ok (.istore_n 1, 1) := by decide +kernel
theorem dX12_clears_29 : decode cX12_clears 29 = .ok (.iload_n 1, 1) := by decide +kernel
theorem dX12_clears_30 : decode cX12_clears 30 = .ok (.bipush 24, 2) := by decide +kernel
theorem dX12_clears_32 : decode cX12_clears 32 = .ok (.if_icmp .ge 19, 3) := by decide +kernel
theorem dX12_clears_35 : decode cX12_clears 35 = .ok (.aload_n 0, 1) := by decide +kernel
theorem dX12_clears_36 : decode cX12_clears 36 = .ok (.getfield 37, 3) := by decide +kernel
theorem dX12_clears_39 : decode cX12_clears 39 = .ok (.bipush 96, 2) := by decide +kernel
theorem dX12_clears_41 : decode cX12_clears 41 = .ok (.iload_n 1, 1) := by decide +kernel
theorem dX12_clears_42 : decode cX12_clears 42 = .ok (.iadd, 1) := by decide +kernel
theorem dX12_clears_43 : decode cX12_clears 43 = .ok (.iconst 0, 1) := by decide +kernel
theorem dX12_clears_44 : decode cX12_clears 44 = .ok (.iastore, 1) := by decide +kernel
theorem dX12_clears_45 : decode cX12_clears 45 = .ok (.iinc 1 1, 3) := by decide +kernel
theorem dX12_clears_48 : decode cX12_clears 48 = .ok (.goto (-19), 3) := by decide +kernel
theorem dX12_clears_51 : decode cX12_clears 51 = .ok (.return_, 1) := by decide +kernel
theorem dX12_isByte_0 : decode cX12_isByte 0 = .ok (.iload_n 1, 1) := by decide +kernel
theorem dX12_isByte_1 : decode cX12_isByte 1 = .ok (.aload_n 0, 1) := by decide +kernel
theorem dX12_isByte_2 : decode cX12_isByte 2 = .ok (.getfield 91, 3) := by decide +kernel
theorem dX12_isByte_5 : decode cX12_isByte 5 = .ok (.if_icmp .ge 27, 3) := by decide +kernel
theorem dX12_isByte_32 : decode cX12_isByte 32 = .ok (.iconst 0, 1) := by decide +kernel
theorem dX12_isByte_33 : decode cX12_isByte 33 = .ok (.ireturn, 1) := by decide +kernel
theorem dX12_next_0 : decode cX12_next 0 = .ok (.aload_n 0, 1) := by decide +kernel
theorem dX12_next_1 : decode cX12_next 1 = .ok (.aload_n 0, 1) := by decide +kernel
theorem dX12_next_2 : decode cX12_next 2 = .ok (.getfield 98, 3) := by decide +kernel
theorem dX12_next_5 : decode cX12_next 5 = .ok (.bipush 32, 2) := by decide +kernel
theorem dX12_next_7 : decode cX12_next 7 = .ok (.bipush 32, 2) := by decide +kernel
theorem dX12_next_9 : decode cX12_next 9 = .ok (.invokevirtual 101, 3) := by decide +kernel
theorem dX12_next_12 : decode cX12_next 12 = .ok (.ifCond .ne 18, 3) := by decide +kernel
theorem dX12_next_15 : decode cX12_next 15 = .ok (.aload_n 0, 1) := by decide +kernel
theorem dX12_next_16 : decode cX12_next 16 = .ok (.aload_n 0, 1) := by decide +kernel
theorem dX12_next_17 : decode cX12_next 17 = .ok (.getfield 98, 3) := by decide +kernel
theorem dX12_next_20 : decode cX12_next 20 = .ok (.bipush 10, 2) := by decide +kernel
theorem dX12_next_22 : decode cX12_next 22 = .ok (.bipush 10, 2) := by decide +kernel
theorem dX12_next_24 : decode cX12_next 24 = .ok (.invokevirtual 101, 3) := by decide +kernel
theorem dX12_next_27 : decode cX12_next 27 = .ok (.ifCond .eq 16, 3) := by decide +kernel
theorem dX12_next_43 : decode cX12_next 43 = .ok (.aload_n 0, 1) := by decide +kernel
theorem dX12_next_44 : decode cX12_next 44 = .ok (.aload_n 0, 1) := by decide +kernel
theorem dX12_next_45 : decode cX12_next 45 = .ok (.getfield 98, 3) := by decide +kernel
theorem dX12_next_48 : decode cX12_next 48 = .ok (.putfield 105, 3) := by decide +kernel
theorem dX12_next_51 : decode cX12_next 51 = .ok (.aload_n 0, 1) := by decide +kernel
theorem dX12_next_52 : decode cX12_next 52 = .ok (.iconst 0, 1) := by decide +kernel
theorem dX12_next_53 : decode cX12_next 53 = .ok (.putfield 108, 3) := by decide +kernel
theorem dX12_next_56 : decode cX12_next 56 = .ok (.aload_n 0, 1) := by decide +kernel
theorem dX12_next_57 : decode cX12_next 57 = .ok (.lconst 0, 1) := by decide +kernel
theorem dX12_next_58 : decode cX12_next 58 = .ok (.putfield 111, 3) := by decide +kernel
theorem dX12_next_61 : decode cX12_next 61 = .ok (.aload_n 0, 1) := by decide +kernel
theorem dX12_next_62 : decode cX12_next 62 = .ok (.getfield 98, 3) := by decide +kernel
theorem dX12_next_65 : decode cX12_next 65 = .ok (.aload_n 0, 1) := by decide +kernel
theorem dX12_next_66 : decode cX12_next 66 = .ok (.getfield 91, 3) := by decide +kernel
theorem dX12_next_69 : decode cX12_next 69 = .ok (.if_icmp .ne 11, 3) := by decide +kernel
theorem dX12_next_72 : decode cX12_next 72 = .ok (.aload_n 0, 1) := by decide +kernel
theorem dX12_next_73 : decode cX12_next 73 = .ok (.iconst 0, 1) := by decide +kernel
theorem dX12_next_74 : decode cX12_next 74 = .ok (.putfield 115, 3) := by decide +kernel
theorem dX12_next_77 : decode cX12_next 77 = .ok (.goto 230, 3) := by decide +kernel
theorem dX12_next_307 : decode cX12_next 307 = .ok (.return_, 1) := by decide +kernel
theorem dX12_begins_0 : decode cX12_begins 0 = .ok (.aload_n 0, 1) := by decide +kernel
theorem dX12_begins_1 : decode cX12_begins 1 = .ok (.iconst 0, 1) := by decide +kernel
theorem dX12_begins_2 : decode cX12_begins 2 = .ok (.putfield 126, 3) := by decide +kernel
theorem dX12_begins_5 : decode cX12_begins 5 = .ok (.aload_n 0, 1) := by decide +kernel
theorem dX12_begins_6 : decode cX12_begins 6 = .ok (.iconst (-1), 1) := by decide +kernel
theorem dX12_begins_7 : decode cX12_begins 7 = .ok (.putfield 129, 3) := by decide +kernel
theorem dX12_begins_10 : decode cX12_begins 10 = .ok (.aload_n 0, 1) := by decide +kernel
theorem dX12_begins_11 : decode cX12_begins 11 = .ok (.iconst 0, 1) := by decide +kernel
theorem dX12_begins_12 : decode cX12_begins 12 = .ok (.putfield 98, 3) := by decide +kernel
theorem dX12_begins_15 : decode cX12_begins 15 = .ok (.aload_n 0, 1) := by decide +kernel
theorem dX12_begins_16 : decode cX12_begins 16 = .ok (.invokevirtual 136, 3) := by decide +kernel
theorem dX12_begins_19 : decode cX12_begins 19 = .ok (.return_, 1) := by decide +kernel
theorem dX12_isGood_0 : decode cX12_isGood 0 = .ok (.aload_n 0, 1) := by decide +kernel
theorem dX12_isGood_1 : decode cX12_isGood 1 = .ok (.getfield 126, 3) := by decide +kernel
theorem dX12_isGood_4 : decode cX12_isGood 4 = .ok (.ifCond .ne 7, 3) := by decide +kernel
theorem dX12_isGood_7 : decode cX12_isGood 7 = .ok (.iconst 1, 1) := by decide +kernel
theorem dX12_isGood_8 : decode cX12_isGood 8 = .ok (.goto 4, 3) := by decide +kernel
theorem dX12_isGood_12 : decode cX12_isGood 12 = .ok (.ireturn, 1) := by decide +kernel
theorem dX12_isOver_0 : decode cX12_isOver 0 = .ok (.aload_n 0, 1) := by decide +kernel
theorem dX12_isOver_1 : decode cX12_isOver 1 = .ok (.iconst 0, 1) := by decide +kernel
theorem dX12_isOver_2 : decode cX12_isOver 2 = .ok (.putfield 91, 3) := by decide +kernel
theorem dX12_isOver_5 : decode cX12_isOver 5 = .ok (.aload_n 0, 1) := by decide +kernel
theorem dX12_isOver_6 : decode cX12_isOver 6 = .ok (.aload_n 0, 1) := by decide +kernel
theorem dX12_isOver_7 : decode cX12_isOver 7 = .ok (.getfield 126, 3) := by decide +kernel
theorem dX12_isOver_10 : decode cX12_isOver 10 = .ok (.putfield 153, 3) := by decide +kernel
theorem dX12_isOver_13 : decode cX12_isOver 13 = .ok (.aload_n 0, 1) := by decide +kernel
theorem dX12_isOver_14 : decode cX12_isOver 14 = .ok (.aload_n 0, 1) := by decide +kernel
theorem dX12_isOver_15 : decode cX12_isOver 15 = .ok (.getfield 126, 3) := by decide +kernel
theorem dX12_isOver_18 : decode cX12_isOver 18 = .ok (.ifCond .ne 7, 3) := by decide +kernel
theorem dX12_isOver_21 : decode cX12_isOver 21 = .ok (.iconst (-1), 1) := by decide +kernel
theorem dX12_isOver_22 : decode cX12_isOver 22 = .ok (.goto 7, 3) := by decide +kernel
theorem dX12_isOver_29 : decode cX12_isOver 29 = .ok (.putfield 27, 3) := by decide +kernel
theorem dX12_isOver_32 : decode cX12_isOver 32 = .ok (.return_, 1) := by decide +kernel
theorem dX12_shore_0 : decode cX12_shore 0 = .ok (.aload_n 0, 1) := by decide +kernel
theorem dX12_shore_1 : decode cX12_shore 1 = .ok (.iconst 0, 1) := by decide +kernel
theorem dX12_shore_2 : decode cX12_shore 2 = .ok (.putfield 74, 3) := by decide +kernel
theorem dX12_shore_5 : decode cX12_shore 5 = .ok (.aload_n 0, 1) := by decide +kernel
theorem dX12_shore_6 : decode cX12_shore 6 = .ok (.invokevirtual 222, 3) := by decide +kernel
theorem dX12_shore_9 : decode cX12_shore 9 = .ok (.aload_n 0, 1) := by decide +kernel
theorem dX12_shore_10 : decode cX12_shore 10 = .ok (.invokevirtual 225, 3) := by decide +kernel
theorem dX12_shore_13 : decode cX12_shore 13 = .ok (.aload_n 0, 1) := by decide +kernel
theorem dX12_shore_14 : decode cX12_shore 14 = .ok (.invokevirtual 173, 3) := by decide +kernel
theorem dX12_shore_17 : decode cX12_shore 17 = .ok (.ifCond .eq 132, 3) := by decide +kernel
theorem dX12_shore_20 : decode cX12_shore 20 = .ok (.aload_n 0, 1) := by decide +kernel
theorem dX12_shore_21 : decode cX12_shore 21 = .ok (.getfield 115, 3) := by decide +kernel
theorem dX12_shore_24 : decode cX12_shore 24 = .ok (.ifCond .eq 125, 3) := by decide +kernel
theorem dX12_shore_149 : decode cX12_shore 149 = .ok (.aload_n 0, 1) := by decide +kernel
theorem dX12_shore_150 : decode cX12_shore 150 = .ok (.invokevirtual 240, 3) := by decide +kernel
theorem dX12_shore_153 : decode cX12_shore 153 = .ok (.aload_n 0, 1) := by decide +kernel
theorem dX12_shore_154 : decode cX12_shore 154 = .ok (.getfield 126, 3) := by decide +kernel
theorem dX12_shore_157 : decode cX12_shore 157 = .ok (.ifCond .eq 6, 3) := by decide +kernel
theorem dX12_shore_163 : decode cX12_shore 163 = .ok (.aload_n 0, 1) := by decide +kernel
theorem dX12_shore_164 : decode cX12_shore 164 = .ok (.iconst 4, 1) := by decide +kernel
theorem dX12_shore_165 : decode cX12_shore 165 = .ok (.iconst 0, 1) := by decide +kernel
theorem dX12_shore_166 : decode cX12_shore 166 = .ok (.invokevirtual 243, 3) := by decide +kernel
theorem dX12_shore_169 : decode cX12_shore 169 = .ok (.aload_n 0, 1) := by decide +kernel
theorem dX12_shore_170 : decode cX12_shore 170 = .ok (.getfield 31, 3) := by decide +kernel
theorem dX12_shore_173 : decode cX12_shore 173 = .ok (.iconst 0, 1) := by decide +kernel
theorem dX12_shore_174 : decode cX12_shore 174 = .ok (.iaload, 1) := by decide +kernel
theorem dX12_shore_175 : decode cX12_shore 175 = .ok (.ireturn, 1) := by decide +kernel
theorem q1742 : Cond.code ⟨"EbbWreckModel", "copyShore", "(II)V"⟩ prog_14_method_38_code 3 none ∈ lw_g := mg (List.mem_of_getElem? (i := 1742) (by decide +kernel)) rfl
theorem q1741 : Cond.instanceMethod ⟨"EbbWreckModel", "copyShore", "(II)V"⟩ ∈ lw_g := mg (List.mem_of_getElem? (i := 1741) (by decide +kernel)) rfl
theorem q71 : Cond.selects "EbbWreckModel" ⟨"EbbWreckModel", "copyShore", "(II)V"⟩ ⟨"EbbWreckModel", "copyShore", "(II)V"⟩ ∈ lw_g := mg (List.mem_of_getElem? (i := 71) (by decide +kernel)) rfl
theorem q1739 : Cond.methodLink "EbbWreckModel" 243 ⟨"EbbWreckModel", "copyShore", "(II)V"⟩ ∈ lw_g := mg (List.mem_of_getElem? (i := 1739) (by decide +kernel)) rfl
theorem q1632 : Cond.code ⟨"EbbWreckModel", "tells", "(II)V"⟩ prog_14_method_26_code 3 none ∈ lw_g := mg (List.mem_of_getElem? (i := 1632) (by decide +kernel)) rfl
theorem q1631 : Cond.instanceMethod ⟨"EbbWreckModel", "tells", "(II)V"⟩ ∈ lw_g := mg (List.mem_of_getElem? (i := 1631) (by decide +kernel)) rfl
theorem q49 : Cond.selects "EbbWreckModel" ⟨"EbbWreckModel", "tells", "(II)V"⟩ ⟨"EbbWreckModel", "tells", "(II)V"⟩ ∈ lw_g := mg (List.mem_of_getElem? (i := 49) (by decide +kernel)) rfl
theorem q1629 : Cond.methodLink "EbbWreckModel" 186 ⟨"EbbWreckModel", "tells", "(II)V"⟩ ∈ lw_g := mg (List.mem_of_getElem? (i := 1629) (by decide +kernel)) rfl
theorem q1475 : Cond.fieldLink "EbbWreckModel" 98 "EbbWreckModel" "at" "I" ∈ lw_g := mg (List.mem_of_getElem? (i := 1475) (by decide +kernel)) rfl
theorem q1644 : Cond.code ⟨"EbbWreckModel", "isByte", "(III)Z"⟩ prog_14_method_12_code 4 (some .boolean) ∈ lw_g := mg (List.mem_of_getElem? (i := 1644) (by decide +kernel)) rfl
theorem q1643 : Cond.instanceMethod ⟨"EbbWreckModel", "isByte", "(III)Z"⟩ ∈ lw_g := mg (List.mem_of_getElem? (i := 1643) (by decide +kernel)) rfl
theorem q52 : Cond.selects "EbbWreckModel" ⟨"EbbWreckModel", "isByte", "(III)Z"⟩ ⟨"EbbWreckModel", "isByte", "(III)Z"⟩ ∈ lw_g := mg (List.mem_of_getElem? (i := 52) (by decide +kernel)) rfl
theorem q1641 : Cond.methodLink "EbbWreckModel" 101 ⟨"EbbWreckModel", "isByte", "(III)Z"⟩ ∈ lw_g := mg (List.mem_of_getElem? (i := 1641) (by decide +kernel)) rfl
theorem q1477 : Cond.fieldLink "EbbWreckModel" 105 "EbbWreckModel" "place" "I" ∈ lw_g := mg (List.mem_of_getElem? (i := 1477) (by decide +kernel)) rfl
theorem q1478 : Cond.fieldLink "EbbWreckModel" 108 "EbbWreckModel" "value" "I" ∈ lw_g := mg (List.mem_of_getElem? (i := 1478) (by decide +kernel)) rfl
theorem q1479 : Cond.fieldLink "EbbWreckModel" 111 "EbbWreckModel" "word" "J" ∈ lw_g := mg (List.mem_of_getElem? (i := 1479) (by decide +kernel)) rfl
theorem q1476 : Cond.fieldLink "EbbWreckModel" 115 "EbbWreckModel" "token" "I" ∈ lw_g := mg (List.mem_of_getElem? (i := 1476) (by decide +kernel)) rfl
theorem q1480 : Cond.fieldLink "EbbWreckModel" 126 "EbbWreckModel" "bad" "I" ∈ lw_g := mg (List.mem_of_getElem? (i := 1480) (by decide +kernel)) rfl
theorem q1481 : Cond.fieldLink "EbbWreckModel" 129 "EbbWreckModel" "badPlace" "I" ∈ lw_g := mg (List.mem_of_getElem? (i := 1481) (by decide +kernel)) rfl
theorem q1640 : Cond.code ⟨"EbbWreckModel", "next", "()V"⟩ prog_14_method_13_code 2 none ∈ lw_g := mg (List.mem_of_getElem? (i := 1640) (by decide +kernel)) rfl
theorem q1639 : Cond.instanceMethod ⟨"EbbWreckModel", "next", "()V"⟩ ∈ lw_g := mg (List.mem_of_getElem? (i := 1639) (by decide +kernel)) rfl
theorem q51 : Cond.selects "EbbWreckModel" ⟨"EbbWreckModel", "next", "()V"⟩ ⟨"EbbWreckModel", "next", "()V"⟩ ∈ lw_g := mg (List.mem_of_getElem? (i := 51) (by decide +kernel)) rfl
theorem q1637 : Cond.methodLink "EbbWreckModel" 136 ⟨"EbbWreckModel", "next", "()V"⟩ ∈ lw_g := mg (List.mem_of_getElem? (i := 1637) (by decide +kernel)) rfl
theorem q1628 : Cond.code ⟨"EbbWreckModel", "clears", "()V"⟩ prog_14_method_35_code 2 none ∈ lw_g := mg (List.mem_of_getElem? (i := 1628) (by decide +kernel)) rfl
theorem q1627 : Cond.instanceMethod ⟨"EbbWreckModel", "clears", "()V"⟩ ∈ lw_g := mg (List.mem_of_getElem? (i := 1627) (by decide +kernel)) rfl
theorem q48 : Cond.selects "EbbWreckModel" ⟨"EbbWreckModel", "clears", "()V"⟩ ⟨"EbbWreckModel", "clears", "()V"⟩ ∈ lw_g := mg (List.mem_of_getElem? (i := 48) (by decide +kernel)) rfl
theorem q1625 : Cond.methodLink "EbbWreckModel" 222 ⟨"EbbWreckModel", "clears", "()V"⟩ ∈ lw_g := mg (List.mem_of_getElem? (i := 1625) (by decide +kernel)) rfl
theorem q1636 : Cond.code ⟨"EbbWreckModel", "begins", "()V"⟩ prog_14_method_22_code 1 none ∈ lw_g := mg (List.mem_of_getElem? (i := 1636) (by decide +kernel)) rfl
theorem q1635 : Cond.instanceMethod ⟨"EbbWreckModel", "begins", "()V"⟩ ∈ lw_g := mg (List.mem_of_getElem? (i := 1635) (by decide +kernel)) rfl
theorem q50 : Cond.selects "EbbWreckModel" ⟨"EbbWreckModel", "begins", "()V"⟩ ⟨"EbbWreckModel", "begins", "()V"⟩ ∈ lw_g := mg (List.mem_of_getElem? (i := 50) (by decide +kernel)) rfl
theorem q1633 : Cond.methodLink "EbbWreckModel" 225 ⟨"EbbWreckModel", "begins", "()V"⟩ ∈ lw_g := mg (List.mem_of_getElem? (i := 1633) (by decide +kernel)) rfl
theorem q1653 : Cond.code ⟨"EbbWreckModel", "isGood", "()Z"⟩ prog_14_method_14_code 1 (some .boolean) ∈ lw_g := mg (List.mem_of_getElem? (i := 1653) (by decide +kernel)) rfl
theorem q1652 : Cond.instanceMethod ⟨"EbbWreckModel", "isGood", "()Z"⟩ ∈ lw_g := mg (List.mem_of_getElem? (i := 1652) (by decide +kernel)) rfl
theorem q53 : Cond.selects "EbbWreckModel" ⟨"EbbWreckModel", "isGood", "()Z"⟩ ⟨"EbbWreckModel", "isGood", "()Z"⟩ ∈ lw_g := mg (List.mem_of_getElem? (i := 53) (by decide +kernel)) rfl
theorem q1650 : Cond.methodLink "EbbWreckModel" 173 ⟨"EbbWreckModel", "isGood", "()Z"⟩ ∈ lw_g := mg (List.mem_of_getElem? (i := 1650) (by decide +kernel)) rfl
theorem q1738 : Cond.code ⟨"EbbWreckModel", "isOver", "()V"⟩ prog_14_method_23_code 1 none ∈ lw_g := mg (List.mem_of_getElem? (i := 1738) (by decide +kernel)) rfl
theorem q1737 : Cond.instanceMethod ⟨"EbbWreckModel", "isOver", "()V"⟩ ∈ lw_g := mg (List.mem_of_getElem? (i := 1737) (by decide +kernel)) rfl
theorem q70 : Cond.selects "EbbWreckModel" ⟨"EbbWreckModel", "isOver", "()V"⟩ ⟨"EbbWreckModel", "isOver", "()V"⟩ ∈ lw_g := mg (List.mem_of_getElem? (i := 70) (by decide +kernel)) rfl
theorem q1735 : Cond.methodLink "EbbWreckModel" 240 ⟨"EbbWreckModel", "isOver", "()V"⟩ ∈ lw_g := mg (List.mem_of_getElem? (i := 1735) (by decide +kernel)) rfl
theorem mX12_copyShore : CmV "EbbWreckModel" yX12_copyShore cX12_copyShore 3 none 2 := ⟨q1741, q71, q127, q1742, ⟨rfl, by decide, by decide, by decide +kernel⟩⟩
theorem mX12_tells : CmV "EbbWreckModel" yX12_tells cX12_tells 3 none 2 := ⟨q1631, q49, q127, q1632, ⟨rfl, by decide, by decide, by decide +kernel⟩⟩
theorem mX12_isByte : CmV "EbbWreckModel" yX12_isByte cX12_isByte 4 (some .boolean) 3 := ⟨q1643, q52, q127, q1644, ⟨rfl, by decide, by decide, by decide +kernel⟩⟩
theorem mX12_next : CmV "EbbWreckModel" yX12_next cX12_next 2 none 0 := ⟨q1639, q51, q127, q1640, ⟨rfl, by decide, by decide, by decide +kernel⟩⟩
theorem mX12_clears : CmV "EbbWreckModel" yX12_clears cX12_clears 2 none 0 := ⟨q1627, q48, q127, q1628, ⟨rfl, by decide, by decide, by decide +kernel⟩⟩
theorem mX12_begins : CmV "EbbWreckModel" yX12_begins cX12_begins 1 none 0 := ⟨q1635, q50, q127, q1636, ⟨rfl, by decide, by decide, by decide +kernel⟩⟩
theorem mX12_isGood : CmV "EbbWreckModel" yX12_isGood cX12_isGood 1 (some .boolean) 0 := ⟨q1652, q53, q127, q1653, ⟨rfl, by decide, by decide, by decide +kernel⟩⟩
theorem mX12_isOver : CmV "EbbWreckModel" yX12_isOver cX12_isOver 1 none 0 := ⟨q1737, q70, q127, q1738, ⟨rfl, by decide, by decide, by decide +kernel⟩⟩
