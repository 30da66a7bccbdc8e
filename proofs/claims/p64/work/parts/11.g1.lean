set_option maxHeartbeats 4000000 in
set_option maxRecDepth 100000 in
theorem gX1_isTold_2 (l : Launch) (g : GG) (ad : Nat → Nat) (hD : Dj ad 122) (S : SS) (hI : InvX g ad S) : Met l yX1_isTold (wG (.code yX1_isTold cX1_isTold 1 (some .boolean))) (Rm 0) (XPre g ad 122 S [.ref (ad 2)]) (va_Qi (fun r S' => S = S' ∧ Bd r (0) (1) ∧ ((r.toInt + (-1) < 0 ∨ (0 ≤ fld (S 2) 0 + (-1))))) (QB g ad 122) (FA ad 122)) 0 0 (FA ad 122) := by
  refine xmet cX1_isTold "EbbWreck$Coast" (by decide) rfl (Nat.le_of_ble_eq_true rfl) (fun p e s m below meth c E hr hlk hml hQ ls hl => ?_)
  have hx := E.1
  have hb := E.2.1
  have hs : Sp ad 122 (FA ad 122) := Sp.fa hD
  have hl : lv_has ls 1 [(0, .ref (ad 2))] := hl
  obtain ⟨v1, v3, v5, v6, v7, v9, c11, b2, b4, b8, b10⟩ := invX_2 hI
  have c11 : S 2 = .inr (1, [.int v1, .int v3, .int v5, .ref (ad 3), .ref (ad 5), .ref (ad 6), .int v6, .int v7, .ref (ad 7), .ref (ad 8), .ref (ad 9), .ref (ad 10), .int v9, .ref (ad 15), .ref (ad 16)]) := c11
  refine lv_aload_n hx hb dX1_isTold_0 rfl (lv_at hl 0 rfl) ?_
  refine xget E hQ 2 (by decide) c11 rfl 0 (by decide) q236 rfl dX1_isTold_1 ?_
  refine lv_if_le (tgt := 11) hx hb dX1_isTold_4 (by decide) (fun k12 => ?_) (fun k12 => ?_)
  · have h13 := ib_le k12
    have b14 : Bd v1 (0) (0) := ⟨(b2).1, ((rf_le b2 (by decide : Bd 0 (0) (0)) h13).1).2⟩
    refine lv_iconst (v := 0) hx hb dX1_isTold_11 (by decide) ?_
    have q15 : fld (S 2) 0 = v1.toInt := fld_of c11 rfl
    have q16 : (0 : Int32).toInt = 0 := by decide
    exact xrz E hr hlk hQ rfl (⟨rfl, (ib_wk (by decide : Bd 0 (0) (0)) (by decide) (by decide)), Or.inl (by omega)⟩) dX1_isTold_12
  · have h17 := ib_nle k12
    have b18 : Bd v1 (1) (1201) := ⟨((rf_lt (by decide : Bd 0 (0) (0)) b2 h17).2).1, (b2).2⟩
    refine lv_iconst (v := 1) hx hb dX1_isTold_7 (by decide) ?_
    refine lv_goto (tgt := 12) hx hb dX1_isTold_8 (by decide) ?_
    have q19 : fld (S 2) 0 = v1.toInt := fld_of c11 rfl
    have q20 : (1 : Int32).toInt = 1 := by decide
    exact xrz E hr hlk hQ rfl (⟨rfl, (ib_wk (by decide : Bd 1 (1) (1)) (by decide) (by decide)), Or.inr (by omega)⟩) dX1_isTold_12
set_option maxHeartbeats 4000000 in
set_option maxRecDepth 100000 in
theorem gX1_isBeach_2 (l : Launch) (g : GG) (ad : Nat → Nat) (hD : Dj ad 122) (S : SS) (hI : InvX g ad S) (a1 : Int32) : Met l yX1_isBeach (wG (.code yX1_isBeach cX1_isBeach 2 (some .boolean))) (Rm 0) (XPre g ad 122 S [.ref (ad 2), .int a1]) (va_Qi (fun r S' => S = S' ∧ Bd r (0) (1)) (QB g ad 122) (FA ad 122)) 0 0 (FA ad 122) := by
  refine xmet cX1_isBeach "EbbWreck$Coast" (by decide) rfl (Nat.le_of_ble_eq_true rfl) (fun p e s m below meth c E hr hlk hml hQ ls hl => ?_)
  have hx := E.1
  have hb := E.2.1
  have hs : Sp ad 122 (FA ad 122) := Sp.fa hD
  have hl : lv_has ls 2 [(0, .ref (ad 2)), (1, .int a1)] := hl
  refine lv_aload_n hx hb dX1_isBeach_0 rfl (lv_at hl 0 rfl) ?_
  obtain ⟨v1, v3, v5, v6, v7, v9, c11, b2, b4, b8, b10⟩ := invX_2 hI
  have c11 : S 2 = .inr (1, [.int v1, .int v3, .int v5, .ref (ad 3), .ref (ad 5), .ref (ad 6), .int v6, .int v7, .ref (ad 7), .ref (ad 8), .ref (ad 9), .ref (ad 10), .int v9, .ref (ad 15), .ref (ad 16)]) := c11
  refine xget E hQ 2 (by decide) c11 rfl 6 (by decide) q263 rfl dX1_isBeach_1 ?_
  refine lv_iload_n hx hb dX1_isBeach_4 rfl (lv_at hl 1 rfl) ?_
  refine lv_ishr hx hb dX1_isBeach_5 ?_
  refine lv_topi (fun z12 e13 => ?_)
  refine lv_iconst (v := 1) hx hb dX1_isBeach_6 (by decide) ?_
  refine lv_iand hx hb dX1_isBeach_7 ?_
  refine lv_topi (fun z14 e15 => ?_)
  have b16 : Bd z14 (0) (1) := ib_and 1 e15 (by decide) (by decide)
  refine lv_iconst (v := 1) hx hb dX1_isBeach_8 (by decide) ?_
  refine lv_icmp_ne (tgt := 16) hx hb dX1_isBeach_9 (by decide) (fun k17 => ?_) (fun k17 => ?_)
  · have h18 := ib_ne k17
    have b19 : Bd z14 (0) (0) := rf_nhi b16 (by decide : Bd 1 (1) (1)) h18
    refine lv_iconst (v := 0) hx hb dX1_isBeach_16 (by decide) ?_
    exact xrz E hr hlk hQ rfl (⟨rfl, (ib_wk (by decide : Bd 0 (0) (0)) (by decide) (by decide))⟩) dX1_isBeach_17
  · have h20 := ib_eq k17
    have b21 : Bd z14 (1) (1) := ⟨((rf_eq b16 (by decide : Bd 1 (1) (1)) h20).1).1, (b16).2⟩
    refine lv_iconst (v := 1) hx hb dX1_isBeach_12 (by decide) ?_
    refine lv_goto (tgt := 17) hx hb dX1_isBeach_13 (by decide) ?_
    exact xrz E hr hlk hQ rfl (⟨rfl, (ib_wk (by decide : Bd 1 (1) (1)) (by decide) (by decide))⟩) dX1_isBeach_17
set_option maxHeartbeats 4000000 in
set_option maxRecDepth 100000 in
theorem gX1_hasCell_2 (l : Launch) (g : GG) (ad : Nat → Nat) (hD : Dj ad 122) (S : SS) (hI : InvX g ad S) (a1 : Int32) : Met l yX1_hasCell (wG (.code yX1_hasCell cX1_hasCell 2 (some .boolean))) (Rm 0) (XPre g ad 122 S [.ref (ad 2), .int a1]) (va_Qi (fun r S' => S = S' ∧ Bd r (0) (1) ∧ ((r.toInt + (-1) < 0 ∨ (0 ≤ a1.toInt ∧ 0 ≤ fld (S 2) 1 + (-1) * a1.toInt + (-1))))) (QB g ad 122) (FA ad 122)) 0 0 (FA ad 122) := by
  refine xmet cX1_hasCell "EbbWreck$Coast" (by decide) rfl (Nat.le_of_ble_eq_true rfl) (fun p e s m below meth c E hr hlk hml hQ ls hl => ?_)
  have hx := E.1
  have hb := E.2.1
  have hs : Sp ad 122 (FA ad 122) := Sp.fa hD
  have hl : lv_has ls 2 [(0, .ref (ad 2)), (1, .int a1)] := hl
  obtain ⟨v1, v3, v5, v6, v7, v9, c11, b2, b4, b8, b10⟩ := invX_2 hI
  have c11 : S 2 = .inr (1, [.int v1, .int v3, .int v5, .ref (ad 3), .ref (ad 5), .ref (ad 6), .int v6, .int v7, .ref (ad 7), .ref (ad 8), .ref (ad 9), .ref (ad 10), .int v9, .ref (ad 15), .ref (ad 16)]) := c11
  refine lv_iload_n hx hb dX1_hasCell_0 rfl (lv_at hl 1 rfl) ?_
  refine lv_if_lt (tgt := 16) hx hb dX1_hasCell_1 (by decide) (fun k12 => ?_) (fun k12 => ?_)
  · have h13 := ib_lt k12
    have b14 : Bd a1 (-2147483648) (-1) := ⟨((ib_full a1)).1, ((rf_lt (ib_full a1) (by decide : Bd 0 (0) (0)) h13).1).2⟩
    refine lv_iconst (v := 0) hx hb dX1_hasCell_16 (by decide) ?_
    have q15 : fld (S 2) 1 = v3.toInt := fld_of c11 rfl
    have q16 : (0 : Int32).toInt = 0 := by decide
    exact xrz E hr hlk hQ rfl (⟨rfl, (ib_wk (by decide : Bd 0 (0) (0)) (by decide) (by decide)), Or.inl (by omega)⟩) dX1_hasCell_17
  · have h17 := ib_nlt k12
    have b18 : Bd a1 (0) (2147483647) := ⟨((rf_le (by decide : Bd 0 (0) (0)) (ib_full a1) h17).2).1, ((ib_full a1)).2⟩
    refine lv_iload_n hx hb dX1_hasCell_4 rfl (lv_at hl 1 rfl) ?_
    refine lv_aload_n hx hb dX1_hasCell_5 rfl (lv_at hl 0 rfl) ?_
    refine xget E hQ 2 (by decide) c11 rfl 1 (by decide) q239 rfl dX1_hasCell_6 ?_
    refine lv_icmp_ge (tgt := 16) hx hb dX1_hasCell_9 (by decide) (fun k19 => ?_) (fun k19 => ?_)
    · have h20 := ib_le k19
      refine lv_iconst (v := 0) hx hb dX1_hasCell_16 (by decide) ?_
      have q21 : fld (S 2) 1 = v3.toInt := fld_of c11 rfl
      have q22 : (0 : Int32).toInt = 0 := by decide
      exact xrz E hr hlk hQ rfl (⟨rfl, (ib_wk (by decide : Bd 0 (0) (0)) (by decide) (by decide)), Or.inl (by omega)⟩) dX1_hasCell_17
    · have h23 := ib_nle k19
      have b24 : Bd a1 (0) (11) := ⟨(b18).1, ((rf_lt b18 b4 h23).1).2⟩
      have b25 : Bd v3 (1) (12) := ⟨((rf_lt b18 b4 h23).2).1, (b4).2⟩
      refine lv_iconst (v := 1) hx hb dX1_hasCell_12 (by decide) ?_
      refine lv_goto (tgt := 17) hx hb dX1_hasCell_13 (by decide) ?_
      have q26 : fld (S 2) 1 = v3.toInt := fld_of c11 rfl
      have q27 : (1 : Int32).toInt = 1 := by decide
      exact xrz E hr hlk hQ rfl (⟨rfl, (ib_wk (by decide : Bd 1 (1) (1)) (by decide) (by decide)), Or.inr ⟨by omega, by omega⟩⟩) dX1_hasCell_17
set_option maxHeartbeats 4000000 in
set_option maxRecDepth 100000 in
theorem gX1_hasThing_2 (l : Launch) (g : GG) (ad : Nat → Nat) (hD : Dj ad 122) (S : SS) (hI : InvX g ad S) (a1 : Int32) : Met l yX1_hasThing (wG (.code yX1_hasThing cX1_hasThing 2 (some .boolean))) (Rm 0) (XPre g ad 122 S [.ref (ad 2), .int a1]) (va_Qi (fun r S' => S = S' ∧ Bd r (0) (1) ∧ ((r.toInt + (-1) < 0 ∨ (0 ≤ a1.toInt ∧ 0 ≤ fld (S 2) 7 + (-1) * a1.toInt + (-1))))) (QB g ad 122) (FA ad 122)) 0 0 (FA ad 122) := by
  refine xmet cX1_hasThing "EbbWreck$Coast" (by decide) rfl (Nat.le_of_ble_eq_true rfl) (fun p e s m below meth c E hr hlk hml hQ ls hl => ?_)
  have hx := E.1
  have hb := E.2.1
  have hs : Sp ad 122 (FA ad 122) := Sp.fa hD
  have hl : lv_has ls 2 [(0, .ref (ad 2)), (1, .int a1)] := hl
  obtain ⟨v1, v3, v5, v6, v7, v9, c11, b2, b4, b8, b10⟩ := invX_2 hI
  have c11 : S 2 = .inr (1, [.int v1, .int v3, .int v5, .ref (ad 3), .ref (ad 5), .ref (ad 6), .int v6, .int v7, .ref (ad 7), .ref (ad 8), .ref (ad 9), .ref (ad 10), .int v9, .ref (ad 15), .ref (ad 16)]) := c11
  refine lv_iload_n hx hb dX1_hasThing_0 rfl (lv_at hl 1 rfl) ?_
  refine lv_if_lt (tgt := 16) hx hb dX1_hasThing_1 (by decide) (fun k12 => ?_) (fun k12 => ?_)
  · have h13 := ib_lt k12
    have b14 : Bd a1 (-2147483648) (-1) := ⟨((ib_full a1)).1, ((rf_lt (ib_full a1) (by decide : Bd 0 (0) (0)) h13).1).2⟩
    refine lv_iconst (v := 0) hx hb dX1_hasThing_16 (by decide) ?_
    have q15 : fld (S 2) 7 = v7.toInt := fld_of c11 rfl
    have q16 : (0 : Int32).toInt = 0 := by decide
    exact xrz E hr hlk hQ rfl (⟨rfl, (ib_wk (by decide : Bd 0 (0) (0)) (by decide) (by decide)), Or.inl (by omega)⟩) dX1_hasThing_17
  · have h17 := ib_nlt k12
    have b18 : Bd a1 (0) (2147483647) := ⟨((rf_le (by decide : Bd 0 (0) (0)) (ib_full a1) h17).2).1, ((ib_full a1)).2⟩
    refine lv_iload_n hx hb dX1_hasThing_4 rfl (lv_at hl 1 rfl) ?_
    refine lv_aload_n hx hb dX1_hasThing_5 rfl (lv_at hl 0 rfl) ?_
    refine xget E hQ 2 (by decide) c11 rfl 7 (by decide) q270 rfl dX1_hasThing_6 ?_
    refine lv_icmp_ge (tgt := 16) hx hb dX1_hasThing_9 (by decide) (fun k19 => ?_) (fun k19 => ?_)
    · have h20 := ib_le k19
      refine lv_iconst (v := 0) hx hb dX1_hasThing_16 (by decide) ?_
      have q21 : fld (S 2) 7 = v7.toInt := fld_of c11 rfl
      have q22 : (0 : Int32).toInt = 0 := by decide
      exact xrz E hr hlk hQ rfl (⟨rfl, (ib_wk (by decide : Bd 0 (0) (0)) (by decide) (by decide)), Or.inl (by omega)⟩) dX1_hasThing_17
    · have h23 := ib_nle k19
      have b24 : Bd a1 (0) (7) := ⟨(b18).1, ((rf_lt b18 b8 h23).1).2⟩
      have b25 : Bd v7 (1) (8) := ⟨((rf_lt b18 b8 h23).2).1, (b8).2⟩
      refine lv_iconst (v := 1) hx hb dX1_hasThing_12 (by decide) ?_
      refine lv_goto (tgt := 17) hx hb dX1_hasThing_13 (by decide) ?_
      have q26 : fld (S 2) 7 = v7.toInt := fld_of c11 rfl
      have q27 : (1 : Int32).toInt = 1 := by decide
      exact xrz E hr hlk hQ rfl (⟨rfl, (ib_wk (by decide : Bd 1 (1) (1)) (by decide) (by decide)), Or.inr ⟨by omega, by omega⟩⟩) dX1_hasThing_17
set_option maxHeartbeats 4000000 in
set_option maxRecDepth 100000 in
theorem gX1_hasSitter_2 (l : Launch) (g : GG) (ad : Nat → Nat) (hD : Dj ad 122) (S : SS) (hI : InvX g ad S) (a1 : Int32) : Met l yX1_hasSitter (wG (.code yX1_hasSitter cX1_hasSitter 2 (some .boolean))) (Rm 0) (XPre g ad 122 S [.ref (ad 2), .int a1]) (va_Qi (fun r S' => S = S' ∧ Bd r (0) (1) ∧ ((r.toInt + (-1) < 0 ∨ (0 ≤ a1.toInt ∧ 0 ≤ fld (S 2) 12 + (-1) * a1.toInt + (-1))))) (QB g ad 122) (FA ad 122)) 0 0 (FA ad 122) := by
  refine xmet cX1_hasSitter "EbbWreck$Coast" (by decide) rfl (Nat.le_of_ble_eq_true rfl) (fun p e s m below meth c E hr hlk hml hQ ls hl => ?_)
  have hx := E.1
  have hb := E.2.1
  have hs : Sp ad 122 (FA ad 122) := Sp.fa hD
  have hl : lv_has ls 2 [(0, .ref (ad 2)), (1, .int a1)] := hl
  obtain ⟨v1, v3, v5, v6, v7, v9, c11, b2, b4, b8, b10⟩ := invX_2 hI
  have c11 : S 2 = .inr (1, [.int v1, .int v3, .int v5, .ref (ad 3), .ref (ad 5), .ref (ad 6), .int v6, .int v7, .ref (ad 7), .ref (ad 8), .ref (ad 9), .ref (ad 10), .int v9, .ref (ad 15), .ref (ad 16)]) := c11
  refine lv_iload_n hx hb dX1_hasSitter_0 rfl (lv_at hl 1 rfl) ?_
  refine lv_if_lt (tgt := 16) hx hb dX1_hasSitter_1 (by decide) (fun k12 => ?_) (fun k12 => ?_)
  · have h13 := ib_lt k12
    have b14 : Bd a1 (-2147483648) (-1) := ⟨((ib_full a1)).1, ((rf_lt (ib_full a1) (by decide : Bd 0 (0) (0)) h13).1).2⟩
    refine lv_iconst (v := 0) hx hb dX1_hasSitter_16 (by decide) ?_
    have q15 : fld (S 2) 12 = v9.toInt := fld_of c11 rfl
    have q16 : (0 : Int32).toInt = 0 := by decide
    exact xrz E hr hlk hQ rfl (⟨rfl, (ib_wk (by decide : Bd 0 (0) (0)) (by decide) (by decide)), Or.inl (by omega)⟩) dX1_hasSitter_17
  · have h17 := ib_nlt k12
    have b18 : Bd a1 (0) (2147483647) := ⟨((rf_le (by decide : Bd 0 (0) (0)) (ib_full a1) h17).2).1, ((ib_full a1)).2⟩
    refine lv_iload_n hx hb dX1_hasSitter_4 rfl (lv_at hl 1 rfl) ?_
    refine lv_aload_n hx hb dX1_hasSitter_5 rfl (lv_at hl 0 rfl) ?_
    refine xget E hQ 2 (by decide) c11 rfl 12 (by decide) q293 rfl dX1_hasSitter_6 ?_
    refine lv_icmp_ge (tgt := 16) hx hb dX1_hasSitter_9 (by decide) (fun k19 => ?_) (fun k19 => ?_)
    · have h20 := ib_le k19
      refine lv_iconst (v := 0) hx hb dX1_hasSitter_16 (by decide) ?_
      have q21 : fld (S 2) 12 = v9.toInt := fld_of c11 rfl
      have q22 : (0 : Int32).toInt = 0 := by decide
      exact xrz E hr hlk hQ rfl (⟨rfl, (ib_wk (by decide : Bd 0 (0) (0)) (by decide) (by decide)), Or.inl (by omega)⟩) dX1_hasSitter_17
    · have h23 := ib_nle k19
      have b24 : Bd a1 (0) (2) := ⟨(b18).1, ((rf_lt b18 b10 h23).1).2⟩
      have b25 : Bd v9 (1) (3) := ⟨((rf_lt b18 b10 h23).2).1, (b10).2⟩
      refine lv_iconst (v := 1) hx hb dX1_hasSitter_12 (by decide) ?_
      refine lv_goto (tgt := 17) hx hb dX1_hasSitter_13 (by decide) ?_
      have q26 : fld (S 2) 12 = v9.toInt := fld_of c11 rfl
      have q27 : (1 : Int32).toInt = 1 := by decide
      exact xrz E hr hlk hQ rfl (⟨rfl, (ib_wk (by decide : Bd 1 (1) (1)) (by decide) (by decide)), Or.inr ⟨by omega, by omega⟩⟩) dX1_hasSitter_17
set_option maxHeartbeats 4000000 in
set_option maxRecDepth 100000 in
theorem gX10_phaseOf_3 (l : Launch) (g : GG) (ad : Nat → Nat) (hD : Dj ad 122) (S : SS) (hI : InvX g ad S) (a1 : Int32) : Met l yX10_phaseOf (wG (.code yX10_phaseOf cX10_phaseOf 2 (some .int))) (Rm 0) (XPre g ad 122 S [.ref (ad 3), .int a1]) (va_Qi (fun _ S' => S = S') (QB g ad 122) (FA ad 122)) 0 0 (FA ad 122) := by
  refine xmet cX10_phaseOf "EbbWreck$Tide" (by decide) rfl (Nat.le_of_ble_eq_true rfl) (fun p e s m below meth c E hr hlk hml hQ ls hl => ?_)
  have hx := E.1
  have hb := E.2.1
  have hs : Sp ad 122 (FA ad 122) := Sp.fa hD
  have hl : lv_has ls 2 [(0, .ref (ad 3)), (1, .int a1)] := hl
  refine lv_aload_n hx hb dX10_phaseOf_0 rfl (lv_at hl 0 rfl) ?_
  obtain ⟨v1, v3, v5, v7, c9, b2, b4, b6, b8⟩ := invX_3 hI
  have c9 : S 3 = .inr (10, [.int v1, .int v3, .int v5, .int v7, .ref (ad 4)]) := c9
  refine xget E hQ 3 (by decide) c9 rfl 3 (by decide) q165 rfl dX10_phaseOf_1 ?_
  refine lv_iconst (v := 1) hx hb dX10_phaseOf_4 (by decide) ?_
  refine lv_icmp_lt (tgt := 17) hx hb dX10_phaseOf_5 (by decide) (fun k10 => ?_) (fun k10 => ?_)
  · have h11 := ib_lt k10
    have b12 : Bd v7 (0) (0) := ⟨(b8).1, ((rf_lt b8 (by decide : Bd 1 (1) (1)) h11).1).2⟩
    refine lv_iconst (v := 1) hx hb dX10_phaseOf_17 (by decide) ?_
    exact xri E hr hlk hQ (rfl) dX10_phaseOf_18
  · have h13 := ib_nlt k10
    have b14 : Bd v7 (1) (36) := ⟨((rf_le (by decide : Bd 1 (1) (1)) b8 h13).2).1, (b8).2⟩
    refine lv_aload_n hx hb dX10_phaseOf_8 rfl (lv_at hl 0 rfl) ?_
    refine xget E hQ 3 (by decide) c9 rfl 3 (by decide) q165 rfl dX10_phaseOf_9 ?_
    refine lv_bipush (v := 36) hx hb dX10_phaseOf_12 (by decide) ?_
    refine lv_icmp_le (tgt := 19) hx hb dX10_phaseOf_14 (by decide) (fun k15 => ?_) (fun k15 => ?_)
    · have h16 := ib_le k15
      refine lv_aload_n hx hb dX10_phaseOf_19 rfl (lv_at hl 0 rfl) ?_
      refine xget E hQ 3 (by decide) c9 rfl 4 (by decide) q166 rfl dX10_phaseOf_20 ?_
      refine lv_iload_n hx hb dX10_phaseOf_23 rfl (lv_at hl 1 rfl) ?_
      refine lv_aload_n hx hb dX10_phaseOf_24 rfl (lv_at hl 0 rfl) ?_
      refine xget E hQ 3 (by decide) c9 rfl 3 (by decide) q165 rfl dX10_phaseOf_25 ?_
      refine lv_irem hx hb dX10_phaseOf_28 (ib_ne0 b14 (by decide)) ?_
      refine lv_topi (fun z17 e18 => ?_)
      have rx19 := ib_remx e18 (ib_full a1) b14 (by decide)
      have b20 : Bd z17 (-35) (35) := ib_remb e18 (ib_full a1) b14 (by decide)
      refine lv_aload_n hx hb dX10_phaseOf_29 rfl (lv_at hl 0 rfl) ?_
      refine xget E hQ 3 (by decide) c9 rfl 3 (by decide) q165 rfl dX10_phaseOf_30 ?_
      refine lv_iadd hx hb dX10_phaseOf_33 ?_
      refine lv_topi (fun z21 e22 => ?_)
      have t23 := ib_add e22 b20 b14 (by decide) (by decide)
      have b24 : Bd z21 (-34) (71) := ib_addb t23 b20 b14
      have b25 : Bd z21 (1) (71) := ⟨by have h1 := rx19.2; have h2 := t23; omega, b24.2⟩
      refine lv_aload_n hx hb dX10_phaseOf_34 rfl (lv_at hl 0 rfl) ?_
      refine xget E hQ 3 (by decide) c9 rfl 3 (by decide) q165 rfl dX10_phaseOf_35 ?_
      refine lv_irem hx hb dX10_phaseOf_38 (ib_ne0 b14 (by decide)) ?_
      refine lv_topi (fun z26 e27 => ?_)
      have b29 : Bd z26 (0) (35) := ib_remp e27 b25 b14 (by decide) (by decide)
      have rx28 := ib_remx e27 b25 b14 (by decide)
      obtain ⟨f30, c31⟩ := invX_4 hI
      refine xiald E hQ 4 (by decide) c31 (ib_in b29 (by decide) (by decide)) dX10_phaseOf_39 ?_
      refine lv_topi (fun z33 e34 => ?_)
      exact xri E hr hlk hQ (rfl) dX10_phaseOf_40
    · have h35 := ib_nle k15
      exact absurd (Int.le_trans ((by decide : Bd 36 (36) (36))).1 ((rf_lt (by decide : Bd 36 (36) (36)) b14 h35).1).2) (by decide)
set_option maxHeartbeats 4000000 in
set_option maxRecDepth 100000 in
theorem gX10_hoursLeft_3 (l : Launch) (g : GG) (ad : Nat → Nat) (hD : Dj ad 122) (S : SS) (hI : InvX g ad S) (a1 : Int32) : Met l yX10_hoursLeft (wG (.code yX10_hoursLeft cX10_hoursLeft 3 (some .int))) (Rm 0) (XPre g ad 122 S [.ref (ad 3), .int a1]) (va_Qi (fun r S' => S = S' ∧ Bd r (-40) (47)) (QB g ad 122) (FA ad 122)) 0 0 (FA ad 122) := by
  refine xmet cX10_hoursLeft "EbbWreck$Tide" (by decide) rfl (Nat.le_of_ble_eq_true rfl) (fun p e s m below meth c E hr hlk hml hQ ls hl => ?_)
  have hx := E.1
  have hb := E.2.1
  have hs : Sp ad 122 (FA ad 122) := Sp.fa hD
  have hl : lv_has ls 3 [(0, .ref (ad 3)), (1, .int a1)] := hl
  refine lv_aload_n hx hb dX10_hoursLeft_0 rfl (lv_at hl 0 rfl) ?_
  obtain ⟨v1, v3, v5, v7, c9, b2, b4, b6, b8⟩ := invX_3 hI
  have c9 : S 3 = .inr (10, [.int v1, .int v3, .int v5, .int v7, .ref (ad 4)]) := c9
  refine xget E hQ 3 (by decide) c9 rfl 3 (by decide) q165 rfl dX10_hoursLeft_1 ?_
  refine lv_iconst (v := 1) hx hb dX10_hoursLeft_4 (by decide) ?_
  refine lv_icmp_ge (tgt := 10) hx hb dX10_hoursLeft_5 (by decide) (fun k10 => ?_) (fun k10 => ?_)
  · have h11 := ib_le k10
    have b12 : Bd v7 (1) (36) := ⟨((rf_le (by decide : Bd 1 (1) (1)) b8 h11).2).1, (b8).2⟩
    refine lv_iload_n hx hb dX10_hoursLeft_10 rfl (lv_at hl 1 rfl) ?_
    refine lv_aload_n hx hb dX10_hoursLeft_11 rfl (lv_at hl 0 rfl) ?_
    refine xget E hQ 3 (by decide) c9 rfl 3 (by decide) q165 rfl dX10_hoursLeft_12 ?_
    refine lv_irem hx hb dX10_hoursLeft_15 (ib_ne0 b12 (by decide)) ?_
    refine lv_topi (fun z13 e14 => ?_)
    have rx15 := ib_remx e14 (ib_full a1) b12 (by decide)
    have b16 : Bd z13 (-35) (35) := ib_remb e14 (ib_full a1) b12 (by decide)
    refine lv_istore_n (lv' := [(2, .int z13), (0, .ref (ad 3)), (1, .int a1)]) hx hb dX10_hoursLeft_16 rfl hl (by decide) rfl (fun ls hl => ?_)
    refine lv_iload_n hx hb dX10_hoursLeft_17 rfl (lv_at hl 0 rfl) ?_
    refine lv_aload_n hx hb dX10_hoursLeft_18 rfl (lv_at hl 1 rfl) ?_
    refine xget E hQ 3 (by decide) c9 rfl 0 (by decide) q155 rfl dX10_hoursLeft_19 ?_
    refine lv_icmp_ge (tgt := 32) hx hb dX10_hoursLeft_22 (by decide) (fun k17 => ?_) (fun k17 => ?_)
    · have h18 := ib_le k17
      have b19 : Bd z13 (0) (35) := ⟨((rf_le b2 b16 h18).2).1, (b16).2⟩
      refine lv_iload_n hx hb dX10_hoursLeft_32 rfl (lv_at hl 0 rfl) ?_
      refine lv_aload_n hx hb dX10_hoursLeft_33 rfl (lv_at hl 1 rfl) ?_
      refine xget E hQ 3 (by decide) c9 rfl 0 (by decide) q155 rfl dX10_hoursLeft_34 ?_
      refine lv_aload_n hx hb dX10_hoursLeft_37 rfl (lv_at hl 1 rfl) ?_
      refine xget E hQ 3 (by decide) c9 rfl 1 (by decide) q158 rfl dX10_hoursLeft_38 ?_
      refine lv_iadd hx hb dX10_hoursLeft_41 ?_
      refine lv_topi (fun z20 e21 => ?_)
      have t22 := ib_add e21 b2 b4 (by decide) (by decide)
      have b23 : Bd z20 (0) (18) := ib_addb t22 b2 b4
      refine lv_icmp_ge (tgt := 57) hx hb dX10_hoursLeft_42 (by decide) (fun k24 => ?_) (fun k24 => ?_)
      · have h25 := ib_le k24
        refine lv_iload_n hx hb dX10_hoursLeft_57 rfl (lv_at hl 0 rfl) ?_
        refine lv_aload_n hx hb dX10_hoursLeft_58 rfl (lv_at hl 1 rfl) ?_
        refine xget E hQ 3 (by decide) c9 rfl 3 (by decide) q165 rfl dX10_hoursLeft_59 ?_
        refine lv_aload_n hx hb dX10_hoursLeft_62 rfl (lv_at hl 1 rfl) ?_
        refine xget E hQ 3 (by decide) c9 rfl 1 (by decide) q158 rfl dX10_hoursLeft_63 ?_
        refine lv_isub hx hb dX10_hoursLeft_66 ?_
        refine lv_topi (fun z26 e27 => ?_)
        have t28 := ib_sub e27 b12 b4 (by decide) (by decide)
        have b29 : Bd z26 (-5) (36) := ib_subb t28 b12 b4
        refine lv_icmp_ge (tgt := 82) hx hb dX10_hoursLeft_67 (by decide) (fun k30 => ?_) (fun k30 => ?_)
        · have h31 := ib_le k30
          have b32 : Bd z26 (-5) (35) := ⟨(b29).1, ((rf_le b29 b19 h31).1).2⟩
          refine lv_aload_n hx hb dX10_hoursLeft_82 rfl (lv_at hl 1 rfl) ?_
          refine xget E hQ 3 (by decide) c9 rfl 3 (by decide) q165 rfl dX10_hoursLeft_83 ?_
          refine lv_iload_n hx hb dX10_hoursLeft_86 rfl (lv_at hl 0 rfl) ?_
          refine lv_isub hx hb dX10_hoursLeft_87 ?_
          refine lv_topi (fun z33 e34 => ?_)
          have t35 := ib_sub e34 b12 b19 (by decide) (by decide)
          have b36 : Bd z33 (-34) (36) := ib_subb t35 b12 b19
          exact xri E hr hlk hQ (⟨rfl, (ib_wk b36 (by decide) (by decide))⟩) dX10_hoursLeft_88
        · have h37 := ib_nle k30
          have b38 : Bd z26 (1) (36) := ⟨((rf_lt b19 b29 h37).2).1, (b29).2⟩
          refine lv_aload_n hx hb dX10_hoursLeft_70 rfl (lv_at hl 1 rfl) ?_
          refine xget E hQ 3 (by decide) c9 rfl 3 (by decide) q165 rfl dX10_hoursLeft_71 ?_
          refine lv_aload_n hx hb dX10_hoursLeft_74 rfl (lv_at hl 1 rfl) ?_
          refine xget E hQ 3 (by decide) c9 rfl 1 (by decide) q158 rfl dX10_hoursLeft_75 ?_
          refine lv_isub hx hb dX10_hoursLeft_78 ?_
          refine lv_topi (fun z39 e40 => ?_)
          have t41 := ib_sub e40 b12 b4 (by decide) (by decide)
          have b42 : Bd z39 (-5) (36) := ib_subb t41 b12 b4
          refine lv_iload_n hx hb dX10_hoursLeft_79 rfl (lv_at hl 0 rfl) ?_
          refine lv_isub hx hb dX10_hoursLeft_80 ?_
          refine lv_topi (fun z43 e44 => ?_)
          have t45 := ib_sub e44 b42 b19 (by decide) (by decide)
          have b46 : Bd z43 (-40) (36) := ib_subb t45 b42 b19
          exact xri E hr hlk hQ (⟨rfl, (ib_wk b46 (by decide) (by decide))⟩) dX10_hoursLeft_81
      · have h47 := ib_nle k24
        have b48 : Bd z13 (0) (17) := ⟨(b19).1, ((rf_lt b19 b23 h47).1).2⟩
        have b49 : Bd z20 (1) (18) := ⟨((rf_lt b19 b23 h47).2).1, (b23).2⟩
        refine lv_aload_n hx hb dX10_hoursLeft_45 rfl (lv_at hl 1 rfl) ?_
        refine xget E hQ 3 (by decide) c9 rfl 0 (by decide) q155 rfl dX10_hoursLeft_46 ?_
        refine lv_aload_n hx hb dX10_hoursLeft_49 rfl (lv_at hl 1 rfl) ?_
        refine xget E hQ 3 (by decide) c9 rfl 1 (by decide) q158 rfl dX10_hoursLeft_50 ?_
        refine lv_iadd hx hb dX10_hoursLeft_53 ?_
        refine lv_topi (fun z50 e51 => ?_)
        have t52 := ib_add e51 b2 b4 (by decide) (by decide)
        have b53 : Bd z50 (0) (18) := ib_addb t52 b2 b4
        refine lv_iload_n hx hb dX10_hoursLeft_54 rfl (lv_at hl 0 rfl) ?_
        refine lv_isub hx hb dX10_hoursLeft_55 ?_
        refine lv_topi (fun z54 e55 => ?_)
        have t56 := ib_sub e55 b53 b48 (by decide) (by decide)
        have b57 : Bd z54 (-17) (18) := ib_subb t56 b53 b48
        exact xri E hr hlk hQ (⟨rfl, (ib_wk b57 (by decide) (by decide))⟩) dX10_hoursLeft_56
    · have h58 := ib_nle k17
      have b59 : Bd z13 (-35) (11) := ⟨(b16).1, ((rf_lt b16 b2 h58).1).2⟩
      refine lv_aload_n hx hb dX10_hoursLeft_25 rfl (lv_at hl 1 rfl) ?_
      refine xget E hQ 3 (by decide) c9 rfl 0 (by decide) q155 rfl dX10_hoursLeft_26 ?_
      refine lv_iload_n hx hb dX10_hoursLeft_29 rfl (lv_at hl 0 rfl) ?_
      refine lv_isub hx hb dX10_hoursLeft_30 ?_
      refine lv_topi (fun z60 e61 => ?_)
      have t62 := ib_sub e61 b2 b59 (by decide) (by decide)
      have b63 : Bd z60 (-11) (47) := ib_subb t62 b2 b59
      exact xri E hr hlk hQ (⟨rfl, (ib_wk b63 (by decide) (by decide))⟩) dX10_hoursLeft_31
  · have h64 := ib_nle k10
    have b65 : Bd v7 (0) (0) := ⟨(b8).1, ((rf_lt b8 (by decide : Bd 1 (1) (1)) h64).1).2⟩
    refine lv_iconst (v := 1) hx hb dX10_hoursLeft_8 (by decide) ?_
    exact xri E hr hlk hQ (⟨rfl, (ib_wk (by decide : Bd 1 (1) (1)) (by decide) (by decide))⟩) dX10_hoursLeft_9
set_option maxHeartbeats 4000000 in
set_option maxRecDepth 100000 in
theorem gX10_slackHoursAhead_3 (l : Launch) (g : GG) (ad : Nat → Nat) (hD : Dj ad 122) (S : SS) (hI : InvX g ad S) (a1 : Int32) : Met l yX10_slackHoursAhead (wG (.code yX10_slackHoursAhead cX10_slackHoursAhead 5 (some .int))) (Rm 1) (XPre g ad 122 S [.ref (ad 3), .int a1]) (va_Qi (fun _ S' => S = S') (QB g ad 122) (FA ad 122)) 0 0 (FA ad 122) := by
  refine xmet cX10_slackHoursAhead "EbbWreck$Tide" (by decide) rfl (Nat.le_of_ble_eq_true rfl) (fun p e s m below meth c E hr hlk hml hQ ls hl => ?_)
  have hx := E.1
  have hb := E.2.1
  have hs : Sp ad 122 (FA ad 122) := Sp.fa hD
  have hl : lv_has ls 5 [(0, .ref (ad 3)), (1, .int a1)] := hl
  refine lv_aload_n hx hb dX10_slackHoursAhead_0 rfl (lv_at hl 0 rfl) ?_
  obtain ⟨v1, v3, v5, v7, c9, b2, b4, b6, b8⟩ := invX_3 hI
  have c9 : S 3 = .inr (10, [.int v1, .int v3, .int v5, .int v7, .ref (ad 4)]) := c9
  refine xget E hQ 3 (by decide) c9 rfl 3 (by decide) q165 rfl dX10_slackHoursAhead_1 ?_
  refine lv_iconst (v := 1) hx hb dX10_slackHoursAhead_4 (by decide) ?_
  refine lv_icmp_ge (tgt := 10) hx hb dX10_slackHoursAhead_5 (by decide) (fun k10 => ?_) (fun k10 => ?_)
  · have h11 := ib_le k10
    have b12 : Bd v7 (1) (36) := ⟨((rf_le (by decide : Bd 1 (1) (1)) b8 h11).2).1, (b8).2⟩
    refine lv_iload_n hx hb dX10_slackHoursAhead_10 rfl (lv_at hl 1 rfl) ?_
    refine lv_aload_n hx hb dX10_slackHoursAhead_11 rfl (lv_at hl 0 rfl) ?_
    refine xget E hQ 3 (by decide) c9 rfl 3 (by decide) q165 rfl dX10_slackHoursAhead_12 ?_
    refine lv_irem hx hb dX10_slackHoursAhead_15 (ib_ne0 b12 (by decide)) ?_
    refine lv_topi (fun z13 e14 => ?_)
    have rx15 := ib_remx e14 (ib_full a1) b12 (by decide)
    have b16 : Bd z13 (-35) (35) := ib_remb e14 (ib_full a1) b12 (by decide)
    refine lv_istore_n (lv' := [(2, .int z13), (0, .ref (ad 3)), (1, .int a1)]) hx hb dX10_slackHoursAhead_16 rfl hl (by decide) rfl (fun ls hl => ?_)
    refine lv_iload_n hx hb dX10_slackHoursAhead_17 rfl (lv_at hl 0 rfl) ?_
    refine lv_aload_n hx hb dX10_slackHoursAhead_18 rfl (lv_at hl 1 rfl) ?_
    refine xget E hQ 3 (by decide) c9 rfl 0 (by decide) q155 rfl dX10_slackHoursAhead_19 ?_
    refine lv_isub hx hb dX10_slackHoursAhead_22 ?_
    refine lv_topi (fun z17 e18 => ?_)
    have t19 := ib_sub e18 b16 b2 (by decide) (by decide)
    have b20 : Bd z17 (-47) (35) := ib_subb t19 b16 b2
    refine lv_iconst (v := 0) hx hb dX10_slackHoursAhead_23 (by decide) ?_
    refine va_mmax hx hb (hml.trans hl.1.symm) E.2.2.1 (E.2.2.2.1 _ q916) (E.2.2.2.1 _ q586) (E.2.2.2.1 _ q128) (E.2.2.2.1 _ q587) (Nat.le_of_ble_eq_true rfl) (Nat.le_of_ble_eq_true rfl) (Nat.le_of_ble_eq_true rfl) (Nat.le_of_ble_eq_true rfl) dX10_slackHoursAhead_24 ?_
    refine lv_topi (fun z21 e22 => ?_)
    have b23 : Bd z21 (0) (35) := ib_max e22 b20 (by decide : Bd 0 (0) (0)) (by decide) (by decide) (by decide) (by decide)
    have t24 := ib_maxx (p := z17.toInt) (q := 0) e22 rfl (by decide)
    refine lv_aload_n hx hb dX10_slackHoursAhead_27 rfl (lv_at hl 1 rfl) ?_
    refine xget E hQ 3 (by decide) c9 rfl 1 (by decide) q158 rfl dX10_slackHoursAhead_28 ?_
    refine va_mmin hx hb (hml.trans hl.1.symm) E.2.2.1 (E.2.2.2.1 _ q917) (E.2.2.2.1 _ q583) (E.2.2.2.1 _ q128) (E.2.2.2.1 _ q584) (Nat.le_of_ble_eq_true rfl) (Nat.le_of_ble_eq_true rfl) (Nat.le_of_ble_eq_true rfl) (Nat.le_of_ble_eq_true rfl) dX10_slackHoursAhead_31 ?_
    refine lv_topi (fun z25 e26 => ?_)
    have b27 : Bd z25 (0) (6) := ib_min e26 b23 b4 (by decide) (by decide) (by decide) (by decide)
    have t28 := ib_minx (p := z21.toInt) (q := v3.toInt) e26 rfl rfl
    refine lv_istore_n (lv' := [(3, .int z25), (2, .int z13), (0, .ref (ad 3)), (1, .int a1)]) hx hb dX10_slackHoursAhead_34 rfl hl (by decide) rfl (fun ls hl => ?_)
    refine lv_iload_n hx hb dX10_slackHoursAhead_35 rfl (lv_at hl 1 rfl) ?_
    refine lv_aload_n hx hb dX10_slackHoursAhead_36 rfl (lv_at hl 2 rfl) ?_
    refine xget E hQ 3 (by decide) c9 rfl 0 (by decide) q155 rfl dX10_slackHoursAhead_37 ?_
    refine lv_isub hx hb dX10_slackHoursAhead_40 ?_
    refine lv_topi (fun z29 e30 => ?_)
    have t31 := ib_sub e30 b16 b2 (by decide) (by decide)
    have b32 : Bd z29 (-47) (35) := ib_subb t31 b16 b2
    refine lv_aload_n hx hb dX10_slackHoursAhead_41 rfl (lv_at hl 2 rfl) ?_
    refine xget E hQ 3 (by decide) c9 rfl 1 (by decide) q158 rfl dX10_slackHoursAhead_42 ?_
    refine lv_isub hx hb dX10_slackHoursAhead_45 ?_
    refine lv_topi (fun z33 e34 => ?_)
    have t35 := ib_sub e34 b32 b4 (by decide) (by decide)
    have b36 : Bd z33 (-53) (35) := ib_subb t35 b32 b4
    refine lv_aload_n hx hb dX10_slackHoursAhead_46 rfl (lv_at hl 2 rfl) ?_
    refine xget E hQ 3 (by decide) c9 rfl 2 (by decide) q161 rfl dX10_slackHoursAhead_47 ?_
    refine lv_isub hx hb dX10_slackHoursAhead_50 ?_
    refine lv_topi (fun z37 e38 => ?_)
    have t39 := ib_sub e38 b36 b6 (by decide) (by decide)
    have b40 : Bd z37 (-65) (35) := ib_subb t39 b36 b6
    refine lv_iconst (v := 0) hx hb dX10_slackHoursAhead_51 (by decide) ?_
    refine va_mmax hx hb (hml.trans hl.1.symm) E.2.2.1 (E.2.2.2.1 _ q916) (E.2.2.2.1 _ q586) (E.2.2.2.1 _ q128) (E.2.2.2.1 _ q587) (Nat.le_of_ble_eq_true rfl) (Nat.le_of_ble_eq_true rfl) (Nat.le_of_ble_eq_true rfl) (Nat.le_of_ble_eq_true rfl) dX10_slackHoursAhead_52 ?_
    refine lv_topi (fun z41 e42 => ?_)
    have b43 : Bd z41 (0) (35) := ib_max e42 b40 (by decide : Bd 0 (0) (0)) (by decide) (by decide) (by decide) (by decide)
    have t44 := ib_maxx (p := z37.toInt) (q := 0) e42 rfl (by decide)
    refine lv_istore (lv' := [(4, .int z41), (3, .int z25), (2, .int z13), (0, .ref (ad 3)), (1, .int a1)]) hx hb dX10_slackHoursAhead_55 hl (by decide) rfl (fun ls hl => ?_)
    refine lv_iload_n hx hb dX10_slackHoursAhead_57 rfl (lv_at hl 4 rfl) ?_
    refine lv_aload_n hx hb dX10_slackHoursAhead_58 rfl (lv_at hl 3 rfl) ?_
    refine xget E hQ 3 (by decide) c9 rfl 3 (by decide) q165 rfl dX10_slackHoursAhead_59 ?_
    refine lv_idiv hx hb dX10_slackHoursAhead_62 (ib_ne0 b12 (by decide)) ?_
    refine lv_topi (fun z45 e46 => ?_)
    refine lv_iconst (v := 2) hx hb dX10_slackHoursAhead_63 (by decide) ?_
    refine lv_imul hx hb dX10_slackHoursAhead_64 ?_
    refine lv_topi (fun z47 e48 => ?_)
    refine lv_aload_n hx hb dX10_slackHoursAhead_65 rfl (lv_at hl 3 rfl) ?_
    refine xget E hQ 3 (by decide) c9 rfl 1 (by decide) q158 rfl dX10_slackHoursAhead_66 ?_
    refine lv_imul hx hb dX10_slackHoursAhead_69 ?_
    refine lv_topi (fun z49 e50 => ?_)
    refine lv_iload_n hx hb dX10_slackHoursAhead_70 rfl (lv_at hl 1 rfl) ?_
    refine lv_iadd hx hb dX10_slackHoursAhead_71 ?_
    refine lv_topi (fun z51 e52 => ?_)
    refine lv_iload hx hb dX10_slackHoursAhead_72 (lv_at hl 0 rfl) ?_
    refine lv_iadd hx hb dX10_slackHoursAhead_74 ?_
    refine lv_topi (fun z53 e54 => ?_)
    exact xri E hr hlk hQ (rfl) dX10_slackHoursAhead_75
  · have h55 := ib_nle k10
    have b56 : Bd v7 (0) (0) := ⟨(b8).1, ((rf_lt b8 (by decide : Bd 1 (1) (1)) h55).1).2⟩
    refine lv_iconst (v := 0) hx hb dX10_slackHoursAhead_8 (by decide) ?_
    exact xri E hr hlk hQ (rfl) dX10_slackHoursAhead_9
set_option maxHeartbeats 4000000 in
set_option maxRecDepth 100000 in
theorem gX10_firstOf_3 (l : Launch) (g : GG) (ad : Nat → Nat) (hD : Dj ad 122) (S : SS) (hI : InvX g ad S) (a1 : Int32) (a2 : Int32) : Met l yX10_firstOf (wG (.code yX10_firstOf cX10_firstOf 4 (some .int))) (Rm 1) (XPre g ad 122 S [.ref (ad 3), .int a1, .int a2]) (va_Qi (fun _ S' => S = S') (QB g ad 122) (FA ad 122)) 0 0 (FA ad 122) := by
  refine xmet cX10_firstOf "EbbWreck$Tide" (by decide) rfl (Nat.le_of_ble_eq_true rfl) (fun p e s m below meth c E hr hlk hml hQ ls hl => ?_)
  have hx := E.1
  have hb := E.2.1
  have hs : Sp ad 122 (FA ad 122) := Sp.fa hD
  have hl : lv_has ls 4 [(0, .ref (ad 3)), (1, .int a1), (2, .int a2)] := hl
  refine lv_iconst (v := 0) hx hb dX10_firstOf_0 (by decide) ?_
  refine lv_istore_n (lv' := [(3, .int 0), (0, .ref (ad 3)), (1, .int a1), (2, .int a2)]) hx hb dX10_firstOf_1 rfl hl (by decide) rfl (fun ls hl => ?_)
  have loop2 : ∀ (n : Nat) (H : Heap) (locs : List Loc) (ls : Array Slot) (x2_3 : Int32), Bd x2_3 (0) (36) → (-1) * x2_3.toInt + 36 < ((n : Nat) : Int) → Hp g ad 122 S (FA ad 122) s.heap H locs → lv_has ls 4 [(3, .int x2_3), (0, .ref (ad 3)), (1, .int a1), (2, .int a2)] → W p l e (Rm 1) s m [.ref (ad 3), .int a1, .int a2].toArray below meth c H locs 0 0 (MQ below (va_Qi (fun _ S' => S = S') (QB g ad 122) (FA ad 122)) [.ref (ad 3), .int a1, .int a2].toArray s 0 0 (FA ad 122)) (F0 m 2 ls []) := by
    intro n
    induction n with
    | zero => intro H locs ls x2_3 Bx2_3 hn2_ hQ hl; exfalso; have := (Bx2_3).2; omega
    | succ n2_ ih2 =>
      intro H locs ls x2_3 Bx2_3 hn2_ hQ hl
      refine lv_iload_n hx hb dX10_firstOf_2 rfl (lv_at hl 0 rfl) ?_
      refine lv_aload_n hx hb dX10_firstOf_3 rfl (lv_at hl 1 rfl) ?_
      obtain ⟨v1, v3, v5, v7, c9, b2, b4, b6, b8⟩ := invX_3 hI
      have c9 : S 3 = .inr (10, [.int v1, .int v3, .int v5, .int v7, .ref (ad 4)]) := c9
      refine xget E hQ 3 (by decide) c9 rfl 3 (by decide) q165 rfl dX10_firstOf_4 ?_
      refine lv_icmp_ge (tgt := 31) hx hb dX10_firstOf_7 (by decide) (fun k10 => ?_) (fun k10 => ?_)
      · have h11 := ib_le k10
        refine lv_iconst (v := (-1)) hx hb dX10_firstOf_31 (by decide) ?_
        exact xri E hr hlk hQ (rfl) dX10_firstOf_32
      · have h12 := ib_nle k10
        have b13 : Bd x2_3 (0) (35) := ⟨(Bx2_3).1, ((rf_lt Bx2_3 b8 h12).1).2⟩
        have b14 : Bd v7 (1) (36) := ⟨((rf_lt Bx2_3 b8 h12).2).1, (b8).2⟩
        refine lv_aload_n hx hb dX10_firstOf_10 rfl (lv_at hl 1 rfl) ?_
        refine lv_iload_n hx hb dX10_firstOf_11 rfl (lv_at hl 2 rfl) ?_
        refine lv_iload_n hx hb dX10_firstOf_12 rfl (lv_at hl 0 rfl) ?_
        refine lv_iadd hx hb dX10_firstOf_13 ?_
        refine lv_topi (fun z15 e16 => ?_)
        refine xcVi E hs hQ hml hl.1 3 (gX10_phaseOf_3 l g ad hD S hI z15) mX10_phaseOf q899 (by decide) c9 rfl rfl ⟨(Nat.le_of_ble_eq_true rfl), (Nat.le_of_ble_eq_true rfl)⟩ ⟨(Nat.le_of_ble_eq_true rfl), (Nat.le_of_ble_eq_true rfl)⟩ (Nat.le_of_ble_eq_true rfl) rfl dX10_firstOf_14 (fun r17 S17 H locs hp17 hQ _ => ?_)
        subst hp17
        refine lv_iload_n hx hb dX10_firstOf_17 rfl (lv_at hl 3 rfl) ?_
        refine lv_icmp_ne (tgt := 25) hx hb dX10_firstOf_18 (by decide) (fun k18 => ?_) (fun k18 => ?_)
        · have h19 := ib_ne k18
          obtain ⟨z20, e21⟩ : ∃ z : Int32, z = x2_3 + 1 := ⟨_, rfl⟩
          have t22 := ib_add e21 b13 (by decide : Bd 1 (1) (1)) (by decide) (by decide)
          have b23 : Bd z20 (1) (36) := ib_addb t22 b13 (by decide : Bd 1 (1) (1))
          have t22 : z20.toInt = x2_3.toInt + 1 := fold_add t22 rfl (by decide)
          refine lv_iinc (v := z20) (lv' := [(3, .int z20), (0, .ref (ad 3)), (1, .int a1), (2, .int a2)]) hx hb dX10_firstOf_25 hl (k := 0) rfl (by rw [e21]; rfl) (by decide) rfl (fun ls hl => ?_)
          refine lv_goto (tgt := 2) hx hb dX10_firstOf_28 (by decide) ?_
          exact ih2 _ _ _ z20 (ib_wk b23 (by decide) (by decide)) (by omega) hQ (lv_sub hl [0, 1, 2, 3] rfl)
        · have h24 := ib_eq k18
          refine lv_iload_n hx hb dX10_firstOf_21 rfl (lv_at hl 2 rfl) ?_
          refine lv_iload_n hx hb dX10_firstOf_22 rfl (lv_at hl 0 rfl) ?_
          refine lv_iadd hx hb dX10_firstOf_23 ?_
          refine lv_topi (fun z25 e26 => ?_)
          exact xri E hr hlk hQ (rfl) dX10_firstOf_24
  obtain ⟨n2, hn2⟩ := fu_n (36)
  exact loop2 n2 _ _ _ 0 (ib_wk (by decide : Bd 0 (0) (0)) (by decide) (by decide)) (by have : (0 : Int32).toInt = 0 := (by decide); omega) hQ (lv_sub hl [0, 1, 2, 3] rfl)
set_option maxHeartbeats 4000000 in
set_option maxRecDepth 100000 in
theorem gX6_hasRule_10 (l : Launch) (g : GG) (ad : Nat → Nat) (hD : Dj ad 122) (S : SS) (hI : InvX g ad S) (a1 : Int32) : Met l yX6_hasRule (wG (.code yX6_hasRule cX6_hasRule 2 (some .boolean))) (Rm 0) (XPre g ad 122 S [.ref (ad 10), .int a1]) (va_Qi (fun r S' => S = S' ∧ Bd r (0) (1) ∧ ((r.toInt + (-1) < 0 ∨ (0 ≤ a1.toInt ∧ 0 ≤ fld (S 10) 0 + (-1) * a1.toInt + (-1))))) (QB g ad 122) (FA ad 122)) 0 0 (FA ad 122) := by
  refine xmet cX6_hasRule "EbbWreck$RuleBook" (by decide) rfl (Nat.le_of_ble_eq_true rfl) (fun p e s m below meth c E hr hlk hml hQ ls hl => ?_)
  have hx := E.1
  have hb := E.2.1
  have hs : Sp ad 122 (FA ad 122) := Sp.fa hD
  have hl : lv_has ls 2 [(0, .ref (ad 10)), (1, .int a1)] := hl
  obtain ⟨v1, c3, b2⟩ := invX_10 hI
  have c3 : S 10 = .inr (6, [.int v1, .ref (ad 11), .ref (ad 12), .ref (ad 13), .ref (ad 14)]) := c3
  refine lv_iload_n hx hb dX6_hasRule_0 rfl (lv_at hl 1 rfl) ?_
  refine lv_if_lt (tgt := 16) hx hb dX6_hasRule_1 (by decide) (fun k4 => ?_) (fun k4 => ?_)
  · have h5 := ib_lt k4
    have b6 : Bd a1 (-2147483648) (-1) := ⟨((ib_full a1)).1, ((rf_lt (ib_full a1) (by decide : Bd 0 (0) (0)) h5).1).2⟩
    refine lv_iconst (v := 0) hx hb dX6_hasRule_16 (by decide) ?_
    have q7 : fld (S 10) 0 = v1.toInt := fld_of c3 rfl
    have q8 : (0 : Int32).toInt = 0 := by decide
    exact xrz E hr hlk hQ rfl (⟨rfl, (ib_wk (by decide : Bd 0 (0) (0)) (by decide) (by decide)), Or.inl (by omega)⟩) dX6_hasRule_17
  · have h9 := ib_nlt k4
    have b10 : Bd a1 (0) (2147483647) := ⟨((rf_le (by decide : Bd 0 (0) (0)) (ib_full a1) h9).2).1, ((ib_full a1)).2⟩
    refine lv_iload_n hx hb dX6_hasRule_4 rfl (lv_at hl 1 rfl) ?_
    refine lv_aload_n hx hb dX6_hasRule_5 rfl (lv_at hl 0 rfl) ?_
    refine xget E hQ 10 (by decide) c3 rfl 0 (by decide) q186 rfl dX6_hasRule_6 ?_
    refine lv_icmp_ge (tgt := 16) hx hb dX6_hasRule_9 (by decide) (fun k11 => ?_) (fun k11 => ?_)
    · have h12 := ib_le k11
      refine lv_iconst (v := 0) hx hb dX6_hasRule_16 (by decide) ?_
      have q13 : fld (S 10) 0 = v1.toInt := fld_of c3 rfl
      have q14 : (0 : Int32).toInt = 0 := by decide
      exact xrz E hr hlk hQ rfl (⟨rfl, (ib_wk (by decide : Bd 0 (0) (0)) (by decide) (by decide)), Or.inl (by omega)⟩) dX6_hasRule_17
    · have h15 := ib_nle k11
      have b16 : Bd a1 (0) (5) := ⟨(b10).1, ((rf_lt b10 b2 h15).1).2⟩
      have b17 : Bd v1 (1) (6) := ⟨((rf_lt b10 b2 h15).2).1, (b2).2⟩
      refine lv_iconst (v := 1) hx hb dX6_hasRule_12 (by decide) ?_
      refine lv_goto (tgt := 17) hx hb dX6_hasRule_13 (by decide) ?_
      have q18 : fld (S 10) 0 = v1.toInt := fld_of c3 rfl
      have q19 : (1 : Int32).toInt = 1 := by decide
      exact xrz E hr hlk hQ rfl (⟨rfl, (ib_wk (by decide : Bd 1 (1) (1)) (by decide) (by decide)), Or.inr ⟨by omega, by omega⟩⟩) dX6_hasRule_17
set_option maxHeartbeats 4000000 in
set_option maxRecDepth 100000 in
theorem gX6_stands_10 (l : Launch) (g : GG) (ad : Nat → Nat) (hD : Dj ad 122) (S : SS) (hI : InvX g ad S) (a1 : Int32) (a2 : Int32) (a3 : Int32) (ba1 : Bd a1 (0) (5)) : Met l yX6_stands (wG (.code yX6_stands cX6_stands 4 (some .boolean))) (Rm 0) (XPre g ad 122 S [.ref (ad 10), .int a1, .int a2, .int a3]) (va_Qi (fun r S' => S = S' ∧ Bd r (0) (1)) (QB g ad 122) (FA ad 122)) 0 0 (FA ad 122) := by
  refine xmet cX6_stands "EbbWreck$RuleBook" (by decide) rfl (Nat.le_of_ble_eq_true rfl) (fun p e s m below meth c E hr hlk hml hQ ls hl => ?_)
  have hx := E.1
  have hb := E.2.1
  have hs : Sp ad 122 (FA ad 122) := Sp.fa hD
  have hl : lv_has ls 4 [(0, .ref (ad 10)), (1, .int a1), (2, .int a2), (3, .int a3)] := hl
  refine lv_iload_n hx hb dX6_stands_0 rfl (lv_at hl 2 rfl) ?_
  refine lv_aload_n hx hb dX6_stands_1 rfl (lv_at hl 0 rfl) ?_
  obtain ⟨v1, c3, b2⟩ := invX_10 hI
  have c3 : S 10 = .inr (6, [.int v1, .ref (ad 11), .ref (ad 12), .ref (ad 13), .ref (ad 14)]) := c3
  refine xget E hQ 10 (by decide) c3 rfl 1 (by decide) q189 rfl dX6_stands_2 ?_
  refine lv_iload_n hx hb dX6_stands_5 rfl (lv_at hl 1 rfl) ?_
  obtain ⟨f4, c5⟩ := invX_11 hI
  refine xiald E hQ 11 (by decide) c5 (ib_in ba1 (by decide) (by decide)) dX6_stands_6 ?_
  refine lv_topi (fun z7 e8 => ?_)
  refine lv_icmp_lt (tgt := 38) hx hb dX6_stands_7 (by decide) (fun k9 => ?_) (fun k9 => ?_)
  · have h10 := ib_lt k9
    have b11 : Bd a2 (-2147483648) (2147483646) := ⟨((ib_full a2)).1, ((rf_lt (ib_full a2) (ib_full z7) h10).1).2⟩
    have b12 : Bd z7 (-2147483647) (2147483647) := ⟨((rf_lt (ib_full a2) (ib_full z7) h10).2).1, ((ib_full z7)).2⟩
    refine lv_iconst (v := 0) hx hb dX6_stands_38 (by decide) ?_
    exact xrz E hr hlk hQ rfl (⟨rfl, (ib_wk (by decide : Bd 0 (0) (0)) (by decide) (by decide))⟩) dX6_stands_39
  · have h13 := ib_nlt k9
    refine lv_iload_n hx hb dX6_stands_10 rfl (lv_at hl 2 rfl) ?_
    refine lv_aload_n hx hb dX6_stands_11 rfl (lv_at hl 0 rfl) ?_
    refine xget E hQ 10 (by decide) c3 rfl 2 (by decide) q191 rfl dX6_stands_12 ?_
    refine lv_iload_n hx hb dX6_stands_15 rfl (lv_at hl 1 rfl) ?_
    obtain ⟨f14, c15⟩ := invX_12 hI
    refine xiald E hQ 12 (by decide) c15 (ib_in ba1 (by decide) (by decide)) dX6_stands_16 ?_
    refine lv_topi (fun z17 e18 => ?_)
    refine lv_icmp_gt (tgt := 38) hx hb dX6_stands_17 (by decide) (fun k19 => ?_) (fun k19 => ?_)
    · have h20 := ib_lt k19
      have b21 : Bd z17 (-2147483648) (2147483646) := ⟨((ib_full z17)).1, ((rf_lt (ib_full z17) (ib_full a2) h20).1).2⟩
      have b22 : Bd a2 (-2147483647) (2147483647) := ⟨((rf_lt (ib_full z17) (ib_full a2) h20).2).1, ((ib_full a2)).2⟩
      refine lv_iconst (v := 0) hx hb dX6_stands_38 (by decide) ?_
      exact xrz E hr hlk hQ rfl (⟨rfl, (ib_wk (by decide : Bd 0 (0) (0)) (by decide) (by decide))⟩) dX6_stands_39
    · have h23 := ib_nlt k19
      refine lv_aload_n hx hb dX6_stands_20 rfl (lv_at hl 0 rfl) ?_
      refine xget E hQ 10 (by decide) c3 rfl 3 (by decide) q193 rfl dX6_stands_21 ?_
      refine lv_iload_n hx hb dX6_stands_24 rfl (lv_at hl 1 rfl) ?_
      obtain ⟨f24, c25⟩ := invX_13 hI
      refine xiald E hQ 13 (by decide) c25 (ib_in ba1 (by decide) (by decide)) dX6_stands_25 ?_
      refine lv_topi (fun z27 e28 => ?_)
      refine lv_iload_n hx hb dX6_stands_26 rfl (lv_at hl 3 rfl) ?_
      refine lv_ishr hx hb dX6_stands_27 ?_
      refine lv_topi (fun z29 e30 => ?_)
      refine lv_iconst (v := 1) hx hb dX6_stands_28 (by decide) ?_
      refine lv_iand hx hb dX6_stands_29 ?_
      refine lv_topi (fun z31 e32 => ?_)
      have b33 : Bd z31 (0) (1) := ib_and 1 e32 (by decide) (by decide)
      refine lv_iconst (v := 1) hx hb dX6_stands_30 (by decide) ?_
      refine lv_icmp_ne (tgt := 38) hx hb dX6_stands_31 (by decide) (fun k34 => ?_) (fun k34 => ?_)
      · have h35 := ib_ne k34
        have b36 : Bd z31 (0) (0) := rf_nhi b33 (by decide : Bd 1 (1) (1)) h35
        refine lv_iconst (v := 0) hx hb dX6_stands_38 (by decide) ?_
        exact xrz E hr hlk hQ rfl (⟨rfl, (ib_wk (by decide : Bd 0 (0) (0)) (by decide) (by decide))⟩) dX6_stands_39
      · have h37 := ib_eq k34
        have b38 : Bd z31 (1) (1) := ⟨((rf_eq b33 (by decide : Bd 1 (1) (1)) h37).1).1, (b33).2⟩
        refine lv_iconst (v := 1) hx hb dX6_stands_34 (by decide) ?_
        refine lv_goto (tgt := 39) hx hb dX6_stands_35 (by decide) ?_
        exact xrz E hr hlk hQ rfl (⟨rfl, (ib_wk (by decide : Bd 1 (1) (1)) (by decide) (by decide))⟩) dX6_stands_39
set_option maxHeartbeats 4000000 in
set_option maxRecDepth 100000 in
theorem gX6_decider_10 (l : Launch) (g : GG) (ad : Nat → Nat) (hD : Dj ad 122) (S : SS) (hI : InvX g ad S) (a1 : Int32) (a2 : Int32) (a3 : Int32) : Met l yX6_decider (wG (.code yX6_decider cX6_decider 5 (some .int))) (Rm 1) (XPre g ad 122 S [.ref (ad 10), .int a1, .int a2, .int a3]) (va_Qi (fun r S' => S = S' ∧ Bd r (-1) (5)) (QB g ad 122) (FA ad 122)) 0 0 (FA ad 122) := by
  refine xmet cX6_decider "EbbWreck$RuleBook" (by decide) rfl (Nat.le_of_ble_eq_true rfl) (fun p e s m below meth c E hr hlk hml hQ ls hl => ?_)
  have hx := E.1
  have hb := E.2.1
  have hs : Sp ad 122 (FA ad 122) := Sp.fa hD
  have hl : lv_has ls 5 [(0, .ref (ad 10)), (1, .int a1), (2, .int a2), (3, .int a3)] := hl
  refine lv_iconst (v := 0) hx hb dX6_decider_0 (by decide) ?_
  refine lv_istore (lv' := [(4, .int 0), (0, .ref (ad 10)), (1, .int a1), (2, .int a2), (3, .int a3)]) hx hb dX6_decider_1 hl (by decide) rfl (fun ls hl => ?_)
  have loop3 : ∀ (n : Nat) (H : Heap) (locs : List Loc) (ls : Array Slot) (x3_4 : Int32), Bd x3_4 (0) (6) → (-1) * x3_4.toInt + 6 < ((n : Nat) : Int) → Hp g ad 122 S (FA ad 122) s.heap H locs → lv_has ls 5 [(4, .int x3_4), (0, .ref (ad 10)), (1, .int a1), (2, .int a2), (3, .int a3)] → W p l e (Rm 1) s m [.ref (ad 10), .int a1, .int a2, .int a3].toArray below meth c H locs 0 0 (MQ below (va_Qi (fun r S' => S = S' ∧ Bd r (-1) (5)) (QB g ad 122) (FA ad 122)) [.ref (ad 10), .int a1, .int a2, .int a3].toArray s 0 0 (FA ad 122)) (F0 m 3 ls []) := by
    intro n
    induction n with
    | zero => intro H locs ls x3_4 Bx3_4 hn3_ hQ hl; exfalso; have := (Bx3_4).2; omega
    | succ n3_ ih3 =>
      intro H locs ls x3_4 Bx3_4 hn3_ hQ hl
      refine lv_iload hx hb dX6_decider_3 (lv_at hl 0 rfl) ?_
      refine lv_aload_n hx hb dX6_decider_5 rfl (lv_at hl 1 rfl) ?_
      obtain ⟨v1, c3, b2⟩ := invX_10 hI
      have c3 : S 10 = .inr (6, [.int v1, .ref (ad 11), .ref (ad 12), .ref (ad 13), .ref (ad 14)]) := c3
      refine xget E hQ 10 (by decide) c3 rfl 0 (by decide) q186 rfl dX6_decider_6 ?_
      refine lv_icmp_ge (tgt := 38) hx hb dX6_decider_9 (by decide) (fun k4 => ?_) (fun k4 => ?_)
      · have h5 := ib_le k4
        refine lv_iconst (v := (-1)) hx hb dX6_decider_38 (by decide) ?_
        exact xri E hr hlk hQ (⟨rfl, (ib_wk (by decide : Bd (-1) (-1) (-1)) (by decide) (by decide))⟩) dX6_decider_39
      · have h6 := ib_nle k4
        have b7 : Bd x3_4 (0) (5) := ⟨(Bx3_4).1, ((rf_lt Bx3_4 b2 h6).1).2⟩
        have b8 : Bd v1 (1) (6) := ⟨((rf_lt Bx3_4 b2 h6).2).1, (b2).2⟩
        refine lv_iload hx hb dX6_decider_12 (lv_at hl 0 rfl) ?_
        refine lv_iload_n hx hb dX6_decider_14 rfl (lv_at hl 4 rfl) ?_
        refine lv_icmp_eq (tgt := 32) hx hb dX6_decider_15 (by decide) (fun k9 => ?_) (fun k9 => ?_)
        · have h10 := ib_eq k9
          have b11 : Bd a3 (0) (5) := ⟨((rf_eq b7 (ib_full a3) h10).2).1, ((rf_eq b7 (ib_full a3) h10).2).2⟩
          obtain ⟨z12, e13⟩ : ∃ z : Int32, z = x3_4 + 1 := ⟨_, rfl⟩
          have t14 := ib_add e13 b7 (by decide : Bd 1 (1) (1)) (by decide) (by decide)
          have b15 : Bd z12 (1) (6) := ib_addb t14 b7 (by decide : Bd 1 (1) (1))
          have t14 : z12.toInt = x3_4.toInt + 1 := fold_add t14 rfl (by decide)
          refine lv_iinc (v := z12) (lv' := [(4, .int z12), (0, .ref (ad 10)), (1, .int a1), (2, .int a2), (3, .int a3)]) hx hb dX6_decider_32 hl (k := 0) rfl (by rw [e13]; rfl) (by decide) rfl (fun ls hl => ?_)
          refine lv_goto (tgt := 3) hx hb dX6_decider_35 (by decide) ?_
          exact ih3 _ _ _ z12 (ib_wk b15 (by decide) (by decide)) (by omega) hQ (lv_sub hl [0, 1, 2, 3, 4] rfl)
        · have h16 := ib_ne k9
          refine lv_aload_n hx hb dX6_decider_18 rfl (lv_at hl 1 rfl) ?_
          refine lv_iload hx hb dX6_decider_19 (lv_at hl 0 rfl) ?_
          refine lv_iload_n hx hb dX6_decider_21 rfl (lv_at hl 2 rfl) ?_
          refine lv_iload_n hx hb dX6_decider_22 rfl (lv_at hl 3 rfl) ?_
          refine xcVi E hs hQ hml hl.1 10 (gX6_stands_10 l g ad hD S hI x3_4 a1 a2 b7) mX6_stands q955 (by decide) c3 rfl rfl ⟨(Nat.le_of_ble_eq_true rfl), (Nat.le_of_ble_eq_true rfl)⟩ ⟨(Nat.le_of_ble_eq_true rfl), (Nat.le_of_ble_eq_true rfl)⟩ (Nat.le_of_ble_eq_true rfl) rfl dX6_decider_23 (fun r17 S17 H locs hp17 hQ _ => ?_)
          obtain ⟨rfl, b17⟩ := hp17
          refine lv_if_eq (tgt := 32) hx hb dX6_decider_26 (by decide) (fun k18 => ?_) (fun k18 => ?_)
          · have h19 := ib_eq k18
            have b20 : Bd r17 (0) (0) := ⟨(b17).1, ((rf_eq b17 (by decide : Bd 0 (0) (0)) h19).1).2⟩
            obtain ⟨z21, e22⟩ : ∃ z : Int32, z = x3_4 + 1 := ⟨_, rfl⟩
            have t23 := ib_add e22 b7 (by decide : Bd 1 (1) (1)) (by decide) (by decide)
            have b24 : Bd z21 (1) (6) := ib_addb t23 b7 (by decide : Bd 1 (1) (1))
            have t23 : z21.toInt = x3_4.toInt + 1 := fold_add t23 rfl (by decide)
            refine lv_iinc (v := z21) (lv' := [(4, .int z21), (0, .ref (ad 10)), (1, .int a1), (2, .int a2), (3, .int a3)]) hx hb dX6_decider_32 hl (k := 0) rfl (by rw [e22]; rfl) (by decide) rfl (fun ls hl => ?_)
            refine lv_goto (tgt := 3) hx hb dX6_decider_35 (by decide) ?_
            exact ih3 _ _ _ z21 (ib_wk b24 (by decide) (by decide)) (by omega) hQ (lv_sub hl [0, 1, 2, 3, 4] rfl)
          · have h25 := ib_ne k18
            have b26 : Bd r17 (1) (1) := rf_nlo b17 (by decide : Bd 0 (0) (0)) h25
            refine lv_iload hx hb dX6_decider_29 (lv_at hl 0 rfl) ?_
            exact xri E hr hlk hQ (⟨rfl, (ib_wk b7 (by decide) (by decide))⟩) dX6_decider_31
  obtain ⟨n3, hn3⟩ := fu_n (6)
  exact loop3 n3 _ _ _ 0 (ib_wk (by decide : Bd 0 (0) (0)) (by decide) (by decide)) (by have : (0 : Int32).toInt = 0 := (by decide); omega) hQ (lv_sub hl [0, 1, 2, 3, 4] rfl)
set_option maxHeartbeats 4000000 in
set_option maxRecDepth 100000 in
theorem gX6_saysTwoThings_10 (l : Launch) (g : GG) (ad : Nat → Nat) (hD : Dj ad 122) (S : SS) (hI : InvX g ad S) (a1 : Int32) (a2 : Int32) : Met l yX6_saysTwoThings (wG (.code yX6_saysTwoThings cX6_saysTwoThings 5 (some .boolean))) (Rm 2) (XPre g ad 122 S [.ref (ad 10), .int a1, .int a2]) (va_Qi (fun r S' => S = S' ∧ Bd r (0) (1)) (QB g ad 122) (FA ad 122)) 0 0 (FA ad 122) := by
  refine xmet cX6_saysTwoThings "EbbWreck$RuleBook" (by decide) rfl (Nat.le_of_ble_eq_true rfl) (fun p e s m below meth c E hr hlk hml hQ ls hl => ?_)
  have hx := E.1
  have hb := E.2.1
  have hs : Sp ad 122 (FA ad 122) := Sp.fa hD
  have hl : lv_has ls 5 [(0, .ref (ad 10)), (1, .int a1), (2, .int a2)] := hl
  refine lv_aload_n hx hb dX6_saysTwoThings_0 rfl (lv_at hl 0 rfl) ?_
  refine lv_iload_n hx hb dX6_saysTwoThings_1 rfl (lv_at hl 1 rfl) ?_
  refine lv_iload_n hx hb dX6_saysTwoThings_2 rfl (lv_at hl 2 rfl) ?_
  refine lv_iconst (v := (-1)) hx hb dX6_saysTwoThings_3 (by decide) ?_
  obtain ⟨v2, c4, b3⟩ := invX_10 hI
  have c4 : S 10 = .inr (6, [.int v2, .ref (ad 11), .ref (ad 12), .ref (ad 13), .ref (ad 14)]) := c4
  refine xcVi E hs hQ hml hl.1 10 (gX6_decider_10 l g ad hD S hI a1 a2 (-1)) mX6_decider q1014 (by decide) c4 rfl rfl ⟨(Nat.le_of_ble_eq_true rfl), (Nat.le_of_ble_eq_true rfl)⟩ ⟨(Nat.le_of_ble_eq_true rfl), (Nat.le_of_ble_eq_true rfl)⟩ (Nat.le_of_ble_eq_true rfl) rfl dX6_saysTwoThings_4 (fun r1 S1 H locs hp1 hQ _ => ?_)
  obtain ⟨rfl, b1⟩ := hp1
  refine lv_istore_n (lv' := [(3, .int r1), (0, .ref (ad 10)), (1, .int a1), (2, .int a2)]) hx hb dX6_saysTwoThings_7 rfl hl (by decide) rfl (fun ls hl => ?_)
  rcases Int.lt_or_le r1.toInt (0) with h5 | h5
  · have b6 : Bd r1 (-1) (-1) := ⟨(b1).1, by omega⟩
    refine lv_iload_n hx hb dX6_saysTwoThings_8 rfl (lv_at hl 0 rfl) ?_
    refine lv_istore (lv' := [(4, .int r1), (3, .int r1), (0, .ref (ad 10)), (1, .int a1), (2, .int a2)]) hx hb dX6_saysTwoThings_9 hl (by decide) rfl (fun ls hl => ?_)
    have loop11 : ∀ (n : Nat) (H : Heap) (locs : List Loc) (ls : Array Slot) (x11_4 : Int32), Bd x11_4 (-1) (-1) → 0 < ((n : Nat) : Int) → Hp g ad 122 S (FA ad 122) s.heap H locs → lv_has ls 5 [(4, .int x11_4), (3, .int r1), (0, .ref (ad 10)), (1, .int a1), (2, .int a2)] → W p l e (Rm 2) s m [.ref (ad 10), .int a1, .int a2].toArray below meth c H locs 0 0 (MQ below (va_Qi (fun r S' => S = S' ∧ Bd r (0) (1)) (QB g ad 122) (FA ad 122)) [.ref (ad 10), .int a1, .int a2].toArray s 0 0 (FA ad 122)) (F0 m 11 ls []) := by
      intro n
      induction n with
      | zero => intro H locs ls x11_4 Bx11_4 hn11_ hQ hl; exfalso; omega
      | succ n11_ ih11 =>
        intro H locs ls x11_4 Bx11_4 hn11_ hQ hl
        refine lv_iload hx hb dX6_saysTwoThings_11 (lv_at hl 0 rfl) ?_
        refine lv_if_lt (tgt := 60) hx hb dX6_saysTwoThings_13 (by decide) (fun k7 => ?_) (fun k7 => ?_)
        · have h8 := ib_lt k7
          refine lv_iconst (v := 0) hx hb dX6_saysTwoThings_60 (by decide) ?_
          exact xrz E hr hlk hQ rfl (⟨rfl, (ib_wk (by decide : Bd 0 (0) (0)) (by decide) (by decide))⟩) dX6_saysTwoThings_61
        · have h9 := ib_nlt k7
          exact absurd (Int.le_trans ((by decide : Bd 0 (0) (0))).1 ((rf_le (by decide : Bd 0 (0) (0)) Bx11_4 h9).1).2) (by decide)
    obtain ⟨n11, hn11⟩ := fu_n (0)
    exact loop11 n11 _ _ _ r1 b6 (by omega) hQ (lv_sub hl [0, 1, 2, 3, 4] rfl)
  · have b10 : Bd r1 (0) (5) := ⟨h5, (b1).2⟩
    refine lv_iload_n hx hb dX6_saysTwoThings_8 rfl (lv_at hl 0 rfl) ?_
    refine lv_istore (lv' := [(4, .int r1), (3, .int r1), (0, .ref (ad 10)), (1, .int a1), (2, .int a2)]) hx hb dX6_saysTwoThings_9 hl (by decide) rfl (fun ls hl => ?_)
    have loop11 : ∀ (n : Nat) (H : Heap) (locs : List Loc) (ls : Array Slot) (x11_4 : Int32), Bd x11_4 (0) (6) → (-1) * x11_4.toInt + 6 < ((n : Nat) : Int) → Hp g ad 122 S (FA ad 122) s.heap H locs → lv_has ls 5 [(4, .int x11_4), (3, .int r1), (0, .ref (ad 10)), (1, .int a1), (2, .int a2)] → W p l e (Rm 2) s m [.ref (ad 10), .int a1, .int a2].toArray below meth c H locs 0 0 (MQ below (va_Qi (fun r S' => S = S' ∧ Bd r (0) (1)) (QB g ad 122) (FA ad 122)) [.ref (ad 10), .int a1, .int a2].toArray s 0 0 (FA ad 122)) (F0 m 11 ls []) := by
      intro n
      induction n with
      | zero => intro H locs ls x11_4 Bx11_4 hn11_ hQ hl; exfalso; have := (Bx11_4).2; omega
      | succ n11_ ih11 =>
        intro H locs ls x11_4 Bx11_4 hn11_ hQ hl
        refine lv_iload hx hb dX6_saysTwoThings_11 (lv_at hl 0 rfl) ?_
        refine lv_if_lt (tgt := 60) hx hb dX6_saysTwoThings_13 (by decide) (fun k11 => ?_) (fun k11 => ?_)
        · have h12 := ib_lt k11
          have b13 : Bd x11_4 (0) (-1) := ⟨(Bx11_4).1, ((rf_lt Bx11_4 (by decide : Bd 0 (0) (0)) h12).1).2⟩
          exact absurd (Int.le_trans b13.1 b13.2) (by decide)
        · have h14 := ib_nlt k11
          refine lv_iload hx hb dX6_saysTwoThings_16 (lv_at hl 0 rfl) ?_
          refine lv_aload_n hx hb dX6_saysTwoThings_18 rfl (lv_at hl 2 rfl) ?_
          refine xget E hQ 10 (by decide) c4 rfl 0 (by decide) q186 rfl dX6_saysTwoThings_19 ?_
          refine lv_icmp_ge (tgt := 60) hx hb dX6_saysTwoThings_22 (by decide) (fun k15 => ?_) (fun k15 => ?_)
          · have h16 := ib_le k15
            refine lv_iconst (v := 0) hx hb dX6_saysTwoThings_60 (by decide) ?_
            exact xrz E hr hlk hQ rfl (⟨rfl, (ib_wk (by decide : Bd 0 (0) (0)) (by decide) (by decide))⟩) dX6_saysTwoThings_61
          · have h17 := ib_nle k15
            have b18 : Bd x11_4 (0) (5) := ⟨(Bx11_4).1, ((rf_lt Bx11_4 b3 h17).1).2⟩
            have b19 : Bd v2 (1) (6) := ⟨((rf_lt Bx11_4 b3 h17).2).1, (b3).2⟩
            refine lv_aload_n hx hb dX6_saysTwoThings_25 rfl (lv_at hl 2 rfl) ?_
            refine lv_iload hx hb dX6_saysTwoThings_26 (lv_at hl 0 rfl) ?_
            refine lv_iload_n hx hb dX6_saysTwoThings_28 rfl (lv_at hl 3 rfl) ?_
            refine lv_iload_n hx hb dX6_saysTwoThings_29 rfl (lv_at hl 4 rfl) ?_
            refine xcVi E hs hQ hml hl.1 10 (gX6_stands_10 l g ad hD S hI x11_4 a1 a2 b18) mX6_stands q955 (by decide) c4 rfl rfl ⟨(Nat.le_of_ble_eq_true rfl), (Nat.le_of_ble_eq_true rfl)⟩ ⟨(Nat.le_of_ble_eq_true rfl), (Nat.le_of_ble_eq_true rfl)⟩ (Nat.le_of_ble_eq_true rfl) rfl dX6_saysTwoThings_30 (fun r20 S20 H locs hp20 hQ _ => ?_)
            obtain ⟨rfl, b20⟩ := hp20
            refine lv_if_eq (tgt := 54) hx hb dX6_saysTwoThings_33 (by decide) (fun k21 => ?_) (fun k21 => ?_)
            · have h22 := ib_eq k21
              have b23 : Bd r20 (0) (0) := ⟨(b20).1, ((rf_eq b20 (by decide : Bd 0 (0) (0)) h22).1).2⟩
              obtain ⟨z24, e25⟩ : ∃ z : Int32, z = x11_4 + 1 := ⟨_, rfl⟩
              have t26 := ib_add e25 b18 (by decide : Bd 1 (1) (1)) (by decide) (by decide)
              have b27 : Bd z24 (1) (6) := ib_addb t26 b18 (by decide : Bd 1 (1) (1))
              have t26 : z24.toInt = x11_4.toInt + 1 := fold_add t26 rfl (by decide)
              refine lv_iinc (v := z24) (lv' := [(4, .int z24), (3, .int r1), (0, .ref (ad 10)), (1, .int a1), (2, .int a2)]) hx hb dX6_saysTwoThings_54 hl (k := 0) rfl (by rw [e25]; rfl) (by decide) rfl (fun ls hl => ?_)
              refine lv_goto (tgt := 11) hx hb dX6_saysTwoThings_57 (by decide) ?_
              exact ih11 _ _ _ z24 (ib_wk b27 (by decide) (by decide)) (by omega) hQ (lv_sub hl [0, 1, 2, 3, 4] rfl)
            · have h28 := ib_ne k21
              have b29 : Bd r20 (1) (1) := rf_nlo b20 (by decide : Bd 0 (0) (0)) h28
              refine lv_aload_n hx hb dX6_saysTwoThings_36 rfl (lv_at hl 2 rfl) ?_
              refine xget E hQ 10 (by decide) c4 rfl 4 (by decide) q195 rfl dX6_saysTwoThings_37 ?_
              refine lv_iload hx hb dX6_saysTwoThings_40 (lv_at hl 0 rfl) ?_
              obtain ⟨f30, c31⟩ := invX_14 hI
              refine xiald E hQ 14 (by decide) c31 (ib_in b18 (by decide) (by decide)) dX6_saysTwoThings_42 ?_
              refine lv_topi (fun z33 e34 => ?_)
              refine lv_aload_n hx hb dX6_saysTwoThings_43 rfl (lv_at hl 2 rfl) ?_
              refine xget E hQ 10 (by decide) c4 rfl 4 (by decide) q195 rfl dX6_saysTwoThings_44 ?_
              refine lv_iload_n hx hb dX6_saysTwoThings_47 rfl (lv_at hl 1 rfl) ?_
              refine xiald E hQ 14 (by decide) c31 (ib_in b10 (by decide) (by decide)) dX6_saysTwoThings_48 ?_
              refine lv_topi (fun z35 e36 => ?_)
              refine lv_icmp_eq (tgt := 54) hx hb dX6_saysTwoThings_49 (by decide) (fun k37 => ?_) (fun k37 => ?_)
              · have h38 := ib_eq k37
                obtain ⟨z39, e40⟩ : ∃ z : Int32, z = x11_4 + 1 := ⟨_, rfl⟩
                have t41 := ib_add e40 b18 (by decide : Bd 1 (1) (1)) (by decide) (by decide)
                have b42 : Bd z39 (1) (6) := ib_addb t41 b18 (by decide : Bd 1 (1) (1))
                have t41 : z39.toInt = x11_4.toInt + 1 := fold_add t41 rfl (by decide)
                refine lv_iinc (v := z39) (lv' := [(4, .int z39), (3, .int r1), (0, .ref (ad 10)), (1, .int a1), (2, .int a2)]) hx hb dX6_saysTwoThings_54 hl (k := 0) rfl (by rw [e40]; rfl) (by decide) rfl (fun ls hl => ?_)
                refine lv_goto (tgt := 11) hx hb dX6_saysTwoThings_57 (by decide) ?_
                exact ih11 _ _ _ z39 (ib_wk b42 (by decide) (by decide)) (by omega) hQ (lv_sub hl [0, 1, 2, 3, 4] rfl)
              · have h43 := ib_ne k37
                refine lv_iconst (v := 1) hx hb dX6_saysTwoThings_52 (by decide) ?_
                exact xrz E hr hlk hQ rfl (⟨rfl, (ib_wk (by decide : Bd 1 (1) (1)) (by decide) (by decide))⟩) dX6_saysTwoThings_53
    obtain ⟨n11, hn11⟩ := fu_n ((-1) * r1.toInt + 6)
    exact loop11 n11 _ _ _ r1 (ib_wk b10 (by decide) (by decide)) (by omega) hQ (lv_sub hl [0, 1, 2, 3, 4] rfl)
set_option maxHeartbeats 4000000 in
set_option maxRecDepth 100000 in
theorem gX0_isFull_16 (l : Launch) (g : GG) (ad : Nat → Nat) (hD : Dj ad 122) (S : SS) (hI : InvX g ad S) : Met l yX0_isFull (wG (.code yX0_isFull cX0_isFull 1 (some .boolean))) (Rm 0) (XPre g ad 122 S [.ref (ad 16)]) (va_Qi (fun r S' => S = S' ∧ Bd r (0) (1) ∧ (((-1) * r.toInt < 0 ∨ (0 ≤ (-1) * fld (S 16) 0 + 39)))) (QB g ad 122) (FA ad 122)) 0 0 (FA ad 122) := by
  refine xmet cX0_isFull "EbbWreck$Acts" (by decide) rfl (Nat.le_of_ble_eq_true rfl) (fun p e s m below meth c E hr hlk hml hQ ls hl => ?_)
  have hx := E.1
  have hb := E.2.1
  have hs : Sp ad 122 (FA ad 122) := Sp.fa hD
  have hl : lv_has ls 1 [(0, .ref (ad 16))] := hl
  obtain ⟨v1, c3, b2⟩ := invX_16 hI
  have c3 : S 16 = .inr (0, [.int v1, .ref (ad 17), .ref (ad 18), .ref (ad 19)]) := c3
  refine lv_aload_n hx hb dX0_isFull_0 rfl (lv_at hl 0 rfl) ?_
  refine xget E hQ 16 (by decide) c3 rfl 0 (by decide) q215 rfl dX0_isFull_1 ?_
  refine lv_bipush (v := 40) hx hb dX0_isFull_4 (by decide) ?_
  refine lv_icmp_lt (tgt := 13) hx hb dX0_isFull_6 (by decide) (fun k4 => ?_) (fun k4 => ?_)
  · have h5 := ib_lt k4
    have b6 : Bd v1 (0) (39) := ⟨(b2).1, ((rf_lt b2 (by decide : Bd 40 (40) (40)) h5).1).2⟩
    refine lv_iconst (v := 0) hx hb dX0_isFull_13 (by decide) ?_
    have q7 : fld (S 16) 0 = v1.toInt := fld_of c3 rfl
    have q8 : (0 : Int32).toInt = 0 := by decide
    exact xrz E hr hlk hQ rfl (⟨rfl, (ib_wk (by decide : Bd 0 (0) (0)) (by decide) (by decide)), Or.inr (by omega)⟩) dX0_isFull_14
  · have h9 := ib_nlt k4
    have b10 : Bd v1 (40) (40) := ⟨((rf_le (by decide : Bd 40 (40) (40)) b2 h9).2).1, (b2).2⟩
    refine lv_iconst (v := 1) hx hb dX0_isFull_9 (by decide) ?_
    refine lv_goto (tgt := 14) hx hb dX0_isFull_10 (by decide) ?_
    have q11 : fld (S 16) 0 = v1.toInt := fld_of c3 rfl
    have q12 : (1 : Int32).toInt = 1 := by decide
    exact xrz E hr hlk hQ rfl (⟨rfl, (ib_wk (by decide : Bd 1 (1) (1)) (by decide) (by decide)), Or.inl (by omega)⟩) dX0_isFull_14
set_option maxHeartbeats 4000000 in
set_option maxRecDepth 100000 in
theorem gX0_isPushOf_16 (l : Launch) (g : GG) (ad : Nat → Nat) (hD : Dj ad 122) (S : SS) (hI : InvX g ad S) (a1 : Int32) (a2 : Int32) (ba1 : Bd a1 (0) (39)) : Met l yX0_isPushOf (wG (.code yX0_isPushOf cX0_isPushOf 3 (some .boolean))) (Rm 0) (XPre g ad 122 S [.ref (ad 16), .int a1, .int a2]) (va_Qi (fun r S' => S = S' ∧ Bd r (0) (1)) (QB g ad 122) (FA ad 122)) 0 0 (FA ad 122) := by
  refine xmet cX0_isPushOf "EbbWreck$Acts" (by decide) rfl (Nat.le_of_ble_eq_true rfl) (fun p e s m below meth c E hr hlk hml hQ ls hl => ?_)
  have hx := E.1
  have hb := E.2.1
  have hs : Sp ad 122 (FA ad 122) := Sp.fa hD
  have hl : lv_has ls 3 [(0, .ref (ad 16)), (1, .int a1), (2, .int a2)] := hl
  refine lv_aload_n hx hb dX0_isPushOf_0 rfl (lv_at hl 0 rfl) ?_
  obtain ⟨v1, c3, b2⟩ := invX_16 hI
  have c3 : S 16 = .inr (0, [.int v1, .ref (ad 17), .ref (ad 18), .ref (ad 19)]) := c3
  refine xget E hQ 16 (by decide) c3 rfl 1 (by decide) q219 rfl dX0_isPushOf_1 ?_
  refine lv_iload_n hx hb dX0_isPushOf_4 rfl (lv_at hl 1 rfl) ?_
  obtain ⟨f4, c5⟩ := invX_17 hI
  refine xiald E hQ 17 (by decide) c5 (ib_in ba1 (by decide) (by decide)) dX0_isPushOf_5 ?_
  refine lv_topi (fun z7 e8 => ?_)
  refine lv_if_eq (tgt := 23) hx hb dX0_isPushOf_6 (by decide) (fun k9 => ?_) (fun k9 => ?_)
  · have h10 := ib_eq k9
    have b11 : Bd z7 (0) (0) := ⟨((rf_eq (ib_full z7) (by decide : Bd 0 (0) (0)) h10).1).1, ((rf_eq (ib_full z7) (by decide : Bd 0 (0) (0)) h10).1).2⟩
    refine lv_iconst (v := 0) hx hb dX0_isPushOf_23 (by decide) ?_
    exact xrz E hr hlk hQ rfl (⟨rfl, (ib_wk (by decide : Bd 0 (0) (0)) (by decide) (by decide))⟩) dX0_isPushOf_24
  · have h12 := ib_ne k9
    refine lv_aload_n hx hb dX0_isPushOf_9 rfl (lv_at hl 0 rfl) ?_
    refine xget E hQ 16 (by decide) c3 rfl 2 (by decide) q222 rfl dX0_isPushOf_10 ?_
    refine lv_iload_n hx hb dX0_isPushOf_13 rfl (lv_at hl 1 rfl) ?_
    obtain ⟨f13, c14, b15⟩ := invX_18 hI
    refine xiald E hQ 18 (by decide) c14 (ib_in ba1 (by decide) (by decide)) dX0_isPushOf_14 ?_
    refine lv_topi (fun z16 e17 => ?_)
    have b18 : Bd z16 (0) (7) := (by rw [e17]; exact b15 _)
    refine lv_iload_n hx hb dX0_isPushOf_15 rfl (lv_at hl 2 rfl) ?_
    refine lv_icmp_ne (tgt := 23) hx hb dX0_isPushOf_16 (by decide) (fun k19 => ?_) (fun k19 => ?_)
    · have h20 := ib_ne k19
      refine lv_iconst (v := 0) hx hb dX0_isPushOf_23 (by decide) ?_
      exact xrz E hr hlk hQ rfl (⟨rfl, (ib_wk (by decide : Bd 0 (0) (0)) (by decide) (by decide))⟩) dX0_isPushOf_24
    · have h21 := ib_eq k19
      have b22 : Bd a2 (0) (7) := ⟨((rf_eq b18 (ib_full a2) h21).2).1, ((rf_eq b18 (ib_full a2) h21).2).2⟩
      refine lv_iconst (v := 1) hx hb dX0_isPushOf_19 (by decide) ?_
      refine lv_goto (tgt := 24) hx hb dX0_isPushOf_20 (by decide) ?_
      exact xrz E hr hlk hQ rfl (⟨rfl, (ib_wk (by decide : Bd 1 (1) (1)) (by decide) (by decide))⟩) dX0_isPushOf_24
set_option maxHeartbeats 4000000 in
set_option maxRecDepth 100000 in
theorem gX0_isPushed_16 (l : Launch) (g : GG) (ad : Nat → Nat) (hD : Dj ad 122) (S : SS) (hI : InvX g ad S) (a1 : Int32) (a2 : Int32) : Met l yX0_isPushed (wG (.code yX0_isPushed cX0_isPushed 4 (some .boolean))) (Rm 1) (XPre g ad 122 S [.ref (ad 16), .int a1, .int a2]) (va_Qi (fun r S' => S = S' ∧ Bd r (0) (1)) (QB g ad 122) (FA ad 122)) 0 0 (FA ad 122) := by
  refine xmet cX0_isPushed "EbbWreck$Acts" (by decide) rfl (Nat.le_of_ble_eq_true rfl) (fun p e s m below meth c E hr hlk hml hQ ls hl => ?_)
  have hx := E.1
  have hb := E.2.1
  have hs : Sp ad 122 (FA ad 122) := Sp.fa hD
  have hl : lv_has ls 4 [(0, .ref (ad 16)), (1, .int a1), (2, .int a2)] := hl
  refine lv_iconst (v := 0) hx hb dX0_isPushed_0 (by decide) ?_
  refine lv_istore_n (lv' := [(3, .int 0), (0, .ref (ad 16)), (1, .int a1), (2, .int a2)]) hx hb dX0_isPushed_1 rfl hl (by decide) rfl (fun ls hl => ?_)
  have loop2 : ∀ (n : Nat) (H : Heap) (locs : List Loc) (ls : Array Slot) (x2_3 : Int32), Bd x2_3 (0) (40) → (-1) * x2_3.toInt + 40 < ((n : Nat) : Int) → Hp g ad 122 S (FA ad 122) s.heap H locs → lv_has ls 4 [(3, .int x2_3), (0, .ref (ad 16)), (1, .int a1), (2, .int a2)] → W p l e (Rm 1) s m [.ref (ad 16), .int a1, .int a2].toArray below meth c H locs 0 0 (MQ below (va_Qi (fun r S' => S = S' ∧ Bd r (0) (1)) (QB g ad 122) (FA ad 122)) [.ref (ad 16), .int a1, .int a2].toArray s 0 0 (FA ad 122)) (F0 m 2 ls []) := by
    intro n
    induction n with
    | zero => intro H locs ls x2_3 Bx2_3 hn2_ hQ hl; exfalso; have := (Bx2_3).2; omega
    | succ n2_ ih2 =>
      intro H locs ls x2_3 Bx2_3 hn2_ hQ hl
      refine lv_iload_n hx hb dX0_isPushed_2 rfl (lv_at hl 0 rfl) ?_
      refine lv_aload_n hx hb dX0_isPushed_3 rfl (lv_at hl 1 rfl) ?_
      obtain ⟨v1, c3, b2⟩ := invX_16 hI
      have c3 : S 16 = .inr (0, [.int v1, .ref (ad 17), .ref (ad 18), .ref (ad 19)]) := c3
      refine xget E hQ 16 (by decide) c3 rfl 0 (by decide) q215 rfl dX0_isPushed_4 ?_
      refine lv_icmp_ge (tgt := 37) hx hb dX0_isPushed_7 (by decide) (fun k4 => ?_) (fun k4 => ?_)
      · have h5 := ib_le k4
        refine lv_iconst (v := 0) hx hb dX0_isPushed_37 (by decide) ?_
        exact xrz E hr hlk hQ rfl (⟨rfl, (ib_wk (by decide : Bd 0 (0) (0)) (by decide) (by decide))⟩) dX0_isPushed_38
      · have h6 := ib_nle k4
        have b7 : Bd x2_3 (0) (39) := ⟨(Bx2_3).1, ((rf_lt Bx2_3 b2 h6).1).2⟩
        have b8 : Bd v1 (1) (40) := ⟨((rf_lt Bx2_3 b2 h6).2).1, (b2).2⟩
        refine lv_aload_n hx hb dX0_isPushed_10 rfl (lv_at hl 1 rfl) ?_
        refine lv_iload_n hx hb dX0_isPushed_11 rfl (lv_at hl 0 rfl) ?_
        refine lv_iload_n hx hb dX0_isPushed_12 rfl (lv_at hl 2 rfl) ?_
        refine xcVi E hs hQ hml hl.1 16 (gX0_isPushOf_16 l g ad hD S hI x2_3 a1 b7) mX0_isPushOf q1366 (by decide) c3 rfl rfl ⟨(Nat.le_of_ble_eq_true rfl), (Nat.le_of_ble_eq_true rfl)⟩ ⟨(Nat.le_of_ble_eq_true rfl), (Nat.le_of_ble_eq_true rfl)⟩ (Nat.le_of_ble_eq_true rfl) rfl dX0_isPushed_13 (fun r9 S9 H locs hp9 hQ _ => ?_)
        obtain ⟨rfl, b9⟩ := hp9
        refine lv_if_eq (tgt := 31) hx hb dX0_isPushed_16 (by decide) (fun k10 => ?_) (fun k10 => ?_)
        · have h11 := ib_eq k10
          have b12 : Bd r9 (0) (0) := ⟨(b9).1, ((rf_eq b9 (by decide : Bd 0 (0) (0)) h11).1).2⟩
          obtain ⟨z13, e14⟩ : ∃ z : Int32, z = x2_3 + 1 := ⟨_, rfl⟩
          have t15 := ib_add e14 b7 (by decide : Bd 1 (1) (1)) (by decide) (by decide)
          have b16 : Bd z13 (1) (40) := ib_addb t15 b7 (by decide : Bd 1 (1) (1))
          have t15 : z13.toInt = x2_3.toInt + 1 := fold_add t15 rfl (by decide)
          refine lv_iinc (v := z13) (lv' := [(3, .int z13), (0, .ref (ad 16)), (1, .int a1), (2, .int a2)]) hx hb dX0_isPushed_31 hl (k := 0) rfl (by rw [e14]; rfl) (by decide) rfl (fun ls hl => ?_)
          refine lv_goto (tgt := 2) hx hb dX0_isPushed_34 (by decide) ?_
          exact ih2 _ _ _ z13 (ib_wk b16 (by decide) (by decide)) (by omega) hQ (lv_sub hl [0, 1, 2, 3] rfl)
        · have h17 := ib_ne k10
          have b18 : Bd r9 (1) (1) := rf_nlo b9 (by decide : Bd 0 (0) (0)) h17
          refine lv_aload_n hx hb dX0_isPushed_19 rfl (lv_at hl 1 rfl) ?_
          refine xget E hQ 16 (by decide) c3 rfl 3 (by decide) q224 rfl dX0_isPushed_20 ?_
          refine lv_iload_n hx hb dX0_isPushed_23 rfl (lv_at hl 0 rfl) ?_
          obtain ⟨f19, c20, b21⟩ := invX_19 hI
          refine xiald E hQ 19 (by decide) c20 (ib_in b7 (by decide) (by decide)) dX0_isPushed_24 ?_
          refine lv_topi (fun z22 e23 => ?_)
          have b24 : Bd z22 (0) (400) := (by rw [e23]; exact b21 _)
          refine lv_iload_n hx hb dX0_isPushed_25 rfl (lv_at hl 3 rfl) ?_
          refine lv_icmp_ne (tgt := 31) hx hb dX0_isPushed_26 (by decide) (fun k25 => ?_) (fun k25 => ?_)
          · have h26 := ib_ne k25
            obtain ⟨z27, e28⟩ : ∃ z : Int32, z = x2_3 + 1 := ⟨_, rfl⟩
            have t29 := ib_add e28 b7 (by decide : Bd 1 (1) (1)) (by decide) (by decide)
            have b30 : Bd z27 (1) (40) := ib_addb t29 b7 (by decide : Bd 1 (1) (1))
            have t29 : z27.toInt = x2_3.toInt + 1 := fold_add t29 rfl (by decide)
            refine lv_iinc (v := z27) (lv' := [(3, .int z27), (0, .ref (ad 16)), (1, .int a1), (2, .int a2)]) hx hb dX0_isPushed_31 hl (k := 0) rfl (by rw [e28]; rfl) (by decide) rfl (fun ls hl => ?_)
            refine lv_goto (tgt := 2) hx hb dX0_isPushed_34 (by decide) ?_
            exact ih2 _ _ _ z27 (ib_wk b30 (by decide) (by decide)) (by omega) hQ (lv_sub hl [0, 1, 2, 3] rfl)
          · have h31 := ib_eq k25
            have b32 : Bd a2 (0) (400) := ⟨((rf_eq b24 (ib_full a2) h31).2).1, ((rf_eq b24 (ib_full a2) h31).2).2⟩
            refine lv_iconst (v := 1) hx hb dX0_isPushed_29 (by decide) ?_
            exact xrz E hr hlk hQ rfl (⟨rfl, (ib_wk (by decide : Bd 1 (1) (1)) (by decide) (by decide))⟩) dX0_isPushed_30
  obtain ⟨n2, hn2⟩ := fu_n (40)
  exact loop2 n2 _ _ _ 0 (ib_wk (by decide : Bd 0 (0) (0)) (by decide) (by decide)) (by have : (0 : Int32).toInt = 0 := (by decide); omega) hQ (lv_sub hl [0, 1, 2, 3] rfl)
set_option maxHeartbeats 4000000 in
set_option maxRecDepth 100000 in
theorem gX0_pushesOf_16 (l : Launch) (g : GG) (ad : Nat → Nat) (hD : Dj ad 122) (S : SS) (hI : InvX g ad S) (a1 : Int32) : Met l yX0_pushesOf (wG (.code yX0_pushesOf cX0_pushesOf 4 (some .int))) (Rm 1) (XPre g ad 122 S [.ref (ad 16), .int a1]) (va_Qi (fun _ S' => S = S') (QB g ad 122) (FA ad 122)) 0 0 (FA ad 122) := by
  refine xmet cX0_pushesOf "EbbWreck$Acts" (by decide) rfl (Nat.le_of_ble_eq_true rfl) (fun p e s m below meth c E hr hlk hml hQ ls hl => ?_)
  have hx := E.1
  have hb := E.2.1
  have hs : Sp ad 122 (FA ad 122) := Sp.fa hD
  have hl : lv_has ls 4 [(0, .ref (ad 16)), (1, .int a1)] := hl
  refine lv_iconst (v := 0) hx hb dX0_pushesOf_0 (by decide) ?_
  refine lv_istore_n (lv' := [(2, .int 0), (0, .ref (ad 16)), (1, .int a1)]) hx hb dX0_pushesOf_1 rfl hl (by decide) rfl (fun ls hl => ?_)
  refine lv_iconst (v := 0) hx hb dX0_pushesOf_2 (by decide) ?_
  refine lv_istore_n (lv' := [(3, .int 0), (2, .int 0), (0, .ref (ad 16)), (1, .int a1)]) hx hb dX0_pushesOf_3 rfl hl (by decide) rfl (fun ls hl => ?_)
  have loop4 : ∀ (n : Nat) (H : Heap) (locs : List Loc) (ls : Array Slot) (x4_2 : Int32) (x4_3 : Int32), Bd x4_3 (0) (40) → (-1) * x4_3.toInt + 40 < ((n : Nat) : Int) → Hp g ad 122 S (FA ad 122) s.heap H locs → lv_has ls 4 [(3, .int x4_3), (2, .int x4_2), (0, .ref (ad 16)), (1, .int a1)] → W p l e (Rm 1) s m [.ref (ad 16), .int a1].toArray below meth c H locs 0 0 (MQ below (va_Qi (fun _ S' => S = S') (QB g ad 122) (FA ad 122)) [.ref (ad 16), .int a1].toArray s 0 0 (FA ad 122)) (F0 m 4 ls []) := by
    intro n
    induction n with
    | zero => intro H locs ls x4_2 x4_3 Bx4_3 hn4_ hQ hl; exfalso; have := (Bx4_3).2; omega
    | succ n4_ ih4 =>
      intro H locs ls x4_2 x4_3 Bx4_3 hn4_ hQ hl
      refine lv_iload_n hx hb dX0_pushesOf_4 rfl (lv_at hl 0 rfl) ?_
      refine lv_aload_n hx hb dX0_pushesOf_5 rfl (lv_at hl 2 rfl) ?_
      obtain ⟨v1, c3, b2⟩ := invX_16 hI
      have c3 : S 16 = .inr (0, [.int v1, .ref (ad 17), .ref (ad 18), .ref (ad 19)]) := c3
      refine xget E hQ 16 (by decide) c3 rfl 0 (by decide) q215 rfl dX0_pushesOf_6 ?_
      refine lv_icmp_ge (tgt := 30) hx hb dX0_pushesOf_9 (by decide) (fun k4 => ?_) (fun k4 => ?_)
      · have h5 := ib_le k4
        refine lv_iload_n hx hb dX0_pushesOf_30 rfl (lv_at hl 1 rfl) ?_
        exact xri E hr hlk hQ (rfl) dX0_pushesOf_31
      · have h6 := ib_nle k4
        have b7 : Bd x4_3 (0) (39) := ⟨(Bx4_3).1, ((rf_lt Bx4_3 b2 h6).1).2⟩
        have b8 : Bd v1 (1) (40) := ⟨((rf_lt Bx4_3 b2 h6).2).1, (b2).2⟩
        refine lv_aload_n hx hb dX0_pushesOf_12 rfl (lv_at hl 2 rfl) ?_
        refine lv_iload_n hx hb dX0_pushesOf_13 rfl (lv_at hl 0 rfl) ?_
        refine lv_iload_n hx hb dX0_pushesOf_14 rfl (lv_at hl 3 rfl) ?_
        refine xcVi E hs hQ hml hl.1 16 (gX0_isPushOf_16 l g ad hD S hI x4_3 a1 b7) mX0_isPushOf q1366 (by decide) c3 rfl rfl ⟨(Nat.le_of_ble_eq_true rfl), (Nat.le_of_ble_eq_true rfl)⟩ ⟨(Nat.le_of_ble_eq_true rfl), (Nat.le_of_ble_eq_true rfl)⟩ (Nat.le_of_ble_eq_true rfl) rfl dX0_pushesOf_15 (fun r9 S9 H locs hp9 hQ _ => ?_)
        obtain ⟨rfl, b9⟩ := hp9
        refine lv_if_eq (tgt := 24) hx hb dX0_pushesOf_18 (by decide) (fun k10 => ?_) (fun k10 => ?_)
        · have h11 := ib_eq k10
          have b12 : Bd r9 (0) (0) := ⟨(b9).1, ((rf_eq b9 (by decide : Bd 0 (0) (0)) h11).1).2⟩
          obtain ⟨z13, e14⟩ : ∃ z : Int32, z = x4_3 + 1 := ⟨_, rfl⟩
          have t15 := ib_add e14 b7 (by decide : Bd 1 (1) (1)) (by decide) (by decide)
          have b16 : Bd z13 (1) (40) := ib_addb t15 b7 (by decide : Bd 1 (1) (1))
          have t15 : z13.toInt = x4_3.toInt + 1 := fold_add t15 rfl (by decide)
          refine lv_iinc (v := z13) (lv' := [(3, .int z13), (2, .int x4_2), (0, .ref (ad 16)), (1, .int a1)]) hx hb dX0_pushesOf_24 hl (k := 0) rfl (by rw [e14]; rfl) (by decide) rfl (fun ls hl => ?_)
          refine lv_goto (tgt := 4) hx hb dX0_pushesOf_27 (by decide) ?_
          exact ih4 _ _ _ x4_2 z13 (ib_wk b16 (by decide) (by decide)) (by omega) hQ (lv_sub hl [0, 1, 2, 3] rfl)
        · have h17 := ib_ne k10
          have b18 : Bd r9 (1) (1) := rf_nlo b9 (by decide : Bd 0 (0) (0)) h17
          obtain ⟨z19, e20⟩ : ∃ z : Int32, z = x4_2 + 1 := ⟨_, rfl⟩
          refine lv_iinc (v := z19) (lv' := [(2, .int z19), (3, .int x4_3), (0, .ref (ad 16)), (1, .int a1)]) hx hb dX0_pushesOf_21 hl (k := 1) rfl (by rw [e20]; rfl) (by decide) rfl (fun ls hl => ?_)
          obtain ⟨z21, e22⟩ : ∃ z : Int32, z = x4_3 + 1 := ⟨_, rfl⟩
          have t23 := ib_add e22 b7 (by decide : Bd 1 (1) (1)) (by decide) (by decide)
          have b24 : Bd z21 (1) (40) := ib_addb t23 b7 (by decide : Bd 1 (1) (1))
          have t23 : z21.toInt = x4_3.toInt + 1 := fold_add t23 rfl (by decide)
          refine lv_iinc (v := z21) (lv' := [(3, .int z21), (2, .int z19), (0, .ref (ad 16)), (1, .int a1)]) hx hb dX0_pushesOf_24 hl (k := 1) rfl (by rw [e22]; rfl) (by decide) rfl (fun ls hl => ?_)
          refine lv_goto (tgt := 4) hx hb dX0_pushesOf_27 (by decide) ?_
          exact ih4 _ _ _ z19 z21 (ib_wk b24 (by decide) (by decide)) (by omega) hQ (lv_sub hl [0, 1, 2, 3] rfl)
  obtain ⟨n4, hn4⟩ := fu_n (40)
  exact loop4 n4 _ _ _ 0 0 (ib_wk (by decide : Bd 0 (0) (0)) (by decide) (by decide)) (by have : (0 : Int32).toInt = 0 := (by decide); omega) hQ (lv_sub hl [0, 1, 2, 3] rfl)
set_option maxHeartbeats 4000000 in
set_option maxRecDepth 100000 in
theorem gX1_shifted_2 (l : Launch) (g : GG) (ad : Nat → Nat) (hD : Dj ad 122) (S : SS) (hI : InvX g ad S) (a1 : Int32) (a2 : Int32) (hq1 : 0 ≤ fld (S 2) 1 + (-1)) : Met l yX1_shifted (wG (.code yX1_shifted cX1_shifted 4 (some .int))) (Rm 0) (XPre g ad 122 S [.ref (ad 2), .int a1, .int a2]) (va_Qi (fun r S' => S = S' ∧ Bd r (0) (11)) (QB g ad 122) (FA ad 122)) 0 0 (FA ad 122) := by
  refine xmet cX1_shifted "EbbWreck$Coast" (by decide) rfl (Nat.le_of_ble_eq_true rfl) (fun p e s m below meth c E hr hlk hml hQ ls hl => ?_)
  have hx := E.1
  have hb := E.2.1
  have hs : Sp ad 122 (FA ad 122) := Sp.fa hD
  have hl : lv_has ls 4 [(0, .ref (ad 2)), (1, .int a1), (2, .int a2)] := hl
  obtain ⟨v1, v3, v5, v6, v7, v9, c11, b2, b4, b8, b10⟩ := invX_2 hI
  have c11 : S 2 = .inr (1, [.int v1, .int v3, .int v5, .ref (ad 3), .ref (ad 5), .ref (ad 6), .int v6, .int v7, .ref (ad 7), .ref (ad 8), .ref (ad 9), .ref (ad 10), .int v9, .ref (ad 15), .ref (ad 16)]) := c11
  have q12 : fld (S 2) 1 = v3.toInt := fld_of c11 rfl
  have b13 : Bd v3 (1) (12) := ⟨by omega, by omega⟩
  refine lv_iload_n hx hb dX1_shifted_0 rfl (lv_at hl 1 rfl) ?_
  refine lv_iload_n hx hb dX1_shifted_1 rfl (lv_at hl 2 rfl) ?_
  refine lv_iadd hx hb dX1_shifted_2 ?_
  refine lv_topi (fun z14 e15 => ?_)
  refine lv_istore_n (lv' := [(3, .int z14), (0, .ref (ad 2)), (1, .int a1), (2, .int a2)]) hx hb dX1_shifted_3 rfl hl (by decide) rfl (fun ls hl => ?_)
  refine lv_iload_n hx hb dX1_shifted_4 rfl (lv_at hl 0 rfl) ?_
  refine lv_if_ge (tgt := 10) hx hb dX1_shifted_5 (by decide) (fun k16 => ?_) (fun k16 => ?_)
  · have h17 := ib_le k16
    have b18 : Bd z14 (0) (2147483647) := ⟨((rf_le (by decide : Bd 0 (0) (0)) (ib_full z14) h17).2).1, ((ib_full z14)).2⟩
    refine lv_iload_n hx hb dX1_shifted_10 rfl (lv_at hl 0 rfl) ?_
    refine lv_aload_n hx hb dX1_shifted_11 rfl (lv_at hl 1 rfl) ?_
    refine xget E hQ 2 (by decide) c11 rfl 1 (by decide) q239 rfl dX1_shifted_12 ?_
    refine lv_icmp_ge (tgt := 22) hx hb dX1_shifted_15 (by decide) (fun k19 => ?_) (fun k19 => ?_)
    · have h20 := ib_le k19
      have b21 : Bd z14 (1) (2147483647) := ⟨((rf_le b13 b18 h20).2).1, (b18).2⟩
      refine lv_aload_n hx hb dX1_shifted_22 rfl (lv_at hl 1 rfl) ?_
      refine xget E hQ 2 (by decide) c11 rfl 1 (by decide) q239 rfl dX1_shifted_23 ?_
      refine lv_iconst (v := 1) hx hb dX1_shifted_26 (by decide) ?_
      refine lv_isub hx hb dX1_shifted_27 ?_
      refine lv_topi (fun z22 e23 => ?_)
      have t24 := ib_sub e23 b13 (by decide : Bd 1 (1) (1)) (by decide) (by decide)
      have b25 : Bd z22 (0) (11) := ib_subb t24 b13 (by decide : Bd 1 (1) (1))
      have t24 : z22.toInt = v3.toInt - 1 := fold_sub t24 rfl (by decide)
      exact xri E hr hlk hQ (⟨rfl, b25⟩) dX1_shifted_28
    · have h26 := ib_nle k19
      have b27 : Bd z14 (0) (11) := ⟨(b18).1, ((rf_lt b18 b13 h26).1).2⟩
      refine lv_iload_n hx hb dX1_shifted_18 rfl (lv_at hl 0 rfl) ?_
      refine lv_goto (tgt := 28) hx hb dX1_shifted_19 (by decide) ?_
      exact xri E hr hlk hQ (⟨rfl, b27⟩) dX1_shifted_28
  · have h28 := ib_nle k16
    have b29 : Bd z14 (-2147483648) (-1) := ⟨((ib_full z14)).1, ((rf_lt (ib_full z14) (by decide : Bd 0 (0) (0)) h28).1).2⟩
    refine lv_iconst (v := 0) hx hb dX1_shifted_8 (by decide) ?_
    exact xri E hr hlk hQ (⟨rfl, (ib_wk (by decide : Bd 0 (0) (0)) (by decide) (by decide))⟩) dX1_shifted_9
set_option maxHeartbeats 4000000 in
set_option maxRecDepth 100000 in
theorem gX1_drifted_2 (l : Launch) (g : GG) (ad : Nat → Nat) (hD : Dj ad 122) (S : SS) (hI : InvX g ad S) (a1 : Int32) (a2 : Int32) (ba1 : Bd a1 (0) (11)) (hq1 : 0 ≤ fld (S 2) 1 + (-1)) : Met l yX1_drifted (wG (.code yX1_drifted cX1_drifted 3 (some .int))) (Rm 1) (XPre g ad 122 S [.ref (ad 2), .int a1, .int a2]) (va_Qi (fun r S' => S = S' ∧ Bd r (0) (11)) (QB g ad 122) (FA ad 122)) 0 0 (FA ad 122) := by
  refine xmet cX1_drifted "EbbWreck$Coast" (by decide) rfl (Nat.le_of_ble_eq_true rfl) (fun p e s m below meth c E hr hlk hml hQ ls hl => ?_)
  have hx := E.1
  have hb := E.2.1
  have hs : Sp ad 122 (FA ad 122) := Sp.fa hD
  have hl : lv_has ls 3 [(0, .ref (ad 2)), (1, .int a1), (2, .int a2)] := hl
  obtain ⟨v1, v3, v5, v6, v7, v9, c11, b2, b4, b8, b10⟩ := invX_2 hI
  have c11 : S 2 = .inr (1, [.int v1, .int v3, .int v5, .ref (ad 3), .ref (ad 5), .ref (ad 6), .int v6, .int v7, .ref (ad 7), .ref (ad 8), .ref (ad 9), .ref (ad 10), .int v9, .ref (ad 15), .ref (ad 16)]) := c11
  have q12 : fld (S 2) 1 = v3.toInt := fld_of c11 rfl
  have b13 : Bd v3 (1) (12) := ⟨by omega, by omega⟩
  refine lv_aload_n hx hb dX1_drifted_0 rfl (lv_at hl 0 rfl) ?_
  refine xget E hQ 2 (by decide) c11 rfl 3 (by decide) q251 rfl dX1_drifted_1 ?_
  refine lv_iload_n hx hb dX1_drifted_4 rfl (lv_at hl 2 rfl) ?_
  obtain ⟨v15, v17, v19, v21, c23, b16, b18, b20, b22⟩ := invX_3 hI
  have c23 : S 3 = .inr (10, [.int v15, .int v17, .int v19, .int v21, .ref (ad 4)]) := c23
  refine xcVi E hs hQ hml hl.1 3 (gX10_phaseOf_3 l g ad hD S hI a2) mX10_phaseOf q803 (by decide) c23 rfl rfl ⟨(Nat.le_of_ble_eq_true rfl), (Nat.le_of_ble_eq_true rfl)⟩ ⟨(Nat.le_of_ble_eq_true rfl), (Nat.le_of_ble_eq_true rfl)⟩ (Nat.le_of_ble_eq_true rfl) rfl dX1_drifted_5 (fun r14 S14 H locs hp14 hQ _ => ?_)
  subst hp14
  by_cases h24 : r14 = 0
  · refine lv_lookup (off := 28) (tgt := 36) hx hb dX1_drifted_8 (by decide) (by rw [h24]; decide) (by decide) ?_
    refine lv_aload_n hx hb dX1_drifted_36 rfl (lv_at hl 0 rfl) ?_
    refine lv_iload_n hx hb dX1_drifted_37 rfl (lv_at hl 1 rfl) ?_
    refine lv_aload_n hx hb dX1_drifted_38 rfl (lv_at hl 0 rfl) ?_
    refine xget E hQ 2 (by decide) c11 rfl 4 (by decide) q257 rfl dX1_drifted_39 ?_
    refine lv_iload_n hx hb dX1_drifted_42 rfl (lv_at hl 1 rfl) ?_
    obtain ⟨f25, c26⟩ := invX_5 hI
    refine xiald E hQ 5 (by decide) c26 (ib_in ba1 (by decide) (by decide)) dX1_drifted_43 ?_
    refine lv_topi (fun z28 e29 => ?_)
    refine xcVi E hs hQ hml hl.1 2 (gX1_shifted_2 l g ad hD S hI a1 z28 (by omega)) mX1_shifted q798 (by decide) c11 rfl rfl ⟨(Nat.le_of_ble_eq_true rfl), (Nat.le_of_ble_eq_true rfl)⟩ ⟨(Nat.le_of_ble_eq_true rfl), (Nat.le_of_ble_eq_true rfl)⟩ (Nat.le_of_ble_eq_true rfl) rfl dX1_drifted_44 (fun r30 S30 H locs hp30 hQ _ => ?_)
    obtain ⟨rfl, b30⟩ := hp30
    exact xri E hr hlk hQ (⟨rfl, b30⟩) dX1_drifted_47
  · by_cases h31 : r14 = 2
    · refine lv_lookup (off := 40) (tgt := 48) hx hb dX1_drifted_8 (by decide) (by rw [h31]; decide) (by decide) ?_
      refine lv_aload_n hx hb dX1_drifted_48 rfl (lv_at hl 0 rfl) ?_
      refine lv_iload_n hx hb dX1_drifted_49 rfl (lv_at hl 1 rfl) ?_
      refine lv_aload_n hx hb dX1_drifted_50 rfl (lv_at hl 0 rfl) ?_
      refine xget E hQ 2 (by decide) c11 rfl 5 (by decide) q260 rfl dX1_drifted_51 ?_
      refine lv_iload_n hx hb dX1_drifted_54 rfl (lv_at hl 1 rfl) ?_
      obtain ⟨f32, c33⟩ := invX_6 hI
      refine xiald E hQ 6 (by decide) c33 (ib_in ba1 (by decide) (by decide)) dX1_drifted_55 ?_
      refine lv_topi (fun z35 e36 => ?_)
      refine xcVi E hs hQ hml hl.1 2 (gX1_shifted_2 l g ad hD S hI a1 z35 (by omega)) mX1_shifted q798 (by decide) c11 rfl rfl ⟨(Nat.le_of_ble_eq_true rfl), (Nat.le_of_ble_eq_true rfl)⟩ ⟨(Nat.le_of_ble_eq_true rfl), (Nat.le_of_ble_eq_true rfl)⟩ (Nat.le_of_ble_eq_true rfl) rfl dX1_drifted_56 (fun r37 S37 H locs hp37 hQ _ => ?_)
      obtain ⟨rfl, b37⟩ := hp37
      exact xri E hr hlk hQ (⟨rfl, b37⟩) dX1_drifted_59
    · refine lv_lookup (off := 52) (tgt := 60) hx hb dX1_drifted_8 (by decide) ((lv_osw h24 (by decide)).trans ((lv_osw h31 (by decide)))) (by decide) ?_
      refine lv_iload_n hx hb dX1_drifted_60 rfl (lv_at hl 1 rfl) ?_
      exact xri E hr hlk hQ (⟨rfl, ba1⟩) dX1_drifted_61
set_option maxHeartbeats 4000000 in
set_option maxRecDepth 100000 in
theorem gX1_pushedAndDrifted_2 (l : Launch) (g : GG) (ad : Nat → Nat) (hD : Dj ad 122) (S : SS) (hI : InvX g ad S) (a1 : Int32) (a2 : Int32) (a3 : Int32) (hq1 : 0 ≤ fld (S 2) 1 + (-1)) : Met l yX1_pushedAndDrifted (wG (.code yX1_pushedAndDrifted cX1_pushedAndDrifted 4 (some .int))) (Rm 2) (XPre g ad 122 S [.ref (ad 2), .int a1, .int a2, .int a3]) (va_Qi (fun r S' => S = S' ∧ Bd r (0) (11)) (QB g ad 122) (FA ad 122)) 0 0 (FA ad 122) := by
  refine xmet cX1_pushedAndDrifted "EbbWreck$Coast" (by decide) rfl (Nat.le_of_ble_eq_true rfl) (fun p e s m below meth c E hr hlk hml hQ ls hl => ?_)
  have hx := E.1
  have hb := E.2.1
  have hs : Sp ad 122 (FA ad 122) := Sp.fa hD
  have hl : lv_has ls 4 [(0, .ref (ad 2)), (1, .int a1), (2, .int a2), (3, .int a3)] := hl
  obtain ⟨v1, v3, v5, v6, v7, v9, c11, b2, b4, b8, b10⟩ := invX_2 hI
  have c11 : S 2 = .inr (1, [.int v1, .int v3, .int v5, .ref (ad 3), .ref (ad 5), .ref (ad 6), .int v6, .int v7, .ref (ad 7), .ref (ad 8), .ref (ad 9), .ref (ad 10), .int v9, .ref (ad 15), .ref (ad 16)]) := c11
  have q12 : fld (S 2) 1 = v3.toInt := fld_of c11 rfl
  have b13 : Bd v3 (1) (12) := ⟨by omega, by omega⟩
  refine lv_aload_n hx hb dX1_pushedAndDrifted_0 rfl (lv_at hl 0 rfl) ?_
  refine lv_aload_n hx hb dX1_pushedAndDrifted_1 rfl (lv_at hl 0 rfl) ?_
  refine lv_iload_n hx hb dX1_pushedAndDrifted_2 rfl (lv_at hl 1 rfl) ?_
  refine lv_iload_n hx hb dX1_pushedAndDrifted_3 rfl (lv_at hl 2 rfl) ?_
  refine xcVi E hs hQ hml hl.1 2 (gX1_shifted_2 l g ad hD S hI a1 a2 (by omega)) mX1_shifted q798 (by decide) c11 rfl rfl ⟨(Nat.le_of_ble_eq_true rfl), (Nat.le_of_ble_eq_true rfl)⟩ ⟨(Nat.le_of_ble_eq_true rfl), (Nat.le_of_ble_eq_true rfl)⟩ (Nat.le_of_ble_eq_true rfl) rfl dX1_pushedAndDrifted_4 (fun r14 S14 H locs hp14 hQ _ => ?_)
  obtain ⟨rfl, b14⟩ := hp14
  refine lv_iload_n hx hb dX1_pushedAndDrifted_7 rfl (lv_at hl 3 rfl) ?_
  refine xcVi E hs hQ hml hl.1 2 (gX1_drifted_2 l g ad hD S hI r14 a3 b14 (by omega)) mX1_drifted q799 (by decide) c11 rfl rfl ⟨(Nat.le_of_ble_eq_true rfl), (Nat.le_of_ble_eq_true rfl)⟩ ⟨(Nat.le_of_ble_eq_true rfl), (Nat.le_of_ble_eq_true rfl)⟩ (Nat.le_of_ble_eq_true rfl) rfl dX1_pushedAndDrifted_8 (fun r15 S15 H locs hp15 hQ _ => ?_)
  obtain ⟨rfl, b15⟩ := hp15
  exact xri E hr hlk hQ (⟨rfl, b15⟩) dX1_pushedAndDrifted_11
set_option maxHeartbeats 4000000 in
set_option maxRecDepth 100000 in
theorem gX1_ownerIn_2 (l : Launch) (g : GG) (ad : Nat → Nat) (hD : Dj ad 122) (S : SS) (hI : InvX g ad S) (a1 : Int32) (a2 : Int32) (a3 : Int32) : Met l yX1_ownerIn (wG (.code yX1_ownerIn cX1_ownerIn 5 (some .int))) (Rm 2) (XPre g ad 122 S [.ref (ad 2), .int a1, .int a2, .int a3]) (va_Qi (fun _ S' => S = S') (QB g ad 122) (FA ad 122)) 0 0 (FA ad 122) := by
  refine xmet cX1_ownerIn "EbbWreck$Coast" (by decide) rfl (Nat.le_of_ble_eq_true rfl) (fun p e s m below meth c E hr hlk hml hQ ls hl => ?_)
  have hx := E.1
  have hb := E.2.1
  have hs : Sp ad 122 (FA ad 122) := Sp.fa hD
  have hl : lv_has ls 5 [(0, .ref (ad 2)), (1, .int a1), (2, .int a2), (3, .int a3)] := hl
  refine lv_aload_n hx hb dX1_ownerIn_0 rfl (lv_at hl 0 rfl) ?_
  obtain ⟨v1, v3, v5, v6, v7, v9, c11, b2, b4, b8, b10⟩ := invX_2 hI
  have c11 : S 2 = .inr (1, [.int v1, .int v3, .int v5, .ref (ad 3), .ref (ad 5), .ref (ad 6), .int v6, .int v7, .ref (ad 7), .ref (ad 8), .ref (ad 9), .ref (ad 10), .int v9, .ref (ad 15), .ref (ad 16)]) := c11
  refine xget E hQ 2 (by decide) c11 rfl 11 (by decide) q289 rfl dX1_ownerIn_1 ?_
  refine lv_iload_n hx hb dX1_ownerIn_4 rfl (lv_at hl 1 rfl) ?_
  refine lv_aload_n hx hb dX1_ownerIn_5 rfl (lv_at hl 0 rfl) ?_
  refine xget E hQ 2 (by decide) c11 rfl 3 (by decide) q251 rfl dX1_ownerIn_6 ?_
  refine lv_iload_n hx hb dX1_ownerIn_9 rfl (lv_at hl 2 rfl) ?_
  obtain ⟨v13, v15, v17, v19, c21, b14, b16, b18, b20⟩ := invX_3 hI
  have c21 : S 3 = .inr (10, [.int v13, .int v15, .int v17, .int v19, .ref (ad 4)]) := c21
  refine xcVi E hs hQ hml hl.1 3 (gX10_phaseOf_3 l g ad hD S hI a2) mX10_phaseOf q803 (by decide) c21 rfl rfl ⟨(Nat.le_of_ble_eq_true rfl), (Nat.le_of_ble_eq_true rfl)⟩ ⟨(Nat.le_of_ble_eq_true rfl), (Nat.le_of_ble_eq_true rfl)⟩ (Nat.le_of_ble_eq_true rfl) rfl dX1_ownerIn_10 (fun r12 S12 H locs hp12 hQ _ => ?_)
  subst hp12
  refine lv_iload_n hx hb dX1_ownerIn_13 rfl (lv_at hl 3 rfl) ?_
  obtain ⟨v23, c25, b24⟩ := invX_10 hI
  have c25 : S 10 = .inr (6, [.int v23, .ref (ad 11), .ref (ad 12), .ref (ad 13), .ref (ad 14)]) := c25
  refine xcVi E hs hQ hml hl.1 10 (gX6_decider_10 l g ad hD S hI a1 r12 a3) mX6_decider q951 (by decide) c25 rfl rfl ⟨(Nat.le_of_ble_eq_true rfl), (Nat.le_of_ble_eq_true rfl)⟩ ⟨(Nat.le_of_ble_eq_true rfl), (Nat.le_of_ble_eq_true rfl)⟩ (Nat.le_of_ble_eq_true rfl) rfl dX1_ownerIn_14 (fun r22 S22 H locs hp22 hQ _ => ?_)
  obtain ⟨rfl, b22⟩ := hp22
  refine lv_istore (lv' := [(4, .int r22), (0, .ref (ad 2)), (1, .int a1), (2, .int a2), (3, .int a3)]) hx hb dX1_ownerIn_17 hl (by decide) rfl (fun ls hl => ?_)
  refine lv_iload hx hb dX1_ownerIn_19 (lv_at hl 0 rfl) ?_
  refine lv_iconst (v := (-1)) hx hb dX1_ownerIn_21 (by decide) ?_
  refine lv_icmp_ne (tgt := 29) hx hb dX1_ownerIn_22 (by decide) (fun k26 => ?_) (fun k26 => ?_)
  · have h27 := ib_ne k26
    have b28 : Bd r22 (0) (5) := rf_nlo b22 (by decide : Bd (-1) (-1) (-1)) h27
    refine lv_aload_n hx hb dX1_ownerIn_29 rfl (lv_at hl 1 rfl) ?_
    refine xget E hQ 2 (by decide) c11 rfl 11 (by decide) q289 rfl dX1_ownerIn_30 ?_
    refine xget E hQ 10 (by decide) c25 rfl 4 (by decide) q197 rfl dX1_ownerIn_33 ?_
    refine lv_iload hx hb dX1_ownerIn_36 (lv_at hl 0 rfl) ?_
    obtain ⟨f29, c30⟩ := invX_14 hI
    refine xiald E hQ 14 (by decide) c30 (ib_in b28 (by decide) (by decide)) dX1_ownerIn_38 ?_
    refine lv_topi (fun z32 e33 => ?_)
    exact xri E hr hlk hQ (rfl) dX1_ownerIn_39
  · have h34 := ib_eq k26
    have b35 : Bd r22 (-1) (-1) := ⟨(b22).1, ((rf_eq b22 (by decide : Bd (-1) (-1) (-1)) h34).1).2⟩
    refine lv_iconst (v := (-1)) hx hb dX1_ownerIn_25 (by decide) ?_
    refine lv_goto (tgt := 39) hx hb dX1_ownerIn_26 (by decide) ?_
    exact xri E hr hlk hQ (rfl) dX1_ownerIn_39
set_option maxHeartbeats 4000000 in
set_option maxRecDepth 100000 in
theorem gX11_isWithin (l : Launch) (g : GG) (ad : Nat → Nat) (hD : Dj ad 122) (S : SS) (hI : InvX g ad S) (a1 : Int32) (a2 : Int32) : Met l yX11_isWithin (wG (.code yX11_isWithin cX11_isWithin 2 (some .boolean))) (Rm 0) (XPre g ad 122 S [.int a1, .int a2]) (va_Qi (fun r S' => S = S' ∧ Bd r (0) (1) ∧ ((r.toInt + (-1) < 0 ∨ (0 ≤ a1.toInt ∧ 0 ≤ a2.toInt + (-1) * a1.toInt)))) (QB g ad 122) (FA ad 122)) 0 0 (FA ad 122) := by
  refine xmet cX11_isWithin "EbbWreck" (by decide) rfl (Nat.le_of_ble_eq_true rfl) (fun p e s m below meth c E hr hlk hml hQ ls hl => ?_)
  have hx := E.1
  have hb := E.2.1
  have hs : Sp ad 122 (FA ad 122) := Sp.fa hD
  have hl : lv_has ls 2 [(0, .int a1), (1, .int a2)] := hl
  refine lv_iload_n hx hb dX11_isWithin_0 rfl (lv_at hl 0 rfl) ?_
  refine lv_if_lt (tgt := 13) hx hb dX11_isWithin_1 (by decide) (fun k1 => ?_) (fun k1 => ?_)
  · have h2 := ib_lt k1
    have b3 : Bd a1 (-2147483648) (-1) := ⟨((ib_full a1)).1, ((rf_lt (ib_full a1) (by decide : Bd 0 (0) (0)) h2).1).2⟩
    refine lv_iconst (v := 0) hx hb dX11_isWithin_13 (by decide) ?_
    have q4 : (0 : Int32).toInt = 0 := by decide
    exact xrz E hr hlk hQ rfl (⟨rfl, (ib_wk (by decide : Bd 0 (0) (0)) (by decide) (by decide)), Or.inl (by omega)⟩) dX11_isWithin_14
  · have h5 := ib_nlt k1
    have b6 : Bd a1 (0) (2147483647) := ⟨((rf_le (by decide : Bd 0 (0) (0)) (ib_full a1) h5).2).1, ((ib_full a1)).2⟩
    refine lv_iload_n hx hb dX11_isWithin_4 rfl (lv_at hl 0 rfl) ?_
    refine lv_iload_n hx hb dX11_isWithin_5 rfl (lv_at hl 1 rfl) ?_
    refine lv_icmp_gt (tgt := 13) hx hb dX11_isWithin_6 (by decide) (fun k7 => ?_) (fun k7 => ?_)
    · have h8 := ib_lt k7
      have b9 : Bd a2 (-2147483648) (2147483646) := ⟨((ib_full a2)).1, ((rf_lt (ib_full a2) b6 h8).1).2⟩
      refine lv_iconst (v := 0) hx hb dX11_isWithin_13 (by decide) ?_
      have q10 : (0 : Int32).toInt = 0 := by decide
      exact xrz E hr hlk hQ rfl (⟨rfl, (ib_wk (by decide : Bd 0 (0) (0)) (by decide) (by decide)), Or.inl (by omega)⟩) dX11_isWithin_14
    · have h11 := ib_nlt k7
      have b12 : Bd a2 (0) (2147483647) := ⟨((rf_le b6 (ib_full a2) h11).2).1, ((ib_full a2)).2⟩
      refine lv_iconst (v := 1) hx hb dX11_isWithin_9 (by decide) ?_
      refine lv_goto (tgt := 14) hx hb dX11_isWithin_10 (by decide) ?_
      have q13 : (1 : Int32).toInt = 1 := by decide
      exact xrz E hr hlk hQ rfl (⟨rfl, (ib_wk (by decide : Bd 1 (1) (1)) (by decide) (by decide)), Or.inr ⟨by omega, by omega⟩⟩) dX11_isWithin_14
set_option maxHeartbeats 4000000 in
set_option maxRecDepth 100000 in
theorem gX11_isPhase (l : Launch) (g : GG) (ad : Nat → Nat) (hD : Dj ad 122) (S : SS) (hI : InvX g ad S) (a1 : Int32) : Met l yX11_isPhase (wG (.code yX11_isPhase cX11_isPhase 1 (some .boolean))) (Rm 0) (XPre g ad 122 S [.int a1]) (va_Qi (fun r S' => S = S' ∧ Bd r (0) (1)) (QB g ad 122) (FA ad 122)) 0 0 (FA ad 122) := by
  refine xmet cX11_isPhase "EbbWreck" (by decide) rfl (Nat.le_of_ble_eq_true rfl) (fun p e s m below meth c E hr hlk hml hQ ls hl => ?_)
  have hx := E.1
  have hb := E.2.1
  have hs : Sp ad 122 (FA ad 122) := Sp.fa hD
  have hl : lv_has ls 1 [(0, .int a1)] := hl
  refine lv_iload_n hx hb dX11_isPhase_0 rfl (lv_at hl 0 rfl) ?_
  refine lv_if_lt (tgt := 13) hx hb dX11_isPhase_1 (by decide) (fun k1 => ?_) (fun k1 => ?_)
  · have h2 := ib_lt k1
    have b3 : Bd a1 (-2147483648) (-1) := ⟨((ib_full a1)).1, ((rf_lt (ib_full a1) (by decide : Bd 0 (0) (0)) h2).1).2⟩
    refine lv_iconst (v := 0) hx hb dX11_isPhase_13 (by decide) ?_
    exact xrz E hr hlk hQ rfl (⟨rfl, (ib_wk (by decide : Bd 0 (0) (0)) (by decide) (by decide))⟩) dX11_isPhase_14
  · have h4 := ib_nlt k1
    have b5 : Bd a1 (0) (2147483647) := ⟨((rf_le (by decide : Bd 0 (0) (0)) (ib_full a1) h4).2).1, ((ib_full a1)).2⟩
    refine lv_iload_n hx hb dX11_isPhase_4 rfl (lv_at hl 0 rfl) ?_
    refine lv_iconst (v := 3) hx hb dX11_isPhase_5 (by decide) ?_
    refine lv_icmp_ge (tgt := 13) hx hb dX11_isPhase_6 (by decide) (fun k6 => ?_) (fun k6 => ?_)
    · have h7 := ib_le k6
      have b8 : Bd a1 (3) (2147483647) := ⟨((rf_le (by decide : Bd 3 (3) (3)) b5 h7).2).1, (b5).2⟩
      refine lv_iconst (v := 0) hx hb dX11_isPhase_13 (by decide) ?_
      exact xrz E hr hlk hQ rfl (⟨rfl, (ib_wk (by decide : Bd 0 (0) (0)) (by decide) (by decide))⟩) dX11_isPhase_14
    · have h9 := ib_nle k6
      have b10 : Bd a1 (0) (2) := ⟨(b5).1, ((rf_lt b5 (by decide : Bd 3 (3) (3)) h9).1).2⟩
      refine lv_iconst (v := 1) hx hb dX11_isPhase_9 (by decide) ?_
      refine lv_goto (tgt := 14) hx hb dX11_isPhase_10 (by decide) ?_
      exact xrz E hr hlk hQ rfl (⟨rfl, (ib_wk (by decide : Bd 1 (1) (1)) (by decide) (by decide))⟩) dX11_isPhase_14
set_option maxHeartbeats 4000000 in
set_option maxRecDepth 100000 in
theorem gX11_isTideHour_0 (l : Launch) (g : GG) (ad : Nat → Nat) (hD : Dj ad 122) (S : SS) (hI : InvX g ad S) (a1 : Int32) : Met l yX11_isTideHour (wG (.code yX11_isTideHour cX11_isTideHour 2 (some .boolean))) (Rm 1) (XPre g ad 122 S [.ref (ad 0), .int a1]) (va_Qi (fun r S' => S = S' ∧ Bd r (0) (1) ∧ ((r.toInt + (-1) < 0 ∨ (0 ≤ fld (S 2) 0 + (-1))))) (QB g ad 122) (FA ad 122)) 0 0 (FA ad 122) := by
  refine xmet cX11_isTideHour "EbbWreck" (by decide) rfl (Nat.le_of_ble_eq_true rfl) (fun p e s m below meth c E hr hlk hml hQ ls hl => ?_)
  have hx := E.1
  have hb := E.2.1
  have hs : Sp ad 122 (FA ad 122) := Sp.fa hD
  have hl : lv_has ls 2 [(0, .ref (ad 0)), (1, .int a1)] := hl
  obtain ⟨v1, v3, v5, v6, v7, v9, c11, b2, b4, b8, b10⟩ := invX_2 hI
  have c11 : S 2 = .inr (1, [.int v1, .int v3, .int v5, .ref (ad 3), .ref (ad 5), .ref (ad 6), .int v6, .int v7, .ref (ad 7), .ref (ad 8), .ref (ad 9), .ref (ad 10), .int v9, .ref (ad 15), .ref (ad 16)]) := c11
  refine lv_aload_n hx hb dX11_isTideHour_0 rfl (lv_at hl 0 rfl) ?_
  obtain ⟨v12, v14, v15, c16, b13⟩ := invX_0 hI
  have c16 : S 0 = .inr (11, [.ref (ad 1), .int v12, .int v14, .int v15, .ref (ad 2), .ref (ad 20), .ref (ad 38), .ref (ad 93), .ref (ad 94), .ref (ad 95), .ref (ad 102), .ref (ad 104), .ref (ad 107), .ref (ad 111), .ref (ad 119)]) := c16
  refine xget E hQ 0 (by decide) c16 rfl 4 (by decide) q520 rfl dX11_isTideHour_1 ?_
  refine xcVi E hs hQ hml hl.1 2 (gX1_isTold_2 l g ad hD S hI ) mX1_isTold q878 (by decide) c11 rfl rfl ⟨(Nat.le_of_ble_eq_true rfl), (Nat.le_of_ble_eq_true rfl)⟩ ⟨(Nat.le_of_ble_eq_true rfl), (Nat.le_of_ble_eq_true rfl)⟩ (Nat.le_of_ble_eq_true rfl) rfl dX11_isTideHour_4 (fun r17 S17 H locs hp17 hQ _ => ?_)
  obtain ⟨rfl, b17, g17_0⟩ := hp17
  have q18 : fld (S 2) 0 = v1.toInt := fld_of c11 rfl
  refine lv_if_eq (tgt := 23) hx hb dX11_isTideHour_7 (by decide) (fun k19 => ?_) (fun k19 => ?_)
  · have h20 := ib_eq k19
    have b21 : Bd r17 (0) (0) := ⟨(b17).1, ((rf_eq b17 (by decide : Bd 0 (0) (0)) h20).1).2⟩
    clear g17_0
    refine lv_iconst (v := 0) hx hb dX11_isTideHour_23 (by decide) ?_
    have q22 : (0 : Int32).toInt = 0 := by decide
    exact xrz E hr hlk hQ rfl (⟨rfl, (ib_wk (by decide : Bd 0 (0) (0)) (by decide) (by decide)), Or.inl (by omega)⟩) dX11_isTideHour_24
  · have h23 := ib_ne k19
    have b24 : Bd r17 (1) (1) := rf_nlo b17 (by decide : Bd 0 (0) (0)) h23
    have g25 := g17_0.resolve_left (by omega)
    clear g17_0
    have b26 : Bd v1 (1) (1201) := ⟨by omega, by omega⟩
    refine lv_iload_n hx hb dX11_isTideHour_10 rfl (lv_at hl 1 rfl) ?_
    refine lv_ldc (v := 2000000000) hx hb E.2.2.1 (E.2.2.2.1 _ q882) dX11_isTideHour_11 ?_
    refine xcSi E hs hQ hml hl.1 (gX11_isWithin l g ad hD S hI a1 2000000000) mX11_isWithin q883 rfl ⟨(Nat.le_of_ble_eq_true rfl), (Nat.le_of_ble_eq_true rfl)⟩ ⟨(Nat.le_of_ble_eq_true rfl), (Nat.le_of_ble_eq_true rfl)⟩ (Nat.le_of_ble_eq_true rfl) rfl dX11_isTideHour_13 (fun r27 S27 H locs hp27 hQ => ?_)
    obtain ⟨rfl, b27, g27_0⟩ := hp27
    have q28 : (2000000000 : Int32).toInt = 2000000000 := by decide
    refine lv_if_eq (tgt := 23) hx hb dX11_isTideHour_16 (by decide) (fun k29 => ?_) (fun k29 => ?_)
    · have h30 := ib_eq k29
      have b31 : Bd r27 (0) (0) := ⟨(b27).1, ((rf_eq b27 (by decide : Bd 0 (0) (0)) h30).1).2⟩
      clear g27_0
      refine lv_iconst (v := 0) hx hb dX11_isTideHour_23 (by decide) ?_
      have q32 : (0 : Int32).toInt = 0 := by decide
      exact xrz E hr hlk hQ rfl (⟨rfl, (ib_wk (by decide : Bd 0 (0) (0)) (by decide) (by decide)), Or.inl (by omega)⟩) dX11_isTideHour_24
    · have h33 := ib_ne k29
      have b34 : Bd r27 (1) (1) := rf_nlo b27 (by decide : Bd 0 (0) (0)) h33
      have g35 := g27_0.resolve_left (by omega)
      clear g27_0
      have b36 : Bd a1 (0) (2000000000) := ⟨by omega, by omega⟩
      refine lv_iconst (v := 1) hx hb dX11_isTideHour_19 (by decide) ?_
      refine lv_goto (tgt := 24) hx hb dX11_isTideHour_20 (by decide) ?_
      have q37 : (1 : Int32).toInt = 1 := by decide
      exact xrz E hr hlk hQ rfl (⟨rfl, (ib_wk (by decide : Bd 1 (1) (1)) (by decide) (by decide)), Or.inr (by omega)⟩) dX11_isTideHour_24
set_option maxHeartbeats 4000000 in
set_option maxRecDepth 100000 in
theorem gX11_isAskedParty_0 (l : Launch) (g : GG) (ad : Nat → Nat) (hD : Dj ad 122) (S : SS) (hI : InvX g ad S) (a1 : Int32) : Met l yX11_isAskedParty (wG (.code yX11_isAskedParty cX11_isAskedParty 2 (some .boolean))) (Rm 1) (XPre g ad 122 S [.ref (ad 0), .int a1]) (va_Qi (fun r S' => S = S' ∧ Bd r (0) (1) ∧ ((r.toInt + (-1) < 0 ∨ (0 ≤ fld (S 2) 0 + (-1))))) (QB g ad 122) (FA ad 122)) 0 0 (FA ad 122) := by
  refine xmet cX11_isAskedParty "EbbWreck" (by decide) rfl (Nat.le_of_ble_eq_true rfl) (fun p e s m below meth c E hr hlk hml hQ ls hl => ?_)
  have hx := E.1
  have hb := E.2.1
  have hs : Sp ad 122 (FA ad 122) := Sp.fa hD
  have hl : lv_has ls 2 [(0, .ref (ad 0)), (1, .int a1)] := hl
  obtain ⟨v1, v3, v5, v6, v7, v9, c11, b2, b4, b8, b10⟩ := invX_2 hI
  have c11 : S 2 = .inr (1, [.int v1, .int v3, .int v5, .ref (ad 3), .ref (ad 5), .ref (ad 6), .int v6, .int v7, .ref (ad 7), .ref (ad 8), .ref (ad 9), .ref (ad 10), .int v9, .ref (ad 15), .ref (ad 16)]) := c11
  refine lv_aload_n hx hb dX11_isAskedParty_0 rfl (lv_at hl 0 rfl) ?_
  obtain ⟨v12, v14, v15, c16, b13⟩ := invX_0 hI
  have c16 : S 0 = .inr (11, [.ref (ad 1), .int v12, .int v14, .int v15, .ref (ad 2), .ref (ad 20), .ref (ad 38), .ref (ad 93), .ref (ad 94), .ref (ad 95), .ref (ad 102), .ref (ad 104), .ref (ad 107), .ref (ad 111), .ref (ad 119)]) := c16
  refine xget E hQ 0 (by decide) c16 rfl 4 (by decide) q520 rfl dX11_isAskedParty_1 ?_
  refine xcVi E hs hQ hml hl.1 2 (gX1_isTold_2 l g ad hD S hI ) mX1_isTold q878 (by decide) c11 rfl rfl ⟨(Nat.le_of_ble_eq_true rfl), (Nat.le_of_ble_eq_true rfl)⟩ ⟨(Nat.le_of_ble_eq_true rfl), (Nat.le_of_ble_eq_true rfl)⟩ (Nat.le_of_ble_eq_true rfl) rfl dX11_isAskedParty_4 (fun r17 S17 H locs hp17 hQ _ => ?_)
  obtain ⟨rfl, b17, g17_0⟩ := hp17
  have q18 : fld (S 2) 0 = v1.toInt := fld_of c11 rfl
  refine lv_if_eq (tgt := 24) hx hb dX11_isAskedParty_7 (by decide) (fun k19 => ?_) (fun k19 => ?_)
  · have h20 := ib_eq k19
    have b21 : Bd r17 (0) (0) := ⟨(b17).1, ((rf_eq b17 (by decide : Bd 0 (0) (0)) h20).1).2⟩
    clear g17_0
    refine lv_iconst (v := 0) hx hb dX11_isAskedParty_24 (by decide) ?_
    have q22 : (0 : Int32).toInt = 0 := by decide
    exact xrz E hr hlk hQ rfl (⟨rfl, (ib_wk (by decide : Bd 0 (0) (0)) (by decide) (by decide)), Or.inl (by omega)⟩) dX11_isAskedParty_25
  · have h23 := ib_ne k19
    have b24 : Bd r17 (1) (1) := rf_nlo b17 (by decide : Bd 0 (0) (0)) h23
    have g25 := g17_0.resolve_left (by omega)
    clear g17_0
    have b26 : Bd v1 (1) (1201) := ⟨by omega, by omega⟩
    refine lv_iload_n hx hb dX11_isAskedParty_10 rfl (lv_at hl 1 rfl) ?_
    refine lv_if_lt (tgt := 24) hx hb dX11_isAskedParty_11 (by decide) (fun k27 => ?_) (fun k27 => ?_)
    · have h28 := ib_lt k27
      have b29 : Bd a1 (-2147483648) (-1) := ⟨((ib_full a1)).1, ((rf_lt (ib_full a1) (by decide : Bd 0 (0) (0)) h28).1).2⟩
      refine lv_iconst (v := 0) hx hb dX11_isAskedParty_24 (by decide) ?_
      have q30 : (0 : Int32).toInt = 0 := by decide
      exact xrz E hr hlk hQ rfl (⟨rfl, (ib_wk (by decide : Bd 0 (0) (0)) (by decide) (by decide)), Or.inl (by omega)⟩) dX11_isAskedParty_25
    · have h31 := ib_nlt k27
      have b32 : Bd a1 (0) (2147483647) := ⟨((rf_le (by decide : Bd 0 (0) (0)) (ib_full a1) h31).2).1, ((ib_full a1)).2⟩
      refine lv_iload_n hx hb dX11_isAskedParty_14 rfl (lv_at hl 1 rfl) ?_
      refine lv_bipush (v := 6) hx hb dX11_isAskedParty_15 (by decide) ?_
      refine lv_icmp_ge (tgt := 24) hx hb dX11_isAskedParty_17 (by decide) (fun k33 => ?_) (fun k33 => ?_)
      · have h34 := ib_le k33
        have b35 : Bd a1 (6) (2147483647) := ⟨((rf_le (by decide : Bd 6 (6) (6)) b32 h34).2).1, (b32).2⟩
        refine lv_iconst (v := 0) hx hb dX11_isAskedParty_24 (by decide) ?_
        have q36 : (0 : Int32).toInt = 0 := by decide
        exact xrz E hr hlk hQ rfl (⟨rfl, (ib_wk (by decide : Bd 0 (0) (0)) (by decide) (by decide)), Or.inl (by omega)⟩) dX11_isAskedParty_25
      · have h37 := ib_nle k33
        have b38 : Bd a1 (0) (5) := ⟨(b32).1, ((rf_lt b32 (by decide : Bd 6 (6) (6)) h37).1).2⟩
        refine lv_iconst (v := 1) hx hb dX11_isAskedParty_20 (by decide) ?_
        refine lv_goto (tgt := 25) hx hb dX11_isAskedParty_21 (by decide) ?_
        have q39 : (1 : Int32).toInt = 1 := by decide
        exact xrz E hr hlk hQ rfl (⟨rfl, (ib_wk (by decide : Bd 1 (1) (1)) (by decide) (by decide)), Or.inr (by omega)⟩) dX11_isAskedParty_25
set_option maxHeartbeats 4000000 in
set_option maxRecDepth 100000 in
theorem gX11_isWish_0 (l : Launch) (g : GG) (ad : Nat → Nat) (hD : Dj ad 122) (S : SS) (hI : InvX g ad S) (a1 : Int32) (a2 : Int32) : Met l yX11_isWish (wG (.code yX11_isWish cX11_isWish 3 (some .boolean))) (Rm 2) (XPre g ad 122 S [.ref (ad 0), .int a1, .int a2]) (va_Qi (fun r S' => S = S' ∧ Bd r (0) (1) ∧ ((r.toInt + (-1) < 0 ∨ (0 ≤ fld (S 2) 0 + (-1) ∧ 0 ≤ a1.toInt ∧ 0 ≤ fld (S 2) 7 + (-1) * a1.toInt + (-1))))) (QB g ad 122) (FA ad 122)) 0 0 (FA ad 122) := by
  refine xmet cX11_isWish "EbbWreck" (by decide) rfl (Nat.le_of_ble_eq_true rfl) (fun p e s m below meth c E hr hlk hml hQ ls hl => ?_)
  have hx := E.1
  have hb := E.2.1
  have hs : Sp ad 122 (FA ad 122) := Sp.fa hD
  have hl : lv_has ls 3 [(0, .ref (ad 0)), (1, .int a1), (2, .int a2)] := hl
  obtain ⟨v1, v3, v5, v6, v7, v9, c11, b2, b4, b8, b10⟩ := invX_2 hI
  have c11 : S 2 = .inr (1, [.int v1, .int v3, .int v5, .ref (ad 3), .ref (ad 5), .ref (ad 6), .int v6, .int v7, .ref (ad 7), .ref (ad 8), .ref (ad 9), .ref (ad 10), .int v9, .ref (ad 15), .ref (ad 16)]) := c11
  refine lv_aload_n hx hb dX11_isWish_0 rfl (lv_at hl 0 rfl) ?_
  obtain ⟨v12, v14, v15, c16, b13⟩ := invX_0 hI
  have c16 : S 0 = .inr (11, [.ref (ad 1), .int v12, .int v14, .int v15, .ref (ad 2), .ref (ad 20), .ref (ad 38), .ref (ad 93), .ref (ad 94), .ref (ad 95), .ref (ad 102), .ref (ad 104), .ref (ad 107), .ref (ad 111), .ref (ad 119)]) := c16
  refine xget E hQ 0 (by decide) c16 rfl 4 (by decide) q520 rfl dX11_isWish_1 ?_
  refine lv_iload_n hx hb dX11_isWish_4 rfl (lv_at hl 1 rfl) ?_
  refine xcVi E hs hQ hml hl.1 2 (gX1_hasThing_2 l g ad hD S hI a1) mX1_hasThing q832 (by decide) c11 rfl rfl ⟨(Nat.le_of_ble_eq_true rfl), (Nat.le_of_ble_eq_true rfl)⟩ ⟨(Nat.le_of_ble_eq_true rfl), (Nat.le_of_ble_eq_true rfl)⟩ (Nat.le_of_ble_eq_true rfl) rfl dX11_isWish_5 (fun r17 S17 H locs hp17 hQ _ => ?_)
  obtain ⟨rfl, b17, g17_0⟩ := hp17
  have q18 : fld (S 2) 7 = v7.toInt := fld_of c11 rfl
  refine lv_if_eq (tgt := 23) hx hb dX11_isWish_8 (by decide) (fun k19 => ?_) (fun k19 => ?_)
  · have h20 := ib_eq k19
    have b21 : Bd r17 (0) (0) := ⟨(b17).1, ((rf_eq b17 (by decide : Bd 0 (0) (0)) h20).1).2⟩
    clear g17_0
    refine lv_iconst (v := 0) hx hb dX11_isWish_23 (by decide) ?_
    have q22 : fld (S 2) 0 = v1.toInt := fld_of c11 rfl
    have q23 : (0 : Int32).toInt = 0 := by decide
    exact xrz E hr hlk hQ rfl (⟨rfl, (ib_wk (by decide : Bd 0 (0) (0)) (by decide) (by decide)), Or.inl (by omega)⟩) dX11_isWish_24
  · have h24 := ib_ne k19
    have b25 : Bd r17 (1) (1) := rf_nlo b17 (by decide : Bd 0 (0) (0)) h24
    have g26 := g17_0.resolve_left (by omega)
    clear g17_0
    have b27 : Bd a1 (0) (7) := ⟨by omega, by omega⟩
    have b28 : Bd v7 (1) (8) := ⟨by omega, by omega⟩
    refine lv_aload_n hx hb dX11_isWish_11 rfl (lv_at hl 0 rfl) ?_
    refine lv_iload_n hx hb dX11_isWish_12 rfl (lv_at hl 2 rfl) ?_
    refine xcVi E hs hQ hml hl.1 0 (gX11_isAskedParty_0 l g ad hD S hI a2) mX11_isAskedParty q963 (by decide) c16 rfl rfl ⟨(Nat.le_of_ble_eq_true rfl), (Nat.le_of_ble_eq_true rfl)⟩ ⟨(Nat.le_of_ble_eq_true rfl), (Nat.le_of_ble_eq_true rfl)⟩ (Nat.le_of_ble_eq_true rfl) rfl dX11_isWish_13 (fun r29 S29 H locs hp29 hQ _ => ?_)
    obtain ⟨rfl, b29, g29_0⟩ := hp29
    have q30 : fld (S 2) 0 = v1.toInt := fld_of c11 rfl
    refine lv_if_eq (tgt := 23) hx hb dX11_isWish_16 (by decide) (fun k31 => ?_) (fun k31 => ?_)
    · have h32 := ib_eq k31
      have b33 : Bd r29 (0) (0) := ⟨(b29).1, ((rf_eq b29 (by decide : Bd 0 (0) (0)) h32).1).2⟩
      clear g29_0
      refine lv_iconst (v := 0) hx hb dX11_isWish_23 (by decide) ?_
      have q34 : (0 : Int32).toInt = 0 := by decide
      exact xrz E hr hlk hQ rfl (⟨rfl, (ib_wk (by decide : Bd 0 (0) (0)) (by decide) (by decide)), Or.inl (by omega)⟩) dX11_isWish_24
    · have h35 := ib_ne k31
      have b36 : Bd r29 (1) (1) := rf_nlo b29 (by decide : Bd 0 (0) (0)) h35
      have g37 := g29_0.resolve_left (by omega)
      clear g29_0
      have b38 : Bd v1 (1) (1201) := ⟨by omega, by omega⟩
      refine lv_iconst (v := 1) hx hb dX11_isWish_19 (by decide) ?_
      refine lv_goto (tgt := 24) hx hb dX11_isWish_20 (by decide) ?_
      have q39 : (1 : Int32).toInt = 1 := by decide
      exact xrz E hr hlk hQ rfl (⟨rfl, (ib_wk (by decide : Bd 1 (1) (1)) (by decide) (by decide)), Or.inr ⟨by omega, by omega, by omega⟩⟩) dX11_isWish_24
set_option maxHeartbeats 4000000 in
set_option maxRecDepth 100000 in
theorem gX11_isGale_0 (l : Launch) (g : GG) (ad : Nat → Nat) (hD : Dj ad 122) (S : SS) (hI : InvX g ad S) (a1 : Int32) (a2 : Int32) : Met l yX11_isGale (wG (.code yX11_isGale cX11_isGale 3 (some .boolean))) (Rm 1) (XPre g ad 122 S [.ref (ad 0), .int a1, .int a2]) (va_Qi (fun r S' => S = S' ∧ Bd r (0) (1) ∧ ((r.toInt + (-1) < 0 ∨ (0 ≤ a2.toInt ∧ 0 ≤ fld (S 2) 7 + (-1) * a2.toInt + (-1))))) (QB g ad 122) (FA ad 122)) 0 0 (FA ad 122) := by
  refine xmet cX11_isGale "EbbWreck" (by decide) rfl (Nat.le_of_ble_eq_true rfl) (fun p e s m below meth c E hr hlk hml hQ ls hl => ?_)
  have hx := E.1
  have hb := E.2.1
  have hs : Sp ad 122 (FA ad 122) := Sp.fa hD
  have hl : lv_has ls 3 [(0, .ref (ad 0)), (1, .int a1), (2, .int a2)] := hl
  obtain ⟨v1, v3, v5, v6, v7, v9, c11, b2, b4, b8, b10⟩ := invX_2 hI
  have c11 : S 2 = .inr (1, [.int v1, .int v3, .int v5, .ref (ad 3), .ref (ad 5), .ref (ad 6), .int v6, .int v7, .ref (ad 7), .ref (ad 8), .ref (ad 9), .ref (ad 10), .int v9, .ref (ad 15), .ref (ad 16)]) := c11
  refine lv_aload_n hx hb dX11_isGale_0 rfl (lv_at hl 0 rfl) ?_
  obtain ⟨v12, v14, v15, c16, b13⟩ := invX_0 hI
  have c16 : S 0 = .inr (11, [.ref (ad 1), .int v12, .int v14, .int v15, .ref (ad 2), .ref (ad 20), .ref (ad 38), .ref (ad 93), .ref (ad 94), .ref (ad 95), .ref (ad 102), .ref (ad 104), .ref (ad 107), .ref (ad 111), .ref (ad 119)]) := c16
  refine xget E hQ 0 (by decide) c16 rfl 4 (by decide) q520 rfl dX11_isGale_1 ?_
  refine lv_iload_n hx hb dX11_isGale_4 rfl (lv_at hl 2 rfl) ?_
  refine xcVi E hs hQ hml hl.1 2 (gX1_hasThing_2 l g ad hD S hI a2) mX1_hasThing q832 (by decide) c11 rfl rfl ⟨(Nat.le_of_ble_eq_true rfl), (Nat.le_of_ble_eq_true rfl)⟩ ⟨(Nat.le_of_ble_eq_true rfl), (Nat.le_of_ble_eq_true rfl)⟩ (Nat.le_of_ble_eq_true rfl) rfl dX11_isGale_5 (fun r17 S17 H locs hp17 hQ _ => ?_)
  obtain ⟨rfl, b17, g17_0⟩ := hp17
  have q18 : fld (S 2) 7 = v7.toInt := fld_of c11 rfl
  refine lv_if_eq (tgt := 24) hx hb dX11_isGale_8 (by decide) (fun k19 => ?_) (fun k19 => ?_)
  · have h20 := ib_eq k19
    have b21 : Bd r17 (0) (0) := ⟨(b17).1, ((rf_eq b17 (by decide : Bd 0 (0) (0)) h20).1).2⟩
    clear g17_0
    refine lv_iconst (v := 0) hx hb dX11_isGale_24 (by decide) ?_
    have q22 : (0 : Int32).toInt = 0 := by decide
    exact xrz E hr hlk hQ rfl (⟨rfl, (ib_wk (by decide : Bd 0 (0) (0)) (by decide) (by decide)), Or.inl (by omega)⟩) dX11_isGale_25
  · have h23 := ib_ne k19
    have b24 : Bd r17 (1) (1) := rf_nlo b17 (by decide : Bd 0 (0) (0)) h23
    have g25 := g17_0.resolve_left (by omega)
    clear g17_0
    have b26 : Bd a2 (0) (7) := ⟨by omega, by omega⟩
    have b27 : Bd v7 (1) (8) := ⟨by omega, by omega⟩
    refine lv_iload_n hx hb dX11_isGale_11 rfl (lv_at hl 1 rfl) ?_
    refine lv_ldc (v := 2000000000) hx hb E.2.2.1 (E.2.2.2.1 _ q882) dX11_isGale_12 ?_
    refine xcSi E hs hQ hml hl.1 (gX11_isWithin l g ad hD S hI a1 2000000000) mX11_isWithin q883 rfl ⟨(Nat.le_of_ble_eq_true rfl), (Nat.le_of_ble_eq_true rfl)⟩ ⟨(Nat.le_of_ble_eq_true rfl), (Nat.le_of_ble_eq_true rfl)⟩ (Nat.le_of_ble_eq_true rfl) rfl dX11_isGale_14 (fun r28 S28 H locs hp28 hQ => ?_)
    obtain ⟨rfl, b28, g28_0⟩ := hp28
    have q29 : (2000000000 : Int32).toInt = 2000000000 := by decide
    refine lv_if_eq (tgt := 24) hx hb dX11_isGale_17 (by decide) (fun k30 => ?_) (fun k30 => ?_)
    · have h31 := ib_eq k30
      have b32 : Bd r28 (0) (0) := ⟨(b28).1, ((rf_eq b28 (by decide : Bd 0 (0) (0)) h31).1).2⟩
      clear g28_0
      refine lv_iconst (v := 0) hx hb dX11_isGale_24 (by decide) ?_
      have q33 : (0 : Int32).toInt = 0 := by decide
      exact xrz E hr hlk hQ rfl (⟨rfl, (ib_wk (by decide : Bd 0 (0) (0)) (by decide) (by decide)), Or.inl (by omega)⟩) dX11_isGale_25
    · have h34 := ib_ne k30
      have b35 : Bd r28 (1) (1) := rf_nlo b28 (by decide : Bd 0 (0) (0)) h34
      have g36 := g28_0.resolve_left (by omega)
      clear g28_0
      have b37 : Bd a1 (0) (2000000000) := ⟨by omega, by omega⟩
      refine lv_iconst (v := 1) hx hb dX11_isGale_20 (by decide) ?_
      refine lv_goto (tgt := 25) hx hb dX11_isGale_21 (by decide) ?_
      have q38 : (1 : Int32).toInt = 1 := by decide
      exact xrz E hr hlk hQ rfl (⟨rfl, (ib_wk (by decide : Bd 1 (1) (1)) (by decide) (by decide)), Or.inr ⟨by omega, by omega⟩⟩) dX11_isGale_25
set_option maxHeartbeats 4000000 in
set_option maxRecDepth 100000 in
theorem gX11_isDrawnOften (l : Launch) (g : GG) (ad : Nat → Nat) (hD : Dj ad 122) (S : SS) (hI : InvX g ad S) (a1 : Int32) : Met l yX11_isDrawnOften (wG (.code yX11_isDrawnOften cX11_isDrawnOften 1 (some .boolean))) (Rm 0) (XPre g ad 122 S [.int a1]) (va_Qi (fun r S' => S = S' ∧ Bd r (0) (1)) (QB g ad 122) (FA ad 122)) 0 0 (FA ad 122) := by
  refine xmet cX11_isDrawnOften "EbbWreck" (by decide) rfl (Nat.le_of_ble_eq_true rfl) (fun p e s m below meth c E hr hlk hml hQ ls hl => ?_)
  have hx := E.1
  have hb := E.2.1
  have hs : Sp ad 122 (FA ad 122) := Sp.fa hD
  have hl : lv_has ls 1 [(0, .int a1)] := hl
  refine lv_iload_n hx hb dX11_isDrawnOften_0 rfl (lv_at hl 0 rfl) ?_
  refine lv_iconst (v := 1) hx hb dX11_isDrawnOften_1 (by decide) ?_
  refine lv_icmp_lt (tgt := 15) hx hb dX11_isDrawnOften_2 (by decide) (fun k1 => ?_) (fun k1 => ?_)
  · have h2 := ib_lt k1
    have b3 : Bd a1 (-2147483648) (0) := ⟨((ib_full a1)).1, ((rf_lt (ib_full a1) (by decide : Bd 1 (1) (1)) h2).1).2⟩
    refine lv_iconst (v := 0) hx hb dX11_isDrawnOften_15 (by decide) ?_
    exact xrz E hr hlk hQ rfl (⟨rfl, (ib_wk (by decide : Bd 0 (0) (0)) (by decide) (by decide))⟩) dX11_isDrawnOften_16
  · have h4 := ib_nlt k1
    have b5 : Bd a1 (1) (2147483647) := ⟨((rf_le (by decide : Bd 1 (1) (1)) (ib_full a1) h4).2).1, ((ib_full a1)).2⟩
    refine lv_iload_n hx hb dX11_isDrawnOften_5 rfl (lv_at hl 0 rfl) ?_
    refine lv_bipush (v := 20) hx hb dX11_isDrawnOften_6 (by decide) ?_
    refine lv_icmp_gt (tgt := 15) hx hb dX11_isDrawnOften_8 (by decide) (fun k6 => ?_) (fun k6 => ?_)
    · have h7 := ib_lt k6
      have b8 : Bd a1 (21) (2147483647) := ⟨((rf_lt (by decide : Bd 20 (20) (20)) b5 h7).2).1, (b5).2⟩
      refine lv_iconst (v := 0) hx hb dX11_isDrawnOften_15 (by decide) ?_
      exact xrz E hr hlk hQ rfl (⟨rfl, (ib_wk (by decide : Bd 0 (0) (0)) (by decide) (by decide))⟩) dX11_isDrawnOften_16
    · have h9 := ib_nlt k6
      have b10 : Bd a1 (1) (20) := ⟨(b5).1, ((rf_le b5 (by decide : Bd 20 (20) (20)) h9).1).2⟩
      refine lv_iconst (v := 1) hx hb dX11_isDrawnOften_11 (by decide) ?_
      refine lv_goto (tgt := 16) hx hb dX11_isDrawnOften_12 (by decide) ?_
      exact xrz E hr hlk hQ rfl (⟨rfl, (ib_wk (by decide : Bd 1 (1) (1)) (by decide) (by decide))⟩) dX11_isDrawnOften_16
set_option maxHeartbeats 4000000 in
set_option maxRecDepth 100000 in
theorem gX2_runBeach_95 (l : Launch) (g : GG) (ad : Nat → Nat) (hD : Dj ad 122) (S : SS) (hI : InvX g ad S) : Met l yX2_runBeach (wG (.code yX2_runBeach cX2_runBeach 1 (some .int))) (Rm 0) (XPre g ad 122 S [.ref (ad 95)]) (va_Qi (fun r S' => S = S' ∧ Bd r (-1) (11)) (QB g ad 122) (FA ad 122)) 0 0 (FA ad 122) := by
  refine xmet cX2_runBeach "EbbWreck$Drift" (by decide) rfl (Nat.le_of_ble_eq_true rfl) (fun p e s m below meth c E hr hlk hml hQ ls hl => ?_)
  have hx := E.1
  have hb := E.2.1
  have hs : Sp ad 122 (FA ad 122) := Sp.fa hD
  have hl : lv_has ls 1 [(0, .ref (ad 95))] := hl
  refine lv_aload_n hx hb dX2_runBeach_0 rfl (lv_at hl 0 rfl) ?_
  obtain ⟨v1, v2, c4, b3⟩ := invX_95 hI
  have c4 : S 95 = .inr (2, [.ref (ad 2), .ref (ad 96), .ref (ad 97), .ref (ad 98), .ref (ad 99), .ref (ad 100), .ref (ad 101), .int v1, .int v2]) := c4
  refine xget E hQ 95 (by decide) c4 rfl 7 (by decide) q388 rfl dX2_runBeach_1 ?_
  refine lv_iconst (v := (-1)) hx hb dX2_runBeach_4 (by decide) ?_
  refine lv_icmp_ne (tgt := 12) hx hb dX2_runBeach_5 (by decide) (fun k5 => ?_) (fun k5 => ?_)
  · have h6 := ib_ne k5
    refine lv_aload_n hx hb dX2_runBeach_12 rfl (lv_at hl 0 rfl) ?_
    refine xget E hQ 95 (by decide) c4 rfl 8 (by decide) q390 rfl dX2_runBeach_13 ?_
    exact xri E hr hlk hQ (⟨rfl, (ib_wk b3 (by decide) (by decide))⟩) dX2_runBeach_16
  · have h7 := ib_eq k5
    have b8 : Bd v1 (-1) (-1) := ⟨((rf_eq (ib_full v1) (by decide : Bd (-1) (-1) (-1)) h7).1).1, ((rf_eq (ib_full v1) (by decide : Bd (-1) (-1) (-1)) h7).1).2⟩
    refine lv_iconst (v := (-1)) hx hb dX2_runBeach_8 (by decide) ?_
    refine lv_goto (tgt := 16) hx hb dX2_runBeach_9 (by decide) ?_
    exact xri E hr hlk hQ (⟨rfl, (ib_wk (by decide : Bd (-1) (-1) (-1)) (by decide) (by decide))⟩) dX2_runBeach_16
set_option maxHeartbeats 4000000 in
set_option maxRecDepth 100000 in
theorem gX2_runOwner_95 (l : Launch) (g : GG) (ad : Nat → Nat) (hD : Dj ad 122) (S : SS) (hI : InvX g ad S) : Met l yX2_runOwner (wG (.code yX2_runOwner cX2_runOwner 1 (some .int))) (Rm 3) (XPre g ad 122 S [.ref (ad 95)]) (va_Qi (fun _ S' => S = S') (QB g ad 122) (FA ad 122)) 0 0 (FA ad 122) := by
  refine xmet cX2_runOwner "EbbWreck$Drift" (by decide) rfl (Nat.le_of_ble_eq_true rfl) (fun p e s m below meth c E hr hlk hml hQ ls hl => ?_)
  have hx := E.1
  have hb := E.2.1
  have hs : Sp ad 122 (FA ad 122) := Sp.fa hD
  have hl : lv_has ls 1 [(0, .ref (ad 95))] := hl
  refine lv_aload_n hx hb dX2_runOwner_0 rfl (lv_at hl 0 rfl) ?_
  obtain ⟨v1, v2, c4, b3⟩ := invX_95 hI
  have c4 : S 95 = .inr (2, [.ref (ad 2), .ref (ad 96), .ref (ad 97), .ref (ad 98), .ref (ad 99), .ref (ad 100), .ref (ad 101), .int v1, .int v2]) := c4
  refine xget E hQ 95 (by decide) c4 rfl 7 (by decide) q388 rfl dX2_runOwner_1 ?_
  refine lv_iconst (v := (-1)) hx hb dX2_runOwner_4 (by decide) ?_
  refine lv_icmp_ne (tgt := 12) hx hb dX2_runOwner_5 (by decide) (fun k5 => ?_) (fun k5 => ?_)
  · have h6 := ib_ne k5
    refine lv_aload_n hx hb dX2_runOwner_12 rfl (lv_at hl 0 rfl) ?_
    refine xget E hQ 95 (by decide) c4 rfl 0 (by decide) q379 rfl dX2_runOwner_13 ?_
    refine lv_aload_n hx hb dX2_runOwner_16 rfl (lv_at hl 0 rfl) ?_
    refine xget E hQ 95 (by decide) c4 rfl 8 (by decide) q390 rfl dX2_runOwner_17 ?_
    refine lv_aload_n hx hb dX2_runOwner_20 rfl (lv_at hl 0 rfl) ?_
    refine xget E hQ 95 (by decide) c4 rfl 7 (by decide) q388 rfl dX2_runOwner_21 ?_
    refine lv_iconst (v := (-1)) hx hb dX2_runOwner_24 (by decide) ?_
    obtain ⟨v8, v10, v12, v13, v14, v16, c18, b9, b11, b15, b17⟩ := invX_2 hI
    have c18 : S 2 = .inr (1, [.int v8, .int v10, .int v12, .ref (ad 3), .ref (ad 5), .ref (ad 6), .int v13, .int v14, .ref (ad 7), .ref (ad 8), .ref (ad 9), .ref (ad 10), .int v16, .ref (ad 15), .ref (ad 16)]) := c18
    refine xcVi E hs hQ hml hl.1 2 (gX1_ownerIn_2 l g ad hD S hI v2 v1 (-1)) mX1_ownerIn q947 (by decide) c18 rfl rfl ⟨(Nat.le_of_ble_eq_true rfl), (Nat.le_of_ble_eq_true rfl)⟩ ⟨(Nat.le_of_ble_eq_true rfl), (Nat.le_of_ble_eq_true rfl)⟩ (Nat.le_of_ble_eq_true rfl) rfl dX2_runOwner_25 (fun r7 S7 H locs hp7 hQ _ => ?_)
    subst hp7
    exact xri E hr hlk hQ (rfl) dX2_runOwner_28
  · have h19 := ib_eq k5
    have b20 : Bd v1 (-1) (-1) := ⟨((rf_eq (ib_full v1) (by decide : Bd (-1) (-1) (-1)) h19).1).1, ((rf_eq (ib_full v1) (by decide : Bd (-1) (-1) (-1)) h19).1).2⟩
    refine lv_iconst (v := (-1)) hx hb dX2_runOwner_8 (by decide) ?_
    refine lv_goto (tgt := 28) hx hb dX2_runOwner_9 (by decide) ?_
    exact xri E hr hlk hQ (rfl) dX2_runOwner_28
set_option maxHeartbeats 4000000 in
set_option maxRecDepth 100000 in
theorem gX2_ownerOf_95 (l : Launch) (g : GG) (ad : Nat → Nat) (hD : Dj ad 122) (S : SS) (hI : InvX g ad S) (a1 : Int32) (a2 : Int32) (a3 : Int32) (ba1 : Bd a1 (0) (7)) : Met l yX2_ownerOf (wG (.code yX2_ownerOf cX2_ownerOf 4 (some .int))) (Rm 3) (XPre g ad 122 S [.ref (ad 95), .int a1, .int a2, .int a3]) (va_Qi (fun _ S' => S = S') (QB g ad 122) (FA ad 122)) 0 0 (FA ad 122) := by
  refine xmet cX2_ownerOf "EbbWreck$Drift" (by decide) rfl (Nat.le_of_ble_eq_true rfl) (fun p e s m below meth c E hr hlk hml hQ ls hl => ?_)
  have hx := E.1
  have hb := E.2.1
  have hs : Sp ad 122 (FA ad 122) := Sp.fa hD
  have hl : lv_has ls 4 [(0, .ref (ad 95)), (1, .int a1), (2, .int a2), (3, .int a3)] := hl
  refine lv_aload_n hx hb dX2_ownerOf_0 rfl (lv_at hl 0 rfl) ?_
  obtain ⟨v1, v2, c4, b3⟩ := invX_95 hI
  have c4 : S 95 = .inr (2, [.ref (ad 2), .ref (ad 96), .ref (ad 97), .ref (ad 98), .ref (ad 99), .ref (ad 100), .ref (ad 101), .int v1, .int v2]) := c4
  refine xget E hQ 95 (by decide) c4 rfl 1 (by decide) q380 rfl dX2_ownerOf_1 ?_
  refine lv_iload_n hx hb dX2_ownerOf_4 rfl (lv_at hl 1 rfl) ?_
  obtain ⟨f5, c6⟩ := invX_96 hI
  refine xiald E hQ 96 (by decide) c6 (ib_in ba1 (by decide) (by decide)) dX2_ownerOf_5 ?_
  refine lv_topi (fun z8 e9 => ?_)
  refine lv_iconst (v := (-1)) hx hb dX2_ownerOf_6 (by decide) ?_
  refine lv_icmp_ne (tgt := 12) hx hb dX2_ownerOf_7 (by decide) (fun k10 => ?_) (fun k10 => ?_)
  · have h11 := ib_ne k10
    refine lv_aload_n hx hb dX2_ownerOf_12 rfl (lv_at hl 0 rfl) ?_
    refine xget E hQ 95 (by decide) c4 rfl 0 (by decide) q379 rfl dX2_ownerOf_13 ?_
    refine lv_aload_n hx hb dX2_ownerOf_16 rfl (lv_at hl 0 rfl) ?_
    refine xget E hQ 95 (by decide) c4 rfl 2 (by decide) q382 rfl dX2_ownerOf_17 ?_
    refine lv_iload_n hx hb dX2_ownerOf_20 rfl (lv_at hl 1 rfl) ?_
    obtain ⟨f12, c13⟩ := invX_97 hI
    refine xiald E hQ 97 (by decide) c13 (ib_in ba1 (by decide) (by decide)) dX2_ownerOf_21 ?_
    refine lv_topi (fun z15 e16 => ?_)
    refine lv_aload_n hx hb dX2_ownerOf_22 rfl (lv_at hl 0 rfl) ?_
    refine xget E hQ 95 (by decide) c4 rfl 1 (by decide) q380 rfl dX2_ownerOf_23 ?_
    refine lv_iload_n hx hb dX2_ownerOf_26 rfl (lv_at hl 1 rfl) ?_
    refine xiald E hQ 96 (by decide) c6 (ib_in ba1 (by decide) (by decide)) dX2_ownerOf_27 ?_
    refine lv_topi (fun z17 e18 => ?_)
    have t19 : z17.toInt = z8.toInt := by rw [e18, e9]
    refine lv_iload_n hx hb dX2_ownerOf_28 rfl (lv_at hl 2 rfl) ?_
    refine lv_iadd hx hb dX2_ownerOf_29 ?_
    refine lv_topi (fun z20 e21 => ?_)
    refine lv_iload_n hx hb dX2_ownerOf_30 rfl (lv_at hl 3 rfl) ?_
    obtain ⟨v23, v25, v27, v28, v29, v31, c33, b24, b26, b30, b32⟩ := invX_2 hI
    have c33 : S 2 = .inr (1, [.int v23, .int v25, .int v27, .ref (ad 3), .ref (ad 5), .ref (ad 6), .int v28, .int v29, .ref (ad 7), .ref (ad 8), .ref (ad 9), .ref (ad 10), .int v31, .ref (ad 15), .ref (ad 16)]) := c33
    refine xcVi E hs hQ hml hl.1 2 (gX1_ownerIn_2 l g ad hD S hI z15 z20 a3) mX1_ownerIn q947 (by decide) c33 rfl rfl ⟨(Nat.le_of_ble_eq_true rfl), (Nat.le_of_ble_eq_true rfl)⟩ ⟨(Nat.le_of_ble_eq_true rfl), (Nat.le_of_ble_eq_true rfl)⟩ (Nat.le_of_ble_eq_true rfl) rfl dX2_ownerOf_31 (fun r22 S22 H locs hp22 hQ _ => ?_)
    subst hp22
    exact xri E hr hlk hQ (rfl) dX2_ownerOf_34
  · have h34 := ib_eq k10
    have b35 : Bd z8 (-1) (-1) := ⟨((rf_eq (ib_full z8) (by decide : Bd (-1) (-1) (-1)) h34).1).1, ((rf_eq (ib_full z8) (by decide : Bd (-1) (-1) (-1)) h34).1).2⟩
    refine lv_iconst (v := (-1)) hx hb dX2_ownerOf_10 (by decide) ?_
    exact xri E hr hlk hQ (rfl) dX2_ownerOf_11
set_option maxHeartbeats 4000000 in
set_option maxRecDepth 100000 in
theorem gX2_worthOf_95 (l : Launch) (g : GG) (ad : Nat → Nat) (hD : Dj ad 122) (S : SS) (hI : InvX g ad S) (a1 : Int32) (a2 : Int32) (a3 : Int32) : Met l yX2_worthOf (wG (.code yX2_worthOf cX2_worthOf 6 (some .int))) (Rm 4) (XPre g ad 122 S [.ref (ad 95), .int a1, .int a2, .int a3]) (va_Qi (fun _ S' => S = S') (QB g ad 122) (FA ad 122)) 0 0 (FA ad 122) := by
  refine xmet cX2_worthOf "EbbWreck$Drift" (by decide) rfl (Nat.le_of_ble_eq_true rfl) (fun p e s m below meth c E hr hlk hml hQ ls hl => ?_)
  have hx := E.1
  have hb := E.2.1
  have hs : Sp ad 122 (FA ad 122) := Sp.fa hD
  have hl : lv_has ls 6 [(0, .ref (ad 95)), (1, .int a1), (2, .int a2), (3, .int a3)] := hl
  refine lv_iconst (v := 0) hx hb dX2_worthOf_0 (by decide) ?_
  refine lv_istore (lv' := [(4, .int 0), (0, .ref (ad 95)), (1, .int a1), (2, .int a2), (3, .int a3)]) hx hb dX2_worthOf_1 hl (by decide) rfl (fun ls hl => ?_)
  refine lv_iconst (v := 0) hx hb dX2_worthOf_3 (by decide) ?_
  refine lv_istore (lv' := [(5, .int 0), (4, .int 0), (0, .ref (ad 95)), (1, .int a1), (2, .int a2), (3, .int a3)]) hx hb dX2_worthOf_4 hl (by decide) rfl (fun ls hl => ?_)
  have loop6 : ∀ (n : Nat) (H : Heap) (locs : List Loc) (ls : Array Slot) (x6_4 : Int32) (x6_5 : Int32), Bd x6_5 (0) (8) → (-1) * x6_5.toInt + 8 < ((n : Nat) : Int) → Hp g ad 122 S (FA ad 122) s.heap H locs → lv_has ls 6 [(5, .int x6_5), (4, .int x6_4), (0, .ref (ad 95)), (1, .int a1), (2, .int a2), (3, .int a3)] → W p l e (Rm 4) s m [.ref (ad 95), .int a1, .int a2, .int a3].toArray below meth c H locs 0 0 (MQ below (va_Qi (fun _ S' => S = S') (QB g ad 122) (FA ad 122)) [.ref (ad 95), .int a1, .int a2, .int a3].toArray s 0 0 (FA ad 122)) (F0 m 6 ls []) := by
    intro n
    induction n with
    | zero => intro H locs ls x6_4 x6_5 Bx6_5 hn6_ hQ hl; exfalso; have := (Bx6_5).2; omega
    | succ n6_ ih6 =>
      intro H locs ls x6_4 x6_5 Bx6_5 hn6_ hQ hl
      refine lv_iload hx hb dX2_worthOf_6 (lv_at hl 0 rfl) ?_
      refine lv_aload_n hx hb dX2_worthOf_8 rfl (lv_at hl 2 rfl) ?_
      obtain ⟨v1, v2, c4, b3⟩ := invX_95 hI
      have c4 : S 95 = .inr (2, [.ref (ad 2), .ref (ad 96), .ref (ad 97), .ref (ad 98), .ref (ad 99), .ref (ad 100), .ref (ad 101), .int v1, .int v2]) := c4
      refine xget E hQ 95 (by decide) c4 rfl 0 (by decide) q379 rfl dX2_worthOf_9 ?_
      obtain ⟨v5, v7, v9, v10, v11, v13, c15, b6, b8, b12, b14⟩ := invX_2 hI
      have c15 : S 2 = .inr (1, [.int v5, .int v7, .int v9, .ref (ad 3), .ref (ad 5), .ref (ad 6), .int v10, .int v11, .ref (ad 7), .ref (ad 8), .ref (ad 9), .ref (ad 10), .int v13, .ref (ad 15), .ref (ad 16)]) := c15
      refine xget E hQ 2 (by decide) c15 rfl 7 (by decide) q268 rfl dX2_worthOf_12 ?_
      refine lv_icmp_ge (tgt := 51) hx hb dX2_worthOf_15 (by decide) (fun k16 => ?_) (fun k16 => ?_)
      · have h17 := ib_le k16
        refine lv_iload hx hb dX2_worthOf_51 (lv_at hl 1 rfl) ?_
        exact xri E hr hlk hQ (rfl) dX2_worthOf_53
      · have h18 := ib_nle k16
        have b19 : Bd x6_5 (0) (7) := ⟨(Bx6_5).1, ((rf_lt Bx6_5 b12 h18).1).2⟩
        have b20 : Bd v11 (1) (8) := ⟨((rf_lt Bx6_5 b12 h18).2).1, (b12).2⟩
        refine lv_aload_n hx hb dX2_worthOf_18 rfl (lv_at hl 2 rfl) ?_
        refine lv_iload hx hb dX2_worthOf_19 (lv_at hl 0 rfl) ?_
        refine lv_iload_n hx hb dX2_worthOf_21 rfl (lv_at hl 4 rfl) ?_
        refine lv_iload_n hx hb dX2_worthOf_22 rfl (lv_at hl 5 rfl) ?_
        refine xcVi E hs hQ hml hl.1 95 (gX2_ownerOf_95 l g ad hD S hI x6_5 a2 a3 b19) mX2_ownerOf q971 (by decide) c4 rfl rfl ⟨(Nat.le_of_ble_eq_true rfl), (Nat.le_of_ble_eq_true rfl)⟩ ⟨(Nat.le_of_ble_eq_true rfl), (Nat.le_of_ble_eq_true rfl)⟩ (Nat.le_of_ble_eq_true rfl) rfl dX2_worthOf_23 (fun r21 S21 H locs hp21 hQ _ => ?_)
        subst hp21
        refine lv_iload_n hx hb dX2_worthOf_26 rfl (lv_at hl 3 rfl) ?_
        refine lv_icmp_ne (tgt := 45) hx hb dX2_worthOf_27 (by decide) (fun k22 => ?_) (fun k22 => ?_)
        · have h23 := ib_ne k22
          obtain ⟨z24, e25⟩ : ∃ z : Int32, z = x6_5 + 1 := ⟨_, rfl⟩
          have t26 := ib_add e25 b19 (by decide : Bd 1 (1) (1)) (by decide) (by decide)
          have b27 : Bd z24 (1) (8) := ib_addb t26 b19 (by decide : Bd 1 (1) (1))
          have t26 : z24.toInt = x6_5.toInt + 1 := fold_add t26 rfl (by decide)
          refine lv_iinc (v := z24) (lv' := [(5, .int z24), (4, .int x6_4), (0, .ref (ad 95)), (1, .int a1), (2, .int a2), (3, .int a3)]) hx hb dX2_worthOf_45 hl (k := 0) rfl (by rw [e25]; rfl) (by decide) rfl (fun ls hl => ?_)
          refine lv_goto (tgt := 6) hx hb dX2_worthOf_48 (by decide) ?_
          exact ih6 _ _ _ x6_4 z24 (ib_wk b27 (by decide) (by decide)) (by omega) hQ (lv_sub hl [0, 1, 2, 3, 4, 5] rfl)
        · have h28 := ib_eq k22
          refine lv_iload hx hb dX2_worthOf_30 (lv_at hl 1 rfl) ?_
          refine lv_aload_n hx hb dX2_worthOf_32 rfl (lv_at hl 2 rfl) ?_
          refine xget E hQ 95 (by decide) c4 rfl 0 (by decide) q379 rfl dX2_worthOf_33 ?_
          refine xget E hQ 2 (by decide) c15 rfl 8 (by decide) q277 rfl dX2_worthOf_36 ?_
          refine lv_iload hx hb dX2_worthOf_39 (lv_at hl 0 rfl) ?_
          obtain ⟨f29, c30⟩ := invX_7 hI
          refine xiald E hQ 7 (by decide) c30 (ib_in b19 (by decide) (by decide)) dX2_worthOf_41 ?_
          refine lv_topi (fun z32 e33 => ?_)
          refine lv_iadd hx hb dX2_worthOf_42 ?_
          refine lv_topi (fun z34 e35 => ?_)
          refine lv_istore (lv' := [(4, .int z34), (5, .int x6_5), (0, .ref (ad 95)), (1, .int a1), (2, .int a2), (3, .int a3)]) hx hb dX2_worthOf_43 hl (by decide) rfl (fun ls hl => ?_)
          obtain ⟨z36, e37⟩ : ∃ z : Int32, z = x6_5 + 1 := ⟨_, rfl⟩
          have t38 := ib_add e37 b19 (by decide : Bd 1 (1) (1)) (by decide) (by decide)
          have b39 : Bd z36 (1) (8) := ib_addb t38 b19 (by decide : Bd 1 (1) (1))
          have t38 : z36.toInt = x6_5.toInt + 1 := fold_add t38 rfl (by decide)
          refine lv_iinc (v := z36) (lv' := [(5, .int z36), (4, .int z34), (0, .ref (ad 95)), (1, .int a1), (2, .int a2), (3, .int a3)]) hx hb dX2_worthOf_45 hl (k := 1) rfl (by rw [e37]; rfl) (by decide) rfl (fun ls hl => ?_)
          refine lv_goto (tgt := 6) hx hb dX2_worthOf_48 (by decide) ?_
          exact ih6 _ _ _ z34 z36 (ib_wk b39 (by decide) (by decide)) (by omega) hQ (lv_sub hl [0, 1, 2, 3, 4, 5] rfl)
  obtain ⟨n6, hn6⟩ := fu_n (8)
  exact loop6 n6 _ _ _ 0 0 (ib_wk (by decide : Bd 0 (0) (0)) (by decide) (by decide)) (by have : (0 : Int32).toInt = 0 := (by decide); omega) hQ (lv_sub hl [0, 1, 2, 3, 4, 5] rfl)
set_option maxHeartbeats 4000000 in
set_option maxRecDepth 100000 in
theorem gX2_thingsUpOn_95 (l : Launch) (g : GG) (ad : Nat → Nat) (hD : Dj ad 122) (S : SS) (hI : InvX g ad S) (a1 : Int32) : Met l yX2_thingsUpOn (wG (.code yX2_thingsUpOn cX2_thingsUpOn 4 (some .int))) (Rm 0) (XPre g ad 122 S [.ref (ad 95), .int a1]) (va_Qi (fun _ S' => S = S') (QB g ad 122) (FA ad 122)) 0 0 (FA ad 122) := by
  refine xmet cX2_thingsUpOn "EbbWreck$Drift" (by decide) rfl (Nat.le_of_ble_eq_true rfl) (fun p e s m below meth c E hr hlk hml hQ ls hl => ?_)
  have hx := E.1
  have hb := E.2.1
  have hs : Sp ad 122 (FA ad 122) := Sp.fa hD
  have hl : lv_has ls 4 [(0, .ref (ad 95)), (1, .int a1)] := hl
  refine lv_iconst (v := 0) hx hb dX2_thingsUpOn_0 (by decide) ?_
  refine lv_istore_n (lv' := [(2, .int 0), (0, .ref (ad 95)), (1, .int a1)]) hx hb dX2_thingsUpOn_1 rfl hl (by decide) rfl (fun ls hl => ?_)
  refine lv_iconst (v := 0) hx hb dX2_thingsUpOn_2 (by decide) ?_
  refine lv_istore_n (lv' := [(3, .int 0), (2, .int 0), (0, .ref (ad 95)), (1, .int a1)]) hx hb dX2_thingsUpOn_3 rfl hl (by decide) rfl (fun ls hl => ?_)
  have loop4 : ∀ (n : Nat) (H : Heap) (locs : List Loc) (ls : Array Slot) (x4_2 : Int32) (x4_3 : Int32), Bd x4_3 (0) (8) → (-1) * x4_3.toInt + 8 < ((n : Nat) : Int) → Hp g ad 122 S (FA ad 122) s.heap H locs → lv_has ls 4 [(3, .int x4_3), (2, .int x4_2), (0, .ref (ad 95)), (1, .int a1)] → W p l e (Rm 0) s m [.ref (ad 95), .int a1].toArray below meth c H locs 0 0 (MQ below (va_Qi (fun _ S' => S = S') (QB g ad 122) (FA ad 122)) [.ref (ad 95), .int a1].toArray s 0 0 (FA ad 122)) (F0 m 4 ls []) := by
    intro n
    induction n with
    | zero => intro H locs ls x4_2 x4_3 Bx4_3 hn4_ hQ hl; exfalso; have := (Bx4_3).2; omega
    | succ n4_ ih4 =>
      intro H locs ls x4_2 x4_3 Bx4_3 hn4_ hQ hl
      refine lv_iload_n hx hb dX2_thingsUpOn_4 rfl (lv_at hl 0 rfl) ?_
      refine lv_aload_n hx hb dX2_thingsUpOn_5 rfl (lv_at hl 2 rfl) ?_
      obtain ⟨v1, v2, c4, b3⟩ := invX_95 hI
      have c4 : S 95 = .inr (2, [.ref (ad 2), .ref (ad 96), .ref (ad 97), .ref (ad 98), .ref (ad 99), .ref (ad 100), .ref (ad 101), .int v1, .int v2]) := c4
      refine xget E hQ 95 (by decide) c4 rfl 0 (by decide) q379 rfl dX2_thingsUpOn_6 ?_
      obtain ⟨v5, v7, v9, v10, v11, v13, c15, b6, b8, b12, b14⟩ := invX_2 hI
      have c15 : S 2 = .inr (1, [.int v5, .int v7, .int v9, .ref (ad 3), .ref (ad 5), .ref (ad 6), .int v10, .int v11, .ref (ad 7), .ref (ad 8), .ref (ad 9), .ref (ad 10), .int v13, .ref (ad 15), .ref (ad 16)]) := c15
      refine xget E hQ 2 (by decide) c15 rfl 7 (by decide) q268 rfl dX2_thingsUpOn_9 ?_
      refine lv_icmp_ge (tgt := 37) hx hb dX2_thingsUpOn_12 (by decide) (fun k16 => ?_) (fun k16 => ?_)
      · have h17 := ib_le k16
        refine lv_iload_n hx hb dX2_thingsUpOn_37 rfl (lv_at hl 1 rfl) ?_
        exact xri E hr hlk hQ (rfl) dX2_thingsUpOn_38
      · have h18 := ib_nle k16
        have b19 : Bd x4_3 (0) (7) := ⟨(Bx4_3).1, ((rf_lt Bx4_3 b12 h18).1).2⟩
        have b20 : Bd v11 (1) (8) := ⟨((rf_lt Bx4_3 b12 h18).2).1, (b12).2⟩
        refine lv_aload_n hx hb dX2_thingsUpOn_15 rfl (lv_at hl 2 rfl) ?_
        refine xget E hQ 95 (by decide) c4 rfl 2 (by decide) q382 rfl dX2_thingsUpOn_16 ?_
        refine lv_iload_n hx hb dX2_thingsUpOn_19 rfl (lv_at hl 0 rfl) ?_
        obtain ⟨f21, c22⟩ := invX_97 hI
        refine xiald E hQ 97 (by decide) c22 (ib_in b19 (by decide) (by decide)) dX2_thingsUpOn_20 ?_
        refine lv_topi (fun z24 e25 => ?_)
        refine lv_iload_n hx hb dX2_thingsUpOn_21 rfl (lv_at hl 3 rfl) ?_
        refine lv_icmp_ne (tgt := 31) hx hb dX2_thingsUpOn_22 (by decide) (fun k26 => ?_) (fun k26 => ?_)
        · have h27 := ib_ne k26
          obtain ⟨z28, e29⟩ : ∃ z : Int32, z = x4_3 + 1 := ⟨_, rfl⟩
          have t30 := ib_add e29 b19 (by decide : Bd 1 (1) (1)) (by decide) (by decide)
          have b31 : Bd z28 (1) (8) := ib_addb t30 b19 (by decide : Bd 1 (1) (1))
          have t30 : z28.toInt = x4_3.toInt + 1 := fold_add t30 rfl (by decide)
          refine lv_iinc (v := z28) (lv' := [(3, .int z28), (2, .int x4_2), (0, .ref (ad 95)), (1, .int a1)]) hx hb dX2_thingsUpOn_31 hl (k := 0) rfl (by rw [e29]; rfl) (by decide) rfl (fun ls hl => ?_)
          refine lv_goto (tgt := 4) hx hb dX2_thingsUpOn_34 (by decide) ?_
          exact ih4 _ _ _ x4_2 z28 (ib_wk b31 (by decide) (by decide)) (by omega) hQ (lv_sub hl [0, 1, 2, 3] rfl)
        · have h32 := ib_eq k26
          refine lv_iload_n hx hb dX2_thingsUpOn_25 rfl (lv_at hl 1 rfl) ?_
          refine lv_iconst (v := 1) hx hb dX2_thingsUpOn_26 (by decide) ?_
          refine lv_iload_n hx hb dX2_thingsUpOn_27 rfl (lv_at hl 0 rfl) ?_
          refine lv_ishl hx hb dX2_thingsUpOn_28 ?_
          refine lv_topi (fun z33 e34 => ?_)
          refine lv_ior hx hb dX2_thingsUpOn_29 ?_
          refine lv_topi (fun z35 e36 => ?_)
          refine lv_istore_n (lv' := [(2, .int z35), (3, .int x4_3), (0, .ref (ad 95)), (1, .int a1)]) hx hb dX2_thingsUpOn_30 rfl hl (by decide) rfl (fun ls hl => ?_)
          obtain ⟨z37, e38⟩ : ∃ z : Int32, z = x4_3 + 1 := ⟨_, rfl⟩
          have t39 := ib_add e38 b19 (by decide : Bd 1 (1) (1)) (by decide) (by decide)
          have b40 : Bd z37 (1) (8) := ib_addb t39 b19 (by decide : Bd 1 (1) (1))
          have t39 : z37.toInt = x4_3.toInt + 1 := fold_add t39 rfl (by decide)
          refine lv_iinc (v := z37) (lv' := [(3, .int z37), (2, .int z35), (0, .ref (ad 95)), (1, .int a1)]) hx hb dX2_thingsUpOn_31 hl (k := 1) rfl (by rw [e38]; rfl) (by decide) rfl (fun ls hl => ?_)
          refine lv_goto (tgt := 4) hx hb dX2_thingsUpOn_34 (by decide) ?_
          exact ih4 _ _ _ z35 z37 (ib_wk b40 (by decide) (by decide)) (by omega) hQ (lv_sub hl [0, 1, 2, 3] rfl)
  obtain ⟨n4, hn4⟩ := fu_n (8)
  exact loop4 n4 _ _ _ 0 0 (ib_wk (by decide : Bd 0 (0) (0)) (by decide) (by decide)) (by have : (0 : Int32).toInt = 0 := (by decide); omega) hQ (lv_sub hl [0, 1, 2, 3] rfl)
set_option maxHeartbeats 4000000 in
set_option maxRecDepth 100000 in
theorem gX2_upPhase_95 (l : Launch) (g : GG) (ad : Nat → Nat) (hD : Dj ad 122) (S : SS) (hI : InvX g ad S) (a1 : Int32) (ba1 : Bd a1 (0) (7)) : Met l yX2_upPhase (wG (.code yX2_upPhase cX2_upPhase 2 (some .int))) (Rm 1) (XPre g ad 122 S [.ref (ad 95), .int a1]) (va_Qi (fun _ S' => S = S') (QB g ad 122) (FA ad 122)) 0 0 (FA ad 122) := by
  refine xmet cX2_upPhase "EbbWreck$Drift" (by decide) rfl (Nat.le_of_ble_eq_true rfl) (fun p e s m below meth c E hr hlk hml hQ ls hl => ?_)
  have hx := E.1
  have hb := E.2.1
  have hs : Sp ad 122 (FA ad 122) := Sp.fa hD
  have hl : lv_has ls 2 [(0, .ref (ad 95)), (1, .int a1)] := hl
  refine lv_aload_n hx hb dX2_upPhase_0 rfl (lv_at hl 0 rfl) ?_
  obtain ⟨v1, v2, c4, b3⟩ := invX_95 hI
  have c4 : S 95 = .inr (2, [.ref (ad 2), .ref (ad 96), .ref (ad 97), .ref (ad 98), .ref (ad 99), .ref (ad 100), .ref (ad 101), .int v1, .int v2]) := c4
  refine xget E hQ 95 (by decide) c4 rfl 0 (by decide) q379 rfl dX2_upPhase_1 ?_
  obtain ⟨v5, v7, v9, v10, v11, v13, c15, b6, b8, b12, b14⟩ := invX_2 hI
  have c15 : S 2 = .inr (1, [.int v5, .int v7, .int v9, .ref (ad 3), .ref (ad 5), .ref (ad 6), .int v10, .int v11, .ref (ad 7), .ref (ad 8), .ref (ad 9), .ref (ad 10), .int v13, .ref (ad 15), .ref (ad 16)]) := c15
  refine xget E hQ 2 (by decide) c15 rfl 3 (by decide) q255 rfl dX2_upPhase_4 ?_
  refine lv_aload_n hx hb dX2_upPhase_7 rfl (lv_at hl 0 rfl) ?_
  refine xget E hQ 95 (by decide) c4 rfl 1 (by decide) q380 rfl dX2_upPhase_8 ?_
  refine lv_iload_n hx hb dX2_upPhase_11 rfl (lv_at hl 1 rfl) ?_
  obtain ⟨f16, c17⟩ := invX_96 hI
  refine xiald E hQ 96 (by decide) c17 (ib_in ba1 (by decide) (by decide)) dX2_upPhase_12 ?_
  refine lv_topi (fun z19 e20 => ?_)
  obtain ⟨v22, v24, v26, v28, c30, b23, b25, b27, b29⟩ := invX_3 hI
  have c30 : S 3 = .inr (10, [.int v22, .int v24, .int v26, .int v28, .ref (ad 4)]) := c30
  refine xcVi E hs hQ hml hl.1 3 (gX10_phaseOf_3 l g ad hD S hI z19) mX10_phaseOf q1009 (by decide) c30 rfl rfl ⟨(Nat.le_of_ble_eq_true rfl), (Nat.le_of_ble_eq_true rfl)⟩ ⟨(Nat.le_of_ble_eq_true rfl), (Nat.le_of_ble_eq_true rfl)⟩ (Nat.le_of_ble_eq_true rfl) rfl dX2_upPhase_13 (fun r21 S21 H locs hp21 hQ _ => ?_)
  subst hp21
  exact xri E hr hlk hQ (rfl) dX2_upPhase_16
set_option maxHeartbeats 4000000 in
set_option maxRecDepth 100000 in
theorem gX2_arguedThings_95 (l : Launch) (g : GG) (ad : Nat → Nat) (hD : Dj ad 122) (S : SS) (hI : InvX g ad S) : Met l yX2_arguedThings (wG (.code yX2_arguedThings cX2_arguedThings 3 (some .int))) (Rm 3) (XPre g ad 122 S [.ref (ad 95)]) (va_Qi (fun _ S' => S = S') (QB g ad 122) (FA ad 122)) 0 0 (FA ad 122) := by
  refine xmet cX2_arguedThings "EbbWreck$Drift" (by decide) rfl (Nat.le_of_ble_eq_true rfl) (fun p e s m below meth c E hr hlk hml hQ ls hl => ?_)
  have hx := E.1
  have hb := E.2.1
  have hs : Sp ad 122 (FA ad 122) := Sp.fa hD
  have hl : lv_has ls 3 [(0, .ref (ad 95))] := hl
  refine lv_iconst (v := 0) hx hb dX2_arguedThings_0 (by decide) ?_
  refine lv_istore_n (lv' := [(1, .int 0), (0, .ref (ad 95))]) hx hb dX2_arguedThings_1 rfl hl (by decide) rfl (fun ls hl => ?_)
  refine lv_iconst (v := 0) hx hb dX2_arguedThings_2 (by decide) ?_
  refine lv_istore_n (lv' := [(2, .int 0), (1, .int 0), (0, .ref (ad 95))]) hx hb dX2_arguedThings_3 rfl hl (by decide) rfl (fun ls hl => ?_)
  have loop4 : ∀ (n : Nat) (H : Heap) (locs : List Loc) (ls : Array Slot) (x4_1 : Int32) (x4_2 : Int32), Bd x4_2 (0) (8) → (-1) * x4_2.toInt + 8 < ((n : Nat) : Int) → Hp g ad 122 S (FA ad 122) s.heap H locs → lv_has ls 3 [(2, .int x4_2), (1, .int x4_1), (0, .ref (ad 95))] → W p l e (Rm 3) s m [.ref (ad 95)].toArray below meth c H locs 0 0 (MQ below (va_Qi (fun _ S' => S = S') (QB g ad 122) (FA ad 122)) [.ref (ad 95)].toArray s 0 0 (FA ad 122)) (F0 m 4 ls []) := by
    intro n
    induction n with
    | zero => intro H locs ls x4_1 x4_2 Bx4_2 hn4_ hQ hl; exfalso; have := (Bx4_2).2; omega
    | succ n4_ ih4 =>
      intro H locs ls x4_1 x4_2 Bx4_2 hn4_ hQ hl
      refine lv_iload_n hx hb dX2_arguedThings_4 rfl (lv_at hl 0 rfl) ?_
      refine lv_aload_n hx hb dX2_arguedThings_5 rfl (lv_at hl 2 rfl) ?_
      obtain ⟨v1, v2, c4, b3⟩ := invX_95 hI
      have c4 : S 95 = .inr (2, [.ref (ad 2), .ref (ad 96), .ref (ad 97), .ref (ad 98), .ref (ad 99), .ref (ad 100), .ref (ad 101), .int v1, .int v2]) := c4
      refine xget E hQ 95 (by decide) c4 rfl 0 (by decide) q379 rfl dX2_arguedThings_6 ?_
      obtain ⟨v5, v7, v9, v10, v11, v13, c15, b6, b8, b12, b14⟩ := invX_2 hI
      have c15 : S 2 = .inr (1, [.int v5, .int v7, .int v9, .ref (ad 3), .ref (ad 5), .ref (ad 6), .int v10, .int v11, .ref (ad 7), .ref (ad 8), .ref (ad 9), .ref (ad 10), .int v13, .ref (ad 15), .ref (ad 16)]) := c15
      refine xget E hQ 2 (by decide) c15 rfl 7 (by decide) q268 rfl dX2_arguedThings_9 ?_
      refine lv_icmp_ge (tgt := 61) hx hb dX2_arguedThings_12 (by decide) (fun k16 => ?_) (fun k16 => ?_)
      · have h17 := ib_le k16
        refine lv_iload_n hx hb dX2_arguedThings_61 rfl (lv_at hl 1 rfl) ?_
        exact xri E hr hlk hQ (rfl) dX2_arguedThings_62
      · have h18 := ib_nle k16
        have b19 : Bd x4_2 (0) (7) := ⟨(Bx4_2).1, ((rf_lt Bx4_2 b12 h18).1).2⟩
        have b20 : Bd v11 (1) (8) := ⟨((rf_lt Bx4_2 b12 h18).2).1, (b12).2⟩
        refine lv_aload_n hx hb dX2_arguedThings_15 rfl (lv_at hl 2 rfl) ?_
        refine xget E hQ 95 (by decide) c4 rfl 1 (by decide) q380 rfl dX2_arguedThings_16 ?_
        refine lv_iload_n hx hb dX2_arguedThings_19 rfl (lv_at hl 0 rfl) ?_
        obtain ⟨f21, c22⟩ := invX_96 hI
        refine xiald E hQ 96 (by decide) c22 (ib_in b19 (by decide) (by decide)) dX2_arguedThings_20 ?_
        refine lv_topi (fun z24 e25 => ?_)
        refine lv_iconst (v := (-1)) hx hb dX2_arguedThings_21 (by decide) ?_
        refine lv_icmp_eq (tgt := 55) hx hb dX2_arguedThings_22 (by decide) (fun k26 => ?_) (fun k26 => ?_)
        · have h27 := ib_eq k26
          have b28 : Bd z24 (-1) (-1) := ⟨((rf_eq (ib_full z24) (by decide : Bd (-1) (-1) (-1)) h27).1).1, ((rf_eq (ib_full z24) (by decide : Bd (-1) (-1) (-1)) h27).1).2⟩
          obtain ⟨z29, e30⟩ : ∃ z : Int32, z = x4_2 + 1 := ⟨_, rfl⟩
          have t31 := ib_add e30 b19 (by decide : Bd 1 (1) (1)) (by decide) (by decide)
          have b32 : Bd z29 (1) (8) := ib_addb t31 b19 (by decide : Bd 1 (1) (1))
          have t31 : z29.toInt = x4_2.toInt + 1 := fold_add t31 rfl (by decide)
          refine lv_iinc (v := z29) (lv' := [(2, .int z29), (1, .int x4_1), (0, .ref (ad 95))]) hx hb dX2_arguedThings_55 hl (k := 0) rfl (by rw [e30]; rfl) (by decide) rfl (fun ls hl => ?_)
          refine lv_goto (tgt := 4) hx hb dX2_arguedThings_58 (by decide) ?_
          exact ih4 _ _ _ x4_1 z29 (ib_wk b32 (by decide) (by decide)) (by omega) hQ (lv_sub hl [0, 1, 2] rfl)
        · have h33 := ib_ne k26
          refine lv_aload_n hx hb dX2_arguedThings_25 rfl (lv_at hl 2 rfl) ?_
          refine xget E hQ 95 (by decide) c4 rfl 0 (by decide) q379 rfl dX2_arguedThings_26 ?_
          refine xget E hQ 2 (by decide) c15 rfl 11 (by decide) q291 rfl dX2_arguedThings_29 ?_
          refine lv_aload_n hx hb dX2_arguedThings_32 rfl (lv_at hl 2 rfl) ?_
          refine xget E hQ 95 (by decide) c4 rfl 2 (by decide) q382 rfl dX2_arguedThings_33 ?_
          refine lv_iload_n hx hb dX2_arguedThings_36 rfl (lv_at hl 0 rfl) ?_
          obtain ⟨f34, c35⟩ := invX_97 hI
          refine xiald E hQ 97 (by decide) c35 (ib_in b19 (by decide) (by decide)) dX2_arguedThings_37 ?_
          refine lv_topi (fun z37 e38 => ?_)
          refine lv_aload_n hx hb dX2_arguedThings_38 rfl (lv_at hl 2 rfl) ?_
          refine lv_iload_n hx hb dX2_arguedThings_39 rfl (lv_at hl 0 rfl) ?_
          refine xcVi E hs hQ hml hl.1 95 (gX2_upPhase_95 l g ad hD S hI x4_2 b19) mX2_upPhase q1005 (by decide) c4 rfl rfl ⟨(Nat.le_of_ble_eq_true rfl), (Nat.le_of_ble_eq_true rfl)⟩ ⟨(Nat.le_of_ble_eq_true rfl), (Nat.le_of_ble_eq_true rfl)⟩ (Nat.le_of_ble_eq_true rfl) rfl dX2_arguedThings_40 (fun r39 S39 H locs hp39 hQ _ => ?_)
          subst hp39
          obtain ⟨v41, c43, b42⟩ := invX_10 hI
          have c43 : S 10 = .inr (6, [.int v41, .ref (ad 11), .ref (ad 12), .ref (ad 13), .ref (ad 14)]) := c43
          refine xcVi E hs hQ hml hl.1 10 (gX6_saysTwoThings_10 l g ad hD S hI z37 r39) mX6_saysTwoThings q1010 (by decide) c43 rfl rfl ⟨(Nat.le_of_ble_eq_true rfl), (Nat.le_of_ble_eq_true rfl)⟩ ⟨(Nat.le_of_ble_eq_true rfl), (Nat.le_of_ble_eq_true rfl)⟩ (Nat.le_of_ble_eq_true rfl) rfl dX2_arguedThings_43 (fun r40 S40 H locs hp40 hQ _ => ?_)
          obtain ⟨rfl, b40⟩ := hp40
          refine lv_if_eq (tgt := 55) hx hb dX2_arguedThings_46 (by decide) (fun k44 => ?_) (fun k44 => ?_)
          · have h45 := ib_eq k44
            have b46 : Bd r40 (0) (0) := ⟨(b40).1, ((rf_eq b40 (by decide : Bd 0 (0) (0)) h45).1).2⟩
            obtain ⟨z47, e48⟩ : ∃ z : Int32, z = x4_2 + 1 := ⟨_, rfl⟩
            have t49 := ib_add e48 b19 (by decide : Bd 1 (1) (1)) (by decide) (by decide)
            have b50 : Bd z47 (1) (8) := ib_addb t49 b19 (by decide : Bd 1 (1) (1))
            have t49 : z47.toInt = x4_2.toInt + 1 := fold_add t49 rfl (by decide)
            refine lv_iinc (v := z47) (lv' := [(2, .int z47), (1, .int x4_1), (0, .ref (ad 95))]) hx hb dX2_arguedThings_55 hl (k := 0) rfl (by rw [e48]; rfl) (by decide) rfl (fun ls hl => ?_)
            refine lv_goto (tgt := 4) hx hb dX2_arguedThings_58 (by decide) ?_
            exact ih4 _ _ _ x4_1 z47 (ib_wk b50 (by decide) (by decide)) (by omega) hQ (lv_sub hl [0, 1, 2] rfl)
          · have h51 := ib_ne k44
            have b52 : Bd r40 (1) (1) := rf_nlo b40 (by decide : Bd 0 (0) (0)) h51
            refine lv_iload_n hx hb dX2_arguedThings_49 rfl (lv_at hl 1 rfl) ?_
            refine lv_iconst (v := 1) hx hb dX2_arguedThings_50 (by decide) ?_
            refine lv_iload_n hx hb dX2_arguedThings_51 rfl (lv_at hl 0 rfl) ?_
            refine lv_ishl hx hb dX2_arguedThings_52 ?_
            refine lv_topi (fun z53 e54 => ?_)
            refine lv_ior hx hb dX2_arguedThings_53 ?_
            refine lv_topi (fun z55 e56 => ?_)
            refine lv_istore_n (lv' := [(1, .int z55), (2, .int x4_2), (0, .ref (ad 95))]) hx hb dX2_arguedThings_54 rfl hl (by decide) rfl (fun ls hl => ?_)
            obtain ⟨z57, e58⟩ : ∃ z : Int32, z = x4_2 + 1 := ⟨_, rfl⟩
            have t59 := ib_add e58 b19 (by decide : Bd 1 (1) (1)) (by decide) (by decide)
            have b60 : Bd z57 (1) (8) := ib_addb t59 b19 (by decide : Bd 1 (1) (1))
            have t59 : z57.toInt = x4_2.toInt + 1 := fold_add t59 rfl (by decide)
            refine lv_iinc (v := z57) (lv' := [(2, .int z57), (1, .int z55), (0, .ref (ad 95))]) hx hb dX2_arguedThings_55 hl (k := 1) rfl (by rw [e58]; rfl) (by decide) rfl (fun ls hl => ?_)
            refine lv_goto (tgt := 4) hx hb dX2_arguedThings_58 (by decide) ?_
            exact ih4 _ _ _ z55 z57 (ib_wk b60 (by decide) (by decide)) (by omega) hQ (lv_sub hl [0, 1, 2] rfl)
  obtain ⟨n4, hn4⟩ := fu_n (8)
  exact loop4 n4 _ _ _ 0 0 (ib_wk (by decide : Bd 0 (0) (0)) (by decide) (by decide)) (by have : (0 : Int32).toInt = 0 := (by decide); omega) hQ (lv_sub hl [0, 1, 2] rfl)
set_option maxHeartbeats 4000000 in
set_option maxRecDepth 100000 in
theorem gX2_thingsLeftToSitters_95 (l : Launch) (g : GG) (ad : Nat → Nat) (hD : Dj ad 122) (S : SS) (hI : InvX g ad S) : Met l yX2_thingsLeftToSitters (wG (.code yX2_thingsLeftToSitters cX2_thingsLeftToSitters 3 (some .int))) (Rm 2) (XPre g ad 122 S [.ref (ad 95)]) (va_Qi (fun _ S' => S = S') (QB g ad 122) (FA ad 122)) 0 0 (FA ad 122) := by
  refine xmet cX2_thingsLeftToSitters "EbbWreck$Drift" (by decide) rfl (Nat.le_of_ble_eq_true rfl) (fun p e s m below meth c E hr hlk hml hQ ls hl => ?_)
  have hx := E.1
  have hb := E.2.1
  have hs : Sp ad 122 (FA ad 122) := Sp.fa hD
  have hl : lv_has ls 3 [(0, .ref (ad 95))] := hl
  refine lv_iconst (v := 0) hx hb dX2_thingsLeftToSitters_0 (by decide) ?_
  refine lv_istore_n (lv' := [(1, .int 0), (0, .ref (ad 95))]) hx hb dX2_thingsLeftToSitters_1 rfl hl (by decide) rfl (fun ls hl => ?_)
  refine lv_iconst (v := 0) hx hb dX2_thingsLeftToSitters_2 (by decide) ?_
  refine lv_istore_n (lv' := [(2, .int 0), (1, .int 0), (0, .ref (ad 95))]) hx hb dX2_thingsLeftToSitters_3 rfl hl (by decide) rfl (fun ls hl => ?_)
  have loop4 : ∀ (n : Nat) (H : Heap) (locs : List Loc) (ls : Array Slot) (x4_1 : Int32) (x4_2 : Int32), Bd x4_2 (0) (8) → (-1) * x4_2.toInt + 8 < ((n : Nat) : Int) → Hp g ad 122 S (FA ad 122) s.heap H locs → lv_has ls 3 [(2, .int x4_2), (1, .int x4_1), (0, .ref (ad 95))] → W p l e (Rm 2) s m [.ref (ad 95)].toArray below meth c H locs 0 0 (MQ below (va_Qi (fun _ S' => S = S') (QB g ad 122) (FA ad 122)) [.ref (ad 95)].toArray s 0 0 (FA ad 122)) (F0 m 4 ls []) := by
    intro n
    induction n with
    | zero => intro H locs ls x4_1 x4_2 Bx4_2 hn4_ hQ hl; exfalso; have := (Bx4_2).2; omega
    | succ n4_ ih4 =>
      intro H locs ls x4_1 x4_2 Bx4_2 hn4_ hQ hl
      refine lv_iload_n hx hb dX2_thingsLeftToSitters_4 rfl (lv_at hl 0 rfl) ?_
      refine lv_aload_n hx hb dX2_thingsLeftToSitters_5 rfl (lv_at hl 2 rfl) ?_
      obtain ⟨v1, v2, c4, b3⟩ := invX_95 hI
      have c4 : S 95 = .inr (2, [.ref (ad 2), .ref (ad 96), .ref (ad 97), .ref (ad 98), .ref (ad 99), .ref (ad 100), .ref (ad 101), .int v1, .int v2]) := c4
      refine xget E hQ 95 (by decide) c4 rfl 0 (by decide) q379 rfl dX2_thingsLeftToSitters_6 ?_
      obtain ⟨v5, v7, v9, v10, v11, v13, c15, b6, b8, b12, b14⟩ := invX_2 hI
      have c15 : S 2 = .inr (1, [.int v5, .int v7, .int v9, .ref (ad 3), .ref (ad 5), .ref (ad 6), .int v10, .int v11, .ref (ad 7), .ref (ad 8), .ref (ad 9), .ref (ad 10), .int v13, .ref (ad 15), .ref (ad 16)]) := c15
      refine xget E hQ 2 (by decide) c15 rfl 7 (by decide) q268 rfl dX2_thingsLeftToSitters_9 ?_
      refine lv_icmp_ge (tgt := 68) hx hb dX2_thingsLeftToSitters_12 (by decide) (fun k16 => ?_) (fun k16 => ?_)
      · have h17 := ib_le k16
        refine lv_iload_n hx hb dX2_thingsLeftToSitters_68 rfl (lv_at hl 1 rfl) ?_
        exact xri E hr hlk hQ (rfl) dX2_thingsLeftToSitters_69
      · have h18 := ib_nle k16
        have b19 : Bd x4_2 (0) (7) := ⟨(Bx4_2).1, ((rf_lt Bx4_2 b12 h18).1).2⟩
        have b20 : Bd v11 (1) (8) := ⟨((rf_lt Bx4_2 b12 h18).2).1, (b12).2⟩
        refine lv_aload_n hx hb dX2_thingsLeftToSitters_15 rfl (lv_at hl 2 rfl) ?_
        refine xget E hQ 95 (by decide) c4 rfl 1 (by decide) q380 rfl dX2_thingsLeftToSitters_16 ?_
        refine lv_iload_n hx hb dX2_thingsLeftToSitters_19 rfl (lv_at hl 0 rfl) ?_
        obtain ⟨f21, c22⟩ := invX_96 hI
        refine xiald E hQ 96 (by decide) c22 (ib_in b19 (by decide) (by decide)) dX2_thingsLeftToSitters_20 ?_
        refine lv_topi (fun z24 e25 => ?_)
        refine lv_iconst (v := (-1)) hx hb dX2_thingsLeftToSitters_21 (by decide) ?_
        refine lv_icmp_eq (tgt := 62) hx hb dX2_thingsLeftToSitters_22 (by decide) (fun k26 => ?_) (fun k26 => ?_)
        · have h27 := ib_eq k26
          have b28 : Bd z24 (-1) (-1) := ⟨((rf_eq (ib_full z24) (by decide : Bd (-1) (-1) (-1)) h27).1).1, ((rf_eq (ib_full z24) (by decide : Bd (-1) (-1) (-1)) h27).1).2⟩
          obtain ⟨z29, e30⟩ : ∃ z : Int32, z = x4_2 + 1 := ⟨_, rfl⟩
          have t31 := ib_add e30 b19 (by decide : Bd 1 (1) (1)) (by decide) (by decide)
          have b32 : Bd z29 (1) (8) := ib_addb t31 b19 (by decide : Bd 1 (1) (1))
          have t31 : z29.toInt = x4_2.toInt + 1 := fold_add t31 rfl (by decide)
          refine lv_iinc (v := z29) (lv' := [(2, .int z29), (1, .int x4_1), (0, .ref (ad 95))]) hx hb dX2_thingsLeftToSitters_62 hl (k := 0) rfl (by rw [e30]; rfl) (by decide) rfl (fun ls hl => ?_)
          refine lv_goto (tgt := 4) hx hb dX2_thingsLeftToSitters_65 (by decide) ?_
          exact ih4 _ _ _ x4_1 z29 (ib_wk b32 (by decide) (by decide)) (by omega) hQ (lv_sub hl [0, 1, 2] rfl)
        · have h33 := ib_ne k26
          refine lv_aload_n hx hb dX2_thingsLeftToSitters_25 rfl (lv_at hl 2 rfl) ?_
          refine lv_iload_n hx hb dX2_thingsLeftToSitters_26 rfl (lv_at hl 0 rfl) ?_
          refine xcVi E hs hQ hml hl.1 95 (gX2_upPhase_95 l g ad hD S hI x4_2 b19) mX2_upPhase q1005 (by decide) c4 rfl rfl ⟨(Nat.le_of_ble_eq_true rfl), (Nat.le_of_ble_eq_true rfl)⟩ ⟨(Nat.le_of_ble_eq_true rfl), (Nat.le_of_ble_eq_true rfl)⟩ (Nat.le_of_ble_eq_true rfl) rfl dX2_thingsLeftToSitters_27 (fun r34 S34 H locs hp34 hQ _ => ?_)
          subst hp34
          refine lv_iconst (v := 1) hx hb dX2_thingsLeftToSitters_30 (by decide) ?_
          refine lv_icmp_ne (tgt := 62) hx hb dX2_thingsLeftToSitters_31 (by decide) (fun k35 => ?_) (fun k35 => ?_)
          · have h36 := ib_ne k35
            obtain ⟨z37, e38⟩ : ∃ z : Int32, z = x4_2 + 1 := ⟨_, rfl⟩
            have t39 := ib_add e38 b19 (by decide : Bd 1 (1) (1)) (by decide) (by decide)
            have b40 : Bd z37 (1) (8) := ib_addb t39 b19 (by decide : Bd 1 (1) (1))
            have t39 : z37.toInt = x4_2.toInt + 1 := fold_add t39 rfl (by decide)
            refine lv_iinc (v := z37) (lv' := [(2, .int z37), (1, .int x4_1), (0, .ref (ad 95))]) hx hb dX2_thingsLeftToSitters_62 hl (k := 0) rfl (by rw [e38]; rfl) (by decide) rfl (fun ls hl => ?_)
            refine lv_goto (tgt := 4) hx hb dX2_thingsLeftToSitters_65 (by decide) ?_
            exact ih4 _ _ _ x4_1 z37 (ib_wk b40 (by decide) (by decide)) (by omega) hQ (lv_sub hl [0, 1, 2] rfl)
          · have h41 := ib_eq k35
            have b42 : Bd r34 (1) (1) := ⟨((rf_eq (ib_full r34) (by decide : Bd 1 (1) (1)) h41).1).1, ((rf_eq (ib_full r34) (by decide : Bd 1 (1) (1)) h41).1).2⟩
            refine lv_aload_n hx hb dX2_thingsLeftToSitters_34 rfl (lv_at hl 2 rfl) ?_
            refine xget E hQ 95 (by decide) c4 rfl 0 (by decide) q379 rfl dX2_thingsLeftToSitters_35 ?_
            refine xget E hQ 2 (by decide) c15 rfl 11 (by decide) q291 rfl dX2_thingsLeftToSitters_38 ?_
            refine lv_aload_n hx hb dX2_thingsLeftToSitters_41 rfl (lv_at hl 2 rfl) ?_
            refine xget E hQ 95 (by decide) c4 rfl 2 (by decide) q382 rfl dX2_thingsLeftToSitters_42 ?_
            refine lv_iload_n hx hb dX2_thingsLeftToSitters_45 rfl (lv_at hl 0 rfl) ?_
            obtain ⟨f43, c44⟩ := invX_97 hI
            refine xiald E hQ 97 (by decide) c44 (ib_in b19 (by decide) (by decide)) dX2_thingsLeftToSitters_46 ?_
            refine lv_topi (fun z46 e47 => ?_)
            refine lv_iconst (v := 1) hx hb dX2_thingsLeftToSitters_47 (by decide) ?_
            refine lv_iconst (v := (-1)) hx hb dX2_thingsLeftToSitters_48 (by decide) ?_
            obtain ⟨v49, c51, b50⟩ := invX_10 hI
            have c51 : S 10 = .inr (6, [.int v49, .ref (ad 11), .ref (ad 12), .ref (ad 13), .ref (ad 14)]) := c51
            refine xcVi E hs hQ hml hl.1 10 (gX6_decider_10 l g ad hD S hI z46 1 (-1)) mX6_decider q1285 (by decide) c51 rfl rfl ⟨(Nat.le_of_ble_eq_true rfl), (Nat.le_of_ble_eq_true rfl)⟩ ⟨(Nat.le_of_ble_eq_true rfl), (Nat.le_of_ble_eq_true rfl)⟩ (Nat.le_of_ble_eq_true rfl) rfl dX2_thingsLeftToSitters_49 (fun r48 S48 H locs hp48 hQ _ => ?_)
            obtain ⟨rfl, b48⟩ := hp48
            refine lv_iconst (v := (-1)) hx hb dX2_thingsLeftToSitters_52 (by decide) ?_
            refine lv_icmp_ne (tgt := 62) hx hb dX2_thingsLeftToSitters_53 (by decide) (fun k52 => ?_) (fun k52 => ?_)
            · have h53 := ib_ne k52
              have b54 : Bd r48 (0) (5) := rf_nlo b48 (by decide : Bd (-1) (-1) (-1)) h53
              obtain ⟨z55, e56⟩ : ∃ z : Int32, z = x4_2 + 1 := ⟨_, rfl⟩
              have t57 := ib_add e56 b19 (by decide : Bd 1 (1) (1)) (by decide) (by decide)
              have b58 : Bd z55 (1) (8) := ib_addb t57 b19 (by decide : Bd 1 (1) (1))
              have t57 : z55.toInt = x4_2.toInt + 1 := fold_add t57 rfl (by decide)
              refine lv_iinc (v := z55) (lv' := [(2, .int z55), (1, .int x4_1), (0, .ref (ad 95))]) hx hb dX2_thingsLeftToSitters_62 hl (k := 0) rfl (by rw [e56]; rfl) (by decide) rfl (fun ls hl => ?_)
              refine lv_goto (tgt := 4) hx hb dX2_thingsLeftToSitters_65 (by decide) ?_
              exact ih4 _ _ _ x4_1 z55 (ib_wk b58 (by decide) (by decide)) (by omega) hQ (lv_sub hl [0, 1, 2] rfl)
            · have h59 := ib_eq k52
              have b60 : Bd r48 (-1) (-1) := ⟨(b48).1, ((rf_eq b48 (by decide : Bd (-1) (-1) (-1)) h59).1).2⟩
              refine lv_iload_n hx hb dX2_thingsLeftToSitters_56 rfl (lv_at hl 1 rfl) ?_
              refine lv_iconst (v := 1) hx hb dX2_thingsLeftToSitters_57 (by decide) ?_
              refine lv_iload_n hx hb dX2_thingsLeftToSitters_58 rfl (lv_at hl 0 rfl) ?_
              refine lv_ishl hx hb dX2_thingsLeftToSitters_59 ?_
              refine lv_topi (fun z61 e62 => ?_)
              refine lv_ior hx hb dX2_thingsLeftToSitters_60 ?_
              refine lv_topi (fun z63 e64 => ?_)
              refine lv_istore_n (lv' := [(1, .int z63), (2, .int x4_2), (0, .ref (ad 95))]) hx hb dX2_thingsLeftToSitters_61 rfl hl (by decide) rfl (fun ls hl => ?_)
              obtain ⟨z65, e66⟩ : ∃ z : Int32, z = x4_2 + 1 := ⟨_, rfl⟩
              have t67 := ib_add e66 b19 (by decide : Bd 1 (1) (1)) (by decide) (by decide)
              have b68 : Bd z65 (1) (8) := ib_addb t67 b19 (by decide : Bd 1 (1) (1))
              have t67 : z65.toInt = x4_2.toInt + 1 := fold_add t67 rfl (by decide)
              refine lv_iinc (v := z65) (lv' := [(2, .int z65), (1, .int z63), (0, .ref (ad 95))]) hx hb dX2_thingsLeftToSitters_62 hl (k := 1) rfl (by rw [e66]; rfl) (by decide) rfl (fun ls hl => ?_)
              refine lv_goto (tgt := 4) hx hb dX2_thingsLeftToSitters_65 (by decide) ?_
              exact ih4 _ _ _ z63 z65 (ib_wk b68 (by decide) (by decide)) (by omega) hQ (lv_sub hl [0, 1, 2] rfl)
  obtain ⟨n4, hn4⟩ := fu_n (8)
  exact loop4 n4 _ _ _ 0 0 (ib_wk (by decide : Bd 0 (0) (0)) (by decide) (by decide)) (by have : (0 : Int32).toInt = 0 := (by decide); omega) hQ (lv_sub hl [0, 1, 2] rfl)
set_option maxHeartbeats 4000000 in
set_option maxRecDepth 100000 in
theorem gX4_placeIn (l : Launch) (g : GG) (ad : Nat → Nat) (hD : Dj ad 122) (S : SS) (hI : InvX g ad S) (a1 : Int32) (a2 : Int32) (ba1 : Bd a1 (0) (11)) (ba2 : Bd a2 (0) (100)) : Met l yX4_placeIn (wG (.code yX4_placeIn cX4_placeIn 2 (some .int))) (Rm 0) (XPre g ad 122 S [.int a1, .int a2]) (va_Qi (fun r S' => S = S' ∧ Bd r (0) (1211)) (QB g ad 122) (FA ad 122)) 0 0 (FA ad 122) := by
  refine xmet cX4_placeIn "EbbWreck$Pushing" (by decide) rfl (Nat.le_of_ble_eq_true rfl) (fun p e s m below meth c E hr hlk hml hQ ls hl => ?_)
  have hx := E.1
  have hb := E.2.1
  have hs : Sp ad 122 (FA ad 122) := Sp.fa hD
  have hl : lv_has ls 2 [(0, .int a1), (1, .int a2)] := hl
  refine lv_iload_n hx hb dX4_placeIn_0 rfl (lv_at hl 1 rfl) ?_
  refine lv_bipush (v := 12) hx hb dX4_placeIn_1 (by decide) ?_
  refine lv_imul hx hb dX4_placeIn_3 ?_
  refine lv_topi (fun z1 e2 => ?_)
  have t3 := ib_mulc (q := 12) e2 (by decide) (by decide) ba2 (by decide) (by decide)
  have b4 : Bd z1 (0) (1200) := ib_mulb t3 (by decide) ba2
  refine lv_iload_n hx hb dX4_placeIn_4 rfl (lv_at hl 0 rfl) ?_
  refine lv_iadd hx hb dX4_placeIn_5 ?_
  refine lv_topi (fun z5 e6 => ?_)
  have t7 := ib_add e6 b4 ba1 (by decide) (by decide)
  have b8 : Bd z5 (0) (1211) := ib_addb t7 b4 ba1
  exact xri E hr hlk hQ (⟨rfl, b8⟩) dX4_placeIn_6
set_option maxHeartbeats 4000000 in
set_option maxRecDepth 100000 in
theorem gX4_costBy_102 (l : Launch) (g : GG) (ad : Nat → Nat) (hD : Dj ad 122) (S : SS) (hI : InvX g ad S) (a1 : Int32) (a2 : Int32) (a3 : Int32) (ba1 : Bd a1 (0) (11)) (ba3 : Bd a3 (0) (99)) (hq1 : 0 ≤ fld (S 2) 1 + (-1)) : Met l yX4_costBy (wG (.code yX4_costBy cX4_costBy 7 (some .int))) (Rm 3) (XPre g ad 122 S [.ref (ad 102), .int a1, .int a2, .int a3]) (va_Qi (fun _ S' => S = S') (QB g ad 122) (FA ad 122)) 0 0 (FA ad 122) := by
  refine xmet cX4_costBy "EbbWreck$Pushing" (by decide) rfl (Nat.le_of_ble_eq_true rfl) (fun p e s m below meth c E hr hlk hml hQ ls hl => ?_)
  have hx := E.1
  have hb := E.2.1
  have hs : Sp ad 122 (FA ad 122) := Sp.fa hD
  have hl : lv_has ls 7 [(0, .ref (ad 102)), (1, .int a1), (2, .int a2), (3, .int a3)] := hl
  obtain ⟨v1, v3, v5, v6, v7, v9, c11, b2, b4, b8, b10⟩ := invX_2 hI
  have c11 : S 2 = .inr (1, [.int v1, .int v3, .int v5, .ref (ad 3), .ref (ad 5), .ref (ad 6), .int v6, .int v7, .ref (ad 7), .ref (ad 8), .ref (ad 9), .ref (ad 10), .int v9, .ref (ad 15), .ref (ad 16)]) := c11
  have q12 : fld (S 2) 1 = v3.toInt := fld_of c11 rfl
  have b13 : Bd v3 (1) (12) := ⟨by omega, by omega⟩
  refine lv_aload_n hx hb dX4_costBy_0 rfl (lv_at hl 0 rfl) ?_
  obtain ⟨v14, v15, c17, b16⟩ := invX_102 hI
  have c17 : S 102 = .inr (4, [.ref (ad 2), .ref (ad 103), .int v14, .int v15]) := c17
  refine xget E hQ 102 (by decide) c17 rfl 0 (by decide) q416 rfl dX4_costBy_1 ?_
  refine lv_iload_n hx hb dX4_costBy_4 rfl (lv_at hl 1 rfl) ?_
  refine lv_iload_n hx hb dX4_costBy_5 rfl (lv_at hl 2 rfl) ?_
  refine lv_iload_n hx hb dX4_costBy_6 rfl (lv_at hl 3 rfl) ?_
  refine xcVi E hs hQ hml hl.1 2 (gX1_pushedAndDrifted_2 l g ad hD S hI a1 a2 a3 (by omega)) mX1_pushedAndDrifted q1062 (by decide) c11 rfl rfl ⟨(Nat.le_of_ble_eq_true rfl), (Nat.le_of_ble_eq_true rfl)⟩ ⟨(Nat.le_of_ble_eq_true rfl), (Nat.le_of_ble_eq_true rfl)⟩ (Nat.le_of_ble_eq_true rfl) rfl dX4_costBy_7 (fun r18 S18 H locs hp18 hQ _ => ?_)
  obtain ⟨rfl, b18⟩ := hp18
  refine lv_istore (lv' := [(4, .int r18), (0, .ref (ad 102)), (1, .int a1), (2, .int a2), (3, .int a3)]) hx hb dX4_costBy_10 hl (by decide) rfl (fun ls hl => ?_)
  refine lv_iload_n hx hb dX4_costBy_12 rfl (lv_at hl 3 rfl) ?_
  refine lv_if_ne (tgt := 20) hx hb dX4_costBy_13 (by decide) (fun k19 => ?_) (fun k19 => ?_)
  · have h20 := ib_ne k19
    refine lv_iconst (v := 1) hx hb dX4_costBy_20 (by decide) ?_
    refine lv_istore (lv' := [(5, .int 1), (4, .int r18), (0, .ref (ad 102)), (1, .int a1), (2, .int a2), (3, .int a3)]) hx hb dX4_costBy_21 hl (by decide) rfl (fun ls hl => ?_)
    refine lv_aload_n hx hb dX4_costBy_23 rfl (lv_at hl 2 rfl) ?_
    refine xget E hQ 102 (by decide) c17 rfl 0 (by decide) q416 rfl dX4_costBy_24 ?_
    refine lv_iload hx hb dX4_costBy_27 (lv_at hl 1 rfl) ?_
    refine xcVi E hs hQ hml hl.1 2 (gX1_isBeach_2 l g ad hD S hI r18) mX1_isBeach q1063 (by decide) c11 rfl rfl ⟨(Nat.le_of_ble_eq_true rfl), (Nat.le_of_ble_eq_true rfl)⟩ ⟨(Nat.le_of_ble_eq_true rfl), (Nat.le_of_ble_eq_true rfl)⟩ (Nat.le_of_ble_eq_true rfl) rfl dX4_costBy_29 (fun r21 S21 H locs hp21 hQ _ => ?_)
    obtain ⟨rfl, b21⟩ := hp21
    refine lv_if_ne (tgt := 52) hx hb dX4_costBy_32 (by decide) (fun k22 => ?_) (fun k22 => ?_)
    · have h23 := ib_ne k22
      have b24 : Bd r21 (1) (1) := rf_nlo b21 (by decide : Bd 0 (0) (0)) h23
      refine lv_aload_n hx hb dX4_costBy_52 rfl (lv_at hl 2 rfl) ?_
      refine xget E hQ 102 (by decide) c17 rfl 0 (by decide) q416 rfl dX4_costBy_53 ?_
      refine lv_iload hx hb dX4_costBy_56 (lv_at hl 1 rfl) ?_
      refine lv_iload_n hx hb dX4_costBy_58 rfl (lv_at hl 5 rfl) ?_
      refine lv_iconst (v := 1) hx hb dX4_costBy_59 (by decide) ?_
      refine lv_iadd hx hb dX4_costBy_60 ?_
      refine lv_topi (fun z25 e26 => ?_)
      have t27 := ib_add e26 ba3 (by decide : Bd 1 (1) (1)) (by decide) (by decide)
      have b28 : Bd z25 (1) (100) := ib_addb t27 ba3 (by decide : Bd 1 (1) (1))
      have t27 : z25.toInt = a3.toInt + 1 := fold_add t27 rfl (by decide)
      refine lv_iconst (v := (-1)) hx hb dX4_costBy_61 (by decide) ?_
      refine xcVi E hs hQ hml hl.1 2 (gX1_ownerIn_2 l g ad hD S hI r18 z25 (-1)) mX1_ownerIn q1067 (by decide) c11 rfl rfl ⟨(Nat.le_of_ble_eq_true rfl), (Nat.le_of_ble_eq_true rfl)⟩ ⟨(Nat.le_of_ble_eq_true rfl), (Nat.le_of_ble_eq_true rfl)⟩ (Nat.le_of_ble_eq_true rfl) rfl dX4_costBy_62 (fun r29 S29 H locs hp29 hQ _ => ?_)
      subst hp29
      refine lv_aload_n hx hb dX4_costBy_65 rfl (lv_at hl 2 rfl) ?_
      refine xget E hQ 102 (by decide) c17 rfl 2 (by decide) q418 rfl dX4_costBy_66 ?_
      refine lv_icmp_ne (tgt := 76) hx hb dX4_costBy_69 (by decide) (fun k30 => ?_) (fun k30 => ?_)
      · have h31 := ib_ne k30
        refine lv_iconst (v := 0) hx hb dX4_costBy_76 (by decide) ?_
        refine lv_istore (lv' := [(6, .int 0), (5, .int 1), (4, .int r18), (0, .ref (ad 102)), (1, .int a1), (2, .int a2), (3, .int a3)]) hx hb dX4_costBy_77 hl (by decide) rfl (fun ls hl => ?_)
        refine lv_iload hx hb dX4_costBy_79 (lv_at hl 0 rfl) ?_
        refine lv_aload_n hx hb dX4_costBy_81 rfl (lv_at hl 3 rfl) ?_
        refine xget E hQ 102 (by decide) c17 rfl 3 (by decide) q419 rfl dX4_costBy_82 ?_
        refine lv_icmp_ne (tgt := 93) hx hb dX4_costBy_85 (by decide) (fun k32 => ?_) (fun k32 => ?_)
        · have h33 := ib_ne k32
          have b34 : Bd v15 (1) (1) := rf_nlo b16 (by decide : Bd 0 (0) (0)) (Ne.symm h33)
          refine lv_iload hx hb dX4_costBy_93 (lv_at hl 1 rfl) ?_
          exact xri E hr hlk hQ (rfl) dX4_costBy_95
        · have h35 := ib_eq k32
          have b36 : Bd v15 (0) (0) := ⟨(b16).1, ((rf_eq (by decide : Bd 0 (0) (0)) b16 h35).2).2⟩
          refine lv_ldc (v := 1000000) hx hb E.2.2.1 (E.2.2.2.1 _ q1056) dX4_costBy_88 ?_
          refine lv_goto (tgt := 95) hx hb dX4_costBy_90 (by decide) ?_
          exact xri E hr hlk hQ (rfl) dX4_costBy_95
      · have h37 := ib_eq k30
        refine lv_iconst (v := 1) hx hb dX4_costBy_72 (by decide) ?_
        refine lv_goto (tgt := 77) hx hb dX4_costBy_73 (by decide) ?_
        refine lv_istore (lv' := [(6, .int 1), (5, .int 1), (4, .int r18), (0, .ref (ad 102)), (1, .int a1), (2, .int a2), (3, .int a3)]) hx hb dX4_costBy_77 hl (by decide) rfl (fun ls hl => ?_)
        refine lv_iload hx hb dX4_costBy_79 (lv_at hl 0 rfl) ?_
        refine lv_aload_n hx hb dX4_costBy_81 rfl (lv_at hl 3 rfl) ?_
        refine xget E hQ 102 (by decide) c17 rfl 3 (by decide) q419 rfl dX4_costBy_82 ?_
        refine lv_icmp_ne (tgt := 93) hx hb dX4_costBy_85 (by decide) (fun k38 => ?_) (fun k38 => ?_)
        · have h39 := ib_ne k38
          have b40 : Bd v15 (0) (0) := rf_nhi b16 (by decide : Bd 1 (1) (1)) (Ne.symm h39)
          refine lv_iload hx hb dX4_costBy_93 (lv_at hl 1 rfl) ?_
          exact xri E hr hlk hQ (rfl) dX4_costBy_95
        · have h41 := ib_eq k38
          have b42 : Bd v15 (1) (1) := ⟨((rf_eq (by decide : Bd 1 (1) (1)) b16 h41).2).1, (b16).2⟩
          refine lv_ldc (v := 1000000) hx hb E.2.2.1 (E.2.2.2.1 _ q1056) dX4_costBy_88 ?_
          refine lv_goto (tgt := 95) hx hb dX4_costBy_90 (by decide) ?_
          exact xri E hr hlk hQ (rfl) dX4_costBy_95
    · have h43 := ib_eq k22
      have b44 : Bd r21 (0) (0) := ⟨(b21).1, ((rf_eq b21 (by decide : Bd 0 (0) (0)) h43).1).2⟩
      refine lv_aload_n hx hb dX4_costBy_35 rfl (lv_at hl 2 rfl) ?_
      refine xget E hQ 102 (by decide) c17 rfl 1 (by decide) q417 rfl dX4_costBy_36 ?_
      refine lv_iload hx hb dX4_costBy_39 (lv_at hl 1 rfl) ?_
      refine lv_iload_n hx hb dX4_costBy_41 rfl (lv_at hl 5 rfl) ?_
      refine lv_iconst (v := 1) hx hb dX4_costBy_42 (by decide) ?_
      refine lv_iadd hx hb dX4_costBy_43 ?_
      refine lv_topi (fun z45 e46 => ?_)
      have t47 := ib_add e46 ba3 (by decide : Bd 1 (1) (1)) (by decide) (by decide)
      have b48 : Bd z45 (1) (100) := ib_addb t47 ba3 (by decide : Bd 1 (1) (1))
      have t47 : z45.toInt = a3.toInt + 1 := fold_add t47 rfl (by decide)
      refine xcSi E hs hQ hml hl.1 (gX4_placeIn l g ad hD S hI r18 z45 b18 (ib_wk b48 (by decide) (by decide))) mX4_placeIn q1064 rfl ⟨(Nat.le_of_ble_eq_true rfl), (Nat.le_of_ble_eq_true rfl)⟩ ⟨(Nat.le_of_ble_eq_true rfl), (Nat.le_of_ble_eq_true rfl)⟩ (Nat.le_of_ble_eq_true rfl) rfl dX4_costBy_44 (fun r49 S49 H locs hp49 hQ => ?_)
      obtain ⟨rfl, b49⟩ := hp49
      obtain ⟨f50, c51⟩ := invX_103 hI
      refine xiald E hQ 103 (by decide) c51 (ib_in b49 (by decide) (by decide)) dX4_costBy_47 ?_
      refine lv_topi (fun z53 e54 => ?_)
      refine lv_iload hx hb dX4_costBy_48 (lv_at hl 0 rfl) ?_
      refine lv_iadd hx hb dX4_costBy_50 ?_
      refine lv_topi (fun z55 e56 => ?_)
      exact xri E hr hlk hQ (rfl) dX4_costBy_51
  · have h57 := ib_eq k19
    have b58 : Bd a2 (0) (0) := ⟨((rf_eq (ib_full a2) (by decide : Bd 0 (0) (0)) h57).1).1, ((rf_eq (ib_full a2) (by decide : Bd 0 (0) (0)) h57).1).2⟩
    refine lv_iconst (v := 0) hx hb dX4_costBy_16 (by decide) ?_
    refine lv_goto (tgt := 21) hx hb dX4_costBy_17 (by decide) ?_
    refine lv_istore (lv' := [(5, .int 0), (4, .int r18), (0, .ref (ad 102)), (1, .int a1), (2, .int a2), (3, .int a3)]) hx hb dX4_costBy_21 hl (by decide) rfl (fun ls hl => ?_)
    refine lv_aload_n hx hb dX4_costBy_23 rfl (lv_at hl 2 rfl) ?_
    refine xget E hQ 102 (by decide) c17 rfl 0 (by decide) q416 rfl dX4_costBy_24 ?_
    refine lv_iload hx hb dX4_costBy_27 (lv_at hl 1 rfl) ?_
    refine xcVi E hs hQ hml hl.1 2 (gX1_isBeach_2 l g ad hD S hI r18) mX1_isBeach q1063 (by decide) c11 rfl rfl ⟨(Nat.le_of_ble_eq_true rfl), (Nat.le_of_ble_eq_true rfl)⟩ ⟨(Nat.le_of_ble_eq_true rfl), (Nat.le_of_ble_eq_true rfl)⟩ (Nat.le_of_ble_eq_true rfl) rfl dX4_costBy_29 (fun r59 S59 H locs hp59 hQ _ => ?_)
    obtain ⟨rfl, b59⟩ := hp59
    refine lv_if_ne (tgt := 52) hx hb dX4_costBy_32 (by decide) (fun k60 => ?_) (fun k60 => ?_)
    · have h61 := ib_ne k60
      have b62 : Bd r59 (1) (1) := rf_nlo b59 (by decide : Bd 0 (0) (0)) h61
      refine lv_aload_n hx hb dX4_costBy_52 rfl (lv_at hl 2 rfl) ?_
      refine xget E hQ 102 (by decide) c17 rfl 0 (by decide) q416 rfl dX4_costBy_53 ?_
      refine lv_iload hx hb dX4_costBy_56 (lv_at hl 1 rfl) ?_
      refine lv_iload_n hx hb dX4_costBy_58 rfl (lv_at hl 5 rfl) ?_
      refine lv_iconst (v := 1) hx hb dX4_costBy_59 (by decide) ?_
      refine lv_iadd hx hb dX4_costBy_60 ?_
      refine lv_topi (fun z63 e64 => ?_)
      have t65 := ib_add e64 ba3 (by decide : Bd 1 (1) (1)) (by decide) (by decide)
      have b66 : Bd z63 (1) (100) := ib_addb t65 ba3 (by decide : Bd 1 (1) (1))
      have t65 : z63.toInt = a3.toInt + 1 := fold_add t65 rfl (by decide)
      refine lv_iconst (v := (-1)) hx hb dX4_costBy_61 (by decide) ?_
      refine xcVi E hs hQ hml hl.1 2 (gX1_ownerIn_2 l g ad hD S hI r18 z63 (-1)) mX1_ownerIn q1067 (by decide) c11 rfl rfl ⟨(Nat.le_of_ble_eq_true rfl), (Nat.le_of_ble_eq_true rfl)⟩ ⟨(Nat.le_of_ble_eq_true rfl), (Nat.le_of_ble_eq_true rfl)⟩ (Nat.le_of_ble_eq_true rfl) rfl dX4_costBy_62 (fun r67 S67 H locs hp67 hQ _ => ?_)
      subst hp67
      refine lv_aload_n hx hb dX4_costBy_65 rfl (lv_at hl 2 rfl) ?_
      refine xget E hQ 102 (by decide) c17 rfl 2 (by decide) q418 rfl dX4_costBy_66 ?_
      refine lv_icmp_ne (tgt := 76) hx hb dX4_costBy_69 (by decide) (fun k68 => ?_) (fun k68 => ?_)
      · have h69 := ib_ne k68
        refine lv_iconst (v := 0) hx hb dX4_costBy_76 (by decide) ?_
        refine lv_istore (lv' := [(6, .int 0), (5, .int 0), (4, .int r18), (0, .ref (ad 102)), (1, .int a1), (2, .int a2), (3, .int a3)]) hx hb dX4_costBy_77 hl (by decide) rfl (fun ls hl => ?_)
        refine lv_iload hx hb dX4_costBy_79 (lv_at hl 0 rfl) ?_
        refine lv_aload_n hx hb dX4_costBy_81 rfl (lv_at hl 3 rfl) ?_
        refine xget E hQ 102 (by decide) c17 rfl 3 (by decide) q419 rfl dX4_costBy_82 ?_
        refine lv_icmp_ne (tgt := 93) hx hb dX4_costBy_85 (by decide) (fun k70 => ?_) (fun k70 => ?_)
        · have h71 := ib_ne k70
          have b72 : Bd v15 (1) (1) := rf_nlo b16 (by decide : Bd 0 (0) (0)) (Ne.symm h71)
          refine lv_iload hx hb dX4_costBy_93 (lv_at hl 1 rfl) ?_
          exact xri E hr hlk hQ (rfl) dX4_costBy_95
        · have h73 := ib_eq k70
          have b74 : Bd v15 (0) (0) := ⟨(b16).1, ((rf_eq (by decide : Bd 0 (0) (0)) b16 h73).2).2⟩
          refine lv_ldc (v := 1000000) hx hb E.2.2.1 (E.2.2.2.1 _ q1056) dX4_costBy_88 ?_
          refine lv_goto (tgt := 95) hx hb dX4_costBy_90 (by decide) ?_
          exact xri E hr hlk hQ (rfl) dX4_costBy_95
      · have h75 := ib_eq k68
        refine lv_iconst (v := 1) hx hb dX4_costBy_72 (by decide) ?_
        refine lv_goto (tgt := 77) hx hb dX4_costBy_73 (by decide) ?_
        refine lv_istore (lv' := [(6, .int 1), (5, .int 0), (4, .int r18), (0, .ref (ad 102)), (1, .int a1), (2, .int a2), (3, .int a3)]) hx hb dX4_costBy_77 hl (by decide) rfl (fun ls hl => ?_)
        refine lv_iload hx hb dX4_costBy_79 (lv_at hl 0 rfl) ?_
        refine lv_aload_n hx hb dX4_costBy_81 rfl (lv_at hl 3 rfl) ?_
        refine xget E hQ 102 (by decide) c17 rfl 3 (by decide) q419 rfl dX4_costBy_82 ?_
        refine lv_icmp_ne (tgt := 93) hx hb dX4_costBy_85 (by decide) (fun k76 => ?_) (fun k76 => ?_)
        · have h77 := ib_ne k76
          have b78 : Bd v15 (0) (0) := rf_nhi b16 (by decide : Bd 1 (1) (1)) (Ne.symm h77)
          refine lv_iload hx hb dX4_costBy_93 (lv_at hl 1 rfl) ?_
          exact xri E hr hlk hQ (rfl) dX4_costBy_95
        · have h79 := ib_eq k76
          have b80 : Bd v15 (1) (1) := ⟨((rf_eq (by decide : Bd 1 (1) (1)) b16 h79).2).1, (b16).2⟩
          refine lv_ldc (v := 1000000) hx hb E.2.2.1 (E.2.2.2.1 _ q1056) dX4_costBy_88 ?_
          refine lv_goto (tgt := 95) hx hb dX4_costBy_90 (by decide) ?_
          exact xri E hr hlk hQ (rfl) dX4_costBy_95
    · have h81 := ib_eq k60
      have b82 : Bd r59 (0) (0) := ⟨(b59).1, ((rf_eq b59 (by decide : Bd 0 (0) (0)) h81).1).2⟩
      refine lv_aload_n hx hb dX4_costBy_35 rfl (lv_at hl 2 rfl) ?_
      refine xget E hQ 102 (by decide) c17 rfl 1 (by decide) q417 rfl dX4_costBy_36 ?_
      refine lv_iload hx hb dX4_costBy_39 (lv_at hl 1 rfl) ?_
      refine lv_iload_n hx hb dX4_costBy_41 rfl (lv_at hl 5 rfl) ?_
      refine lv_iconst (v := 1) hx hb dX4_costBy_42 (by decide) ?_
      refine lv_iadd hx hb dX4_costBy_43 ?_
      refine lv_topi (fun z83 e84 => ?_)
      have t85 := ib_add e84 ba3 (by decide : Bd 1 (1) (1)) (by decide) (by decide)
      have b86 : Bd z83 (1) (100) := ib_addb t85 ba3 (by decide : Bd 1 (1) (1))
      have t85 : z83.toInt = a3.toInt + 1 := fold_add t85 rfl (by decide)
      refine xcSi E hs hQ hml hl.1 (gX4_placeIn l g ad hD S hI r18 z83 b18 (ib_wk b86 (by decide) (by decide))) mX4_placeIn q1064 rfl ⟨(Nat.le_of_ble_eq_true rfl), (Nat.le_of_ble_eq_true rfl)⟩ ⟨(Nat.le_of_ble_eq_true rfl), (Nat.le_of_ble_eq_true rfl)⟩ (Nat.le_of_ble_eq_true rfl) rfl dX4_costBy_44 (fun r87 S87 H locs hp87 hQ => ?_)
      obtain ⟨rfl, b87⟩ := hp87
      obtain ⟨f88, c89⟩ := invX_103 hI
      refine xiald E hQ 103 (by decide) c89 (ib_in b87 (by decide) (by decide)) dX4_costBy_47 ?_
      refine lv_topi (fun z91 e92 => ?_)
      refine lv_iload hx hb dX4_costBy_48 (lv_at hl 0 rfl) ?_
      refine lv_iadd hx hb dX4_costBy_50 ?_
      refine lv_topi (fun z93 e94 => ?_)
      have t95 := ib_add e94 (ib_full z91) (by decide : Bd 0 (0) (0)) (by decide) (by decide)
      have b96 : Bd z93 (-2147483648) (2147483647) := ib_addb t95 (ib_full z91) (by decide : Bd 0 (0) (0))
      have t95 : z93.toInt = z91.toInt + 0 := fold_add t95 rfl (by decide)
      exact xri E hr hlk hQ (rfl) dX4_costBy_51
set_option maxHeartbeats 4000000 in
set_option maxRecDepth 100000 in
theorem gX4_costOf_102 (l : Launch) (g : GG) (ad : Nat → Nat) (hD : Dj ad 122) (S : SS) (hI : InvX g ad S) (a1 : Int32) (ba1 : Bd a1 (0) (7)) : Met l yX4_costOf (wG (.code yX4_costOf cX4_costOf 2 (some .int))) (Rm 1) (XPre g ad 122 S [.ref (ad 102), .int a1]) (va_Qi (fun _ S' => S = S') (QB g ad 122) (FA ad 122)) 0 0 (FA ad 122) := by
  refine xmet cX4_costOf "EbbWreck$Pushing" (by decide) rfl (Nat.le_of_ble_eq_true rfl) (fun p e s m below meth c E hr hlk hml hQ ls hl => ?_)
  have hx := E.1
  have hb := E.2.1
  have hs : Sp ad 122 (FA ad 122) := Sp.fa hD
  have hl : lv_has ls 2 [(0, .ref (ad 102)), (1, .int a1)] := hl
  refine lv_aload_n hx hb dX4_costOf_0 rfl (lv_at hl 0 rfl) ?_
  obtain ⟨v1, v2, c4, b3⟩ := invX_102 hI
  have c4 : S 102 = .inr (4, [.ref (ad 2), .ref (ad 103), .int v1, .int v2]) := c4
  refine xget E hQ 102 (by decide) c4 rfl 1 (by decide) q417 rfl dX4_costOf_1 ?_
  refine lv_aload_n hx hb dX4_costOf_4 rfl (lv_at hl 0 rfl) ?_
  refine xget E hQ 102 (by decide) c4 rfl 0 (by decide) q416 rfl dX4_costOf_5 ?_
  obtain ⟨v5, v7, v9, v10, v11, v13, c15, b6, b8, b12, b14⟩ := invX_2 hI
  have c15 : S 2 = .inr (1, [.int v5, .int v7, .int v9, .ref (ad 3), .ref (ad 5), .ref (ad 6), .int v10, .int v11, .ref (ad 7), .ref (ad 8), .ref (ad 9), .ref (ad 10), .int v13, .ref (ad 15), .ref (ad 16)]) := c15
  refine xget E hQ 2 (by decide) c15 rfl 9 (by decide) q280 rfl dX4_costOf_8 ?_
  refine lv_iload_n hx hb dX4_costOf_11 rfl (lv_at hl 1 rfl) ?_
  obtain ⟨f16, c17, b18⟩ := invX_8 hI
  refine xiald E hQ 8 (by decide) c17 (ib_in ba1 (by decide) (by decide)) dX4_costOf_12 ?_
  refine lv_topi (fun z19 e20 => ?_)
  have b21 : Bd z19 (0) (11) := (by rw [e20]; exact b18 _)
  refine lv_aload_n hx hb dX4_costOf_13 rfl (lv_at hl 0 rfl) ?_
  refine xget E hQ 102 (by decide) c4 rfl 0 (by decide) q416 rfl dX4_costOf_14 ?_
  refine xget E hQ 2 (by decide) c15 rfl 10 (by decide) q285 rfl dX4_costOf_17 ?_
  refine lv_iload_n hx hb dX4_costOf_20 rfl (lv_at hl 1 rfl) ?_
  obtain ⟨f22, c23, b24⟩ := invX_9 hI
  refine xiald E hQ 9 (by decide) c23 (ib_in ba1 (by decide) (by decide)) dX4_costOf_21 ?_
  refine lv_topi (fun z25 e26 => ?_)
  have b27 : Bd z25 (0) (99) := (by rw [e26]; exact b24 _)
  refine xcSi E hs hQ hml hl.1 (gX4_placeIn l g ad hD S hI z19 z25 b21 (ib_wk b27 (by decide) (by decide))) mX4_placeIn q1064 rfl ⟨(Nat.le_of_ble_eq_true rfl), (Nat.le_of_ble_eq_true rfl)⟩ ⟨(Nat.le_of_ble_eq_true rfl), (Nat.le_of_ble_eq_true rfl)⟩ (Nat.le_of_ble_eq_true rfl) rfl dX4_costOf_22 (fun r28 S28 H locs hp28 hQ => ?_)
  obtain ⟨rfl, b28⟩ := hp28
  obtain ⟨f29, c30⟩ := invX_103 hI
  refine xiald E hQ 103 (by decide) c30 (ib_in b28 (by decide) (by decide)) dX4_costOf_25 ?_
  refine lv_topi (fun z32 e33 => ?_)
  exact xri E hr hlk hQ (rfl) dX4_costOf_26
set_option maxHeartbeats 4000000 in
set_option maxRecDepth 100000 in
theorem gX4_firstWay_102 (l : Launch) (g : GG) (ad : Nat → Nat) (hD : Dj ad 122) (S : SS) (hI : InvX g ad S) (a1 : Int32) (a2 : Int32) (ba1 : Bd a1 (0) (11)) (ba2 : Bd a2 (0) (99)) (hq1 : 0 ≤ fld (S 2) 1 + (-1)) : Met l yX4_firstWay (wG (.code yX4_firstWay cX4_firstWay 4 (some .int))) (Rm 4) (XPre g ad 122 S [.ref (ad 102), .int a1, .int a2]) (va_Qi (fun r S' => S = S' ∧ Bd r (-1) (1)) (QB g ad 122) (FA ad 122)) 0 0 (FA ad 122) := by
  refine xmet cX4_firstWay "EbbWreck$Pushing" (by decide) rfl (Nat.le_of_ble_eq_true rfl) (fun p e s m below meth c E hr hlk hml hQ ls hl => ?_)
  have hx := E.1
  have hb := E.2.1
  have hs : Sp ad 122 (FA ad 122) := Sp.fa hD
  have hl : lv_has ls 4 [(0, .ref (ad 102)), (1, .int a1), (2, .int a2)] := hl
  obtain ⟨v1, v3, v5, v6, v7, v9, c11, b2, b4, b8, b10⟩ := invX_2 hI
  have c11 : S 2 = .inr (1, [.int v1, .int v3, .int v5, .ref (ad 3), .ref (ad 5), .ref (ad 6), .int v6, .int v7, .ref (ad 7), .ref (ad 8), .ref (ad 9), .ref (ad 10), .int v9, .ref (ad 15), .ref (ad 16)]) := c11
  have q12 : fld (S 2) 1 = v3.toInt := fld_of c11 rfl
  have b13 : Bd v3 (1) (12) := ⟨by omega, by omega⟩
  refine lv_aload_n hx hb dX4_firstWay_0 rfl (lv_at hl 0 rfl) ?_
  obtain ⟨v14, v15, c17, b16⟩ := invX_102 hI
  have c17 : S 102 = .inr (4, [.ref (ad 2), .ref (ad 103), .int v14, .int v15]) := c17
  refine xget E hQ 102 (by decide) c17 rfl 1 (by decide) q417 rfl dX4_firstWay_1 ?_
  refine lv_iload_n hx hb dX4_firstWay_4 rfl (lv_at hl 1 rfl) ?_
  refine lv_iload_n hx hb dX4_firstWay_5 rfl (lv_at hl 2 rfl) ?_
  refine xcSi E hs hQ hml hl.1 (gX4_placeIn l g ad hD S hI a1 a2 ba1 (ib_wk ba2 (by decide) (by decide))) mX4_placeIn q1064 rfl ⟨(Nat.le_of_ble_eq_true rfl), (Nat.le_of_ble_eq_true rfl)⟩ ⟨(Nat.le_of_ble_eq_true rfl), (Nat.le_of_ble_eq_true rfl)⟩ (Nat.le_of_ble_eq_true rfl) rfl dX4_firstWay_6 (fun r18 S18 H locs hp18 hQ => ?_)
  obtain ⟨rfl, b18⟩ := hp18
  obtain ⟨f19, c20⟩ := invX_103 hI
  refine xiald E hQ 103 (by decide) c20 (ib_in b18 (by decide) (by decide)) dX4_firstWay_9 ?_
  refine lv_topi (fun z22 e23 => ?_)
  refine lv_istore_n (lv' := [(3, .int z22), (0, .ref (ad 102)), (1, .int a1), (2, .int a2)]) hx hb dX4_firstWay_10 rfl hl (by decide) rfl (fun ls hl => ?_)
  refine lv_aload_n hx hb dX4_firstWay_11 rfl (lv_at hl 1 rfl) ?_
  refine lv_iload_n hx hb dX4_firstWay_12 rfl (lv_at hl 2 rfl) ?_
  refine lv_iconst (v := 1) hx hb dX4_firstWay_13 (by decide) ?_
  refine lv_iload_n hx hb dX4_firstWay_14 rfl (lv_at hl 3 rfl) ?_
  refine xcVi E hs hQ hml hl.1 102 (gX4_costBy_102 l g ad hD S hI a1 1 a2 ba1 ba2 (by omega)) mX4_costBy q1058 (by decide) c17 rfl rfl ⟨(Nat.le_of_ble_eq_true rfl), (Nat.le_of_ble_eq_true rfl)⟩ ⟨(Nat.le_of_ble_eq_true rfl), (Nat.le_of_ble_eq_true rfl)⟩ (Nat.le_of_ble_eq_true rfl) rfl dX4_firstWay_15 (fun r24 S24 H locs hp24 hQ _ => ?_)
  subst hp24
  refine lv_iload_n hx hb dX4_firstWay_18 rfl (lv_at hl 0 rfl) ?_
  refine lv_icmp_ne (tgt := 24) hx hb dX4_firstWay_19 (by decide) (fun k25 => ?_) (fun k25 => ?_)
  · have h26 := ib_ne k25
    refine lv_aload_n hx hb dX4_firstWay_24 rfl (lv_at hl 1 rfl) ?_
    refine lv_iload_n hx hb dX4_firstWay_25 rfl (lv_at hl 2 rfl) ?_
    refine lv_iconst (v := (-1)) hx hb dX4_firstWay_26 (by decide) ?_
    refine lv_iload_n hx hb dX4_firstWay_27 rfl (lv_at hl 3 rfl) ?_
    refine xcVi E hs hQ hml hl.1 102 (gX4_costBy_102 l g ad hD S hI a1 (-1) a2 ba1 ba2 (by omega)) mX4_costBy q1058 (by decide) c17 rfl rfl ⟨(Nat.le_of_ble_eq_true rfl), (Nat.le_of_ble_eq_true rfl)⟩ ⟨(Nat.le_of_ble_eq_true rfl), (Nat.le_of_ble_eq_true rfl)⟩ (Nat.le_of_ble_eq_true rfl) rfl dX4_firstWay_28 (fun r27 S27 H locs hp27 hQ _ => ?_)
    subst hp27
    refine lv_iload_n hx hb dX4_firstWay_31 rfl (lv_at hl 0 rfl) ?_
    refine lv_icmp_ne (tgt := 39) hx hb dX4_firstWay_32 (by decide) (fun k28 => ?_) (fun k28 => ?_)
    · have h29 := ib_ne k28
      refine lv_iconst (v := 0) hx hb dX4_firstWay_39 (by decide) ?_
      exact xri E hr hlk hQ (⟨rfl, (ib_wk (by decide : Bd 0 (0) (0)) (by decide) (by decide))⟩) dX4_firstWay_40
    · have h30 := ib_eq k28
      refine lv_iconst (v := (-1)) hx hb dX4_firstWay_35 (by decide) ?_
      refine lv_goto (tgt := 40) hx hb dX4_firstWay_36 (by decide) ?_
      exact xri E hr hlk hQ (⟨rfl, (ib_wk (by decide : Bd (-1) (-1) (-1)) (by decide) (by decide))⟩) dX4_firstWay_40
  · have h31 := ib_eq k25
    refine lv_iconst (v := 1) hx hb dX4_firstWay_22 (by decide) ?_
    exact xri E hr hlk hQ (⟨rfl, (ib_wk (by decide : Bd 1 (1) (1)) (by decide) (by decide))⟩) dX4_firstWay_23
set_option maxHeartbeats 4000000 in
set_option maxRecDepth 100000 in
theorem gX4_reachedFrom_102 (l : Launch) (g : GG) (ad : Nat → Nat) (hD : Dj ad 122) (S : SS) (hI : InvX g ad S) (a1 : Int32) (a2 : Int32) (hq1 : 0 ≤ fld (S 2) 1 + (-1)) : Met l yX4_reachedFrom (wG (.code yX4_reachedFrom cX4_reachedFrom 5 (some .int))) (Rm 3) (XPre g ad 122 S [.ref (ad 102), .int a1, .int a2]) (va_Qi (fun _ S' => S = S') (QB g ad 122) (FA ad 122)) 0 0 (FA ad 122) := by
  refine xmet cX4_reachedFrom "EbbWreck$Pushing" (by decide) rfl (Nat.le_of_ble_eq_true rfl) (fun p e s m below meth c E hr hlk hml hQ ls hl => ?_)
  have hx := E.1
  have hb := E.2.1
  have hs : Sp ad 122 (FA ad 122) := Sp.fa hD
  have hl : lv_has ls 5 [(0, .ref (ad 102)), (1, .int a1), (2, .int a2)] := hl
  obtain ⟨v1, v3, v5, v6, v7, v9, c11, b2, b4, b8, b10⟩ := invX_2 hI
  have c11 : S 2 = .inr (1, [.int v1, .int v3, .int v5, .ref (ad 3), .ref (ad 5), .ref (ad 6), .int v6, .int v7, .ref (ad 7), .ref (ad 8), .ref (ad 9), .ref (ad 10), .int v9, .ref (ad 15), .ref (ad 16)]) := c11
  have q12 : fld (S 2) 1 = v3.toInt := fld_of c11 rfl
  have b13 : Bd v3 (1) (12) := ⟨by omega, by omega⟩
  refine lv_iconst (v := 0) hx hb dX4_reachedFrom_0 (by decide) ?_
  refine lv_istore_n (lv' := [(3, .int 0), (0, .ref (ad 102)), (1, .int a1), (2, .int a2)]) hx hb dX4_reachedFrom_1 rfl hl (by decide) rfl (fun ls hl => ?_)
  refine lv_iconst (v := 0) hx hb dX4_reachedFrom_2 (by decide) ?_
  refine lv_istore (lv' := [(4, .int 0), (3, .int 0), (0, .ref (ad 102)), (1, .int a1), (2, .int a2)]) hx hb dX4_reachedFrom_3 hl (by decide) rfl (fun ls hl => ?_)
  have loop5 : ∀ (n : Nat) (H : Heap) (locs : List Loc) (ls : Array Slot) (x5_3 : Int32) (x5_4 : Int32), Bd x5_4 (0) (12) → (-1) * x5_4.toInt + 12 < ((n : Nat) : Int) → Hp g ad 122 S (FA ad 122) s.heap H locs → lv_has ls 5 [(4, .int x5_4), (3, .int x5_3), (0, .ref (ad 102)), (1, .int a1), (2, .int a2)] → W p l e (Rm 3) s m [.ref (ad 102), .int a1, .int a2].toArray below meth c H locs 0 0 (MQ below (va_Qi (fun _ S' => S = S') (QB g ad 122) (FA ad 122)) [.ref (ad 102), .int a1, .int a2].toArray s 0 0 (FA ad 122)) (F0 m 5 ls []) := by
    intro n
    induction n with
    | zero => intro H locs ls x5_3 x5_4 Bx5_4 hn5_ hQ hl; exfalso; have := (Bx5_4).2; omega
    | succ n5_ ih5 =>
      intro H locs ls x5_3 x5_4 Bx5_4 hn5_ hQ hl
      refine lv_iload hx hb dX4_reachedFrom_5 (lv_at hl 0 rfl) ?_
      refine lv_aload_n hx hb dX4_reachedFrom_7 rfl (lv_at hl 2 rfl) ?_
      obtain ⟨v14, v15, c17, b16⟩ := invX_102 hI
      have c17 : S 102 = .inr (4, [.ref (ad 2), .ref (ad 103), .int v14, .int v15]) := c17
      refine xget E hQ 102 (by decide) c17 rfl 0 (by decide) q416 rfl dX4_reachedFrom_8 ?_
      refine xget E hQ 2 (by decide) c11 rfl 1 (by decide) q241 rfl dX4_reachedFrom_11 ?_
      refine lv_icmp_ge (tgt := 81) hx hb dX4_reachedFrom_14 (by decide) (fun k18 => ?_) (fun k18 => ?_)
      · have h19 := ib_le k18
        have b20 : Bd x5_4 (1) (12) := ⟨((rf_le b13 Bx5_4 h19).2).1, (Bx5_4).2⟩
        refine lv_iload_n hx hb dX4_reachedFrom_81 rfl (lv_at hl 1 rfl) ?_
        exact xri E hr hlk hQ (rfl) dX4_reachedFrom_82
      · have h21 := ib_nle k18
        have b22 : Bd x5_4 (0) (11) := ⟨(Bx5_4).1, ((rf_lt Bx5_4 b13 h21).1).2⟩
        refine lv_iload_n hx hb dX4_reachedFrom_17 rfl (lv_at hl 3 rfl) ?_
        refine lv_iload hx hb dX4_reachedFrom_18 (lv_at hl 0 rfl) ?_
        refine lv_ishr hx hb dX4_reachedFrom_20 ?_
        refine lv_topi (fun z23 e24 => ?_)
        refine lv_iconst (v := 1) hx hb dX4_reachedFrom_21 (by decide) ?_
        refine lv_iand hx hb dX4_reachedFrom_22 ?_
        refine lv_topi (fun z25 e26 => ?_)
        have b27 : Bd z25 (0) (1) := ib_and 1 e26 (by decide) (by decide)
        refine lv_iconst (v := 1) hx hb dX4_reachedFrom_23 (by decide) ?_
        refine lv_icmp_ne (tgt := 75) hx hb dX4_reachedFrom_24 (by decide) (fun k28 => ?_) (fun k28 => ?_)
        · have h29 := ib_ne k28
          have b30 : Bd z25 (0) (0) := rf_nhi b27 (by decide : Bd 1 (1) (1)) h29
          obtain ⟨z31, e32⟩ : ∃ z : Int32, z = x5_4 + 1 := ⟨_, rfl⟩
          have t33 := ib_add e32 b22 (by decide : Bd 1 (1) (1)) (by decide) (by decide)
          have b34 : Bd z31 (1) (12) := ib_addb t33 b22 (by decide : Bd 1 (1) (1))
          have t33 : z31.toInt = x5_4.toInt + 1 := fold_add t33 rfl (by decide)
          refine lv_iinc (v := z31) (lv' := [(4, .int z31), (3, .int x5_3), (0, .ref (ad 102)), (1, .int a1), (2, .int a2)]) hx hb dX4_reachedFrom_75 hl (k := 0) rfl (by rw [e32]; rfl) (by decide) rfl (fun ls hl => ?_)
          refine lv_goto (tgt := 5) hx hb dX4_reachedFrom_78 (by decide) ?_
          exact ih5 _ _ _ x5_3 z31 (ib_wk b34 (by decide) (by decide)) (by omega) hQ (lv_sub hl [0, 1, 2, 3, 4] rfl)
        · have h35 := ib_eq k28
          have b36 : Bd z25 (1) (1) := ⟨((rf_eq b27 (by decide : Bd 1 (1) (1)) h35).1).1, (b27).2⟩
          refine lv_iload_n hx hb dX4_reachedFrom_27 rfl (lv_at hl 1 rfl) ?_
          refine lv_iconst (v := 1) hx hb dX4_reachedFrom_28 (by decide) ?_
          refine lv_aload_n hx hb dX4_reachedFrom_29 rfl (lv_at hl 2 rfl) ?_
          refine xget E hQ 102 (by decide) c17 rfl 0 (by decide) q416 rfl dX4_reachedFrom_30 ?_
          refine lv_iload hx hb dX4_reachedFrom_33 (lv_at hl 0 rfl) ?_
          refine lv_iconst (v := 0) hx hb dX4_reachedFrom_35 (by decide) ?_
          refine lv_iload_n hx hb dX4_reachedFrom_36 rfl (lv_at hl 4 rfl) ?_
          refine xcVi E hs hQ hml hl.1 2 (gX1_pushedAndDrifted_2 l g ad hD S hI x5_4 0 a2 (by omega)) mX1_pushedAndDrifted q1062 (by decide) c11 rfl rfl ⟨(Nat.le_of_ble_eq_true rfl), (Nat.le_of_ble_eq_true rfl)⟩ ⟨(Nat.le_of_ble_eq_true rfl), (Nat.le_of_ble_eq_true rfl)⟩ (Nat.le_of_ble_eq_true rfl) rfl dX4_reachedFrom_37 (fun r37 S37 H locs hp37 hQ _ => ?_)
          obtain ⟨rfl, b37⟩ := hp37
          refine lv_ishl hx hb dX4_reachedFrom_40 ?_
          refine lv_topi (fun z38 e39 => ?_)
          refine lv_ior hx hb dX4_reachedFrom_41 ?_
          refine lv_topi (fun z40 e41 => ?_)
          refine lv_istore_n (lv' := [(3, .int z40), (4, .int x5_4), (0, .ref (ad 102)), (1, .int a1), (2, .int a2)]) hx hb dX4_reachedFrom_42 rfl hl (by decide) rfl (fun ls hl => ?_)
          refine lv_iload_n hx hb dX4_reachedFrom_43 rfl (lv_at hl 0 rfl) ?_
          refine lv_iconst (v := 1) hx hb dX4_reachedFrom_44 (by decide) ?_
          refine lv_aload_n hx hb dX4_reachedFrom_45 rfl (lv_at hl 2 rfl) ?_
          refine xget E hQ 102 (by decide) c17 rfl 0 (by decide) q416 rfl dX4_reachedFrom_46 ?_
          refine lv_iload hx hb dX4_reachedFrom_49 (lv_at hl 1 rfl) ?_
          refine lv_iconst (v := 1) hx hb dX4_reachedFrom_51 (by decide) ?_
          refine lv_iload_n hx hb dX4_reachedFrom_52 rfl (lv_at hl 4 rfl) ?_
          refine xcVi E hs hQ hml hl.1 2 (gX1_pushedAndDrifted_2 l g ad hD S hI x5_4 1 a2 (by omega)) mX1_pushedAndDrifted q1062 (by decide) c11 rfl rfl ⟨(Nat.le_of_ble_eq_true rfl), (Nat.le_of_ble_eq_true rfl)⟩ ⟨(Nat.le_of_ble_eq_true rfl), (Nat.le_of_ble_eq_true rfl)⟩ (Nat.le_of_ble_eq_true rfl) rfl dX4_reachedFrom_53 (fun r42 S42 H locs hp42 hQ _ => ?_)
          obtain ⟨rfl, b42⟩ := hp42
          refine lv_ishl hx hb dX4_reachedFrom_56 ?_
          refine lv_topi (fun z43 e44 => ?_)
          refine lv_ior hx hb dX4_reachedFrom_57 ?_
          refine lv_topi (fun z45 e46 => ?_)
          refine lv_istore_n (lv' := [(3, .int z45), (4, .int x5_4), (0, .ref (ad 102)), (1, .int a1), (2, .int a2)]) hx hb dX4_reachedFrom_58 rfl hl (by decide) rfl (fun ls hl => ?_)
          refine lv_iload_n hx hb dX4_reachedFrom_59 rfl (lv_at hl 0 rfl) ?_
          refine lv_iconst (v := 1) hx hb dX4_reachedFrom_60 (by decide) ?_
          refine lv_aload_n hx hb dX4_reachedFrom_61 rfl (lv_at hl 2 rfl) ?_
          refine xget E hQ 102 (by decide) c17 rfl 0 (by decide) q416 rfl dX4_reachedFrom_62 ?_
          refine lv_iload hx hb dX4_reachedFrom_65 (lv_at hl 1 rfl) ?_
          refine lv_iconst (v := (-1)) hx hb dX4_reachedFrom_67 (by decide) ?_
          refine lv_iload_n hx hb dX4_reachedFrom_68 rfl (lv_at hl 4 rfl) ?_
          refine xcVi E hs hQ hml hl.1 2 (gX1_pushedAndDrifted_2 l g ad hD S hI x5_4 (-1) a2 (by omega)) mX1_pushedAndDrifted q1062 (by decide) c11 rfl rfl ⟨(Nat.le_of_ble_eq_true rfl), (Nat.le_of_ble_eq_true rfl)⟩ ⟨(Nat.le_of_ble_eq_true rfl), (Nat.le_of_ble_eq_true rfl)⟩ (Nat.le_of_ble_eq_true rfl) rfl dX4_reachedFrom_69 (fun r47 S47 H locs hp47 hQ _ => ?_)
          obtain ⟨rfl, b47⟩ := hp47
          refine lv_ishl hx hb dX4_reachedFrom_72 ?_
          refine lv_topi (fun z48 e49 => ?_)
          refine lv_ior hx hb dX4_reachedFrom_73 ?_
          refine lv_topi (fun z50 e51 => ?_)
          refine lv_istore_n (lv' := [(3, .int z50), (4, .int x5_4), (0, .ref (ad 102)), (1, .int a1), (2, .int a2)]) hx hb dX4_reachedFrom_74 rfl hl (by decide) rfl (fun ls hl => ?_)
          obtain ⟨z52, e53⟩ : ∃ z : Int32, z = x5_4 + 1 := ⟨_, rfl⟩
          have t54 := ib_add e53 b22 (by decide : Bd 1 (1) (1)) (by decide) (by decide)
          have b55 : Bd z52 (1) (12) := ib_addb t54 b22 (by decide : Bd 1 (1) (1))
          have t54 : z52.toInt = x5_4.toInt + 1 := fold_add t54 rfl (by decide)
          refine lv_iinc (v := z52) (lv' := [(4, .int z52), (3, .int z50), (0, .ref (ad 102)), (1, .int a1), (2, .int a2)]) hx hb dX4_reachedFrom_75 hl (k := 1) rfl (by rw [e53]; rfl) (by decide) rfl (fun ls hl => ?_)
          refine lv_goto (tgt := 5) hx hb dX4_reachedFrom_78 (by decide) ?_
          exact ih5 _ _ _ z50 z52 (ib_wk b55 (by decide) (by decide)) (by omega) hQ (lv_sub hl [0, 1, 2, 3, 4] rfl)
  obtain ⟨n5, hn5⟩ := fu_n (12)
  exact loop5 n5 _ _ _ 0 0 (ib_wk (by decide : Bd 0 (0) (0)) (by decide) (by decide)) (by have : (0 : Int32).toInt = 0 := (by decide); omega) hQ (lv_sub hl [0, 1, 2, 3, 4] rfl)
set_option maxHeartbeats 4000000 in
set_option maxRecDepth 100000 in
theorem gX4_isWonBy_102 (l : Launch) (g : GG) (ad : Nat → Nat) (hD : Dj ad 122) (S : SS) (hI : InvX g ad S) (a1 : Int32) (a2 : Int32) (a3 : Int32) : Met l yX4_isWonBy (wG (.code yX4_isWonBy cX4_isWonBy 5 (some .boolean))) (Rm 3) (XPre g ad 122 S [.ref (ad 102), .int a1, .int a2, .int a3]) (va_Qi (fun r S' => S = S' ∧ Bd r (0) (1)) (QB g ad 122) (FA ad 122)) 0 0 (FA ad 122) := by
  refine xmet cX4_isWonBy "EbbWreck$Pushing" (by decide) rfl (Nat.le_of_ble_eq_true rfl) (fun p e s m below meth c E hr hlk hml hQ ls hl => ?_)
  have hx := E.1
  have hb := E.2.1
  have hs : Sp ad 122 (FA ad 122) := Sp.fa hD
  have hl : lv_has ls 5 [(0, .ref (ad 102)), (1, .int a1), (2, .int a2), (3, .int a3)] := hl
  refine lv_iconst (v := 0) hx hb dX4_isWonBy_0 (by decide) ?_
  refine lv_istore (lv' := [(4, .int 0), (0, .ref (ad 102)), (1, .int a1), (2, .int a2), (3, .int a3)]) hx hb dX4_isWonBy_1 hl (by decide) rfl (fun ls hl => ?_)
  have loop3 : ∀ (n : Nat) (H : Heap) (locs : List Loc) (ls : Array Slot) (x3_4 : Int32), Bd x3_4 (0) (12) → (-1) * x3_4.toInt + 12 < ((n : Nat) : Int) → Hp g ad 122 S (FA ad 122) s.heap H locs → lv_has ls 5 [(4, .int x3_4), (0, .ref (ad 102)), (1, .int a1), (2, .int a2), (3, .int a3)] → W p l e (Rm 3) s m [.ref (ad 102), .int a1, .int a2, .int a3].toArray below meth c H locs 0 0 (MQ below (va_Qi (fun r S' => S = S' ∧ Bd r (0) (1)) (QB g ad 122) (FA ad 122)) [.ref (ad 102), .int a1, .int a2, .int a3].toArray s 0 0 (FA ad 122)) (F0 m 3 ls []) := by
    intro n
    induction n with
    | zero => intro H locs ls x3_4 Bx3_4 hn3_ hQ hl; exfalso; have := (Bx3_4).2; omega
    | succ n3_ ih3 =>
      intro H locs ls x3_4 Bx3_4 hn3_ hQ hl
      refine lv_iload hx hb dX4_isWonBy_3 (lv_at hl 0 rfl) ?_
      refine lv_aload_n hx hb dX4_isWonBy_5 rfl (lv_at hl 1 rfl) ?_
      obtain ⟨v1, v2, c4, b3⟩ := invX_102 hI
      have c4 : S 102 = .inr (4, [.ref (ad 2), .ref (ad 103), .int v1, .int v2]) := c4
      refine xget E hQ 102 (by decide) c4 rfl 0 (by decide) q416 rfl dX4_isWonBy_6 ?_
      obtain ⟨v5, v7, v9, v10, v11, v13, c15, b6, b8, b12, b14⟩ := invX_2 hI
      have c15 : S 2 = .inr (1, [.int v5, .int v7, .int v9, .ref (ad 3), .ref (ad 5), .ref (ad 6), .int v10, .int v11, .ref (ad 7), .ref (ad 8), .ref (ad 9), .ref (ad 10), .int v13, .ref (ad 15), .ref (ad 16)]) := c15
      refine xget E hQ 2 (by decide) c15 rfl 1 (by decide) q241 rfl dX4_isWonBy_9 ?_
      refine lv_icmp_ge (tgt := 48) hx hb dX4_isWonBy_12 (by decide) (fun k16 => ?_) (fun k16 => ?_)
      · have h17 := ib_le k16
        refine lv_iconst (v := 0) hx hb dX4_isWonBy_48 (by decide) ?_
        exact xrz E hr hlk hQ rfl (⟨rfl, (ib_wk (by decide : Bd 0 (0) (0)) (by decide) (by decide))⟩) dX4_isWonBy_49
      · have h18 := ib_nle k16
        have b19 : Bd x3_4 (0) (11) := ⟨(Bx3_4).1, ((rf_lt Bx3_4 b8 h18).1).2⟩
        have b20 : Bd v7 (1) (12) := ⟨((rf_lt Bx3_4 b8 h18).2).1, (b8).2⟩
        refine lv_iload_n hx hb dX4_isWonBy_15 rfl (lv_at hl 3 rfl) ?_
        refine lv_iload hx hb dX4_isWonBy_16 (lv_at hl 0 rfl) ?_
        refine lv_ishr hx hb dX4_isWonBy_18 ?_
        refine lv_topi (fun z21 e22 => ?_)
        refine lv_iconst (v := 1) hx hb dX4_isWonBy_19 (by decide) ?_
        refine lv_iand hx hb dX4_isWonBy_20 ?_
        refine lv_topi (fun z23 e24 => ?_)
        have b25 : Bd z23 (0) (1) := ib_and 1 e24 (by decide) (by decide)
        refine lv_iconst (v := 1) hx hb dX4_isWonBy_21 (by decide) ?_
        refine lv_icmp_ne (tgt := 42) hx hb dX4_isWonBy_22 (by decide) (fun k26 => ?_) (fun k26 => ?_)
        · have h27 := ib_ne k26
          have b28 : Bd z23 (0) (0) := rf_nhi b25 (by decide : Bd 1 (1) (1)) h27
          obtain ⟨z29, e30⟩ : ∃ z : Int32, z = x3_4 + 1 := ⟨_, rfl⟩
          have t31 := ib_add e30 b19 (by decide : Bd 1 (1) (1)) (by decide) (by decide)
          have b32 : Bd z29 (1) (12) := ib_addb t31 b19 (by decide : Bd 1 (1) (1))
          have t31 : z29.toInt = x3_4.toInt + 1 := fold_add t31 rfl (by decide)
          refine lv_iinc (v := z29) (lv' := [(4, .int z29), (0, .ref (ad 102)), (1, .int a1), (2, .int a2), (3, .int a3)]) hx hb dX4_isWonBy_42 hl (k := 0) rfl (by rw [e30]; rfl) (by decide) rfl (fun ls hl => ?_)
          refine lv_goto (tgt := 3) hx hb dX4_isWonBy_45 (by decide) ?_
          exact ih3 _ _ _ z29 (ib_wk b32 (by decide) (by decide)) (by omega) hQ (lv_sub hl [0, 1, 2, 3, 4] rfl)
        · have h33 := ib_eq k26
          have b34 : Bd z23 (1) (1) := ⟨((rf_eq b25 (by decide : Bd 1 (1) (1)) h33).1).1, (b25).2⟩
          refine lv_aload_n hx hb dX4_isWonBy_25 rfl (lv_at hl 1 rfl) ?_
          refine xget E hQ 102 (by decide) c4 rfl 0 (by decide) q416 rfl dX4_isWonBy_26 ?_
          refine lv_iload hx hb dX4_isWonBy_29 (lv_at hl 0 rfl) ?_
          refine lv_iload_n hx hb dX4_isWonBy_31 rfl (lv_at hl 4 rfl) ?_
          refine lv_iconst (v := (-1)) hx hb dX4_isWonBy_32 (by decide) ?_
          refine xcVi E hs hQ hml hl.1 2 (gX1_ownerIn_2 l g ad hD S hI x3_4 a3 (-1)) mX1_ownerIn q1067 (by decide) c15 rfl rfl ⟨(Nat.le_of_ble_eq_true rfl), (Nat.le_of_ble_eq_true rfl)⟩ ⟨(Nat.le_of_ble_eq_true rfl), (Nat.le_of_ble_eq_true rfl)⟩ (Nat.le_of_ble_eq_true rfl) rfl dX4_isWonBy_33 (fun r35 S35 H locs hp35 hQ _ => ?_)
          subst hp35
          refine lv_iload_n hx hb dX4_isWonBy_36 rfl (lv_at hl 2 rfl) ?_
          refine lv_icmp_ne (tgt := 42) hx hb dX4_isWonBy_37 (by decide) (fun k36 => ?_) (fun k36 => ?_)
          · have h37 := ib_ne k36
            obtain ⟨z38, e39⟩ : ∃ z : Int32, z = x3_4 + 1 := ⟨_, rfl⟩
            have t40 := ib_add e39 b19 (by decide : Bd 1 (1) (1)) (by decide) (by decide)
            have b41 : Bd z38 (1) (12) := ib_addb t40 b19 (by decide : Bd 1 (1) (1))
            have t40 : z38.toInt = x3_4.toInt + 1 := fold_add t40 rfl (by decide)
            refine lv_iinc (v := z38) (lv' := [(4, .int z38), (0, .ref (ad 102)), (1, .int a1), (2, .int a2), (3, .int a3)]) hx hb dX4_isWonBy_42 hl (k := 0) rfl (by rw [e39]; rfl) (by decide) rfl (fun ls hl => ?_)
            refine lv_goto (tgt := 3) hx hb dX4_isWonBy_45 (by decide) ?_
            exact ih3 _ _ _ z38 (ib_wk b41 (by decide) (by decide)) (by omega) hQ (lv_sub hl [0, 1, 2, 3, 4] rfl)
          · have h42 := ib_eq k36
            refine lv_iconst (v := 1) hx hb dX4_isWonBy_40 (by decide) ?_
            exact xrz E hr hlk hQ rfl (⟨rfl, (ib_wk (by decide : Bd 1 (1) (1)) (by decide) (by decide))⟩) dX4_isWonBy_41
  obtain ⟨n3, hn3⟩ := fu_n (12)
  exact loop3 n3 _ _ _ 0 (ib_wk (by decide : Bd 0 (0) (0)) (by decide) (by decide)) (by have : (0 : Int32).toInt = 0 := (by decide); omega) hQ (lv_sub hl [0, 1, 2, 3, 4] rfl)
set_option maxHeartbeats 4000000 in
set_option maxRecDepth 100000 in
theorem gX9_tidesToReturn_104 (l : Launch) (g : GG) (ad : Nat → Nat) (hD : Dj ad 122) (S : SS) (hI : InvX g ad S) (a1 : Int32) (ba1 : Bd a1 (0) (11)) (hq1 : 0 ≤ fld (S 2) 1 + (-1)) : Met l yX9_tidesToReturn (wG (.code yX9_tidesToReturn cX9_tidesToReturn 7 (some .int))) (Rm 2) (XPre g ad 122 S [.ref (ad 104), .int a1]) (va_Qi (fun r S' => S = S' ∧ Bd r (-1) (12)) (QB g ad 122) (FA ad 122)) 0 0 (FA ad 122) := by
  refine xmet cX9_tidesToReturn "EbbWreck$Throwing" (by decide) rfl (Nat.le_of_ble_eq_true rfl) (fun p e s m below meth c E hr hlk hml hQ ls hl => ?_)
  have hx := E.1
  have hb := E.2.1
  have hs : Sp ad 122 (FA ad 122) := Sp.fa hD
  have hl : lv_has ls 7 [(0, .ref (ad 104)), (1, .int a1)] := hl
  obtain ⟨v1, v3, v5, v6, v7, v9, c11, b2, b4, b8, b10⟩ := invX_2 hI
  have c11 : S 2 = .inr (1, [.int v1, .int v3, .int v5, .ref (ad 3), .ref (ad 5), .ref (ad 6), .int v6, .int v7, .ref (ad 7), .ref (ad 8), .ref (ad 9), .ref (ad 10), .int v9, .ref (ad 15), .ref (ad 16)]) := c11
  have q12 : fld (S 2) 1 = v3.toInt := fld_of c11 rfl
  have b13 : Bd v3 (1) (12) := ⟨by omega, by omega⟩
  refine lv_aload_n hx hb dX9_tidesToReturn_0 rfl (lv_at hl 0 rfl) ?_
  have c14 := invX_104 hI
  have c14 : S 104 = .inr (9, [.ref (ad 2), .ref (ad 105), .ref (ad 106)]) := c14
  refine xget E hQ 104 (by decide) c14 rfl 0 (by decide) q435 rfl dX9_tidesToReturn_1 ?_
  refine xget E hQ 2 (by decide) c11 rfl 3 (by decide) q252 rfl dX9_tidesToReturn_4 ?_
  obtain ⟨v15, v17, v19, v21, c23, b16, b18, b20, b22⟩ := invX_3 hI
  have c23 : S 3 = .inr (10, [.int v15, .int v17, .int v19, .int v21, .ref (ad 4)]) := c23
  refine xget E hQ 3 (by decide) c23 rfl 3 (by decide) q164 rfl dX9_tidesToReturn_7 ?_
  refine lv_istore_n (lv' := [(2, .int v21), (0, .ref (ad 104)), (1, .int a1)]) hx hb dX9_tidesToReturn_10 rfl hl (by decide) rfl (fun ls hl => ?_)
  refine lv_iconst (v := 1) hx hb dX9_tidesToReturn_11 (by decide) ?_
  refine lv_iload_n hx hb dX9_tidesToReturn_12 rfl (lv_at hl 2 rfl) ?_
  refine lv_ishl hx hb dX9_tidesToReturn_13 ?_
  refine lv_topi (fun z24 e25 => ?_)
  refine lv_istore_n (lv' := [(3, .int z24), (2, .int v21), (0, .ref (ad 104)), (1, .int a1)]) hx hb dX9_tidesToReturn_14 rfl hl (by decide) rfl (fun ls hl => ?_)
  refine lv_iload_n hx hb dX9_tidesToReturn_15 rfl (lv_at hl 3 rfl) ?_
  refine lv_istore (lv' := [(4, .int a1), (3, .int z24), (2, .int v21), (0, .ref (ad 104)), (1, .int a1)]) hx hb dX9_tidesToReturn_16 hl (by decide) rfl (fun ls hl => ?_)
  refine lv_iconst (v := 1) hx hb dX9_tidesToReturn_18 (by decide) ?_
  refine lv_istore (lv' := [(5, .int 1), (4, .int a1), (3, .int z24), (2, .int v21), (0, .ref (ad 104)), (1, .int a1)]) hx hb dX9_tidesToReturn_19 hl (by decide) rfl (fun ls hl => ?_)
  have loop21 : ∀ (n : Nat) (H : Heap) (locs : List Loc) (ls : Array Slot) (x21_3 : Int32) (x21_4 : Int32) (x21_5 : Int32), Bd x21_4 (0) (11) → Bd x21_5 (1) (20) → (-1) * x21_5.toInt + 20 < ((n : Nat) : Int) → Hp g ad 122 S (FA ad 122) s.heap H locs → lv_has ls 7 [(5, .int x21_5), (4, .int x21_4), (3, .int x21_3), (2, .int v21), (0, .ref (ad 104)), (1, .int a1)] → W p l e (Rm 2) s m [.ref (ad 104), .int a1].toArray below meth c H locs 0 0 (MQ below (va_Qi (fun r S' => S = S' ∧ Bd r (-1) (12)) (QB g ad 122) (FA ad 122)) [.ref (ad 104), .int a1].toArray s 0 0 (FA ad 122)) (F0 m 21 ls []) := by
    intro n
    induction n with
    | zero => intro H locs ls x21_3 x21_4 x21_5 Bx21_4 Bx21_5 hn21_ hQ hl; exfalso; have := (Bx21_5).2; omega
    | succ n21_ ih21 =>
      intro H locs ls x21_3 x21_4 x21_5 Bx21_4 Bx21_5 hn21_ hQ hl
      refine lv_iload hx hb dX9_tidesToReturn_21 (lv_at hl 0 rfl) ?_
      refine lv_aload_n hx hb dX9_tidesToReturn_23 rfl (lv_at hl 4 rfl) ?_
      refine xget E hQ 104 (by decide) c14 rfl 0 (by decide) q435 rfl dX9_tidesToReturn_24 ?_
      refine xget E hQ 2 (by decide) c11 rfl 1 (by decide) q240 rfl dX9_tidesToReturn_27 ?_
      refine lv_icmp_gt (tgt := 101) hx hb dX9_tidesToReturn_30 (by decide) (fun k26 => ?_) (fun k26 => ?_)
      · have h27 := ib_lt k26
        have b28 : Bd x21_5 (2) (20) := ⟨((rf_lt b13 Bx21_5 h27).2).1, (Bx21_5).2⟩
        refine lv_iconst (v := (-1)) hx hb dX9_tidesToReturn_101 (by decide) ?_
        exact xri E hr hlk hQ (⟨rfl, (ib_wk (by decide : Bd (-1) (-1) (-1)) (by decide) (by decide))⟩) dX9_tidesToReturn_102
      · have h29 := ib_nlt k26
        have b30 : Bd x21_5 (1) (12) := ⟨(Bx21_5).1, ((rf_le Bx21_5 b13 h29).1).2⟩
        refine lv_iconst (v := 0) hx hb dX9_tidesToReturn_33 (by decide) ?_
        refine lv_istore (lv' := [(6, .int 0), (5, .int x21_5), (4, .int x21_4), (3, .int x21_3), (2, .int v21), (0, .ref (ad 104)), (1, .int a1)]) hx hb dX9_tidesToReturn_34 hl (by decide) rfl (fun ls hl => ?_)
        have loop36 : ∀ (n : Nat) (H : Heap) (locs : List Loc) (ls : Array Slot) (x36_4 : Int32) (x36_6 : Int32), Bd x36_4 (0) (11) → Bd x36_6 (0) (36) → (-1) * x36_6.toInt + 36 < ((n : Nat) : Int) → Hp g ad 122 S (FA ad 122) s.heap H locs → lv_has ls 7 [(6, .int x36_6), (5, .int x21_5), (4, .int x36_4), (3, .int x21_3), (2, .int v21), (0, .ref (ad 104)), (1, .int a1)] → W p l e (Rm 2) s m [.ref (ad 104), .int a1].toArray below meth c H locs 0 0 (MQ below (va_Qi (fun r S' => S = S' ∧ Bd r (-1) (12)) (QB g ad 122) (FA ad 122)) [.ref (ad 104), .int a1].toArray s 0 0 (FA ad 122)) (F0 m 36 ls []) := by
          intro n
          induction n with
          | zero => intro H locs ls x36_4 x36_6 Bx36_4 Bx36_6 hn36_ hQ hl; exfalso; have := (Bx36_6).2; omega
          | succ n36_ ih36 =>
            intro H locs ls x36_4 x36_6 Bx36_4 Bx36_6 hn36_ hQ hl
            refine lv_iload hx hb dX9_tidesToReturn_36 (lv_at hl 0 rfl) ?_
            refine lv_iload_n hx hb dX9_tidesToReturn_38 rfl (lv_at hl 4 rfl) ?_
            refine lv_icmp_ge (tgt := 75) hx hb dX9_tidesToReturn_39 (by decide) (fun k31 => ?_) (fun k31 => ?_)
            · have h32 := ib_le k31
              refine lv_iload_n hx hb dX9_tidesToReturn_75 rfl (lv_at hl 3 rfl) ?_
              refine lv_iload hx hb dX9_tidesToReturn_76 (lv_at hl 2 rfl) ?_
              refine lv_ishr hx hb dX9_tidesToReturn_78 ?_
              refine lv_topi (fun z33 e34 => ?_)
              refine lv_iconst (v := 1) hx hb dX9_tidesToReturn_79 (by decide) ?_
              refine lv_iand hx hb dX9_tidesToReturn_80 ?_
              refine lv_topi (fun z35 e36 => ?_)
              have b37 : Bd z35 (0) (1) := ib_and 1 e36 (by decide) (by decide)
              refine lv_iconst (v := 1) hx hb dX9_tidesToReturn_81 (by decide) ?_
              refine lv_icmp_ne (tgt := 88) hx hb dX9_tidesToReturn_82 (by decide) (fun k38 => ?_) (fun k38 => ?_)
              · have h39 := ib_ne k38
                have b40 : Bd z35 (0) (0) := rf_nhi b37 (by decide : Bd 1 (1) (1)) h39
                refine lv_iload_n hx hb dX9_tidesToReturn_88 rfl (lv_at hl 3 rfl) ?_
                refine lv_iconst (v := 1) hx hb dX9_tidesToReturn_89 (by decide) ?_
                refine lv_iload hx hb dX9_tidesToReturn_90 (lv_at hl 2 rfl) ?_
                refine lv_ishl hx hb dX9_tidesToReturn_92 ?_
                refine lv_topi (fun z41 e42 => ?_)
                refine lv_ior hx hb dX9_tidesToReturn_93 ?_
                refine lv_topi (fun z43 e44 => ?_)
                refine lv_istore_n (lv' := [(3, .int z43), (6, .int x36_6), (5, .int x21_5), (4, .int x36_4), (2, .int v21), (0, .ref (ad 104)), (1, .int a1)]) hx hb dX9_tidesToReturn_94 rfl hl (by decide) rfl (fun ls hl => ?_)
                obtain ⟨z45, e46⟩ : ∃ z : Int32, z = x21_5 + 1 := ⟨_, rfl⟩
                have t47 := ib_add e46 b30 (by decide : Bd 1 (1) (1)) (by decide) (by decide)
                have b48 : Bd z45 (2) (13) := ib_addb t47 b30 (by decide : Bd 1 (1) (1))
                have t47 : z45.toInt = x21_5.toInt + 1 := fold_add t47 rfl (by decide)
                refine lv_iinc (v := z45) (lv' := [(5, .int z45), (3, .int z43), (6, .int x36_6), (4, .int x36_4), (2, .int v21), (0, .ref (ad 104)), (1, .int a1)]) hx hb dX9_tidesToReturn_95 hl (k := 2) rfl (by rw [e46]; rfl) (by decide) rfl (fun ls hl => ?_)
                refine lv_goto (tgt := 21) hx hb dX9_tidesToReturn_98 (by decide) ?_
                exact ih21 _ _ _ z43 x36_4 z45 Bx36_4 (ib_wk b48 (by decide) (by decide)) (by omega) hQ (lv_sub hl [0, 3, 1, 4, 5, 6] rfl)
              · have h49 := ib_eq k38
                have b50 : Bd z35 (1) (1) := ⟨((rf_eq b37 (by decide : Bd 1 (1) (1)) h49).1).1, (b37).2⟩
                refine lv_iload hx hb dX9_tidesToReturn_85 (lv_at hl 1 rfl) ?_
                exact xri E hr hlk hQ (⟨rfl, (ib_wk b30 (by decide) (by decide))⟩) dX9_tidesToReturn_87
            · have h51 := ib_nle k31
              have b52 : Bd x36_6 (0) (35) := ⟨(Bx36_6).1, ((rf_lt Bx36_6 b22 h51).1).2⟩
              have b53 : Bd v21 (1) (36) := ⟨((rf_lt Bx36_6 b22 h51).2).1, (b22).2⟩
              refine lv_aload_n hx hb dX9_tidesToReturn_42 rfl (lv_at hl 5 rfl) ?_
              refine xget E hQ 104 (by decide) c14 rfl 0 (by decide) q435 rfl dX9_tidesToReturn_43 ?_
              refine lv_iload hx hb dX9_tidesToReturn_46 (lv_at hl 2 rfl) ?_
              refine lv_iload hx hb dX9_tidesToReturn_48 (lv_at hl 0 rfl) ?_
              refine xcVi E hs hQ hml hl.1 2 (gX1_drifted_2 l g ad hD S hI x36_4 x36_6 Bx36_4 (by omega)) mX1_drifted q1125 (by decide) c11 rfl rfl ⟨(Nat.le_of_ble_eq_true rfl), (Nat.le_of_ble_eq_true rfl)⟩ ⟨(Nat.le_of_ble_eq_true rfl), (Nat.le_of_ble_eq_true rfl)⟩ (Nat.le_of_ble_eq_true rfl) rfl dX9_tidesToReturn_50 (fun r54 S54 H locs hp54 hQ _ => ?_)
              obtain ⟨rfl, b54⟩ := hp54
              refine lv_istore (lv' := [(4, .int r54), (6, .int x36_6), (5, .int x21_5), (3, .int x21_3), (2, .int v21), (0, .ref (ad 104)), (1, .int a1)]) hx hb dX9_tidesToReturn_53 hl (by decide) rfl (fun ls hl => ?_)
              refine lv_aload_n hx hb dX9_tidesToReturn_55 rfl (lv_at hl 5 rfl) ?_
              refine xget E hQ 104 (by decide) c14 rfl 0 (by decide) q435 rfl dX9_tidesToReturn_56 ?_
              refine lv_iload hx hb dX9_tidesToReturn_59 (lv_at hl 0 rfl) ?_
              refine xcVi E hs hQ hml hl.1 2 (gX1_isBeach_2 l g ad hD S hI r54) mX1_isBeach q1126 (by decide) c11 rfl rfl ⟨(Nat.le_of_ble_eq_true rfl), (Nat.le_of_ble_eq_true rfl)⟩ ⟨(Nat.le_of_ble_eq_true rfl), (Nat.le_of_ble_eq_true rfl)⟩ (Nat.le_of_ble_eq_true rfl) rfl dX9_tidesToReturn_61 (fun r55 S55 H locs hp55 hQ _ => ?_)
              obtain ⟨rfl, b55⟩ := hp55
              refine lv_if_eq (tgt := 69) hx hb dX9_tidesToReturn_64 (by decide) (fun k56 => ?_) (fun k56 => ?_)
              · have h57 := ib_eq k56
                have b58 : Bd r55 (0) (0) := ⟨(b55).1, ((rf_eq b55 (by decide : Bd 0 (0) (0)) h57).1).2⟩
                obtain ⟨z59, e60⟩ : ∃ z : Int32, z = x36_6 + 1 := ⟨_, rfl⟩
                have t61 := ib_add e60 b52 (by decide : Bd 1 (1) (1)) (by decide) (by decide)
                have b62 : Bd z59 (1) (36) := ib_addb t61 b52 (by decide : Bd 1 (1) (1))
                have t61 : z59.toInt = x36_6.toInt + 1 := fold_add t61 rfl (by decide)
                refine lv_iinc (v := z59) (lv' := [(6, .int z59), (4, .int r54), (5, .int x21_5), (3, .int x21_3), (2, .int v21), (0, .ref (ad 104)), (1, .int a1)]) hx hb dX9_tidesToReturn_69 hl (k := 1) rfl (by rw [e60]; rfl) (by decide) rfl (fun ls hl => ?_)
                refine lv_goto (tgt := 36) hx hb dX9_tidesToReturn_72 (by decide) ?_
                exact ih36 _ _ _ r54 z59 b54 (ib_wk b62 (by decide) (by decide)) (by omega) hQ (lv_sub hl [0, 2, 1, 3, 4, 5, 6] rfl)
              · have h63 := ib_ne k56
                have b64 : Bd r55 (1) (1) := rf_nlo b55 (by decide : Bd 0 (0) (0)) h63
                refine lv_iconst (v := (-1)) hx hb dX9_tidesToReturn_67 (by decide) ?_
                exact xri E hr hlk hQ (⟨rfl, (ib_wk (by decide : Bd (-1) (-1) (-1)) (by decide) (by decide))⟩) dX9_tidesToReturn_68
        obtain ⟨n36, hn36⟩ := fu_n (36)
        exact loop36 n36 _ _ _ x21_4 0 Bx21_4 (ib_wk (by decide : Bd 0 (0) (0)) (by decide) (by decide)) (by have : (0 : Int32).toInt = 0 := (by decide); omega) hQ (lv_sub hl [0, 1, 2, 3, 4, 5, 6] rfl)
  obtain ⟨n21, hn21⟩ := fu_n (19)
  exact loop21 n21 _ _ _ z24 a1 1 ba1 (ib_wk (by decide : Bd 1 (1) (1)) (by decide) (by decide)) (by have : (1 : Int32).toInt = 1 := (by decide); omega) hQ (lv_sub hl [0, 1, 2, 3, 4, 5] rfl)
set_option maxHeartbeats 4000000 in
set_option maxRecDepth 100000 in
theorem gX9_stepFates_104 (l : Launch) (g : GG) (ad : Nat → Nat) (hD : Dj ad 122) (S : SS) (hI : InvX g ad S) (a1 : Int32) (hq1 : 0 ≤ fld (S 2) 1 + (-1)) : Met l yX9_stepFates (wG (.code yX9_stepFates cX9_stepFates 4 none)) (Rm 3) (XPre g ad 122 S [.ref (ad 104), .int a1]) (va_Qv (fun S' => InvX g ad S' ∧ (∀ j, j ∉ ([105, 106] : List Nat) → S' j = S j)) (QB g ad 122) (FA ad 122)) 0 0 (FA ad 122) := by
  refine xmet cX9_stepFates "EbbWreck$Throwing" (by decide) rfl (Nat.le_of_ble_eq_true rfl) (fun p e s m below meth c E hr hlk hml hQ ls hl => ?_)
  have hx := E.1
  have hb := E.2.1
  have hs : Sp ad 122 (FA ad 122) := Sp.fa hD
  have hl : lv_has ls 4 [(0, .ref (ad 104)), (1, .int a1)] := hl
  obtain ⟨v1, v3, v5, v6, v7, v9, c11, b2, b4, b8, b10⟩ := invX_2 hI
  have c11 : S 2 = .inr (1, [.int v1, .int v3, .int v5, .ref (ad 3), .ref (ad 5), .ref (ad 6), .int v6, .int v7, .ref (ad 7), .ref (ad 8), .ref (ad 9), .ref (ad 10), .int v9, .ref (ad 15), .ref (ad 16)]) := c11
  have q12 : fld (S 2) 1 = v3.toInt := fld_of c11 rfl
  have b13 : Bd v3 (1) (12) := ⟨by omega, by omega⟩
  refine lv_aload_n hx hb dX9_stepFates_0 rfl (lv_at hl 0 rfl) ?_
  have c14 := invX_104 hI
  have c14 : S 104 = .inr (9, [.ref (ad 2), .ref (ad 105), .ref (ad 106)]) := c14
  refine xget E hQ 104 (by decide) c14 rfl 1 (by decide) q436 rfl dX9_stepFates_1 ?_
  refine lv_iconst (v := 0) hx hb dX9_stepFates_4 (by decide) ?_
  refine lv_aload_n hx hb dX9_stepFates_5 rfl (lv_at hl 0 rfl) ?_
  refine xget E hQ 104 (by decide) c14 rfl 2 (by decide) q437 rfl dX9_stepFates_6 ?_
  refine lv_iconst (v := 0) hx hb dX9_stepFates_9 (by decide) ?_
  refine lv_bipush (v := 12) hx hb dX9_stepFates_10 (by decide) ?_
  obtain ⟨f15, c16⟩ := invX_105 hI
  obtain ⟨f18, c19⟩ := invX_106 hI
  refine xcopyi E hs hQ hml hl.1 105 (by decide) 106 (by decide) c16 c19 q1148 (by decide) (by decide) (by decide) (Nat.le_of_ble_eq_true rfl) (Nat.le_of_ble_eq_true rfl) (Nat.le_of_ble_eq_true rfl) (Nat.le_of_ble_eq_true rfl) dX9_stepFates_12 (fun H locs S21 eS21 hQ => ?_)
  have hI := invX_up_106 hI eS21 ⟨_, rfl⟩
  have c22 : S21 106 = .inl (g.2 0, 12, .inl (va_cpy f15 f18 (0 : Int32).toNatClampNeg (0 : Int32).toNatClampNeg (12 : Int32).toNatClampNeg)) := up_at eS21 rfl
  refine lv_iconst (v := 0) hx hb dX9_stepFates_15 (by decide) ?_
  refine lv_istore_n (lv' := [(2, .int 0), (0, .ref (ad 104)), (1, .int a1)]) hx hb dX9_stepFates_16 rfl hl (by decide) rfl (fun ls hl => ?_)
  have loop17 : ∀ (n : Nat) (S_17 : SS) (H : Heap) (locs : List Loc) (ls : Array Slot) (x17_2 : Int32), Bd x17_2 (0) (12) → (-1) * x17_2.toInt + 12 < ((n : Nat) : Int) → InvX g ad S_17 → (∀ j, j ∉ ([105] : List Nat) → S_17 j = S21 j) → Hp g ad 122 S_17 (FA ad 122) s.heap H locs → lv_has ls 4 [(2, .int x17_2), (0, .ref (ad 104)), (1, .int a1)] → W p l e (Rm 3) s m [.ref (ad 104), .int a1].toArray below meth c H locs 0 0 (MQ below (va_Qv (fun S' => InvX g ad S' ∧ (∀ j, j ∉ ([105, 106] : List Nat) → S' j = S j)) (QB g ad 122) (FA ad 122)) [.ref (ad 104), .int a1].toArray s 0 0 (FA ad 122)) (F0 m 17 ls []) := by
    intro n
    induction n with
    | zero => intro S_17 H locs ls x17_2 Bx17_2 hn17_ hI hf17 hQ hl; exfalso; have := (Bx17_2).2; omega
    | succ n17_ ih17 =>
      intro S_17 H locs ls x17_2 Bx17_2 hn17_ hI hf17 hQ hl
      refine lv_iload_n hx hb dX9_stepFates_17 rfl (lv_at hl 0 rfl) ?_
      refine lv_aload_n hx hb dX9_stepFates_18 rfl (lv_at hl 1 rfl) ?_
      have c23 : S_17 104 = .inr (9, [.ref (ad 2), .ref (ad 105), .ref (ad 106)]) := ((hf17 104 (by decide)).trans (up_ne eS21 (by decide) c14))
      refine xget E hQ 104 (by decide) c23 rfl 0 (by decide) q435 rfl dX9_stepFates_19 ?_
      have c24 : S_17 2 = .inr (1, [.int v1, .int v3, .int v5, .ref (ad 3), .ref (ad 5), .ref (ad 6), .int v6, .int v7, .ref (ad 7), .ref (ad 8), .ref (ad 9), .ref (ad 10), .int v9, .ref (ad 15), .ref (ad 16)]) := ((hf17 2 (by decide)).trans (up_ne eS21 (by decide) c11))
      refine xget E hQ 2 (by decide) c24 rfl 1 (by decide) q240 rfl dX9_stepFates_22 ?_
      refine lv_icmp_ge (tgt := 82) hx hb dX9_stepFates_25 (by decide) (fun k25 => ?_) (fun k25 => ?_)
      · have h26 := ib_le k25
        have b27 : Bd x17_2 (1) (12) := ⟨((rf_le b13 Bx17_2 h26).2).1, (Bx17_2).2⟩
        exact xrv E hr hlk hQ (⟨hI, (o_trans (up_o o_refl eS21 (by decide)) hf17 (by decide))⟩) dX9_stepFates_82
      · have h28 := ib_nle k25
        have b29 : Bd x17_2 (0) (11) := ⟨(Bx17_2).1, ((rf_lt Bx17_2 b13 h28).1).2⟩
        refine lv_aload_n hx hb dX9_stepFates_28 rfl (lv_at hl 1 rfl) ?_
        refine xget E hQ 104 (by decide) c23 rfl 0 (by decide) q435 rfl dX9_stepFates_29 ?_
        refine lv_iload_n hx hb dX9_stepFates_32 rfl (lv_at hl 0 rfl) ?_
        refine lv_iload_n hx hb dX9_stepFates_33 rfl (lv_at hl 2 rfl) ?_
        have q30 : fld (S_17 2) 1 = v3.toInt := fld_of c24 rfl
        refine xcVi E hs hQ hml hl.1 2 (gX1_drifted_2 l g ad hD S_17 hI x17_2 a1 b29 (by omega)) mX1_drifted q1125 (by decide) c24 rfl rfl ⟨(Nat.le_of_ble_eq_true rfl), (Nat.le_of_ble_eq_true rfl)⟩ ⟨(Nat.le_of_ble_eq_true rfl), (Nat.le_of_ble_eq_true rfl)⟩ (Nat.le_of_ble_eq_true rfl) rfl dX9_stepFates_34 (fun r31 S31 H locs hp31 hQ _ => ?_)
        obtain ⟨rfl, b31⟩ := hp31
        refine lv_istore_n (lv' := [(3, .int r31), (2, .int x17_2), (0, .ref (ad 104)), (1, .int a1)]) hx hb dX9_stepFates_37 rfl hl (by decide) rfl (fun ls hl => ?_)
        refine lv_aload_n hx hb dX9_stepFates_38 rfl (lv_at hl 2 rfl) ?_
        refine xget E hQ 104 (by decide) c23 rfl 1 (by decide) q436 rfl dX9_stepFates_39 ?_
        refine lv_iload_n hx hb dX9_stepFates_42 rfl (lv_at hl 1 rfl) ?_
        refine lv_aload_n hx hb dX9_stepFates_43 rfl (lv_at hl 2 rfl) ?_
        refine xget E hQ 104 (by decide) c23 rfl 0 (by decide) q435 rfl dX9_stepFates_44 ?_
        refine lv_iload_n hx hb dX9_stepFates_47 rfl (lv_at hl 0 rfl) ?_
        refine xcVi E hs hQ hml hl.1 2 (gX1_isBeach_2 l g ad hD S_17 hI r31) mX1_isBeach q1126 (by decide) c24 rfl rfl ⟨(Nat.le_of_ble_eq_true rfl), (Nat.le_of_ble_eq_true rfl)⟩ ⟨(Nat.le_of_ble_eq_true rfl), (Nat.le_of_ble_eq_true rfl)⟩ (Nat.le_of_ble_eq_true rfl) rfl dX9_stepFates_48 (fun r32 S32 H locs hp32 hQ _ => ?_)
        obtain ⟨rfl, b32⟩ := hp32
        refine lv_if_eq (tgt := 69) hx hb dX9_stepFates_51 (by decide) (fun k33 => ?_) (fun k33 => ?_)
        · have h34 := ib_eq k33
          have b35 : Bd r32 (0) (0) := ⟨(b32).1, ((rf_eq b32 (by decide : Bd 0 (0) (0)) h34).1).2⟩
          refine lv_aload_n hx hb dX9_stepFates_69 rfl (lv_at hl 2 rfl) ?_
          refine xget E hQ 104 (by decide) c23 rfl 2 (by decide) q437 rfl dX9_stepFates_70 ?_
          refine lv_iload_n hx hb dX9_stepFates_73 rfl (lv_at hl 0 rfl) ?_
          have c36 : S_17 106 = .inl (g.2 0, 12, .inl (va_cpy f15 f18 (0 : Int32).toNatClampNeg (0 : Int32).toNatClampNeg (12 : Int32).toNatClampNeg)) := ((hf17 106 (by decide)).trans c22)
          refine xiald E hQ 106 (by decide) c36 (ib_in b31 (by decide) (by decide)) dX9_stepFates_74 ?_
          refine lv_topi (fun z37 e38 => ?_)
          obtain ⟨f39, c40⟩ := invX_105 hI
          refine xiast E hs hQ 105 (by decide) c40 (ib_in b29 (by decide) (by decide)) dX9_stepFates_75 (fun H locs S42 eS42 hQ => ?_)
          have hI := invX_up_105 hI eS42 ⟨_, rfl⟩
          have c43 : S42 105 = .inl (g.2 0, 12, .inl (upd f39 (x17_2 : Int32).toNatClampNeg z37)) := up_at eS42 rfl
          obtain ⟨z44, e45⟩ : ∃ z : Int32, z = x17_2 + 1 := ⟨_, rfl⟩
          have t46 := ib_add e45 b29 (by decide : Bd 1 (1) (1)) (by decide) (by decide)
          have b47 : Bd z44 (1) (12) := ib_addb t46 b29 (by decide : Bd 1 (1) (1))
          have t46 : z44.toInt = x17_2.toInt + 1 := fold_add t46 rfl (by decide)
          refine lv_iinc (v := z44) (lv' := [(2, .int z44), (3, .int r31), (0, .ref (ad 104)), (1, .int a1)]) hx hb dX9_stepFates_76 hl (k := 1) rfl (by rw [e45]; rfl) (by decide) rfl (fun ls hl => ?_)
          refine lv_goto (tgt := 17) hx hb dX9_stepFates_79 (by decide) ?_
          exact ih17 _ _ _ _ z44 (ib_wk b47 (by decide) (by decide)) (by omega) hI (up_o hf17 eS42 (by decide)) hQ (lv_sub hl [0, 2, 3] rfl)
        · have h48 := ib_ne k33
          have b49 : Bd r32 (1) (1) := rf_nlo b32 (by decide : Bd 0 (0) (0)) h48
          refine lv_aload_n hx hb dX9_stepFates_54 rfl (lv_at hl 2 rfl) ?_
          refine xget E hQ 104 (by decide) c23 rfl 0 (by decide) q435 rfl dX9_stepFates_55 ?_
          refine lv_iload_n hx hb dX9_stepFates_58 rfl (lv_at hl 0 rfl) ?_
          refine lv_iload_n hx hb dX9_stepFates_59 rfl (lv_at hl 3 rfl) ?_
          refine lv_iconst (v := 1) hx hb dX9_stepFates_60 (by decide) ?_
          refine lv_iadd hx hb dX9_stepFates_61 ?_
          refine lv_topi (fun z50 e51 => ?_)
          refine lv_iconst (v := (-1)) hx hb dX9_stepFates_62 (by decide) ?_
          refine xcVi E hs hQ hml hl.1 2 (gX1_ownerIn_2 l g ad hD S_17 hI r31 z50 (-1)) mX1_ownerIn q1149 (by decide) c24 rfl rfl ⟨(Nat.le_of_ble_eq_true rfl), (Nat.le_of_ble_eq_true rfl)⟩ ⟨(Nat.le_of_ble_eq_true rfl), (Nat.le_of_ble_eq_true rfl)⟩ (Nat.le_of_ble_eq_true rfl) rfl dX9_stepFates_63 (fun r52 S52 H locs hp52 hQ _ => ?_)
          subst hp52
          refine lv_goto (tgt := 75) hx hb dX9_stepFates_66 (by decide) ?_
          obtain ⟨f53, c54⟩ := invX_105 hI
          refine xiast E hs hQ 105 (by decide) c54 (ib_in b29 (by decide) (by decide)) dX9_stepFates_75 (fun H locs S56 eS56 hQ => ?_)
          have hI := invX_up_105 hI eS56 ⟨_, rfl⟩
          have c57 : S56 105 = .inl (g.2 0, 12, .inl (upd f53 (x17_2 : Int32).toNatClampNeg r52)) := up_at eS56 rfl
          obtain ⟨z58, e59⟩ : ∃ z : Int32, z = x17_2 + 1 := ⟨_, rfl⟩
          have t60 := ib_add e59 b29 (by decide : Bd 1 (1) (1)) (by decide) (by decide)
          have b61 : Bd z58 (1) (12) := ib_addb t60 b29 (by decide : Bd 1 (1) (1))
          have t60 : z58.toInt = x17_2.toInt + 1 := fold_add t60 rfl (by decide)
          refine lv_iinc (v := z58) (lv' := [(2, .int z58), (3, .int r31), (0, .ref (ad 104)), (1, .int a1)]) hx hb dX9_stepFates_76 hl (k := 1) rfl (by rw [e59]; rfl) (by decide) rfl (fun ls hl => ?_)
          refine lv_goto (tgt := 17) hx hb dX9_stepFates_79 (by decide) ?_
          exact ih17 _ _ _ _ z58 (ib_wk b61 (by decide) (by decide)) (by omega) hI (up_o hf17 eS56 (by decide)) hQ (lv_sub hl [0, 2, 3] rfl)
  obtain ⟨n17, hn17⟩ := fu_n (12)
  exact loop17 n17 _ _ _ _ 0 (ib_wk (by decide : Bd 0 (0) (0)) (by decide) (by decide)) (by have : (0 : Int32).toInt = 0 := (by decide); omega) hI o_refl hQ (lv_sub hl [0, 1, 2] rfl)
set_option maxHeartbeats 4000000 in
set_option maxRecDepth 100000 in
theorem gX11_phase_0 (l : Launch) (g : GG) (ad : Nat → Nat) (hD : Dj ad 122) (S : SS) (hI : InvX g ad S) (a1 : Int32) (hq1 : 0 ≤ 1201 * fld (S 2) 1 + (-1) * fld (S 2) 0) (hq2 : 0 ≤ 8 * fld (S 2) 1 + (-1) * fld (S 2) 7) (hq3 : 0 ≤ 3 * fld (S 2) 1 + (-1) * fld (S 2) 12) : Met l yX11_phase (wG (.code yX11_phase cX11_phase 2 (some .int))) (Rm 2) (XPre g ad 122 S [.ref (ad 0), .int a1]) (va_Qi (fun _ S' => S = S') (QB g ad 122) (FA ad 122)) 0 0 (FA ad 122) := by
  refine xmet cX11_phase "EbbWreck" (by decide) rfl (Nat.le_of_ble_eq_true rfl) (fun p e s m below meth c E hr hlk hml hQ ls hl => ?_)
  have hx := E.1
  have hb := E.2.1
  have hs : Sp ad 122 (FA ad 122) := Sp.fa hD
  have hl : lv_has ls 2 [(0, .ref (ad 0)), (1, .int a1)] := hl
  obtain ⟨v1, v3, v5, v6, v7, v9, c11, b2, b4, b8, b10⟩ := invX_2 hI
  have c11 : S 2 = .inr (1, [.int v1, .int v3, .int v5, .ref (ad 3), .ref (ad 5), .ref (ad 6), .int v6, .int v7, .ref (ad 7), .ref (ad 8), .ref (ad 9), .ref (ad 10), .int v9, .ref (ad 15), .ref (ad 16)]) := c11
  have q12 : fld (S 2) 1 = v3.toInt := fld_of c11 rfl
  have q13 : fld (S 2) 0 = v1.toInt := fld_of c11 rfl
  have q14 : fld (S 2) 7 = v7.toInt := fld_of c11 rfl
  have q15 : fld (S 2) 12 = v9.toInt := fld_of c11 rfl
  refine lv_aload_n hx hb dX11_phase_0 rfl (lv_at hl 0 rfl) ?_
  refine lv_iload_n hx hb dX11_phase_1 rfl (lv_at hl 1 rfl) ?_
  obtain ⟨v17, v19, v20, c21, b18⟩ := invX_0 hI
  have c21 : S 0 = .inr (11, [.ref (ad 1), .int v17, .int v19, .int v20, .ref (ad 2), .ref (ad 20), .ref (ad 38), .ref (ad 93), .ref (ad 94), .ref (ad 95), .ref (ad 102), .ref (ad 104), .ref (ad 107), .ref (ad 111), .ref (ad 119)]) := c21
  refine xcVi E hs hQ hml hl.1 0 (gX11_isTideHour_0 l g ad hD S hI a1) mX11_isTideHour q874 (by decide) c21 rfl rfl ⟨(Nat.le_of_ble_eq_true rfl), (Nat.le_of_ble_eq_true rfl)⟩ ⟨(Nat.le_of_ble_eq_true rfl), (Nat.le_of_ble_eq_true rfl)⟩ (Nat.le_of_ble_eq_true rfl) rfl dX11_phase_2 (fun r16 S16 H locs hp16 hQ _ => ?_)
  obtain ⟨rfl, b16, g16_0⟩ := hp16
  refine lv_if_eq (tgt := 22) hx hb dX11_phase_5 (by decide) (fun k22 => ?_) (fun k22 => ?_)
  · have h23 := ib_eq k22
    have b24 : Bd r16 (0) (0) := ⟨(b16).1, ((rf_eq b16 (by decide : Bd 0 (0) (0)) h23).1).2⟩
    clear g16_0
    refine lv_bipush (v := (-2)) hx hb dX11_phase_22 (by decide) ?_
    exact xri E hr hlk hQ (rfl) dX11_phase_24
  · have h25 := ib_ne k22
    have b26 : Bd r16 (1) (1) := rf_nlo b16 (by decide : Bd 0 (0) (0)) h25
    have g27 := g16_0.resolve_left (by omega)
    clear g16_0
    have b28 : Bd v1 (1) (1201) := ⟨by omega, by omega⟩
    refine lv_aload_n hx hb dX11_phase_8 rfl (lv_at hl 0 rfl) ?_
    refine xget E hQ 0 (by decide) c21 rfl 4 (by decide) q520 rfl dX11_phase_9 ?_
    refine xget E hQ 2 (by decide) c11 rfl 3 (by decide) q254 rfl dX11_phase_12 ?_
    refine lv_iload_n hx hb dX11_phase_15 rfl (lv_at hl 1 rfl) ?_
    obtain ⟨v30, v32, v34, v36, c38, b31, b33, b35, b37⟩ := invX_3 hI
    have c38 : S 3 = .inr (10, [.int v30, .int v32, .int v34, .int v36, .ref (ad 4)]) := c38
    refine xcVi E hs hQ hml hl.1 3 (gX10_phaseOf_3 l g ad hD S hI a1) mX10_phaseOf q886 (by decide) c38 rfl rfl ⟨(Nat.le_of_ble_eq_true rfl), (Nat.le_of_ble_eq_true rfl)⟩ ⟨(Nat.le_of_ble_eq_true rfl), (Nat.le_of_ble_eq_true rfl)⟩ (Nat.le_of_ble_eq_true rfl) rfl dX11_phase_16 (fun r29 S29 H locs hp29 hQ _ => ?_)
    subst hp29
    refine lv_goto (tgt := 24) hx hb dX11_phase_19 (by decide) ?_
    exact xri E hr hlk hQ (rfl) dX11_phase_24
set_option maxHeartbeats 4000000 in
set_option maxRecDepth 100000 in
theorem gX11_next_0 (l : Launch) (g : GG) (ad : Nat → Nat) (hD : Dj ad 122) (S : SS) (hI : InvX g ad S) (a1 : Int32) (a2 : Int32) (hq1 : 0 ≤ 1201 * fld (S 2) 1 + (-1) * fld (S 2) 0) (hq2 : 0 ≤ 8 * fld (S 2) 1 + (-1) * fld (S 2) 7) (hq3 : 0 ≤ 3 * fld (S 2) 1 + (-1) * fld (S 2) 12) : Met l yX11_next (wG (.code yX11_next cX11_next 3 (some .int))) (Rm 2) (XPre g ad 122 S [.ref (ad 0), .int a1, .int a2]) (va_Qi (fun _ S' => S = S') (QB g ad 122) (FA ad 122)) 0 0 (FA ad 122) := by
  refine xmet cX11_next "EbbWreck" (by decide) rfl (Nat.le_of_ble_eq_true rfl) (fun p e s m below meth c E hr hlk hml hQ ls hl => ?_)
  have hx := E.1
  have hb := E.2.1
  have hs : Sp ad 122 (FA ad 122) := Sp.fa hD
  have hl : lv_has ls 3 [(0, .ref (ad 0)), (1, .int a1), (2, .int a2)] := hl
  obtain ⟨v1, v3, v5, v6, v7, v9, c11, b2, b4, b8, b10⟩ := invX_2 hI
  have c11 : S 2 = .inr (1, [.int v1, .int v3, .int v5, .ref (ad 3), .ref (ad 5), .ref (ad 6), .int v6, .int v7, .ref (ad 7), .ref (ad 8), .ref (ad 9), .ref (ad 10), .int v9, .ref (ad 15), .ref (ad 16)]) := c11
  have q12 : fld (S 2) 1 = v3.toInt := fld_of c11 rfl
  have q13 : fld (S 2) 0 = v1.toInt := fld_of c11 rfl
  have q14 : fld (S 2) 7 = v7.toInt := fld_of c11 rfl
  have q15 : fld (S 2) 12 = v9.toInt := fld_of c11 rfl
  refine lv_aload_n hx hb dX11_next_0 rfl (lv_at hl 0 rfl) ?_
  obtain ⟨v16, v18, v19, c20, b17⟩ := invX_0 hI
  have c20 : S 0 = .inr (11, [.ref (ad 1), .int v16, .int v18, .int v19, .ref (ad 2), .ref (ad 20), .ref (ad 38), .ref (ad 93), .ref (ad 94), .ref (ad 95), .ref (ad 102), .ref (ad 104), .ref (ad 107), .ref (ad 111), .ref (ad 119)]) := c20
  refine xget E hQ 0 (by decide) c20 rfl 4 (by decide) q520 rfl dX11_next_1 ?_
  refine xcVi E hs hQ hml hl.1 2 (gX1_isTold_2 l g ad hD S hI ) mX1_isTold q878 (by decide) c11 rfl rfl ⟨(Nat.le_of_ble_eq_true rfl), (Nat.le_of_ble_eq_true rfl)⟩ ⟨(Nat.le_of_ble_eq_true rfl), (Nat.le_of_ble_eq_true rfl)⟩ (Nat.le_of_ble_eq_true rfl) rfl dX11_next_4 (fun r21 S21 H locs hp21 hQ _ => ?_)
  obtain ⟨rfl, b21, g21_0⟩ := hp21
  refine lv_if_eq (tgt := 26) hx hb dX11_next_7 (by decide) (fun k22 => ?_) (fun k22 => ?_)
  · have h23 := ib_eq k22
    have b24 : Bd r21 (0) (0) := ⟨(b21).1, ((rf_eq b21 (by decide : Bd 0 (0) (0)) h23).1).2⟩
    clear g21_0
    refine lv_bipush (v := (-2)) hx hb dX11_next_26 (by decide) ?_
    exact xri E hr hlk hQ (rfl) dX11_next_28
  · have h25 := ib_ne k22
    have b26 : Bd r21 (1) (1) := rf_nlo b21 (by decide : Bd 0 (0) (0)) h25
    have g27 := g21_0.resolve_left (by omega)
    clear g21_0
    have b28 : Bd v1 (1) (1201) := ⟨by omega, by omega⟩
    refine lv_iload_n hx hb dX11_next_10 rfl (lv_at hl 1 rfl) ?_
    refine lv_ldc (v := 1000000000) hx hb E.2.2.1 (E.2.2.2.1 _ q891) dX11_next_11 ?_
    refine xcSi E hs hQ hml hl.1 (gX11_isWithin l g ad hD S hI a1 1000000000) mX11_isWithin q883 rfl ⟨(Nat.le_of_ble_eq_true rfl), (Nat.le_of_ble_eq_true rfl)⟩ ⟨(Nat.le_of_ble_eq_true rfl), (Nat.le_of_ble_eq_true rfl)⟩ (Nat.le_of_ble_eq_true rfl) rfl dX11_next_13 (fun r29 S29 H locs hp29 hQ => ?_)
    obtain ⟨rfl, b29, g29_0⟩ := hp29
    have q30 : (1000000000 : Int32).toInt = 1000000000 := by decide
    refine lv_if_eq (tgt := 26) hx hb dX11_next_16 (by decide) (fun k31 => ?_) (fun k31 => ?_)
    · have h32 := ib_eq k31
      have b33 : Bd r29 (0) (0) := ⟨(b29).1, ((rf_eq b29 (by decide : Bd 0 (0) (0)) h32).1).2⟩
      clear g29_0
      refine lv_bipush (v := (-2)) hx hb dX11_next_26 (by decide) ?_
      exact xri E hr hlk hQ (rfl) dX11_next_28
    · have h34 := ib_ne k31
      have b35 : Bd r29 (1) (1) := rf_nlo b29 (by decide : Bd 0 (0) (0)) h34
      have g36 := g29_0.resolve_left (by omega)
      clear g29_0
      have b37 : Bd a1 (0) (1000000000) := ⟨by omega, by omega⟩
      refine lv_iload_n hx hb dX11_next_19 rfl (lv_at hl 2 rfl) ?_
      refine xcSi E hs hQ hml hl.1 (gX11_isPhase l g ad hD S hI a2) mX11_isPhase q892 rfl ⟨(Nat.le_of_ble_eq_true rfl), (Nat.le_of_ble_eq_true rfl)⟩ ⟨(Nat.le_of_ble_eq_true rfl), (Nat.le_of_ble_eq_true rfl)⟩ (Nat.le_of_ble_eq_true rfl) rfl dX11_next_20 (fun r38 S38 H locs hp38 hQ => ?_)
      obtain ⟨rfl, b38⟩ := hp38
      refine lv_if_ne (tgt := 29) hx hb dX11_next_23 (by decide) (fun k39 => ?_) (fun k39 => ?_)
      · have h40 := ib_ne k39
        have b41 : Bd r38 (1) (1) := rf_nlo b38 (by decide : Bd 0 (0) (0)) h40
        refine lv_aload_n hx hb dX11_next_29 rfl (lv_at hl 0 rfl) ?_
        refine xget E hQ 0 (by decide) c20 rfl 4 (by decide) q520 rfl dX11_next_30 ?_
        refine xget E hQ 2 (by decide) c11 rfl 3 (by decide) q254 rfl dX11_next_33 ?_
        refine lv_iload_n hx hb dX11_next_36 rfl (lv_at hl 1 rfl) ?_
        refine lv_iload_n hx hb dX11_next_37 rfl (lv_at hl 2 rfl) ?_
        obtain ⟨v43, v45, v47, v49, c51, b44, b46, b48, b50⟩ := invX_3 hI
        have c51 : S 3 = .inr (10, [.int v43, .int v45, .int v47, .int v49, .ref (ad 4)]) := c51
        refine xcVi E hs hQ hml hl.1 3 (gX10_firstOf_3 l g ad hD S hI a1 a2) mX10_firstOf q895 (by decide) c51 rfl rfl ⟨(Nat.le_of_ble_eq_true rfl), (Nat.le_of_ble_eq_true rfl)⟩ ⟨(Nat.le_of_ble_eq_true rfl), (Nat.le_of_ble_eq_true rfl)⟩ (Nat.le_of_ble_eq_true rfl) rfl dX11_next_38 (fun r42 S42 H locs hp42 hQ _ => ?_)
        subst hp42
        exact xri E hr hlk hQ (rfl) dX11_next_41
      · have h52 := ib_eq k39
        have b53 : Bd r38 (0) (0) := ⟨(b38).1, ((rf_eq b38 (by decide : Bd 0 (0) (0)) h52).1).2⟩
        refine lv_bipush (v := (-2)) hx hb dX11_next_26 (by decide) ?_
        exact xri E hr hlk hQ (rfl) dX11_next_28
set_option maxHeartbeats 4000000 in
set_option maxRecDepth 100000 in
theorem gX11_lasts_0 (l : Launch) (g : GG) (ad : Nat → Nat) (hD : Dj ad 122) (S : SS) (hI : InvX g ad S) (a1 : Int32) (hq1 : 0 ≤ 1201 * fld (S 2) 1 + (-1) * fld (S 2) 0) (hq2 : 0 ≤ 8 * fld (S 2) 1 + (-1) * fld (S 2) 7) (hq3 : 0 ≤ 3 * fld (S 2) 1 + (-1) * fld (S 2) 12) : Met l yX11_lasts (wG (.code yX11_lasts cX11_lasts 2 (some .int))) (Rm 2) (XPre g ad 122 S [.ref (ad 0), .int a1]) (va_Qi (fun r S' => S = S' ∧ Bd r (-40) (47)) (QB g ad 122) (FA ad 122)) 0 0 (FA ad 122) := by
  refine xmet cX11_lasts "EbbWreck" (by decide) rfl (Nat.le_of_ble_eq_true rfl) (fun p e s m below meth c E hr hlk hml hQ ls hl => ?_)
  have hx := E.1
  have hb := E.2.1
  have hs : Sp ad 122 (FA ad 122) := Sp.fa hD
  have hl : lv_has ls 2 [(0, .ref (ad 0)), (1, .int a1)] := hl
  obtain ⟨v1, v3, v5, v6, v7, v9, c11, b2, b4, b8, b10⟩ := invX_2 hI
  have c11 : S 2 = .inr (1, [.int v1, .int v3, .int v5, .ref (ad 3), .ref (ad 5), .ref (ad 6), .int v6, .int v7, .ref (ad 7), .ref (ad 8), .ref (ad 9), .ref (ad 10), .int v9, .ref (ad 15), .ref (ad 16)]) := c11
  have q12 : fld (S 2) 1 = v3.toInt := fld_of c11 rfl
  have q13 : fld (S 2) 0 = v1.toInt := fld_of c11 rfl
  have q14 : fld (S 2) 7 = v7.toInt := fld_of c11 rfl
  have q15 : fld (S 2) 12 = v9.toInt := fld_of c11 rfl
  refine lv_aload_n hx hb dX11_lasts_0 rfl (lv_at hl 0 rfl) ?_
  refine lv_iload_n hx hb dX11_lasts_1 rfl (lv_at hl 1 rfl) ?_
  obtain ⟨v17, v19, v20, c21, b18⟩ := invX_0 hI
  have c21 : S 0 = .inr (11, [.ref (ad 1), .int v17, .int v19, .int v20, .ref (ad 2), .ref (ad 20), .ref (ad 38), .ref (ad 93), .ref (ad 94), .ref (ad 95), .ref (ad 102), .ref (ad 104), .ref (ad 107), .ref (ad 111), .ref (ad 119)]) := c21
  refine xcVi E hs hQ hml hl.1 0 (gX11_isTideHour_0 l g ad hD S hI a1) mX11_isTideHour q874 (by decide) c21 rfl rfl ⟨(Nat.le_of_ble_eq_true rfl), (Nat.le_of_ble_eq_true rfl)⟩ ⟨(Nat.le_of_ble_eq_true rfl), (Nat.le_of_ble_eq_true rfl)⟩ (Nat.le_of_ble_eq_true rfl) rfl dX11_lasts_2 (fun r16 S16 H locs hp16 hQ _ => ?_)
  obtain ⟨rfl, b16, g16_0⟩ := hp16
  refine lv_if_eq (tgt := 22) hx hb dX11_lasts_5 (by decide) (fun k22 => ?_) (fun k22 => ?_)
  · have h23 := ib_eq k22
    have b24 : Bd r16 (0) (0) := ⟨(b16).1, ((rf_eq b16 (by decide : Bd 0 (0) (0)) h23).1).2⟩
    clear g16_0
    refine lv_bipush (v := (-2)) hx hb dX11_lasts_22 (by decide) ?_
    exact xri E hr hlk hQ (⟨rfl, (ib_wk (by decide : Bd (-2) (-2) (-2)) (by decide) (by decide))⟩) dX11_lasts_24
  · have h25 := ib_ne k22
    have b26 : Bd r16 (1) (1) := rf_nlo b16 (by decide : Bd 0 (0) (0)) h25
    have g27 := g16_0.resolve_left (by omega)
    clear g16_0
    have b28 : Bd v1 (1) (1201) := ⟨by omega, by omega⟩
    refine lv_aload_n hx hb dX11_lasts_8 rfl (lv_at hl 0 rfl) ?_
    refine xget E hQ 0 (by decide) c21 rfl 4 (by decide) q520 rfl dX11_lasts_9 ?_
    refine xget E hQ 2 (by decide) c11 rfl 3 (by decide) q254 rfl dX11_lasts_12 ?_
    refine lv_iload_n hx hb dX11_lasts_15 rfl (lv_at hl 1 rfl) ?_
    obtain ⟨v30, v32, v34, v36, c38, b31, b33, b35, b37⟩ := invX_3 hI
    have c38 : S 3 = .inr (10, [.int v30, .int v32, .int v34, .int v36, .ref (ad 4)]) := c38
    refine xcVi E hs hQ hml hl.1 3 (gX10_hoursLeft_3 l g ad hD S hI a1) mX10_hoursLeft q904 (by decide) c38 rfl rfl ⟨(Nat.le_of_ble_eq_true rfl), (Nat.le_of_ble_eq_true rfl)⟩ ⟨(Nat.le_of_ble_eq_true rfl), (Nat.le_of_ble_eq_true rfl)⟩ (Nat.le_of_ble_eq_true rfl) rfl dX11_lasts_16 (fun r29 S29 H locs hp29 hQ _ => ?_)
    obtain ⟨rfl, b29⟩ := hp29
    refine lv_goto (tgt := 24) hx hb dX11_lasts_19 (by decide) ?_
    exact xri E hr hlk hQ (⟨rfl, b29⟩) dX11_lasts_24
set_option maxHeartbeats 4000000 in
set_option maxRecDepth 100000 in
theorem gX11_slacks_0 (l : Launch) (g : GG) (ad : Nat → Nat) (hD : Dj ad 122) (S : SS) (hI : InvX g ad S) (a1 : Int32) (hq1 : 0 ≤ 1201 * fld (S 2) 1 + (-1) * fld (S 2) 0) (hq2 : 0 ≤ 8 * fld (S 2) 1 + (-1) * fld (S 2) 7) (hq3 : 0 ≤ 3 * fld (S 2) 1 + (-1) * fld (S 2) 12) : Met l yX11_slacks (wG (.code yX11_slacks cX11_slacks 2 (some .int))) (Rm 2) (XPre g ad 122 S [.ref (ad 0), .int a1]) (va_Qi (fun _ S' => S = S') (QB g ad 122) (FA ad 122)) 0 0 (FA ad 122) := by
  refine xmet cX11_slacks "EbbWreck" (by decide) rfl (Nat.le_of_ble_eq_true rfl) (fun p e s m below meth c E hr hlk hml hQ ls hl => ?_)
  have hx := E.1
  have hb := E.2.1
  have hs : Sp ad 122 (FA ad 122) := Sp.fa hD
  have hl : lv_has ls 2 [(0, .ref (ad 0)), (1, .int a1)] := hl
  obtain ⟨v1, v3, v5, v6, v7, v9, c11, b2, b4, b8, b10⟩ := invX_2 hI
  have c11 : S 2 = .inr (1, [.int v1, .int v3, .int v5, .ref (ad 3), .ref (ad 5), .ref (ad 6), .int v6, .int v7, .ref (ad 7), .ref (ad 8), .ref (ad 9), .ref (ad 10), .int v9, .ref (ad 15), .ref (ad 16)]) := c11
  have q12 : fld (S 2) 1 = v3.toInt := fld_of c11 rfl
  have q13 : fld (S 2) 0 = v1.toInt := fld_of c11 rfl
  have q14 : fld (S 2) 7 = v7.toInt := fld_of c11 rfl
  have q15 : fld (S 2) 12 = v9.toInt := fld_of c11 rfl
  refine lv_aload_n hx hb dX11_slacks_0 rfl (lv_at hl 0 rfl) ?_
  refine lv_iload_n hx hb dX11_slacks_1 rfl (lv_at hl 1 rfl) ?_
  obtain ⟨v17, v19, v20, c21, b18⟩ := invX_0 hI
  have c21 : S 0 = .inr (11, [.ref (ad 1), .int v17, .int v19, .int v20, .ref (ad 2), .ref (ad 20), .ref (ad 38), .ref (ad 93), .ref (ad 94), .ref (ad 95), .ref (ad 102), .ref (ad 104), .ref (ad 107), .ref (ad 111), .ref (ad 119)]) := c21
  refine xcVi E hs hQ hml hl.1 0 (gX11_isTideHour_0 l g ad hD S hI a1) mX11_isTideHour q874 (by decide) c21 rfl rfl ⟨(Nat.le_of_ble_eq_true rfl), (Nat.le_of_ble_eq_true rfl)⟩ ⟨(Nat.le_of_ble_eq_true rfl), (Nat.le_of_ble_eq_true rfl)⟩ (Nat.le_of_ble_eq_true rfl) rfl dX11_slacks_2 (fun r16 S16 H locs hp16 hQ _ => ?_)
  obtain ⟨rfl, b16, g16_0⟩ := hp16
  refine lv_if_eq (tgt := 22) hx hb dX11_slacks_5 (by decide) (fun k22 => ?_) (fun k22 => ?_)
  · have h23 := ib_eq k22
    have b24 : Bd r16 (0) (0) := ⟨(b16).1, ((rf_eq b16 (by decide : Bd 0 (0) (0)) h23).1).2⟩
    clear g16_0
    refine lv_bipush (v := (-2)) hx hb dX11_slacks_22 (by decide) ?_
    exact xri E hr hlk hQ (rfl) dX11_slacks_24
  · have h25 := ib_ne k22
    have b26 : Bd r16 (1) (1) := rf_nlo b16 (by decide : Bd 0 (0) (0)) h25
    have g27 := g16_0.resolve_left (by omega)
    clear g16_0
    have b28 : Bd v1 (1) (1201) := ⟨by omega, by omega⟩
    refine lv_aload_n hx hb dX11_slacks_8 rfl (lv_at hl 0 rfl) ?_
    refine xget E hQ 0 (by decide) c21 rfl 4 (by decide) q520 rfl dX11_slacks_9 ?_
    refine xget E hQ 2 (by decide) c11 rfl 3 (by decide) q254 rfl dX11_slacks_12 ?_
    refine lv_iload_n hx hb dX11_slacks_15 rfl (lv_at hl 1 rfl) ?_
    obtain ⟨v30, v32, v34, v36, c38, b31, b33, b35, b37⟩ := invX_3 hI
    have c38 : S 3 = .inr (10, [.int v30, .int v32, .int v34, .int v36, .ref (ad 4)]) := c38
    refine xcVi E hs hQ hml hl.1 3 (gX10_slackHoursAhead_3 l g ad hD S hI a1) mX10_slackHoursAhead q912 (by decide) c38 rfl rfl ⟨(Nat.le_of_ble_eq_true rfl), (Nat.le_of_ble_eq_true rfl)⟩ ⟨(Nat.le_of_ble_eq_true rfl), (Nat.le_of_ble_eq_true rfl)⟩ (Nat.le_of_ble_eq_true rfl) rfl dX11_slacks_16 (fun r29 S29 H locs hp29 hQ _ => ?_)
    subst hp29
    refine lv_goto (tgt := 24) hx hb dX11_slacks_19 (by decide) ?_
    exact xri E hr hlk hQ (rfl) dX11_slacks_24
set_option maxHeartbeats 4000000 in
set_option maxRecDepth 100000 in
theorem gX11_cell_0 (l : Launch) (g : GG) (ad : Nat → Nat) (hD : Dj ad 122) (S : SS) (hI : InvX g ad S) (a1 : Int32) (a2 : Int32) (hq1 : 0 ≤ 1201 * fld (S 2) 1 + (-1) * fld (S 2) 0) (hq2 : 0 ≤ 8 * fld (S 2) 1 + (-1) * fld (S 2) 7) (hq3 : 0 ≤ 3 * fld (S 2) 1 + (-1) * fld (S 2) 12) : Met l yX11_cell (wG (.code yX11_cell cX11_cell 3 (some .int))) (Rm 1) (XPre g ad 122 S [.ref (ad 0), .int a1, .int a2]) (va_Qi (fun _ S' => S = S') (QB g ad 122) (FA ad 122)) 0 0 (FA ad 122) := by
  refine xmet cX11_cell "EbbWreck" (by decide) rfl (Nat.le_of_ble_eq_true rfl) (fun p e s m below meth c E hr hlk hml hQ ls hl => ?_)
  have hx := E.1
  have hb := E.2.1
  have hs : Sp ad 122 (FA ad 122) := Sp.fa hD
  have hl : lv_has ls 3 [(0, .ref (ad 0)), (1, .int a1), (2, .int a2)] := hl
  obtain ⟨v1, v3, v5, v6, v7, v9, c11, b2, b4, b8, b10⟩ := invX_2 hI
  have c11 : S 2 = .inr (1, [.int v1, .int v3, .int v5, .ref (ad 3), .ref (ad 5), .ref (ad 6), .int v6, .int v7, .ref (ad 7), .ref (ad 8), .ref (ad 9), .ref (ad 10), .int v9, .ref (ad 15), .ref (ad 16)]) := c11
  have q12 : fld (S 2) 1 = v3.toInt := fld_of c11 rfl
  have q13 : fld (S 2) 0 = v1.toInt := fld_of c11 rfl
  have q14 : fld (S 2) 7 = v7.toInt := fld_of c11 rfl
  have q15 : fld (S 2) 12 = v9.toInt := fld_of c11 rfl
  refine lv_aload_n hx hb dX11_cell_0 rfl (lv_at hl 0 rfl) ?_
  obtain ⟨v16, v18, v19, c20, b17⟩ := invX_0 hI
  have c20 : S 0 = .inr (11, [.ref (ad 1), .int v16, .int v18, .int v19, .ref (ad 2), .ref (ad 20), .ref (ad 38), .ref (ad 93), .ref (ad 94), .ref (ad 95), .ref (ad 102), .ref (ad 104), .ref (ad 107), .ref (ad 111), .ref (ad 119)]) := c20
  refine xget E hQ 0 (by decide) c20 rfl 4 (by decide) q520 rfl dX11_cell_1 ?_
  refine lv_iload_n hx hb dX11_cell_4 rfl (lv_at hl 1 rfl) ?_
  refine xcVi E hs hQ hml hl.1 2 (gX1_hasCell_2 l g ad hD S hI a1) mX1_hasCell q823 (by decide) c11 rfl rfl ⟨(Nat.le_of_ble_eq_true rfl), (Nat.le_of_ble_eq_true rfl)⟩ ⟨(Nat.le_of_ble_eq_true rfl), (Nat.le_of_ble_eq_true rfl)⟩ (Nat.le_of_ble_eq_true rfl) rfl dX11_cell_5 (fun r21 S21 H locs hp21 hQ _ => ?_)
  obtain ⟨rfl, b21, g21_0⟩ := hp21
  refine lv_if_ne (tgt := 15) hx hb dX11_cell_8 (by decide) (fun k22 => ?_) (fun k22 => ?_)
  · have h23 := ib_ne k22
    have b24 : Bd r21 (1) (1) := rf_nlo b21 (by decide : Bd 0 (0) (0)) h23
    have g25 := g21_0.resolve_left (by omega)
    clear g21_0
    have b26 : Bd a1 (0) (11) := ⟨by omega, by omega⟩
    have b27 : Bd v3 (1) (12) := ⟨by omega, by omega⟩
    refine lv_iload_n hx hb dX11_cell_15 rfl (lv_at hl 2 rfl) ?_
    rcases pk_ix a2 (n := 3) (by decide) with h28 | h28 | ⟨jh28, hjh28, h28⟩
    · refine lv_tableOut (tgt := 81) hx hb dX11_cell_16 (Or.inl (by have := tlt0 h28; omega)) (by decide) ?_
      have b29 : Bd a2 (-2147483648) (-1) := ⟨((ib_full a2)).1, by have := tlt0 h28; omega⟩
      refine lv_sipush (v := (-1000)) hx hb dX11_cell_81 (by decide) ?_
      exact xri E hr hlk hQ (rfl) dX11_cell_84
    · refine lv_tableOut (tgt := 81) hx hb dX11_cell_16 (Or.inr (by have := tge h28 (by decide); omega)) (by decide) ?_
      have b30 : Bd a2 (3) (2147483647) := ⟨by have := tge h28 (by decide); omega, ((ib_full a2)).2⟩
      refine lv_sipush (v := (-1000)) hx hb dX11_cell_81 (by decide) ?_
      exact xri E hr hlk hQ (rfl) dX11_cell_84
    · rcases (show jh28 = 0 ∨ jh28 = 1 ∨ jh28 = 2 by omega) with rfl | rfl | rfl
      · refine lv_tableIn (off := 28) (tgt := 44) hx hb dX11_cell_16 (by rw [h28]; decide) (by rw [h28]; decide) (by rw [h28]; rfl) (by decide) ?_
        have b31 : Bd a2 (0) (0) := (by rw [h28]; decide)
        refine lv_aload_n hx hb dX11_cell_44 rfl (lv_at hl 0 rfl) ?_
        refine xget E hQ 0 (by decide) c20 rfl 4 (by decide) q520 rfl dX11_cell_45 ?_
        refine xget E hQ 2 (by decide) c11 rfl 4 (by decide) q258 rfl dX11_cell_48 ?_
        refine lv_iload_n hx hb dX11_cell_51 rfl (lv_at hl 1 rfl) ?_
        obtain ⟨f32, c33⟩ := invX_5 hI
        refine xiald E hQ 5 (by decide) c33 (ib_in b26 (by decide) (by decide)) dX11_cell_52 ?_
        refine lv_topi (fun z35 e36 => ?_)
        exact xri E hr hlk hQ (rfl) dX11_cell_53
      · refine lv_tableIn (off := 38) (tgt := 54) hx hb dX11_cell_16 (by rw [h28]; decide) (by rw [h28]; decide) (by rw [h28]; rfl) (by decide) ?_
        have b37 : Bd a2 (1) (1) := (by rw [h28]; decide)
        refine lv_aload_n hx hb dX11_cell_54 rfl (lv_at hl 0 rfl) ?_
        refine xget E hQ 0 (by decide) c20 rfl 4 (by decide) q520 rfl dX11_cell_55 ?_
        refine xget E hQ 2 (by decide) c11 rfl 5 (by decide) q261 rfl dX11_cell_58 ?_
        refine lv_iload_n hx hb dX11_cell_61 rfl (lv_at hl 1 rfl) ?_
        obtain ⟨f38, c39⟩ := invX_6 hI
        refine xiald E hQ 6 (by decide) c39 (ib_in b26 (by decide) (by decide)) dX11_cell_62 ?_
        refine lv_topi (fun z41 e42 => ?_)
        exact xri E hr hlk hQ (rfl) dX11_cell_63
      · refine lv_tableIn (off := 48) (tgt := 64) hx hb dX11_cell_16 (by rw [h28]; decide) (by rw [h28]; decide) (by rw [h28]; rfl) (by decide) ?_
        have b43 : Bd a2 (2) (2) := (by rw [h28]; decide)
        refine lv_aload_n hx hb dX11_cell_64 rfl (lv_at hl 0 rfl) ?_
        refine xget E hQ 0 (by decide) c20 rfl 4 (by decide) q520 rfl dX11_cell_65 ?_
        refine lv_iload_n hx hb dX11_cell_68 rfl (lv_at hl 1 rfl) ?_
        refine xcVi E hs hQ hml hl.1 2 (gX1_isBeach_2 l g ad hD S hI a1) mX1_isBeach q827 (by decide) c11 rfl rfl ⟨(Nat.le_of_ble_eq_true rfl), (Nat.le_of_ble_eq_true rfl)⟩ ⟨(Nat.le_of_ble_eq_true rfl), (Nat.le_of_ble_eq_true rfl)⟩ (Nat.le_of_ble_eq_true rfl) rfl dX11_cell_69 (fun r44 S44 H locs hp44 hQ _ => ?_)
        obtain ⟨rfl, b44⟩ := hp44
        refine lv_if_eq (tgt := 79) hx hb dX11_cell_72 (by decide) (fun k45 => ?_) (fun k45 => ?_)
        · have h46 := ib_eq k45
          have b47 : Bd r44 (0) (0) := ⟨(b44).1, ((rf_eq b44 (by decide : Bd 0 (0) (0)) h46).1).2⟩
          refine lv_iconst (v := 0) hx hb dX11_cell_79 (by decide) ?_
          exact xri E hr hlk hQ (rfl) dX11_cell_80
        · have h48 := ib_ne k45
          have b49 : Bd r44 (1) (1) := rf_nlo b44 (by decide : Bd 0 (0) (0)) h48
          refine lv_iconst (v := 1) hx hb dX11_cell_75 (by decide) ?_
          refine lv_goto (tgt := 80) hx hb dX11_cell_76 (by decide) ?_
          exact xri E hr hlk hQ (rfl) dX11_cell_80
  · have h50 := ib_eq k22
    have b51 : Bd r21 (0) (0) := ⟨(b21).1, ((rf_eq b21 (by decide : Bd 0 (0) (0)) h50).1).2⟩
    clear g21_0
    refine lv_sipush (v := (-1000)) hx hb dX11_cell_11 (by decide) ?_
    exact xri E hr hlk hQ (rfl) dX11_cell_14
set_option maxHeartbeats 4000000 in
set_option maxRecDepth 100000 in
theorem gX11_thing_0 (l : Launch) (g : GG) (ad : Nat → Nat) (hD : Dj ad 122) (S : SS) (hI : InvX g ad S) (a1 : Int32) (a2 : Int32) (hq1 : 0 ≤ 1201 * fld (S 2) 1 + (-1) * fld (S 2) 0) (hq2 : 0 ≤ 8 * fld (S 2) 1 + (-1) * fld (S 2) 7) (hq3 : 0 ≤ 3 * fld (S 2) 1 + (-1) * fld (S 2) 12) : Met l yX11_thing (wG (.code yX11_thing cX11_thing 3 (some .int))) (Rm 1) (XPre g ad 122 S [.ref (ad 0), .int a1, .int a2]) (va_Qi (fun _ S' => S = S') (QB g ad 122) (FA ad 122)) 0 0 (FA ad 122) := by
  refine xmet cX11_thing "EbbWreck" (by decide) rfl (Nat.le_of_ble_eq_true rfl) (fun p e s m below meth c E hr hlk hml hQ ls hl => ?_)
  have hx := E.1
  have hb := E.2.1
  have hs : Sp ad 122 (FA ad 122) := Sp.fa hD
  have hl : lv_has ls 3 [(0, .ref (ad 0)), (1, .int a1), (2, .int a2)] := hl
  obtain ⟨v1, v3, v5, v6, v7, v9, c11, b2, b4, b8, b10⟩ := invX_2 hI
  have c11 : S 2 = .inr (1, [.int v1, .int v3, .int v5, .ref (ad 3), .ref (ad 5), .ref (ad 6), .int v6, .int v7, .ref (ad 7), .ref (ad 8), .ref (ad 9), .ref (ad 10), .int v9, .ref (ad 15), .ref (ad 16)]) := c11
  have q12 : fld (S 2) 1 = v3.toInt := fld_of c11 rfl
  have q13 : fld (S 2) 0 = v1.toInt := fld_of c11 rfl
  have q14 : fld (S 2) 7 = v7.toInt := fld_of c11 rfl
  have q15 : fld (S 2) 12 = v9.toInt := fld_of c11 rfl
  refine lv_aload_n hx hb dX11_thing_0 rfl (lv_at hl 0 rfl) ?_
  obtain ⟨v16, v18, v19, c20, b17⟩ := invX_0 hI
  have c20 : S 0 = .inr (11, [.ref (ad 1), .int v16, .int v18, .int v19, .ref (ad 2), .ref (ad 20), .ref (ad 38), .ref (ad 93), .ref (ad 94), .ref (ad 95), .ref (ad 102), .ref (ad 104), .ref (ad 107), .ref (ad 111), .ref (ad 119)]) := c20
  refine xget E hQ 0 (by decide) c20 rfl 4 (by decide) q520 rfl dX11_thing_1 ?_
  refine lv_iload_n hx hb dX11_thing_4 rfl (lv_at hl 1 rfl) ?_
  refine xcVi E hs hQ hml hl.1 2 (gX1_hasThing_2 l g ad hD S hI a1) mX1_hasThing q832 (by decide) c11 rfl rfl ⟨(Nat.le_of_ble_eq_true rfl), (Nat.le_of_ble_eq_true rfl)⟩ ⟨(Nat.le_of_ble_eq_true rfl), (Nat.le_of_ble_eq_true rfl)⟩ (Nat.le_of_ble_eq_true rfl) rfl dX11_thing_5 (fun r21 S21 H locs hp21 hQ _ => ?_)
  obtain ⟨rfl, b21, g21_0⟩ := hp21
  refine lv_if_ne (tgt := 14) hx hb dX11_thing_8 (by decide) (fun k22 => ?_) (fun k22 => ?_)
  · have h23 := ib_ne k22
    have b24 : Bd r21 (1) (1) := rf_nlo b21 (by decide : Bd 0 (0) (0)) h23
    have g25 := g21_0.resolve_left (by omega)
    clear g21_0
    have b26 : Bd a1 (0) (7) := ⟨by omega, by omega⟩
    have b27 : Bd v7 (1) (8) := ⟨by omega, by omega⟩
    refine lv_iload_n hx hb dX11_thing_14 rfl (lv_at hl 2 rfl) ?_
    rcases pk_ix a2 (n := 3) (by decide) with h28 | h28 | ⟨jh28, hjh28, h28⟩
    · refine lv_tableOut (tgt := 70) hx hb dX11_thing_15 (Or.inl (by have := tlt0 h28; omega)) (by decide) ?_
      have b29 : Bd a2 (-2147483648) (-1) := ⟨((ib_full a2)).1, by have := tlt0 h28; omega⟩
      refine lv_bipush (v := (-2)) hx hb dX11_thing_70 (by decide) ?_
      exact xri E hr hlk hQ (rfl) dX11_thing_72
    · refine lv_tableOut (tgt := 70) hx hb dX11_thing_15 (Or.inr (by have := tge h28 (by decide); omega)) (by decide) ?_
      have b30 : Bd a2 (3) (2147483647) := ⟨by have := tge h28 (by decide); omega, ((ib_full a2)).2⟩
      refine lv_bipush (v := (-2)) hx hb dX11_thing_70 (by decide) ?_
      exact xri E hr hlk hQ (rfl) dX11_thing_72
    · rcases (show jh28 = 0 ∨ jh28 = 1 ∨ jh28 = 2 by omega) with rfl | rfl | rfl
      · refine lv_tableIn (off := 25) (tgt := 40) hx hb dX11_thing_15 (by rw [h28]; decide) (by rw [h28]; decide) (by rw [h28]; rfl) (by decide) ?_
        have b31 : Bd a2 (0) (0) := (by rw [h28]; decide)
        refine lv_aload_n hx hb dX11_thing_40 rfl (lv_at hl 0 rfl) ?_
        refine xget E hQ 0 (by decide) c20 rfl 4 (by decide) q520 rfl dX11_thing_41 ?_
        refine xget E hQ 2 (by decide) c11 rfl 8 (by decide) q276 rfl dX11_thing_44 ?_
        refine lv_iload_n hx hb dX11_thing_47 rfl (lv_at hl 1 rfl) ?_
        obtain ⟨f32, c33⟩ := invX_7 hI
        refine xiald E hQ 7 (by decide) c33 (ib_in b26 (by decide) (by decide)) dX11_thing_48 ?_
        refine lv_topi (fun z35 e36 => ?_)
        exact xri E hr hlk hQ (rfl) dX11_thing_49
      · refine lv_tableIn (off := 35) (tgt := 50) hx hb dX11_thing_15 (by rw [h28]; decide) (by rw [h28]; decide) (by rw [h28]; rfl) (by decide) ?_
        have b37 : Bd a2 (1) (1) := (by rw [h28]; decide)
        refine lv_aload_n hx hb dX11_thing_50 rfl (lv_at hl 0 rfl) ?_
        refine xget E hQ 0 (by decide) c20 rfl 4 (by decide) q520 rfl dX11_thing_51 ?_
        refine xget E hQ 2 (by decide) c11 rfl 9 (by decide) q282 rfl dX11_thing_54 ?_
        refine lv_iload_n hx hb dX11_thing_57 rfl (lv_at hl 1 rfl) ?_
        obtain ⟨f38, c39, b40⟩ := invX_8 hI
        refine xiald E hQ 8 (by decide) c39 (ib_in b26 (by decide) (by decide)) dX11_thing_58 ?_
        refine lv_topi (fun z41 e42 => ?_)
        have b43 : Bd z41 (0) (11) := (by rw [e42]; exact b40 _)
        exact xri E hr hlk hQ (rfl) dX11_thing_59
      · refine lv_tableIn (off := 45) (tgt := 60) hx hb dX11_thing_15 (by rw [h28]; decide) (by rw [h28]; decide) (by rw [h28]; rfl) (by decide) ?_
        have b44 : Bd a2 (2) (2) := (by rw [h28]; decide)
        refine lv_aload_n hx hb dX11_thing_60 rfl (lv_at hl 0 rfl) ?_
        refine xget E hQ 0 (by decide) c20 rfl 4 (by decide) q520 rfl dX11_thing_61 ?_
        refine xget E hQ 2 (by decide) c11 rfl 10 (by decide) q287 rfl dX11_thing_64 ?_
        refine lv_iload_n hx hb dX11_thing_67 rfl (lv_at hl 1 rfl) ?_
        obtain ⟨f45, c46, b47⟩ := invX_9 hI
        refine xiald E hQ 9 (by decide) c46 (ib_in b26 (by decide) (by decide)) dX11_thing_68 ?_
        refine lv_topi (fun z48 e49 => ?_)
        have b50 : Bd z48 (0) (99) := (by rw [e49]; exact b47 _)
        exact xri E hr hlk hQ (rfl) dX11_thing_69
  · have h51 := ib_eq k22
    have b52 : Bd r21 (0) (0) := ⟨(b21).1, ((rf_eq b21 (by decide : Bd 0 (0) (0)) h51).1).2⟩
    clear g21_0
    refine lv_bipush (v := (-2)) hx hb dX11_thing_11 (by decide) ?_
    exact xri E hr hlk hQ (rfl) dX11_thing_13
set_option maxHeartbeats 4000000 in
set_option maxRecDepth 100000 in
theorem gX11_rule_0 (l : Launch) (g : GG) (ad : Nat → Nat) (hD : Dj ad 122) (S : SS) (hI : InvX g ad S) (a1 : Int32) (a2 : Int32) (hq1 : 0 ≤ 1201 * fld (S 2) 1 + (-1) * fld (S 2) 0) (hq2 : 0 ≤ 8 * fld (S 2) 1 + (-1) * fld (S 2) 7) (hq3 : 0 ≤ 3 * fld (S 2) 1 + (-1) * fld (S 2) 12) : Met l yX11_rule (wG (.code yX11_rule cX11_rule 4 (some .int))) (Rm 1) (XPre g ad 122 S [.ref (ad 0), .int a1, .int a2]) (va_Qi (fun _ S' => S = S') (QB g ad 122) (FA ad 122)) 0 0 (FA ad 122) := by
  refine xmet cX11_rule "EbbWreck" (by decide) rfl (Nat.le_of_ble_eq_true rfl) (fun p e s m below meth c E hr hlk hml hQ ls hl => ?_)
  have hx := E.1
  have hb := E.2.1
  have hs : Sp ad 122 (FA ad 122) := Sp.fa hD
  have hl : lv_has ls 4 [(0, .ref (ad 0)), (1, .int a1), (2, .int a2)] := hl
  obtain ⟨v1, v3, v5, v6, v7, v9, c11, b2, b4, b8, b10⟩ := invX_2 hI
  have c11 : S 2 = .inr (1, [.int v1, .int v3, .int v5, .ref (ad 3), .ref (ad 5), .ref (ad 6), .int v6, .int v7, .ref (ad 7), .ref (ad 8), .ref (ad 9), .ref (ad 10), .int v9, .ref (ad 15), .ref (ad 16)]) := c11
  have q12 : fld (S 2) 1 = v3.toInt := fld_of c11 rfl
  have q13 : fld (S 2) 0 = v1.toInt := fld_of c11 rfl
  have q14 : fld (S 2) 7 = v7.toInt := fld_of c11 rfl
  have q15 : fld (S 2) 12 = v9.toInt := fld_of c11 rfl
  refine lv_aload_n hx hb dX11_rule_0 rfl (lv_at hl 0 rfl) ?_
  obtain ⟨v16, v18, v19, c20, b17⟩ := invX_0 hI
  have c20 : S 0 = .inr (11, [.ref (ad 1), .int v16, .int v18, .int v19, .ref (ad 2), .ref (ad 20), .ref (ad 38), .ref (ad 93), .ref (ad 94), .ref (ad 95), .ref (ad 102), .ref (ad 104), .ref (ad 107), .ref (ad 111), .ref (ad 119)]) := c20
  refine xget E hQ 0 (by decide) c20 rfl 4 (by decide) q520 rfl dX11_rule_1 ?_
  refine xget E hQ 2 (by decide) c11 rfl 11 (by decide) q290 rfl dX11_rule_4 ?_
  refine lv_astore_n (lv' := [(3, .ref (ad 10)), (0, .ref (ad 0)), (1, .int a1), (2, .int a2)]) hx hb dX11_rule_7 rfl hl (by decide) rfl (fun ls hl => ?_)
  refine lv_aload_n hx hb dX11_rule_8 rfl (lv_at hl 0 rfl) ?_
  refine lv_iload_n hx hb dX11_rule_9 rfl (lv_at hl 2 rfl) ?_
  obtain ⟨v21, c23, b22⟩ := invX_10 hI
  have c23 : S 10 = .inr (6, [.int v21, .ref (ad 11), .ref (ad 12), .ref (ad 13), .ref (ad 14)]) := c23
  refine xcVi E hs hQ hml hl.1 10 (gX6_hasRule_10 l g ad hD S hI a1) mX6_hasRule q840 (by decide) c23 rfl rfl ⟨(Nat.le_of_ble_eq_true rfl), (Nat.le_of_ble_eq_true rfl)⟩ ⟨(Nat.le_of_ble_eq_true rfl), (Nat.le_of_ble_eq_true rfl)⟩ (Nat.le_of_ble_eq_true rfl) rfl dX11_rule_10 (fun r24 S24 H locs hp24 hQ _ => ?_)
  obtain ⟨rfl, b24, g24_0⟩ := hp24
  have q25 : fld (S 10) 0 = v21.toInt := fld_of c23 rfl
  refine lv_if_ne (tgt := 19) hx hb dX11_rule_13 (by decide) (fun k26 => ?_) (fun k26 => ?_)
  · have h27 := ib_ne k26
    have b28 : Bd r24 (1) (1) := rf_nlo b24 (by decide : Bd 0 (0) (0)) h27
    have g29 := g24_0.resolve_left (by omega)
    clear g24_0
    have b30 : Bd a1 (0) (5) := ⟨by omega, by omega⟩
    have b31 : Bd v21 (1) (6) := ⟨by omega, by omega⟩
    refine lv_iload_n hx hb dX11_rule_19 rfl (lv_at hl 3 rfl) ?_
    rcases pk_ix a2 (n := 4) (by decide) with h32 | h32 | ⟨jh32, hjh32, h32⟩
    · refine lv_tableOut (tgt := 80) hx hb dX11_rule_20 (Or.inl (by have := tlt0 h32; omega)) (by decide) ?_
      have b33 : Bd a2 (-2147483648) (-1) := ⟨((ib_full a2)).1, by have := tlt0 h32; omega⟩
      refine lv_bipush (v := (-2)) hx hb dX11_rule_80 (by decide) ?_
      exact xri E hr hlk hQ (rfl) dX11_rule_82
    · refine lv_tableOut (tgt := 80) hx hb dX11_rule_20 (Or.inr (by have := tge h32 (by decide); omega)) (by decide) ?_
      have b34 : Bd a2 (4) (2147483647) := ⟨by have := tge h32 (by decide); omega, ((ib_full a2)).2⟩
      refine lv_bipush (v := (-2)) hx hb dX11_rule_80 (by decide) ?_
      exact xri E hr hlk hQ (rfl) dX11_rule_82
    · rcases (show jh32 = 0 ∨ jh32 = 1 ∨ jh32 = 2 ∨ jh32 = 3 by omega) with rfl | rfl | rfl | rfl
      · refine lv_tableIn (off := 32) (tgt := 52) hx hb dX11_rule_20 (by rw [h32]; decide) (by rw [h32]; decide) (by rw [h32]; rfl) (by decide) ?_
        have b35 : Bd a2 (0) (0) := (by rw [h32]; decide)
        refine lv_aload_n hx hb dX11_rule_52 rfl (lv_at hl 0 rfl) ?_
        refine xget E hQ 10 (by decide) c23 rfl 1 (by decide) q190 rfl dX11_rule_53 ?_
        refine lv_iload_n hx hb dX11_rule_56 rfl (lv_at hl 2 rfl) ?_
        obtain ⟨f36, c37⟩ := invX_11 hI
        refine xiald E hQ 11 (by decide) c37 (ib_in b30 (by decide) (by decide)) dX11_rule_57 ?_
        refine lv_topi (fun z39 e40 => ?_)
        exact xri E hr hlk hQ (rfl) dX11_rule_58
      · refine lv_tableIn (off := 39) (tgt := 59) hx hb dX11_rule_20 (by rw [h32]; decide) (by rw [h32]; decide) (by rw [h32]; rfl) (by decide) ?_
        have b41 : Bd a2 (1) (1) := (by rw [h32]; decide)
        refine lv_aload_n hx hb dX11_rule_59 rfl (lv_at hl 0 rfl) ?_
        refine xget E hQ 10 (by decide) c23 rfl 2 (by decide) q192 rfl dX11_rule_60 ?_
        refine lv_iload_n hx hb dX11_rule_63 rfl (lv_at hl 2 rfl) ?_
        obtain ⟨f42, c43⟩ := invX_12 hI
        refine xiald E hQ 12 (by decide) c43 (ib_in b30 (by decide) (by decide)) dX11_rule_64 ?_
        refine lv_topi (fun z45 e46 => ?_)
        exact xri E hr hlk hQ (rfl) dX11_rule_65
      · refine lv_tableIn (off := 46) (tgt := 66) hx hb dX11_rule_20 (by rw [h32]; decide) (by rw [h32]; decide) (by rw [h32]; rfl) (by decide) ?_
        have b47 : Bd a2 (2) (2) := (by rw [h32]; decide)
        refine lv_aload_n hx hb dX11_rule_66 rfl (lv_at hl 0 rfl) ?_
        refine xget E hQ 10 (by decide) c23 rfl 3 (by decide) q194 rfl dX11_rule_67 ?_
        refine lv_iload_n hx hb dX11_rule_70 rfl (lv_at hl 2 rfl) ?_
        obtain ⟨f48, c49⟩ := invX_13 hI
        refine xiald E hQ 13 (by decide) c49 (ib_in b30 (by decide) (by decide)) dX11_rule_71 ?_
        refine lv_topi (fun z51 e52 => ?_)
        exact xri E hr hlk hQ (rfl) dX11_rule_72
      · refine lv_tableIn (off := 53) (tgt := 73) hx hb dX11_rule_20 (by rw [h32]; decide) (by rw [h32]; decide) (by rw [h32]; rfl) (by decide) ?_
        have b53 : Bd a2 (3) (3) := (by rw [h32]; decide)
        refine lv_aload_n hx hb dX11_rule_73 rfl (lv_at hl 0 rfl) ?_
        refine xget E hQ 10 (by decide) c23 rfl 4 (by decide) q196 rfl dX11_rule_74 ?_
        refine lv_iload_n hx hb dX11_rule_77 rfl (lv_at hl 2 rfl) ?_
        obtain ⟨f54, c55⟩ := invX_14 hI
        refine xiald E hQ 14 (by decide) c55 (ib_in b30 (by decide) (by decide)) dX11_rule_78 ?_
        refine lv_topi (fun z57 e58 => ?_)
        exact xri E hr hlk hQ (rfl) dX11_rule_79
  · have h59 := ib_eq k26
    have b60 : Bd r24 (0) (0) := ⟨(b24).1, ((rf_eq b24 (by decide : Bd 0 (0) (0)) h59).1).2⟩
    clear g24_0
    refine lv_bipush (v := (-2)) hx hb dX11_rule_16 (by decide) ?_
    exact xri E hr hlk hQ (rfl) dX11_rule_18
set_option maxHeartbeats 4000000 in
set_option maxRecDepth 100000 in
theorem gX11_sitter_0 (l : Launch) (g : GG) (ad : Nat → Nat) (hD : Dj ad 122) (S : SS) (hI : InvX g ad S) (a1 : Int32) (hq1 : 0 ≤ 1201 * fld (S 2) 1 + (-1) * fld (S 2) 0) (hq2 : 0 ≤ 8 * fld (S 2) 1 + (-1) * fld (S 2) 7) (hq3 : 0 ≤ 3 * fld (S 2) 1 + (-1) * fld (S 2) 12) : Met l yX11_sitter (wG (.code yX11_sitter cX11_sitter 2 (some .int))) (Rm 1) (XPre g ad 122 S [.ref (ad 0), .int a1]) (va_Qi (fun r S' => S = S' ∧ Bd r (-2) (11)) (QB g ad 122) (FA ad 122)) 0 0 (FA ad 122) := by
  refine xmet cX11_sitter "EbbWreck" (by decide) rfl (Nat.le_of_ble_eq_true rfl) (fun p e s m below meth c E hr hlk hml hQ ls hl => ?_)
  have hx := E.1
  have hb := E.2.1
  have hs : Sp ad 122 (FA ad 122) := Sp.fa hD
  have hl : lv_has ls 2 [(0, .ref (ad 0)), (1, .int a1)] := hl
  obtain ⟨v1, v3, v5, v6, v7, v9, c11, b2, b4, b8, b10⟩ := invX_2 hI
  have c11 : S 2 = .inr (1, [.int v1, .int v3, .int v5, .ref (ad 3), .ref (ad 5), .ref (ad 6), .int v6, .int v7, .ref (ad 7), .ref (ad 8), .ref (ad 9), .ref (ad 10), .int v9, .ref (ad 15), .ref (ad 16)]) := c11
  have q12 : fld (S 2) 1 = v3.toInt := fld_of c11 rfl
  have q13 : fld (S 2) 0 = v1.toInt := fld_of c11 rfl
  have q14 : fld (S 2) 7 = v7.toInt := fld_of c11 rfl
  have q15 : fld (S 2) 12 = v9.toInt := fld_of c11 rfl
  refine lv_aload_n hx hb dX11_sitter_0 rfl (lv_at hl 0 rfl) ?_
  obtain ⟨v16, v18, v19, c20, b17⟩ := invX_0 hI
  have c20 : S 0 = .inr (11, [.ref (ad 1), .int v16, .int v18, .int v19, .ref (ad 2), .ref (ad 20), .ref (ad 38), .ref (ad 93), .ref (ad 94), .ref (ad 95), .ref (ad 102), .ref (ad 104), .ref (ad 107), .ref (ad 111), .ref (ad 119)]) := c20
  refine xget E hQ 0 (by decide) c20 rfl 4 (by decide) q520 rfl dX11_sitter_1 ?_
  refine lv_iload_n hx hb dX11_sitter_4 rfl (lv_at hl 1 rfl) ?_
  refine xcVi E hs hQ hml hl.1 2 (gX1_hasSitter_2 l g ad hD S hI a1) mX1_hasSitter q848 (by decide) c11 rfl rfl ⟨(Nat.le_of_ble_eq_true rfl), (Nat.le_of_ble_eq_true rfl)⟩ ⟨(Nat.le_of_ble_eq_true rfl), (Nat.le_of_ble_eq_true rfl)⟩ (Nat.le_of_ble_eq_true rfl) rfl dX11_sitter_5 (fun r21 S21 H locs hp21 hQ _ => ?_)
  obtain ⟨rfl, b21, g21_0⟩ := hp21
  refine lv_if_eq (tgt := 23) hx hb dX11_sitter_8 (by decide) (fun k22 => ?_) (fun k22 => ?_)
  · have h23 := ib_eq k22
    have b24 : Bd r21 (0) (0) := ⟨(b21).1, ((rf_eq b21 (by decide : Bd 0 (0) (0)) h23).1).2⟩
    clear g21_0
    refine lv_bipush (v := (-2)) hx hb dX11_sitter_23 (by decide) ?_
    exact xri E hr hlk hQ (⟨rfl, (ib_wk (by decide : Bd (-2) (-2) (-2)) (by decide) (by decide))⟩) dX11_sitter_25
  · have h25 := ib_ne k22
    have b26 : Bd r21 (1) (1) := rf_nlo b21 (by decide : Bd 0 (0) (0)) h25
    have g27 := g21_0.resolve_left (by omega)
    clear g21_0
    have b28 : Bd a1 (0) (2) := ⟨by omega, by omega⟩
    have b29 : Bd v9 (1) (3) := ⟨by omega, by omega⟩
    refine lv_aload_n hx hb dX11_sitter_11 rfl (lv_at hl 0 rfl) ?_
    refine xget E hQ 0 (by decide) c20 rfl 4 (by decide) q520 rfl dX11_sitter_12 ?_
    refine xget E hQ 2 (by decide) c11 rfl 13 (by decide) q299 rfl dX11_sitter_15 ?_
    refine lv_iload_n hx hb dX11_sitter_18 rfl (lv_at hl 1 rfl) ?_
    obtain ⟨f30, c31, b32⟩ := invX_15 hI
    refine xiald E hQ 15 (by decide) c31 (ib_in b28 (by decide) (by decide)) dX11_sitter_19 ?_
    refine lv_topi (fun z33 e34 => ?_)
    have b35 : Bd z33 (0) (11) := (by rw [e34]; exact b32 _)
    refine lv_goto (tgt := 25) hx hb dX11_sitter_20 (by decide) ?_
    exact xri E hr hlk hQ (⟨rfl, (ib_wk b35 (by decide) (by decide))⟩) dX11_sitter_25
set_option maxHeartbeats 4000000 in
set_option maxRecDepth 100000 in
theorem gX11_fault_0 (l : Launch) (g : GG) (ad : Nat → Nat) (hD : Dj ad 122) (S : SS) (hI : InvX g ad S) (a1 : Int32) (hq1 : 0 ≤ 1201 * fld (S 2) 1 + (-1) * fld (S 2) 0) (hq2 : 0 ≤ 8 * fld (S 2) 1 + (-1) * fld (S 2) 7) (hq3 : 0 ≤ 3 * fld (S 2) 1 + (-1) * fld (S 2) 12) : Met l yX11_fault (wG (.code yX11_fault cX11_fault 2 (some .int))) (Rm 0) (XPre g ad 122 S [.ref (ad 0), .int a1]) (va_Qi (fun _ S' => S = S') (QB g ad 122) (FA ad 122)) 0 0 (FA ad 122) := by
  refine xmet cX11_fault "EbbWreck" (by decide) rfl (Nat.le_of_ble_eq_true rfl) (fun p e s m below meth c E hr hlk hml hQ ls hl => ?_)
  have hx := E.1
  have hb := E.2.1
  have hs : Sp ad 122 (FA ad 122) := Sp.fa hD
  have hl : lv_has ls 2 [(0, .ref (ad 0)), (1, .int a1)] := hl
  obtain ⟨v1, v3, v5, v6, v7, v9, c11, b2, b4, b8, b10⟩ := invX_2 hI
  have c11 : S 2 = .inr (1, [.int v1, .int v3, .int v5, .ref (ad 3), .ref (ad 5), .ref (ad 6), .int v6, .int v7, .ref (ad 7), .ref (ad 8), .ref (ad 9), .ref (ad 10), .int v9, .ref (ad 15), .ref (ad 16)]) := c11
  have q12 : fld (S 2) 1 = v3.toInt := fld_of c11 rfl
  have q13 : fld (S 2) 0 = v1.toInt := fld_of c11 rfl
  have q14 : fld (S 2) 7 = v7.toInt := fld_of c11 rfl
  have q15 : fld (S 2) 12 = v9.toInt := fld_of c11 rfl
  refine lv_iload_n hx hb dX11_fault_0 rfl (lv_at hl 1 rfl) ?_
  refine lv_if_ne (tgt := 9) hx hb dX11_fault_1 (by decide) (fun k16 => ?_) (fun k16 => ?_)
  · have h17 := ib_ne k16
    refine lv_iload_n hx hb dX11_fault_9 rfl (lv_at hl 1 rfl) ?_
    refine lv_iconst (v := 1) hx hb dX11_fault_10 (by decide) ?_
    refine lv_icmp_ne (tgt := 21) hx hb dX11_fault_11 (by decide) (fun k18 => ?_) (fun k18 => ?_)
    · have h19 := ib_ne k18
      refine lv_iconst (v := (-1)) hx hb dX11_fault_21 (by decide) ?_
      exact xri E hr hlk hQ (rfl) dX11_fault_22
    · have h20 := ib_eq k18
      have b21 : Bd a1 (1) (1) := ⟨((rf_eq (ib_full a1) (by decide : Bd 1 (1) (1)) h20).1).1, ((rf_eq (ib_full a1) (by decide : Bd 1 (1) (1)) h20).1).2⟩
      refine lv_aload_n hx hb dX11_fault_14 rfl (lv_at hl 0 rfl) ?_
      obtain ⟨v22, v24, v25, c26, b23⟩ := invX_0 hI
      have c26 : S 0 = .inr (11, [.ref (ad 1), .int v22, .int v24, .int v25, .ref (ad 2), .ref (ad 20), .ref (ad 38), .ref (ad 93), .ref (ad 94), .ref (ad 95), .ref (ad 102), .ref (ad 104), .ref (ad 107), .ref (ad 111), .ref (ad 119)]) := c26
      refine xget E hQ 0 (by decide) c26 rfl 3 (by decide) q519 rfl dX11_fault_15 ?_
      refine lv_goto (tgt := 22) hx hb dX11_fault_18 (by decide) ?_
      exact xri E hr hlk hQ (rfl) dX11_fault_22
  · have h27 := ib_eq k16
    have b28 : Bd a1 (0) (0) := ⟨((rf_eq (ib_full a1) (by decide : Bd 0 (0) (0)) h27).1).1, ((rf_eq (ib_full a1) (by decide : Bd 0 (0) (0)) h27).1).2⟩
    refine lv_aload_n hx hb dX11_fault_4 rfl (lv_at hl 0 rfl) ?_
    obtain ⟨v29, v31, v32, c33, b30⟩ := invX_0 hI
    have c33 : S 0 = .inr (11, [.ref (ad 1), .int v29, .int v31, .int v32, .ref (ad 2), .ref (ad 20), .ref (ad 38), .ref (ad 93), .ref (ad 94), .ref (ad 95), .ref (ad 102), .ref (ad 104), .ref (ad 107), .ref (ad 111), .ref (ad 119)]) := c33
    refine xget E hQ 0 (by decide) c33 rfl 2 (by decide) q518 rfl dX11_fault_5 ?_
    exact xri E hr hlk hQ (rfl) dX11_fault_8
set_option maxHeartbeats 4000000 in
set_option maxRecDepth 100000 in
theorem gX11_end_0 (l : Launch) (g : GG) (ad : Nat → Nat) (hD : Dj ad 122) (S : SS) (hI : InvX g ad S) (a1 : Int32) (hq1 : 0 ≤ 1201 * fld (S 2) 1 + (-1) * fld (S 2) 0) (hq2 : 0 ≤ 8 * fld (S 2) 1 + (-1) * fld (S 2) 7) (hq3 : 0 ≤ 3 * fld (S 2) 1 + (-1) * fld (S 2) 12) : Met l yX11_end (wG (.code yX11_end cX11_end 2 (some .int))) (Rm 0) (XPre g ad 122 S [.ref (ad 0), .int a1]) (va_Qi (fun r S' => InvX g ad S' ∧ (∀ j, j ∉ ([0] : List Nat) → S' j = S j) ∧ Bd r (-1) (1200)) (QB g ad 122) (FA ad 122)) 0 0 (FA ad 122) := by
  refine xmet cX11_end "EbbWreck" (by decide) rfl (Nat.le_of_ble_eq_true rfl) (fun p e s m below meth c E hr hlk hml hQ ls hl => ?_)
  have hx := E.1
  have hb := E.2.1
  have hs : Sp ad 122 (FA ad 122) := Sp.fa hD
  have hl : lv_has ls 2 [(0, .ref (ad 0)), (1, .int a1)] := hl
  obtain ⟨v1, v3, v5, v6, v7, v9, c11, b2, b4, b8, b10⟩ := invX_2 hI
  have c11 : S 2 = .inr (1, [.int v1, .int v3, .int v5, .ref (ad 3), .ref (ad 5), .ref (ad 6), .int v6, .int v7, .ref (ad 7), .ref (ad 8), .ref (ad 9), .ref (ad 10), .int v9, .ref (ad 15), .ref (ad 16)]) := c11
  have q12 : fld (S 2) 1 = v3.toInt := fld_of c11 rfl
  have q13 : fld (S 2) 0 = v1.toInt := fld_of c11 rfl
  have q14 : fld (S 2) 7 = v7.toInt := fld_of c11 rfl
  have q15 : fld (S 2) 12 = v9.toInt := fld_of c11 rfl
  refine lv_iload_n hx hb dX11_end_0 rfl (lv_at hl 1 rfl) ?_
  refine lv_if_lt (tgt := 12) hx hb dX11_end_1 (by decide) (fun k16 => ?_) (fun k16 => ?_)
  · have h17 := ib_lt k16
    have b18 : Bd a1 (-2147483648) (-1) := ⟨((ib_full a1)).1, ((rf_lt (ib_full a1) (by decide : Bd 0 (0) (0)) h17).1).2⟩
    refine lv_iconst (v := (-1)) hx hb dX11_end_12 (by decide) ?_
    exact xri E hr hlk hQ (⟨hI, o_refl, (ib_wk (by decide : Bd (-1) (-1) (-1)) (by decide) (by decide))⟩) dX11_end_13
  · have h19 := ib_nlt k16
    have b20 : Bd a1 (0) (2147483647) := ⟨((rf_le (by decide : Bd 0 (0) (0)) (ib_full a1) h19).2).1, ((ib_full a1)).2⟩
    refine lv_iload_n hx hb dX11_end_4 rfl (lv_at hl 1 rfl) ?_
    refine lv_aload_n hx hb dX11_end_5 rfl (lv_at hl 0 rfl) ?_
    obtain ⟨v21, v23, v24, c25, b22⟩ := invX_0 hI
    have c25 : S 0 = .inr (11, [.ref (ad 1), .int v21, .int v23, .int v24, .ref (ad 2), .ref (ad 20), .ref (ad 38), .ref (ad 93), .ref (ad 94), .ref (ad 95), .ref (ad 102), .ref (ad 104), .ref (ad 107), .ref (ad 111), .ref (ad 119)]) := c25
    refine xget E hQ 0 (by decide) c25 rfl 1 (by decide) q517 rfl dX11_end_6 ?_
    refine lv_icmp_le (tgt := 14) hx hb dX11_end_9 (by decide) (fun k26 => ?_) (fun k26 => ?_)
    · have h27 := ib_le k26
      have b28 : Bd a1 (0) (1200) := ⟨(b20).1, ((rf_le b20 b22 h27).1).2⟩
      refine lv_aload_n hx hb dX11_end_14 rfl (lv_at hl 0 rfl) ?_
      refine lv_iload_n hx hb dX11_end_15 rfl (lv_at hl 1 rfl) ?_
      refine xputi E hs hQ 0 (by decide) c25 rfl 1 (by decide) q517 rfl rfl (Nat.le_of_ble_eq_true rfl) dX11_end_16 (fun H locs S29 eS29 hQ => ?_)
      have hI := invX_up_0 hI eS29 ⟨a1, v23, v24, rfl, b28⟩
      have c30 : S29 0 = .inr (11, [.ref (ad 1), .int a1, .int v23, .int v24, .ref (ad 2), .ref (ad 20), .ref (ad 38), .ref (ad 93), .ref (ad 94), .ref (ad 95), .ref (ad 102), .ref (ad 104), .ref (ad 107), .ref (ad 111), .ref (ad 119)]) := up_at eS29 rfl
      refine lv_iload_n hx hb dX11_end_19 rfl (lv_at hl 1 rfl) ?_
      exact xri E hr hlk hQ (⟨hI, (up_o o_refl eS29 (by decide)), (ib_wk b28 (by decide) (by decide))⟩) dX11_end_20
    · have h31 := ib_nle k26
      have b32 : Bd a1 (1) (2147483647) := ⟨((rf_lt b22 b20 h31).2).1, (b20).2⟩
      refine lv_iconst (v := (-1)) hx hb dX11_end_12 (by decide) ?_
      exact xri E hr hlk hQ (⟨hI, o_refl, (ib_wk (by decide : Bd (-1) (-1) (-1)) (by decide) (by decide))⟩) dX11_end_13
set_option maxHeartbeats 4000000 in
set_option maxRecDepth 100000 in
theorem gX11_comes_0 (l : Launch) (g : GG) (ad : Nat → Nat) (hD : Dj ad 122) (S : SS) (hI : InvX g ad S) (a1 : Int32) (hq1 : 0 ≤ 1201 * fld (S 2) 1 + (-1) * fld (S 2) 0) (hq2 : 0 ≤ 8 * fld (S 2) 1 + (-1) * fld (S 2) 7) (hq3 : 0 ≤ 3 * fld (S 2) 1 + (-1) * fld (S 2) 12) : Met l yX11_comes (wG (.code yX11_comes cX11_comes 2 (some .int))) (Rm 1) (XPre g ad 122 S [.ref (ad 0), .int a1]) (va_Qi (fun _ S' => S = S') (QB g ad 122) (FA ad 122)) 0 0 (FA ad 122) := by
  refine xmet cX11_comes "EbbWreck" (by decide) rfl (Nat.le_of_ble_eq_true rfl) (fun p e s m below meth c E hr hlk hml hQ ls hl => ?_)
  have hx := E.1
  have hb := E.2.1
  have hs : Sp ad 122 (FA ad 122) := Sp.fa hD
  have hl : lv_has ls 2 [(0, .ref (ad 0)), (1, .int a1)] := hl
  obtain ⟨v1, v3, v5, v6, v7, v9, c11, b2, b4, b8, b10⟩ := invX_2 hI
  have c11 : S 2 = .inr (1, [.int v1, .int v3, .int v5, .ref (ad 3), .ref (ad 5), .ref (ad 6), .int v6, .int v7, .ref (ad 7), .ref (ad 8), .ref (ad 9), .ref (ad 10), .int v9, .ref (ad 15), .ref (ad 16)]) := c11
  have q12 : fld (S 2) 1 = v3.toInt := fld_of c11 rfl
  have q13 : fld (S 2) 0 = v1.toInt := fld_of c11 rfl
  have q14 : fld (S 2) 7 = v7.toInt := fld_of c11 rfl
  have q15 : fld (S 2) 12 = v9.toInt := fld_of c11 rfl
  refine lv_aload_n hx hb dX11_comes_0 rfl (lv_at hl 0 rfl) ?_
  obtain ⟨v16, v18, v19, c20, b17⟩ := invX_0 hI
  have c20 : S 0 = .inr (11, [.ref (ad 1), .int v16, .int v18, .int v19, .ref (ad 2), .ref (ad 20), .ref (ad 38), .ref (ad 93), .ref (ad 94), .ref (ad 95), .ref (ad 102), .ref (ad 104), .ref (ad 107), .ref (ad 111), .ref (ad 119)]) := c20
  refine xget E hQ 0 (by decide) c20 rfl 4 (by decide) q520 rfl dX11_comes_1 ?_
  refine lv_iload_n hx hb dX11_comes_4 rfl (lv_at hl 1 rfl) ?_
  refine xcVi E hs hQ hml hl.1 2 (gX1_hasThing_2 l g ad hD S hI a1) mX1_hasThing q832 (by decide) c11 rfl rfl ⟨(Nat.le_of_ble_eq_true rfl), (Nat.le_of_ble_eq_true rfl)⟩ ⟨(Nat.le_of_ble_eq_true rfl), (Nat.le_of_ble_eq_true rfl)⟩ (Nat.le_of_ble_eq_true rfl) rfl dX11_comes_5 (fun r21 S21 H locs hp21 hQ _ => ?_)
  obtain ⟨rfl, b21, g21_0⟩ := hp21
  refine lv_if_eq (tgt := 23) hx hb dX11_comes_8 (by decide) (fun k22 => ?_) (fun k22 => ?_)
  · have h23 := ib_eq k22
    have b24 : Bd r21 (0) (0) := ⟨(b21).1, ((rf_eq b21 (by decide : Bd 0 (0) (0)) h23).1).2⟩
    clear g21_0
    refine lv_bipush (v := (-2)) hx hb dX11_comes_23 (by decide) ?_
    exact xri E hr hlk hQ (rfl) dX11_comes_25
  · have h25 := ib_ne k22
    have b26 : Bd r21 (1) (1) := rf_nlo b21 (by decide : Bd 0 (0) (0)) h25
    have g27 := g21_0.resolve_left (by omega)
    clear g21_0
    have b28 : Bd a1 (0) (7) := ⟨by omega, by omega⟩
    have b29 : Bd v7 (1) (8) := ⟨by omega, by omega⟩
    refine lv_aload_n hx hb dX11_comes_11 rfl (lv_at hl 0 rfl) ?_
    refine xget E hQ 0 (by decide) c20 rfl 9 (by decide) q525 rfl dX11_comes_12 ?_
    obtain ⟨v30, v31, c33, b32⟩ := invX_95 hI
    have c33 : S 95 = .inr (2, [.ref (ad 2), .ref (ad 96), .ref (ad 97), .ref (ad 98), .ref (ad 99), .ref (ad 100), .ref (ad 101), .int v30, .int v31]) := c33
    refine xget E hQ 95 (by decide) c33 rfl 1 (by decide) q381 rfl dX11_comes_15 ?_
    refine lv_iload_n hx hb dX11_comes_18 rfl (lv_at hl 1 rfl) ?_
    obtain ⟨f34, c35⟩ := invX_96 hI
    refine xiald E hQ 96 (by decide) c35 (ib_in b28 (by decide) (by decide)) dX11_comes_19 ?_
    refine lv_topi (fun z37 e38 => ?_)
    refine lv_goto (tgt := 25) hx hb dX11_comes_20 (by decide) ?_
    exact xri E hr hlk hQ (rfl) dX11_comes_25
set_option maxHeartbeats 4000000 in
set_option maxRecDepth 100000 in
theorem gX11_beach_0 (l : Launch) (g : GG) (ad : Nat → Nat) (hD : Dj ad 122) (S : SS) (hI : InvX g ad S) (a1 : Int32) (hq1 : 0 ≤ 1201 * fld (S 2) 1 + (-1) * fld (S 2) 0) (hq2 : 0 ≤ 8 * fld (S 2) 1 + (-1) * fld (S 2) 7) (hq3 : 0 ≤ 3 * fld (S 2) 1 + (-1) * fld (S 2) 12) : Met l yX11_beach (wG (.code yX11_beach cX11_beach 2 (some .int))) (Rm 1) (XPre g ad 122 S [.ref (ad 0), .int a1]) (va_Qi (fun _ S' => S = S') (QB g ad 122) (FA ad 122)) 0 0 (FA ad 122) := by
  refine xmet cX11_beach "EbbWreck" (by decide) rfl (Nat.le_of_ble_eq_true rfl) (fun p e s m below meth c E hr hlk hml hQ ls hl => ?_)
  have hx := E.1
  have hb := E.2.1
  have hs : Sp ad 122 (FA ad 122) := Sp.fa hD
  have hl : lv_has ls 2 [(0, .ref (ad 0)), (1, .int a1)] := hl
  obtain ⟨v1, v3, v5, v6, v7, v9, c11, b2, b4, b8, b10⟩ := invX_2 hI
  have c11 : S 2 = .inr (1, [.int v1, .int v3, .int v5, .ref (ad 3), .ref (ad 5), .ref (ad 6), .int v6, .int v7, .ref (ad 7), .ref (ad 8), .ref (ad 9), .ref (ad 10), .int v9, .ref (ad 15), .ref (ad 16)]) := c11
  have q12 : fld (S 2) 1 = v3.toInt := fld_of c11 rfl
  have q13 : fld (S 2) 0 = v1.toInt := fld_of c11 rfl
  have q14 : fld (S 2) 7 = v7.toInt := fld_of c11 rfl
  have q15 : fld (S 2) 12 = v9.toInt := fld_of c11 rfl
  refine lv_aload_n hx hb dX11_beach_0 rfl (lv_at hl 0 rfl) ?_
  obtain ⟨v16, v18, v19, c20, b17⟩ := invX_0 hI
  have c20 : S 0 = .inr (11, [.ref (ad 1), .int v16, .int v18, .int v19, .ref (ad 2), .ref (ad 20), .ref (ad 38), .ref (ad 93), .ref (ad 94), .ref (ad 95), .ref (ad 102), .ref (ad 104), .ref (ad 107), .ref (ad 111), .ref (ad 119)]) := c20
  refine xget E hQ 0 (by decide) c20 rfl 4 (by decide) q520 rfl dX11_beach_1 ?_
  refine lv_iload_n hx hb dX11_beach_4 rfl (lv_at hl 1 rfl) ?_
  refine xcVi E hs hQ hml hl.1 2 (gX1_hasThing_2 l g ad hD S hI a1) mX1_hasThing q832 (by decide) c11 rfl rfl ⟨(Nat.le_of_ble_eq_true rfl), (Nat.le_of_ble_eq_true rfl)⟩ ⟨(Nat.le_of_ble_eq_true rfl), (Nat.le_of_ble_eq_true rfl)⟩ (Nat.le_of_ble_eq_true rfl) rfl dX11_beach_5 (fun r21 S21 H locs hp21 hQ _ => ?_)
  obtain ⟨rfl, b21, g21_0⟩ := hp21
  refine lv_if_eq (tgt := 23) hx hb dX11_beach_8 (by decide) (fun k22 => ?_) (fun k22 => ?_)
  · have h23 := ib_eq k22
    have b24 : Bd r21 (0) (0) := ⟨(b21).1, ((rf_eq b21 (by decide : Bd 0 (0) (0)) h23).1).2⟩
    clear g21_0
    refine lv_bipush (v := (-2)) hx hb dX11_beach_23 (by decide) ?_
    exact xri E hr hlk hQ (rfl) dX11_beach_25
  · have h25 := ib_ne k22
    have b26 : Bd r21 (1) (1) := rf_nlo b21 (by decide : Bd 0 (0) (0)) h25
    have g27 := g21_0.resolve_left (by omega)
    clear g21_0
    have b28 : Bd a1 (0) (7) := ⟨by omega, by omega⟩
    have b29 : Bd v7 (1) (8) := ⟨by omega, by omega⟩
    refine lv_aload_n hx hb dX11_beach_11 rfl (lv_at hl 0 rfl) ?_
    refine xget E hQ 0 (by decide) c20 rfl 9 (by decide) q525 rfl dX11_beach_12 ?_
    obtain ⟨v30, v31, c33, b32⟩ := invX_95 hI
    have c33 : S 95 = .inr (2, [.ref (ad 2), .ref (ad 96), .ref (ad 97), .ref (ad 98), .ref (ad 99), .ref (ad 100), .ref (ad 101), .int v30, .int v31]) := c33
    refine xget E hQ 95 (by decide) c33 rfl 2 (by decide) q383 rfl dX11_beach_15 ?_
    refine lv_iload_n hx hb dX11_beach_18 rfl (lv_at hl 1 rfl) ?_
    obtain ⟨f34, c35⟩ := invX_97 hI
    refine xiald E hQ 97 (by decide) c35 (ib_in b28 (by decide) (by decide)) dX11_beach_19 ?_
    refine lv_topi (fun z37 e38 => ?_)
    refine lv_goto (tgt := 25) hx hb dX11_beach_20 (by decide) ?_
    exact xri E hr hlk hQ (rfl) dX11_beach_25
set_option maxHeartbeats 4000000 in
set_option maxRecDepth 100000 in
theorem gX11_whose_0 (l : Launch) (g : GG) (ad : Nat → Nat) (hD : Dj ad 122) (S : SS) (hI : InvX g ad S) (a1 : Int32) (hq1 : 0 ≤ 1201 * fld (S 2) 1 + (-1) * fld (S 2) 0) (hq2 : 0 ≤ 8 * fld (S 2) 1 + (-1) * fld (S 2) 7) (hq3 : 0 ≤ 3 * fld (S 2) 1 + (-1) * fld (S 2) 12) : Met l yX11_whose (wG (.code yX11_whose cX11_whose 2 (some .int))) (Rm 4) (XPre g ad 122 S [.ref (ad 0), .int a1]) (va_Qi (fun _ S' => S = S') (QB g ad 122) (FA ad 122)) 0 0 (FA ad 122) := by
  refine xmet cX11_whose "EbbWreck" (by decide) rfl (Nat.le_of_ble_eq_true rfl) (fun p e s m below meth c E hr hlk hml hQ ls hl => ?_)
  have hx := E.1
  have hb := E.2.1
  have hs : Sp ad 122 (FA ad 122) := Sp.fa hD
  have hl : lv_has ls 2 [(0, .ref (ad 0)), (1, .int a1)] := hl
  obtain ⟨v1, v3, v5, v6, v7, v9, c11, b2, b4, b8, b10⟩ := invX_2 hI
  have c11 : S 2 = .inr (1, [.int v1, .int v3, .int v5, .ref (ad 3), .ref (ad 5), .ref (ad 6), .int v6, .int v7, .ref (ad 7), .ref (ad 8), .ref (ad 9), .ref (ad 10), .int v9, .ref (ad 15), .ref (ad 16)]) := c11
  have q12 : fld (S 2) 1 = v3.toInt := fld_of c11 rfl
  have q13 : fld (S 2) 0 = v1.toInt := fld_of c11 rfl
  have q14 : fld (S 2) 7 = v7.toInt := fld_of c11 rfl
  have q15 : fld (S 2) 12 = v9.toInt := fld_of c11 rfl
  refine lv_aload_n hx hb dX11_whose_0 rfl (lv_at hl 0 rfl) ?_
  obtain ⟨v16, v18, v19, c20, b17⟩ := invX_0 hI
  have c20 : S 0 = .inr (11, [.ref (ad 1), .int v16, .int v18, .int v19, .ref (ad 2), .ref (ad 20), .ref (ad 38), .ref (ad 93), .ref (ad 94), .ref (ad 95), .ref (ad 102), .ref (ad 104), .ref (ad 107), .ref (ad 111), .ref (ad 119)]) := c20
  refine xget E hQ 0 (by decide) c20 rfl 4 (by decide) q520 rfl dX11_whose_1 ?_
  refine lv_iload_n hx hb dX11_whose_4 rfl (lv_at hl 1 rfl) ?_
  refine xcVi E hs hQ hml hl.1 2 (gX1_hasThing_2 l g ad hD S hI a1) mX1_hasThing q832 (by decide) c11 rfl rfl ⟨(Nat.le_of_ble_eq_true rfl), (Nat.le_of_ble_eq_true rfl)⟩ ⟨(Nat.le_of_ble_eq_true rfl), (Nat.le_of_ble_eq_true rfl)⟩ (Nat.le_of_ble_eq_true rfl) rfl dX11_whose_5 (fun r21 S21 H locs hp21 hQ _ => ?_)
  obtain ⟨rfl, b21, g21_0⟩ := hp21
  refine lv_if_eq (tgt := 24) hx hb dX11_whose_8 (by decide) (fun k22 => ?_) (fun k22 => ?_)
  · have h23 := ib_eq k22
    have b24 : Bd r21 (0) (0) := ⟨(b21).1, ((rf_eq b21 (by decide : Bd 0 (0) (0)) h23).1).2⟩
    clear g21_0
    refine lv_bipush (v := (-2)) hx hb dX11_whose_24 (by decide) ?_
    exact xri E hr hlk hQ (rfl) dX11_whose_26
  · have h25 := ib_ne k22
    have b26 : Bd r21 (1) (1) := rf_nlo b21 (by decide : Bd 0 (0) (0)) h25
    have g27 := g21_0.resolve_left (by omega)
    clear g21_0
    have b28 : Bd a1 (0) (7) := ⟨by omega, by omega⟩
    have b29 : Bd v7 (1) (8) := ⟨by omega, by omega⟩
    refine lv_aload_n hx hb dX11_whose_11 rfl (lv_at hl 0 rfl) ?_
    refine xget E hQ 0 (by decide) c20 rfl 9 (by decide) q525 rfl dX11_whose_12 ?_
    refine lv_iload_n hx hb dX11_whose_15 rfl (lv_at hl 1 rfl) ?_
    refine lv_iconst (v := 0) hx hb dX11_whose_16 (by decide) ?_
    refine lv_iconst (v := (-1)) hx hb dX11_whose_17 (by decide) ?_
    obtain ⟨v31, v32, c34, b33⟩ := invX_95 hI
    have c34 : S 95 = .inr (2, [.ref (ad 2), .ref (ad 96), .ref (ad 97), .ref (ad 98), .ref (ad 99), .ref (ad 100), .ref (ad 101), .int v31, .int v32]) := c34
    refine xcVi E hs hQ hml hl.1 95 (gX2_ownerOf_95 l g ad hD S hI a1 0 (-1) b28) mX2_ownerOf q943 (by decide) c34 rfl rfl ⟨(Nat.le_of_ble_eq_true rfl), (Nat.le_of_ble_eq_true rfl)⟩ ⟨(Nat.le_of_ble_eq_true rfl), (Nat.le_of_ble_eq_true rfl)⟩ (Nat.le_of_ble_eq_true rfl) rfl dX11_whose_18 (fun r30 S30 H locs hp30 hQ _ => ?_)
    subst hp30
    refine lv_goto (tgt := 26) hx hb dX11_whose_21 (by decide) ?_
    exact xri E hr hlk hQ (rfl) dX11_whose_26
set_option maxHeartbeats 4000000 in
set_option maxRecDepth 100000 in
theorem gX11_has_0 (l : Launch) (g : GG) (ad : Nat → Nat) (hD : Dj ad 122) (S : SS) (hI : InvX g ad S) (a1 : Int32) (hq1 : 0 ≤ 1201 * fld (S 2) 1 + (-1) * fld (S 2) 0) (hq2 : 0 ≤ 8 * fld (S 2) 1 + (-1) * fld (S 2) 7) (hq3 : 0 ≤ 3 * fld (S 2) 1 + (-1) * fld (S 2) 12) : Met l yX11_has (wG (.code yX11_has cX11_has 2 (some .int))) (Rm 5) (XPre g ad 122 S [.ref (ad 0), .int a1]) (va_Qi (fun _ S' => S = S') (QB g ad 122) (FA ad 122)) 0 0 (FA ad 122) := by
  refine xmet cX11_has "EbbWreck" (by decide) rfl (Nat.le_of_ble_eq_true rfl) (fun p e s m below meth c E hr hlk hml hQ ls hl => ?_)
  have hx := E.1
  have hb := E.2.1
  have hs : Sp ad 122 (FA ad 122) := Sp.fa hD
  have hl : lv_has ls 2 [(0, .ref (ad 0)), (1, .int a1)] := hl
  obtain ⟨v1, v3, v5, v6, v7, v9, c11, b2, b4, b8, b10⟩ := invX_2 hI
  have c11 : S 2 = .inr (1, [.int v1, .int v3, .int v5, .ref (ad 3), .ref (ad 5), .ref (ad 6), .int v6, .int v7, .ref (ad 7), .ref (ad 8), .ref (ad 9), .ref (ad 10), .int v9, .ref (ad 15), .ref (ad 16)]) := c11
  have q12 : fld (S 2) 1 = v3.toInt := fld_of c11 rfl
  have q13 : fld (S 2) 0 = v1.toInt := fld_of c11 rfl
  have q14 : fld (S 2) 7 = v7.toInt := fld_of c11 rfl
  have q15 : fld (S 2) 12 = v9.toInt := fld_of c11 rfl
  refine lv_aload_n hx hb dX11_has_0 rfl (lv_at hl 0 rfl) ?_
  refine lv_iload_n hx hb dX11_has_1 rfl (lv_at hl 1 rfl) ?_
  obtain ⟨v17, v19, v20, c21, b18⟩ := invX_0 hI
  have c21 : S 0 = .inr (11, [.ref (ad 1), .int v17, .int v19, .int v20, .ref (ad 2), .ref (ad 20), .ref (ad 38), .ref (ad 93), .ref (ad 94), .ref (ad 95), .ref (ad 102), .ref (ad 104), .ref (ad 107), .ref (ad 111), .ref (ad 119)]) := c21
  refine xcVi E hs hQ hml hl.1 0 (gX11_isAskedParty_0 l g ad hD S hI a1) mX11_isAskedParty q963 (by decide) c21 rfl rfl ⟨(Nat.le_of_ble_eq_true rfl), (Nat.le_of_ble_eq_true rfl)⟩ ⟨(Nat.le_of_ble_eq_true rfl), (Nat.le_of_ble_eq_true rfl)⟩ (Nat.le_of_ble_eq_true rfl) rfl dX11_has_2 (fun r16 S16 H locs hp16 hQ _ => ?_)
  obtain ⟨rfl, b16, g16_0⟩ := hp16
  refine lv_if_eq (tgt := 21) hx hb dX11_has_5 (by decide) (fun k22 => ?_) (fun k22 => ?_)
  · have h23 := ib_eq k22
    have b24 : Bd r16 (0) (0) := ⟨(b16).1, ((rf_eq b16 (by decide : Bd 0 (0) (0)) h23).1).2⟩
    clear g16_0
    refine lv_bipush (v := (-2)) hx hb dX11_has_21 (by decide) ?_
    exact xri E hr hlk hQ (rfl) dX11_has_23
  · have h25 := ib_ne k22
    have b26 : Bd r16 (1) (1) := rf_nlo b16 (by decide : Bd 0 (0) (0)) h25
    have g27 := g16_0.resolve_left (by omega)
    clear g16_0
    have b28 : Bd v1 (1) (1201) := ⟨by omega, by omega⟩
    refine lv_aload_n hx hb dX11_has_8 rfl (lv_at hl 0 rfl) ?_
    refine xget E hQ 0 (by decide) c21 rfl 9 (by decide) q525 rfl dX11_has_9 ?_
    refine lv_iload_n hx hb dX11_has_12 rfl (lv_at hl 1 rfl) ?_
    refine lv_iconst (v := 0) hx hb dX11_has_13 (by decide) ?_
    refine lv_iconst (v := (-1)) hx hb dX11_has_14 (by decide) ?_
    obtain ⟨v30, v31, c33, b32⟩ := invX_95 hI
    have c33 : S 95 = .inr (2, [.ref (ad 2), .ref (ad 96), .ref (ad 97), .ref (ad 98), .ref (ad 99), .ref (ad 100), .ref (ad 101), .int v30, .int v31]) := c33
    refine xcVi E hs hQ hml hl.1 95 (gX2_worthOf_95 l g ad hD S hI a1 0 (-1)) mX2_worthOf q967 (by decide) c33 rfl rfl ⟨(Nat.le_of_ble_eq_true rfl), (Nat.le_of_ble_eq_true rfl)⟩ ⟨(Nat.le_of_ble_eq_true rfl), (Nat.le_of_ble_eq_true rfl)⟩ (Nat.le_of_ble_eq_true rfl) rfl dX11_has_15 (fun r29 S29 H locs hp29 hQ _ => ?_)
    subst hp29
    refine lv_goto (tgt := 23) hx hb dX11_has_18 (by decide) ?_
    exact xri E hr hlk hQ (rfl) dX11_has_23
set_option maxHeartbeats 4000000 in
set_option maxRecDepth 100000 in
theorem gX11_line_0 (l : Launch) (g : GG) (ad : Nat → Nat) (hD : Dj ad 122) (S : SS) (hI : InvX g ad S) (a1 : Int32) (hq1 : 0 ≤ 1201 * fld (S 2) 1 + (-1) * fld (S 2) 0) (hq2 : 0 ≤ 8 * fld (S 2) 1 + (-1) * fld (S 2) 7) (hq3 : 0 ≤ 3 * fld (S 2) 1 + (-1) * fld (S 2) 12) : Met l yX11_line (wG (.code yX11_line cX11_line 2 (some .int))) (Rm 1) (XPre g ad 122 S [.ref (ad 0), .int a1]) (va_Qi (fun _ S' => S = S') (QB g ad 122) (FA ad 122)) 0 0 (FA ad 122) := by
  refine xmet cX11_line "EbbWreck" (by decide) rfl (Nat.le_of_ble_eq_true rfl) (fun p e s m below meth c E hr hlk hml hQ ls hl => ?_)
  have hx := E.1
  have hb := E.2.1
  have hs : Sp ad 122 (FA ad 122) := Sp.fa hD
  have hl : lv_has ls 2 [(0, .ref (ad 0)), (1, .int a1)] := hl
  obtain ⟨v1, v3, v5, v6, v7, v9, c11, b2, b4, b8, b10⟩ := invX_2 hI
  have c11 : S 2 = .inr (1, [.int v1, .int v3, .int v5, .ref (ad 3), .ref (ad 5), .ref (ad 6), .int v6, .int v7, .ref (ad 7), .ref (ad 8), .ref (ad 9), .ref (ad 10), .int v9, .ref (ad 15), .ref (ad 16)]) := c11
  have q12 : fld (S 2) 1 = v3.toInt := fld_of c11 rfl
  have q13 : fld (S 2) 0 = v1.toInt := fld_of c11 rfl
  have q14 : fld (S 2) 7 = v7.toInt := fld_of c11 rfl
  have q15 : fld (S 2) 12 = v9.toInt := fld_of c11 rfl
  refine lv_aload_n hx hb dX11_line_0 rfl (lv_at hl 0 rfl) ?_
  obtain ⟨v16, v18, v19, c20, b17⟩ := invX_0 hI
  have c20 : S 0 = .inr (11, [.ref (ad 1), .int v16, .int v18, .int v19, .ref (ad 2), .ref (ad 20), .ref (ad 38), .ref (ad 93), .ref (ad 94), .ref (ad 95), .ref (ad 102), .ref (ad 104), .ref (ad 107), .ref (ad 111), .ref (ad 119)]) := c20
  refine xget E hQ 0 (by decide) c20 rfl 4 (by decide) q520 rfl dX11_line_1 ?_
  refine lv_iload_n hx hb dX11_line_4 rfl (lv_at hl 1 rfl) ?_
  refine xcVi E hs hQ hml hl.1 2 (gX1_hasCell_2 l g ad hD S hI a1) mX1_hasCell q823 (by decide) c11 rfl rfl ⟨(Nat.le_of_ble_eq_true rfl), (Nat.le_of_ble_eq_true rfl)⟩ ⟨(Nat.le_of_ble_eq_true rfl), (Nat.le_of_ble_eq_true rfl)⟩ (Nat.le_of_ble_eq_true rfl) rfl dX11_line_5 (fun r21 S21 H locs hp21 hQ _ => ?_)
  obtain ⟨rfl, b21, g21_0⟩ := hp21
  refine lv_if_eq (tgt := 22) hx hb dX11_line_8 (by decide) (fun k22 => ?_) (fun k22 => ?_)
  · have h23 := ib_eq k22
    have b24 : Bd r21 (0) (0) := ⟨(b21).1, ((rf_eq b21 (by decide : Bd 0 (0) (0)) h23).1).2⟩
    clear g21_0
    refine lv_bipush (v := (-2)) hx hb dX11_line_22 (by decide) ?_
    exact xri E hr hlk hQ (rfl) dX11_line_24
  · have h25 := ib_ne k22
    have b26 : Bd r21 (1) (1) := rf_nlo b21 (by decide : Bd 0 (0) (0)) h25
    have g27 := g21_0.resolve_left (by omega)
    clear g21_0
    have b28 : Bd a1 (0) (11) := ⟨by omega, by omega⟩
    have b29 : Bd v3 (1) (12) := ⟨by omega, by omega⟩
    refine lv_aload_n hx hb dX11_line_11 rfl (lv_at hl 0 rfl) ?_
    refine xget E hQ 0 (by decide) c20 rfl 9 (by decide) q525 rfl dX11_line_12 ?_
    refine lv_iload_n hx hb dX11_line_15 rfl (lv_at hl 1 rfl) ?_
    obtain ⟨v31, v32, c34, b33⟩ := invX_95 hI
    have c34 : S 95 = .inr (2, [.ref (ad 2), .ref (ad 96), .ref (ad 97), .ref (ad 98), .ref (ad 99), .ref (ad 100), .ref (ad 101), .int v31, .int v32]) := c34
    refine xcVi E hs hQ hml hl.1 95 (gX2_thingsUpOn_95 l g ad hD S hI a1) mX2_thingsUpOn q976 (by decide) c34 rfl rfl ⟨(Nat.le_of_ble_eq_true rfl), (Nat.le_of_ble_eq_true rfl)⟩ ⟨(Nat.le_of_ble_eq_true rfl), (Nat.le_of_ble_eq_true rfl)⟩ (Nat.le_of_ble_eq_true rfl) rfl dX11_line_16 (fun r30 S30 H locs hp30 hQ _ => ?_)
    subst hp30
    refine lv_goto (tgt := 24) hx hb dX11_line_19 (by decide) ?_
    exact xri E hr hlk hQ (rfl) dX11_line_24
set_option maxHeartbeats 4000000 in
set_option maxRecDepth 100000 in
theorem gX11_richest_0 (l : Launch) (g : GG) (ad : Nat → Nat) (hD : Dj ad 122) (S : SS) (hI : InvX g ad S) (hq1 : 0 ≤ 1201 * fld (S 2) 1 + (-1) * fld (S 2) 0) (hq2 : 0 ≤ 8 * fld (S 2) 1 + (-1) * fld (S 2) 7) (hq3 : 0 ≤ 3 * fld (S 2) 1 + (-1) * fld (S 2) 12) : Met l yX11_richest (wG (.code yX11_richest cX11_richest 5 (some .int))) (Rm 5) (XPre g ad 122 S [.ref (ad 0)]) (va_Qi (fun r S' => S = S' ∧ Bd r (-2) (5)) (QB g ad 122) (FA ad 122)) 0 0 (FA ad 122) := by
  refine xmet cX11_richest "EbbWreck" (by decide) rfl (Nat.le_of_ble_eq_true rfl) (fun p e s m below meth c E hr hlk hml hQ ls hl => ?_)
  have hx := E.1
  have hb := E.2.1
  have hs : Sp ad 122 (FA ad 122) := Sp.fa hD
  have hl : lv_has ls 5 [(0, .ref (ad 0))] := hl
  obtain ⟨v1, v3, v5, v6, v7, v9, c11, b2, b4, b8, b10⟩ := invX_2 hI
  have c11 : S 2 = .inr (1, [.int v1, .int v3, .int v5, .ref (ad 3), .ref (ad 5), .ref (ad 6), .int v6, .int v7, .ref (ad 7), .ref (ad 8), .ref (ad 9), .ref (ad 10), .int v9, .ref (ad 15), .ref (ad 16)]) := c11
  have q12 : fld (S 2) 1 = v3.toInt := fld_of c11 rfl
  have q13 : fld (S 2) 0 = v1.toInt := fld_of c11 rfl
  have q14 : fld (S 2) 7 = v7.toInt := fld_of c11 rfl
  have q15 : fld (S 2) 12 = v9.toInt := fld_of c11 rfl
  refine lv_aload_n hx hb dX11_richest_0 rfl (lv_at hl 0 rfl) ?_
  obtain ⟨v16, v18, v19, c20, b17⟩ := invX_0 hI
  have c20 : S 0 = .inr (11, [.ref (ad 1), .int v16, .int v18, .int v19, .ref (ad 2), .ref (ad 20), .ref (ad 38), .ref (ad 93), .ref (ad 94), .ref (ad 95), .ref (ad 102), .ref (ad 104), .ref (ad 107), .ref (ad 111), .ref (ad 119)]) := c20
  refine xget E hQ 0 (by decide) c20 rfl 4 (by decide) q520 rfl dX11_richest_1 ?_
  refine xcVi E hs hQ hml hl.1 2 (gX1_isTold_2 l g ad hD S hI ) mX1_isTold q878 (by decide) c11 rfl rfl ⟨(Nat.le_of_ble_eq_true rfl), (Nat.le_of_ble_eq_true rfl)⟩ ⟨(Nat.le_of_ble_eq_true rfl), (Nat.le_of_ble_eq_true rfl)⟩ (Nat.le_of_ble_eq_true rfl) rfl dX11_richest_4 (fun r21 S21 H locs hp21 hQ _ => ?_)
  obtain ⟨rfl, b21, g21_0⟩ := hp21
  refine lv_if_ne (tgt := 13) hx hb dX11_richest_7 (by decide) (fun k22 => ?_) (fun k22 => ?_)
  · have h23 := ib_ne k22
    have b24 : Bd r21 (1) (1) := rf_nlo b21 (by decide : Bd 0 (0) (0)) h23
    have g25 := g21_0.resolve_left (by omega)
    clear g21_0
    have b26 : Bd v1 (1) (1201) := ⟨by omega, by omega⟩
    refine lv_iconst (v := 0) hx hb dX11_richest_13 (by decide) ?_
    refine lv_istore_n (lv' := [(1, .int 0), (0, .ref (ad 0))]) hx hb dX11_richest_14 rfl hl (by decide) rfl (fun ls hl => ?_)
    refine lv_aload_n hx hb dX11_richest_15 rfl (lv_at hl 1 rfl) ?_
    refine xget E hQ 0 (by decide) c20 rfl 9 (by decide) q525 rfl dX11_richest_16 ?_
    refine lv_iconst (v := 0) hx hb dX11_richest_19 (by decide) ?_
    refine lv_iconst (v := 0) hx hb dX11_richest_20 (by decide) ?_
    refine lv_iconst (v := (-1)) hx hb dX11_richest_21 (by decide) ?_
    obtain ⟨v28, v29, c31, b30⟩ := invX_95 hI
    have c31 : S 95 = .inr (2, [.ref (ad 2), .ref (ad 96), .ref (ad 97), .ref (ad 98), .ref (ad 99), .ref (ad 100), .ref (ad 101), .int v28, .int v29]) := c31
    refine xcVi E hs hQ hml hl.1 95 (gX2_worthOf_95 l g ad hD S hI 0 0 (-1)) mX2_worthOf q967 (by decide) c31 rfl rfl ⟨(Nat.le_of_ble_eq_true rfl), (Nat.le_of_ble_eq_true rfl)⟩ ⟨(Nat.le_of_ble_eq_true rfl), (Nat.le_of_ble_eq_true rfl)⟩ (Nat.le_of_ble_eq_true rfl) rfl dX11_richest_22 (fun r27 S27 H locs hp27 hQ _ => ?_)
    subst hp27
    refine lv_istore_n (lv' := [(2, .int r27), (1, .int 0), (0, .ref (ad 0))]) hx hb dX11_richest_25 rfl hl (by decide) rfl (fun ls hl => ?_)
    refine lv_iconst (v := 1) hx hb dX11_richest_26 (by decide) ?_
    refine lv_istore_n (lv' := [(3, .int 1), (2, .int r27), (1, .int 0), (0, .ref (ad 0))]) hx hb dX11_richest_27 rfl hl (by decide) rfl (fun ls hl => ?_)
    have loop28 : ∀ (n : Nat) (H : Heap) (locs : List Loc) (ls : Array Slot) (x28_1 : Int32) (x28_2 : Int32) (x28_3 : Int32), Bd x28_1 (0) (5) → Bd x28_3 (1) (6) → (-1) * x28_3.toInt + 6 < ((n : Nat) : Int) → Hp g ad 122 S (FA ad 122) s.heap H locs → lv_has ls 5 [(3, .int x28_3), (2, .int x28_2), (1, .int x28_1), (0, .ref (ad 0))] → W p l e (Rm 5) s m [.ref (ad 0)].toArray below meth c H locs 0 0 (MQ below (va_Qi (fun r S' => S = S' ∧ Bd r (-2) (5)) (QB g ad 122) (FA ad 122)) [.ref (ad 0)].toArray s 0 0 (FA ad 122)) (F0 m 28 ls []) := by
      intro n
      induction n with
      | zero => intro H locs ls x28_1 x28_2 x28_3 Bx28_1 Bx28_3 hn28_ hQ hl; exfalso; have := (Bx28_3).2; omega
      | succ n28_ ih28 =>
        intro H locs ls x28_1 x28_2 x28_3 Bx28_1 Bx28_3 hn28_ hQ hl
        refine lv_iload_n hx hb dX11_richest_28 rfl (lv_at hl 0 rfl) ?_
        refine lv_bipush (v := 6) hx hb dX11_richest_29 (by decide) ?_
        refine lv_icmp_ge (tgt := 63) hx hb dX11_richest_31 (by decide) (fun k32 => ?_) (fun k32 => ?_)
        · have h33 := ib_le k32
          have b34 : Bd x28_3 (6) (6) := ⟨((rf_le (by decide : Bd 6 (6) (6)) Bx28_3 h33).2).1, (Bx28_3).2⟩
          refine lv_iload_n hx hb dX11_richest_63 rfl (lv_at hl 2 rfl) ?_
          exact xri E hr hlk hQ (⟨rfl, (ib_wk Bx28_1 (by decide) (by decide))⟩) dX11_richest_64
        · have h35 := ib_nle k32
          have b36 : Bd x28_3 (1) (5) := ⟨(Bx28_3).1, ((rf_lt Bx28_3 (by decide : Bd 6 (6) (6)) h35).1).2⟩
          refine lv_aload_n hx hb dX11_richest_34 rfl (lv_at hl 3 rfl) ?_
          refine xget E hQ 0 (by decide) c20 rfl 9 (by decide) q525 rfl dX11_richest_35 ?_
          refine lv_iload_n hx hb dX11_richest_38 rfl (lv_at hl 0 rfl) ?_
          refine lv_iconst (v := 0) hx hb dX11_richest_39 (by decide) ?_
          refine lv_iconst (v := (-1)) hx hb dX11_richest_40 (by decide) ?_
          refine xcVi E hs hQ hml hl.1 95 (gX2_worthOf_95 l g ad hD S hI x28_3 0 (-1)) mX2_worthOf q967 (by decide) c31 rfl rfl ⟨(Nat.le_of_ble_eq_true rfl), (Nat.le_of_ble_eq_true rfl)⟩ ⟨(Nat.le_of_ble_eq_true rfl), (Nat.le_of_ble_eq_true rfl)⟩ (Nat.le_of_ble_eq_true rfl) rfl dX11_richest_41 (fun r37 S37 H locs hp37 hQ _ => ?_)
          subst hp37
          refine lv_istore (lv' := [(4, .int r37), (3, .int x28_3), (2, .int x28_2), (1, .int x28_1), (0, .ref (ad 0))]) hx hb dX11_richest_44 hl (by decide) rfl (fun ls hl => ?_)
          refine lv_iload hx hb dX11_richest_46 (lv_at hl 0 rfl) ?_
          refine lv_iload_n hx hb dX11_richest_48 rfl (lv_at hl 2 rfl) ?_
          refine lv_icmp_le (tgt := 57) hx hb dX11_richest_49 (by decide) (fun k38 => ?_) (fun k38 => ?_)
          · have h39 := ib_le k38
            obtain ⟨z40, e41⟩ : ∃ z : Int32, z = x28_3 + 1 := ⟨_, rfl⟩
            have t42 := ib_add e41 b36 (by decide : Bd 1 (1) (1)) (by decide) (by decide)
            have b43 : Bd z40 (2) (6) := ib_addb t42 b36 (by decide : Bd 1 (1) (1))
            have t42 : z40.toInt = x28_3.toInt + 1 := fold_add t42 rfl (by decide)
            refine lv_iinc (v := z40) (lv' := [(3, .int z40), (4, .int r37), (2, .int x28_2), (1, .int x28_1), (0, .ref (ad 0))]) hx hb dX11_richest_57 hl (k := 1) rfl (by rw [e41]; rfl) (by decide) rfl (fun ls hl => ?_)
            refine lv_goto (tgt := 28) hx hb dX11_richest_60 (by decide) ?_
            exact ih28 _ _ _ x28_1 x28_2 z40 Bx28_1 (ib_wk b43 (by decide) (by decide)) (by omega) hQ (lv_sub hl [0, 2, 3, 4] rfl)
          · have h44 := ib_nle k38
            have b45 : Bd x28_2 (-2147483648) (2147483646) := ⟨((ib_full x28_2)).1, ((rf_lt (ib_full x28_2) (ib_full r37) h44).1).2⟩
            have b46 : Bd r37 (-2147483647) (2147483647) := ⟨((rf_lt (ib_full x28_2) (ib_full r37) h44).2).1, ((ib_full r37)).2⟩
            refine lv_iload hx hb dX11_richest_52 (lv_at hl 0 rfl) ?_
            refine lv_istore_n (lv' := [(2, .int r37), (4, .int r37), (3, .int x28_3), (1, .int x28_1), (0, .ref (ad 0))]) hx hb dX11_richest_54 rfl hl (by decide) rfl (fun ls hl => ?_)
            refine lv_iload_n hx hb dX11_richest_55 rfl (lv_at hl 2 rfl) ?_
            refine lv_istore_n (lv' := [(1, .int x28_3), (2, .int r37), (4, .int r37), (3, .int x28_3), (0, .ref (ad 0))]) hx hb dX11_richest_56 rfl hl (by decide) rfl (fun ls hl => ?_)
            obtain ⟨z47, e48⟩ : ∃ z : Int32, z = x28_3 + 1 := ⟨_, rfl⟩
            have t49 := ib_add e48 b36 (by decide : Bd 1 (1) (1)) (by decide) (by decide)
            have b50 : Bd z47 (2) (6) := ib_addb t49 b36 (by decide : Bd 1 (1) (1))
            have t49 : z47.toInt = x28_3.toInt + 1 := fold_add t49 rfl (by decide)
            refine lv_iinc (v := z47) (lv' := [(3, .int z47), (1, .int x28_3), (2, .int r37), (4, .int r37), (0, .ref (ad 0))]) hx hb dX11_richest_57 hl (k := 3) rfl (by rw [e48]; rfl) (by decide) rfl (fun ls hl => ?_)
            refine lv_goto (tgt := 28) hx hb dX11_richest_60 (by decide) ?_
            exact ih28 _ _ _ x28_3 r37 z47 (ib_wk b36 (by decide) (by decide)) (ib_wk b50 (by decide) (by decide)) (by omega) hQ (lv_sub hl [0, 2, 1, 4] rfl)
    obtain ⟨n28, hn28⟩ := fu_n (5)
    exact loop28 n28 _ _ _ 0 r27 1 (ib_wk (by decide : Bd 0 (0) (0)) (by decide) (by decide)) (ib_wk (by decide : Bd 1 (1) (1)) (by decide) (by decide)) (by have : (0 : Int32).toInt = 0 := (by decide); have : (1 : Int32).toInt = 1 := (by decide); omega) hQ (lv_sub hl [0, 1, 2, 3] rfl)
  · have h51 := ib_eq k22
    have b52 : Bd r21 (0) (0) := ⟨(b21).1, ((rf_eq b21 (by decide : Bd 0 (0) (0)) h51).1).2⟩
    clear g21_0
    refine lv_bipush (v := (-2)) hx hb dX11_richest_10 (by decide) ?_
    exact xri E hr hlk hQ (⟨rfl, (ib_wk (by decide : Bd (-2) (-2) (-2)) (by decide) (by decide))⟩) dX11_richest_12
set_option maxHeartbeats 4000000 in
set_option maxRecDepth 100000 in
theorem gX11_argued_0 (l : Launch) (g : GG) (ad : Nat → Nat) (hD : Dj ad 122) (S : SS) (hI : InvX g ad S) (hq1 : 0 ≤ 1201 * fld (S 2) 1 + (-1) * fld (S 2) 0) (hq2 : 0 ≤ 8 * fld (S 2) 1 + (-1) * fld (S 2) 7) (hq3 : 0 ≤ 3 * fld (S 2) 1 + (-1) * fld (S 2) 12) : Met l yX11_argued (wG (.code yX11_argued cX11_argued 1 (some .int))) (Rm 4) (XPre g ad 122 S [.ref (ad 0)]) (va_Qi (fun _ S' => S = S') (QB g ad 122) (FA ad 122)) 0 0 (FA ad 122) := by
  refine xmet cX11_argued "EbbWreck" (by decide) rfl (Nat.le_of_ble_eq_true rfl) (fun p e s m below meth c E hr hlk hml hQ ls hl => ?_)
  have hx := E.1
  have hb := E.2.1
  have hs : Sp ad 122 (FA ad 122) := Sp.fa hD
  have hl : lv_has ls 1 [(0, .ref (ad 0))] := hl
  obtain ⟨v1, v3, v5, v6, v7, v9, c11, b2, b4, b8, b10⟩ := invX_2 hI
  have c11 : S 2 = .inr (1, [.int v1, .int v3, .int v5, .ref (ad 3), .ref (ad 5), .ref (ad 6), .int v6, .int v7, .ref (ad 7), .ref (ad 8), .ref (ad 9), .ref (ad 10), .int v9, .ref (ad 15), .ref (ad 16)]) := c11
  have q12 : fld (S 2) 1 = v3.toInt := fld_of c11 rfl
  have q13 : fld (S 2) 0 = v1.toInt := fld_of c11 rfl
  have q14 : fld (S 2) 7 = v7.toInt := fld_of c11 rfl
  have q15 : fld (S 2) 12 = v9.toInt := fld_of c11 rfl
  refine lv_aload_n hx hb dX11_argued_0 rfl (lv_at hl 0 rfl) ?_
  obtain ⟨v16, v18, v19, c20, b17⟩ := invX_0 hI
  have c20 : S 0 = .inr (11, [.ref (ad 1), .int v16, .int v18, .int v19, .ref (ad 2), .ref (ad 20), .ref (ad 38), .ref (ad 93), .ref (ad 94), .ref (ad 95), .ref (ad 102), .ref (ad 104), .ref (ad 107), .ref (ad 111), .ref (ad 119)]) := c20
  refine xget E hQ 0 (by decide) c20 rfl 4 (by decide) q520 rfl dX11_argued_1 ?_
  refine xcVi E hs hQ hml hl.1 2 (gX1_isTold_2 l g ad hD S hI ) mX1_isTold q878 (by decide) c11 rfl rfl ⟨(Nat.le_of_ble_eq_true rfl), (Nat.le_of_ble_eq_true rfl)⟩ ⟨(Nat.le_of_ble_eq_true rfl), (Nat.le_of_ble_eq_true rfl)⟩ (Nat.le_of_ble_eq_true rfl) rfl dX11_argued_4 (fun r21 S21 H locs hp21 hQ _ => ?_)
  obtain ⟨rfl, b21, g21_0⟩ := hp21
  refine lv_if_eq (tgt := 20) hx hb dX11_argued_7 (by decide) (fun k22 => ?_) (fun k22 => ?_)
  · have h23 := ib_eq k22
    have b24 : Bd r21 (0) (0) := ⟨(b21).1, ((rf_eq b21 (by decide : Bd 0 (0) (0)) h23).1).2⟩
    clear g21_0
    refine lv_bipush (v := (-2)) hx hb dX11_argued_20 (by decide) ?_
    exact xri E hr hlk hQ (rfl) dX11_argued_22
  · have h25 := ib_ne k22
    have b26 : Bd r21 (1) (1) := rf_nlo b21 (by decide : Bd 0 (0) (0)) h25
    have g27 := g21_0.resolve_left (by omega)
    clear g21_0
    have b28 : Bd v1 (1) (1201) := ⟨by omega, by omega⟩
    refine lv_aload_n hx hb dX11_argued_10 rfl (lv_at hl 0 rfl) ?_
    refine xget E hQ 0 (by decide) c20 rfl 9 (by decide) q525 rfl dX11_argued_11 ?_
    obtain ⟨v30, v31, c33, b32⟩ := invX_95 hI
    have c33 : S 95 = .inr (2, [.ref (ad 2), .ref (ad 96), .ref (ad 97), .ref (ad 98), .ref (ad 99), .ref (ad 100), .ref (ad 101), .int v30, .int v31]) := c33
    refine xcVi E hs hQ hml hl.1 95 (gX2_arguedThings_95 l g ad hD S hI ) mX2_arguedThings q1001 (by decide) c33 rfl rfl ⟨(Nat.le_of_ble_eq_true rfl), (Nat.le_of_ble_eq_true rfl)⟩ ⟨(Nat.le_of_ble_eq_true rfl), (Nat.le_of_ble_eq_true rfl)⟩ (Nat.le_of_ble_eq_true rfl) rfl dX11_argued_14 (fun r29 S29 H locs hp29 hQ _ => ?_)
    subst hp29
    refine lv_goto (tgt := 22) hx hb dX11_argued_17 (by decide) ?_
    exact xri E hr hlk hQ (rfl) dX11_argued_22
set_option maxHeartbeats 4000000 in
set_option maxRecDepth 100000 in
theorem gX11_gaps_0 (l : Launch) (g : GG) (ad : Nat → Nat) (hD : Dj ad 122) (S : SS) (hI : InvX g ad S) (a1 : Int32) (hq1 : 0 ≤ 1201 * fld (S 2) 1 + (-1) * fld (S 2) 0) (hq2 : 0 ≤ 8 * fld (S 2) 1 + (-1) * fld (S 2) 7) (hq3 : 0 ≤ 3 * fld (S 2) 1 + (-1) * fld (S 2) 12) : Met l yX11_gaps (wG (.code yX11_gaps cX11_gaps 4 (some .int))) (Rm 2) (XPre g ad 122 S [.ref (ad 0), .int a1]) (va_Qi (fun _ S' => S = S') (QB g ad 122) (FA ad 122)) 0 0 (FA ad 122) := by
  refine xmet cX11_gaps "EbbWreck" (by decide) rfl (Nat.le_of_ble_eq_true rfl) (fun p e s m below meth c E hr hlk hml hQ ls hl => ?_)
  have hx := E.1
  have hb := E.2.1
  have hs : Sp ad 122 (FA ad 122) := Sp.fa hD
  have hl : lv_has ls 4 [(0, .ref (ad 0)), (1, .int a1)] := hl
  obtain ⟨v1, v3, v5, v6, v7, v9, c11, b2, b4, b8, b10⟩ := invX_2 hI
  have c11 : S 2 = .inr (1, [.int v1, .int v3, .int v5, .ref (ad 3), .ref (ad 5), .ref (ad 6), .int v6, .int v7, .ref (ad 7), .ref (ad 8), .ref (ad 9), .ref (ad 10), .int v9, .ref (ad 15), .ref (ad 16)]) := c11
  have q12 : fld (S 2) 1 = v3.toInt := fld_of c11 rfl
  have q13 : fld (S 2) 0 = v1.toInt := fld_of c11 rfl
  have q14 : fld (S 2) 7 = v7.toInt := fld_of c11 rfl
  have q15 : fld (S 2) 12 = v9.toInt := fld_of c11 rfl
  refine lv_aload_n hx hb dX11_gaps_0 rfl (lv_at hl 0 rfl) ?_
  obtain ⟨v16, v18, v19, c20, b17⟩ := invX_0 hI
  have c20 : S 0 = .inr (11, [.ref (ad 1), .int v16, .int v18, .int v19, .ref (ad 2), .ref (ad 20), .ref (ad 38), .ref (ad 93), .ref (ad 94), .ref (ad 95), .ref (ad 102), .ref (ad 104), .ref (ad 107), .ref (ad 111), .ref (ad 119)]) := c20
  refine xget E hQ 0 (by decide) c20 rfl 4 (by decide) q520 rfl dX11_gaps_1 ?_
  refine xcVi E hs hQ hml hl.1 2 (gX1_isTold_2 l g ad hD S hI ) mX1_isTold q878 (by decide) c11 rfl rfl ⟨(Nat.le_of_ble_eq_true rfl), (Nat.le_of_ble_eq_true rfl)⟩ ⟨(Nat.le_of_ble_eq_true rfl), (Nat.le_of_ble_eq_true rfl)⟩ (Nat.le_of_ble_eq_true rfl) rfl dX11_gaps_4 (fun r21 S21 H locs hp21 hQ _ => ?_)
  obtain ⟨rfl, b21, g21_0⟩ := hp21
  refine lv_if_eq (tgt := 17) hx hb dX11_gaps_7 (by decide) (fun k22 => ?_) (fun k22 => ?_)
  · have h23 := ib_eq k22
    have b24 : Bd r21 (0) (0) := ⟨(b21).1, ((rf_eq b21 (by decide : Bd 0 (0) (0)) h23).1).2⟩
    clear g21_0
    refine lv_bipush (v := (-2)) hx hb dX11_gaps_17 (by decide) ?_
    exact xri E hr hlk hQ (rfl) dX11_gaps_19
  · have h25 := ib_ne k22
    have b26 : Bd r21 (1) (1) := rf_nlo b21 (by decide : Bd 0 (0) (0)) h25
    have g27 := g21_0.resolve_left (by omega)
    clear g21_0
    have b28 : Bd v1 (1) (1201) := ⟨by omega, by omega⟩
    refine lv_iload_n hx hb dX11_gaps_10 rfl (lv_at hl 1 rfl) ?_
    refine xcSi E hs hQ hml hl.1 (gX11_isPhase l g ad hD S hI a1) mX11_isPhase q892 rfl ⟨(Nat.le_of_ble_eq_true rfl), (Nat.le_of_ble_eq_true rfl)⟩ ⟨(Nat.le_of_ble_eq_true rfl), (Nat.le_of_ble_eq_true rfl)⟩ (Nat.le_of_ble_eq_true rfl) rfl dX11_gaps_11 (fun r29 S29 H locs hp29 hQ => ?_)
    obtain ⟨rfl, b29⟩ := hp29
    refine lv_if_ne (tgt := 20) hx hb dX11_gaps_14 (by decide) (fun k30 => ?_) (fun k30 => ?_)
    · have h31 := ib_ne k30
      have b32 : Bd r29 (1) (1) := rf_nlo b29 (by decide : Bd 0 (0) (0)) h31
      refine lv_iconst (v := 0) hx hb dX11_gaps_20 (by decide) ?_
      refine lv_istore_n (lv' := [(2, .int 0), (0, .ref (ad 0)), (1, .int a1)]) hx hb dX11_gaps_21 rfl hl (by decide) rfl (fun ls hl => ?_)
      refine lv_iconst (v := 0) hx hb dX11_gaps_22 (by decide) ?_
      refine lv_istore_n (lv' := [(3, .int 0), (2, .int 0), (0, .ref (ad 0)), (1, .int a1)]) hx hb dX11_gaps_23 rfl hl (by decide) rfl (fun ls hl => ?_)
      have loop24 : ∀ (n : Nat) (H : Heap) (locs : List Loc) (ls : Array Slot) (x24_2 : Int32) (x24_3 : Int32), Bd x24_3 (0) (12) → (-1) * x24_3.toInt + 12 < ((n : Nat) : Int) → Hp g ad 122 S (FA ad 122) s.heap H locs → lv_has ls 4 [(3, .int x24_3), (2, .int x24_2), (0, .ref (ad 0)), (1, .int a1)] → W p l e (Rm 2) s m [.ref (ad 0), .int a1].toArray below meth c H locs 0 0 (MQ below (va_Qi (fun _ S' => S = S') (QB g ad 122) (FA ad 122)) [.ref (ad 0), .int a1].toArray s 0 0 (FA ad 122)) (F0 m 24 ls []) := by
        intro n
        induction n with
        | zero => intro H locs ls x24_2 x24_3 Bx24_3 hn24_ hQ hl; exfalso; have := (Bx24_3).2; omega
        | succ n24_ ih24 =>
          intro H locs ls x24_2 x24_3 Bx24_3 hn24_ hQ hl
          refine lv_iload_n hx hb dX11_gaps_24 rfl (lv_at hl 0 rfl) ?_
          refine lv_aload_n hx hb dX11_gaps_25 rfl (lv_at hl 2 rfl) ?_
          refine xget E hQ 0 (by decide) c20 rfl 4 (by decide) q520 rfl dX11_gaps_26 ?_
          refine xget E hQ 2 (by decide) c11 rfl 1 (by decide) q244 rfl dX11_gaps_29 ?_
          refine lv_icmp_ge (tgt := 75) hx hb dX11_gaps_32 (by decide) (fun k33 => ?_) (fun k33 => ?_)
          · have h34 := ib_le k33
            refine lv_iload_n hx hb dX11_gaps_75 rfl (lv_at hl 1 rfl) ?_
            exact xri E hr hlk hQ (rfl) dX11_gaps_76
          · have h35 := ib_nle k33
            have b36 : Bd x24_3 (0) (11) := ⟨(Bx24_3).1, ((rf_lt Bx24_3 b4 h35).1).2⟩
            have b37 : Bd v3 (1) (12) := ⟨((rf_lt Bx24_3 b4 h35).2).1, (b4).2⟩
            refine lv_aload_n hx hb dX11_gaps_35 rfl (lv_at hl 2 rfl) ?_
            refine xget E hQ 0 (by decide) c20 rfl 4 (by decide) q520 rfl dX11_gaps_36 ?_
            refine lv_iload_n hx hb dX11_gaps_39 rfl (lv_at hl 0 rfl) ?_
            refine xcVi E hs hQ hml hl.1 2 (gX1_isBeach_2 l g ad hD S hI x24_3) mX1_isBeach q827 (by decide) c11 rfl rfl ⟨(Nat.le_of_ble_eq_true rfl), (Nat.le_of_ble_eq_true rfl)⟩ ⟨(Nat.le_of_ble_eq_true rfl), (Nat.le_of_ble_eq_true rfl)⟩ (Nat.le_of_ble_eq_true rfl) rfl dX11_gaps_40 (fun r38 S38 H locs hp38 hQ _ => ?_)
            obtain ⟨rfl, b38⟩ := hp38
            refine lv_if_eq (tgt := 69) hx hb dX11_gaps_43 (by decide) (fun k39 => ?_) (fun k39 => ?_)
            · have h40 := ib_eq k39
              have b41 : Bd r38 (0) (0) := ⟨(b38).1, ((rf_eq b38 (by decide : Bd 0 (0) (0)) h40).1).2⟩
              obtain ⟨z42, e43⟩ : ∃ z : Int32, z = x24_3 + 1 := ⟨_, rfl⟩
              have t44 := ib_add e43 b36 (by decide : Bd 1 (1) (1)) (by decide) (by decide)
              have b45 : Bd z42 (1) (12) := ib_addb t44 b36 (by decide : Bd 1 (1) (1))
              have t44 : z42.toInt = x24_3.toInt + 1 := fold_add t44 rfl (by decide)
              refine lv_iinc (v := z42) (lv' := [(3, .int z42), (2, .int x24_2), (0, .ref (ad 0)), (1, .int a1)]) hx hb dX11_gaps_69 hl (k := 0) rfl (by rw [e43]; rfl) (by decide) rfl (fun ls hl => ?_)
              refine lv_goto (tgt := 24) hx hb dX11_gaps_72 (by decide) ?_
              exact ih24 _ _ _ x24_2 z42 (ib_wk b45 (by decide) (by decide)) (by omega) hQ (lv_sub hl [0, 1, 2, 3] rfl)
            · have h46 := ib_ne k39
              have b47 : Bd r38 (1) (1) := rf_nlo b38 (by decide : Bd 0 (0) (0)) h46
              refine lv_aload_n hx hb dX11_gaps_46 rfl (lv_at hl 2 rfl) ?_
              refine xget E hQ 0 (by decide) c20 rfl 4 (by decide) q520 rfl dX11_gaps_47 ?_
              refine xget E hQ 2 (by decide) c11 rfl 11 (by decide) q290 rfl dX11_gaps_50 ?_
              refine lv_iload_n hx hb dX11_gaps_53 rfl (lv_at hl 0 rfl) ?_
              refine lv_iload_n hx hb dX11_gaps_54 rfl (lv_at hl 3 rfl) ?_
              refine lv_iconst (v := (-1)) hx hb dX11_gaps_55 (by decide) ?_
              obtain ⟨v49, c51, b50⟩ := invX_10 hI
              have c51 : S 10 = .inr (6, [.int v49, .ref (ad 11), .ref (ad 12), .ref (ad 13), .ref (ad 14)]) := c51
              refine xcVi E hs hQ hml hl.1 10 (gX6_decider_10 l g ad hD S hI x24_3 a1 (-1)) mX6_decider q1019 (by decide) c51 rfl rfl ⟨(Nat.le_of_ble_eq_true rfl), (Nat.le_of_ble_eq_true rfl)⟩ ⟨(Nat.le_of_ble_eq_true rfl), (Nat.le_of_ble_eq_true rfl)⟩ (Nat.le_of_ble_eq_true rfl) rfl dX11_gaps_56 (fun r48 S48 H locs hp48 hQ _ => ?_)
              obtain ⟨rfl, b48⟩ := hp48
              refine lv_iconst (v := (-1)) hx hb dX11_gaps_59 (by decide) ?_
              refine lv_icmp_ne (tgt := 69) hx hb dX11_gaps_60 (by decide) (fun k52 => ?_) (fun k52 => ?_)
              · have h53 := ib_ne k52
                have b54 : Bd r48 (0) (5) := rf_nlo b48 (by decide : Bd (-1) (-1) (-1)) h53
                obtain ⟨z55, e56⟩ : ∃ z : Int32, z = x24_3 + 1 := ⟨_, rfl⟩
                have t57 := ib_add e56 b36 (by decide : Bd 1 (1) (1)) (by decide) (by decide)
                have b58 : Bd z55 (1) (12) := ib_addb t57 b36 (by decide : Bd 1 (1) (1))
                have t57 : z55.toInt = x24_3.toInt + 1 := fold_add t57 rfl (by decide)
                refine lv_iinc (v := z55) (lv' := [(3, .int z55), (2, .int x24_2), (0, .ref (ad 0)), (1, .int a1)]) hx hb dX11_gaps_69 hl (k := 0) rfl (by rw [e56]; rfl) (by decide) rfl (fun ls hl => ?_)
                refine lv_goto (tgt := 24) hx hb dX11_gaps_72 (by decide) ?_
                exact ih24 _ _ _ x24_2 z55 (ib_wk b58 (by decide) (by decide)) (by omega) hQ (lv_sub hl [0, 1, 2, 3] rfl)
              · have h59 := ib_eq k52
                have b60 : Bd r48 (-1) (-1) := ⟨(b48).1, ((rf_eq b48 (by decide : Bd (-1) (-1) (-1)) h59).1).2⟩
                refine lv_iload_n hx hb dX11_gaps_63 rfl (lv_at hl 1 rfl) ?_
                refine lv_iconst (v := 1) hx hb dX11_gaps_64 (by decide) ?_
                refine lv_iload_n hx hb dX11_gaps_65 rfl (lv_at hl 0 rfl) ?_
                refine lv_ishl hx hb dX11_gaps_66 ?_
                refine lv_topi (fun z61 e62 => ?_)
                refine lv_ior hx hb dX11_gaps_67 ?_
                refine lv_topi (fun z63 e64 => ?_)
                refine lv_istore_n (lv' := [(2, .int z63), (3, .int x24_3), (0, .ref (ad 0)), (1, .int a1)]) hx hb dX11_gaps_68 rfl hl (by decide) rfl (fun ls hl => ?_)
                obtain ⟨z65, e66⟩ : ∃ z : Int32, z = x24_3 + 1 := ⟨_, rfl⟩
                have t67 := ib_add e66 b36 (by decide : Bd 1 (1) (1)) (by decide) (by decide)
                have b68 : Bd z65 (1) (12) := ib_addb t67 b36 (by decide : Bd 1 (1) (1))
                have t67 : z65.toInt = x24_3.toInt + 1 := fold_add t67 rfl (by decide)
                refine lv_iinc (v := z65) (lv' := [(3, .int z65), (2, .int z63), (0, .ref (ad 0)), (1, .int a1)]) hx hb dX11_gaps_69 hl (k := 1) rfl (by rw [e66]; rfl) (by decide) rfl (fun ls hl => ?_)
                refine lv_goto (tgt := 24) hx hb dX11_gaps_72 (by decide) ?_
                exact ih24 _ _ _ z63 z65 (ib_wk b68 (by decide) (by decide)) (by omega) hQ (lv_sub hl [0, 1, 2, 3] rfl)
      obtain ⟨n24, hn24⟩ := fu_n (12)
      exact loop24 n24 _ _ _ 0 0 (ib_wk (by decide : Bd 0 (0) (0)) (by decide) (by decide)) (by have : (0 : Int32).toInt = 0 := (by decide); omega) hQ (lv_sub hl [0, 1, 2, 3] rfl)
    · have h69 := ib_eq k30
      have b70 : Bd r29 (0) (0) := ⟨(b29).1, ((rf_eq b29 (by decide : Bd 0 (0) (0)) h69).1).2⟩
      refine lv_bipush (v := (-2)) hx hb dX11_gaps_17 (by decide) ?_
      exact xri E hr hlk hQ (rfl) dX11_gaps_19
set_option maxHeartbeats 4000000 in
set_option maxRecDepth 100000 in
theorem gX11_idle_0 (l : Launch) (g : GG) (ad : Nat → Nat) (hD : Dj ad 122) (S : SS) (hI : InvX g ad S) (hq1 : 0 ≤ 1201 * fld (S 2) 1 + (-1) * fld (S 2) 0) (hq2 : 0 ≤ 8 * fld (S 2) 1 + (-1) * fld (S 2) 7) (hq3 : 0 ≤ 3 * fld (S 2) 1 + (-1) * fld (S 2) 12) : Met l yX11_idle (wG (.code yX11_idle cX11_idle 5 (some .int))) (Rm 2) (XPre g ad 122 S [.ref (ad 0)]) (va_Qi (fun _ S' => S = S') (QB g ad 122) (FA ad 122)) 0 0 (FA ad 122) := by
  refine xmet cX11_idle "EbbWreck" (by decide) rfl (Nat.le_of_ble_eq_true rfl) (fun p e s m below meth c E hr hlk hml hQ ls hl => ?_)
  have hx := E.1
  have hb := E.2.1
  have hs : Sp ad 122 (FA ad 122) := Sp.fa hD
  have hl : lv_has ls 5 [(0, .ref (ad 0))] := hl
  obtain ⟨v1, v3, v5, v6, v7, v9, c11, b2, b4, b8, b10⟩ := invX_2 hI
  have c11 : S 2 = .inr (1, [.int v1, .int v3, .int v5, .ref (ad 3), .ref (ad 5), .ref (ad 6), .int v6, .int v7, .ref (ad 7), .ref (ad 8), .ref (ad 9), .ref (ad 10), .int v9, .ref (ad 15), .ref (ad 16)]) := c11
  have q12 : fld (S 2) 1 = v3.toInt := fld_of c11 rfl
  have q13 : fld (S 2) 0 = v1.toInt := fld_of c11 rfl
  have q14 : fld (S 2) 7 = v7.toInt := fld_of c11 rfl
  have q15 : fld (S 2) 12 = v9.toInt := fld_of c11 rfl
  refine lv_aload_n hx hb dX11_idle_0 rfl (lv_at hl 0 rfl) ?_
  obtain ⟨v16, v18, v19, c20, b17⟩ := invX_0 hI
  have c20 : S 0 = .inr (11, [.ref (ad 1), .int v16, .int v18, .int v19, .ref (ad 2), .ref (ad 20), .ref (ad 38), .ref (ad 93), .ref (ad 94), .ref (ad 95), .ref (ad 102), .ref (ad 104), .ref (ad 107), .ref (ad 111), .ref (ad 119)]) := c20
  refine xget E hQ 0 (by decide) c20 rfl 4 (by decide) q520 rfl dX11_idle_1 ?_
  refine xcVi E hs hQ hml hl.1 2 (gX1_isTold_2 l g ad hD S hI ) mX1_isTold q878 (by decide) c11 rfl rfl ⟨(Nat.le_of_ble_eq_true rfl), (Nat.le_of_ble_eq_true rfl)⟩ ⟨(Nat.le_of_ble_eq_true rfl), (Nat.le_of_ble_eq_true rfl)⟩ (Nat.le_of_ble_eq_true rfl) rfl dX11_idle_4 (fun r21 S21 H locs hp21 hQ _ => ?_)
  obtain ⟨rfl, b21, g21_0⟩ := hp21
  refine lv_if_ne (tgt := 13) hx hb dX11_idle_7 (by decide) (fun k22 => ?_) (fun k22 => ?_)
  · have h23 := ib_ne k22
    have b24 : Bd r21 (1) (1) := rf_nlo b21 (by decide : Bd 0 (0) (0)) h23
    have g25 := g21_0.resolve_left (by omega)
    clear g21_0
    have b26 : Bd v1 (1) (1201) := ⟨by omega, by omega⟩
    refine lv_iconst (v := 1) hx hb dX11_idle_13 (by decide) ?_
    refine lv_aload_n hx hb dX11_idle_14 rfl (lv_at hl 0 rfl) ?_
    refine xget E hQ 0 (by decide) c20 rfl 4 (by decide) q520 rfl dX11_idle_15 ?_
    refine xget E hQ 2 (by decide) c11 rfl 11 (by decide) q290 rfl dX11_idle_18 ?_
    obtain ⟨v27, c29, b28⟩ := invX_10 hI
    have c29 : S 10 = .inr (6, [.int v27, .ref (ad 11), .ref (ad 12), .ref (ad 13), .ref (ad 14)]) := c29
    refine xget E hQ 10 (by decide) c29 rfl 0 (by decide) q188 rfl dX11_idle_21 ?_
    refine lv_ishl hx hb dX11_idle_24 ?_
    refine lv_topi (fun z30 e31 => ?_)
    refine lv_iconst (v := 1) hx hb dX11_idle_25 (by decide) ?_
    refine lv_isub hx hb dX11_idle_26 ?_
    refine lv_topi (fun z32 e33 => ?_)
    refine lv_istore_n (lv' := [(1, .int z32), (0, .ref (ad 0))]) hx hb dX11_idle_27 rfl hl (by decide) rfl (fun ls hl => ?_)
    refine lv_iconst (v := 0) hx hb dX11_idle_28 (by decide) ?_
    refine lv_istore_n (lv' := [(2, .int 0), (1, .int z32), (0, .ref (ad 0))]) hx hb dX11_idle_29 rfl hl (by decide) rfl (fun ls hl => ?_)
    have loop30 : ∀ (n : Nat) (H : Heap) (locs : List Loc) (ls : Array Slot) (x30_1 : Int32) (x30_2 : Int32), Bd x30_2 (0) (12) → (-1) * x30_2.toInt + 12 < ((n : Nat) : Int) → Hp g ad 122 S (FA ad 122) s.heap H locs → lv_has ls 5 [(2, .int x30_2), (1, .int x30_1), (0, .ref (ad 0))] → W p l e (Rm 2) s m [.ref (ad 0)].toArray below meth c H locs 0 0 (MQ below (va_Qi (fun _ S' => S = S') (QB g ad 122) (FA ad 122)) [.ref (ad 0)].toArray s 0 0 (FA ad 122)) (F0 m 30 ls []) := by
      intro n
      induction n with
      | zero => intro H locs ls x30_1 x30_2 Bx30_2 hn30_ hQ hl; exfalso; have := (Bx30_2).2; omega
      | succ n30_ ih30 =>
        intro H locs ls x30_1 x30_2 Bx30_2 hn30_ hQ hl
        refine lv_iload_n hx hb dX11_idle_30 rfl (lv_at hl 0 rfl) ?_
        refine lv_aload_n hx hb dX11_idle_31 rfl (lv_at hl 2 rfl) ?_
        refine xget E hQ 0 (by decide) c20 rfl 4 (by decide) q520 rfl dX11_idle_32 ?_
        refine xget E hQ 2 (by decide) c11 rfl 1 (by decide) q244 rfl dX11_idle_35 ?_
        refine lv_icmp_ge (tgt := 101) hx hb dX11_idle_38 (by decide) (fun k34 => ?_) (fun k34 => ?_)
        · have h35 := ib_le k34
          refine lv_iload_n hx hb dX11_idle_101 rfl (lv_at hl 1 rfl) ?_
          exact xri E hr hlk hQ (rfl) dX11_idle_102
        · have h36 := ib_nle k34
          have b37 : Bd x30_2 (0) (11) := ⟨(Bx30_2).1, ((rf_lt Bx30_2 b4 h36).1).2⟩
          have b38 : Bd v3 (1) (12) := ⟨((rf_lt Bx30_2 b4 h36).2).1, (b4).2⟩
          refine lv_iconst (v := 0) hx hb dX11_idle_41 (by decide) ?_
          refine lv_istore_n (lv' := [(3, .int 0), (2, .int x30_2), (1, .int x30_1), (0, .ref (ad 0))]) hx hb dX11_idle_42 rfl hl (by decide) rfl (fun ls hl => ?_)
          have loop43 : ∀ (n : Nat) (H : Heap) (locs : List Loc) (ls : Array Slot) (x43_1 : Int32) (x43_3 : Int32), Bd x43_3 (0) (3) → (-1) * x43_3.toInt + 3 < ((n : Nat) : Int) → Hp g ad 122 S (FA ad 122) s.heap H locs → lv_has ls 5 [(3, .int x43_3), (2, .int x30_2), (1, .int x43_1), (0, .ref (ad 0))] → W p l e (Rm 2) s m [.ref (ad 0)].toArray below meth c H locs 0 0 (MQ below (va_Qi (fun _ S' => S = S') (QB g ad 122) (FA ad 122)) [.ref (ad 0)].toArray s 0 0 (FA ad 122)) (F0 m 43 ls []) := by
            intro n
            induction n with
            | zero => intro H locs ls x43_1 x43_3 Bx43_3 hn43_ hQ hl; exfalso; have := (Bx43_3).2; omega
            | succ n43_ ih43 =>
              intro H locs ls x43_1 x43_3 Bx43_3 hn43_ hQ hl
              refine lv_iload_n hx hb dX11_idle_43 rfl (lv_at hl 0 rfl) ?_
              refine lv_iconst (v := 3) hx hb dX11_idle_44 (by decide) ?_
              refine lv_icmp_ge (tgt := 95) hx hb dX11_idle_45 (by decide) (fun k39 => ?_) (fun k39 => ?_)
              · have h40 := ib_le k39
                have b41 : Bd x43_3 (3) (3) := ⟨((rf_le (by decide : Bd 3 (3) (3)) Bx43_3 h40).2).1, (Bx43_3).2⟩
                obtain ⟨z42, e43⟩ : ∃ z : Int32, z = x30_2 + 1 := ⟨_, rfl⟩
                have t44 := ib_add e43 b37 (by decide : Bd 1 (1) (1)) (by decide) (by decide)
                have b45 : Bd z42 (1) (12) := ib_addb t44 b37 (by decide : Bd 1 (1) (1))
                have t44 : z42.toInt = x30_2.toInt + 1 := fold_add t44 rfl (by decide)
                refine lv_iinc (v := z42) (lv' := [(2, .int z42), (3, .int x43_3), (1, .int x43_1), (0, .ref (ad 0))]) hx hb dX11_idle_95 hl (k := 1) rfl (by rw [e43]; rfl) (by decide) rfl (fun ls hl => ?_)
                refine lv_goto (tgt := 30) hx hb dX11_idle_98 (by decide) ?_
                exact ih30 _ _ _ x43_1 z42 (ib_wk b45 (by decide) (by decide)) (by omega) hQ (lv_sub hl [0, 2, 3] rfl)
              · have h46 := ib_nle k39
                have b47 : Bd x43_3 (0) (2) := ⟨(Bx43_3).1, ((rf_lt Bx43_3 (by decide : Bd 3 (3) (3)) h46).1).2⟩
                refine lv_aload_n hx hb dX11_idle_48 rfl (lv_at hl 3 rfl) ?_
                refine xget E hQ 0 (by decide) c20 rfl 4 (by decide) q520 rfl dX11_idle_49 ?_
                refine lv_iload_n hx hb dX11_idle_52 rfl (lv_at hl 1 rfl) ?_
                refine xcVi E hs hQ hml hl.1 2 (gX1_isBeach_2 l g ad hD S hI x30_2) mX1_isBeach q827 (by decide) c11 rfl rfl ⟨(Nat.le_of_ble_eq_true rfl), (Nat.le_of_ble_eq_true rfl)⟩ ⟨(Nat.le_of_ble_eq_true rfl), (Nat.le_of_ble_eq_true rfl)⟩ (Nat.le_of_ble_eq_true rfl) rfl dX11_idle_53 (fun r48 S48 H locs hp48 hQ _ => ?_)
                obtain ⟨rfl, b48⟩ := hp48
                refine lv_if_eq (tgt := 95) hx hb dX11_idle_56 (by decide) (fun k49 => ?_) (fun k49 => ?_)
                · have h50 := ib_eq k49
                  have b51 : Bd r48 (0) (0) := ⟨(b48).1, ((rf_eq b48 (by decide : Bd 0 (0) (0)) h50).1).2⟩
                  obtain ⟨z52, e53⟩ : ∃ z : Int32, z = x30_2 + 1 := ⟨_, rfl⟩
                  have t54 := ib_add e53 b37 (by decide : Bd 1 (1) (1)) (by decide) (by decide)
                  have b55 : Bd z52 (1) (12) := ib_addb t54 b37 (by decide : Bd 1 (1) (1))
                  have t54 : z52.toInt = x30_2.toInt + 1 := fold_add t54 rfl (by decide)
                  refine lv_iinc (v := z52) (lv' := [(2, .int z52), (3, .int x43_3), (1, .int x43_1), (0, .ref (ad 0))]) hx hb dX11_idle_95 hl (k := 1) rfl (by rw [e53]; rfl) (by decide) rfl (fun ls hl => ?_)
                  refine lv_goto (tgt := 30) hx hb dX11_idle_98 (by decide) ?_
                  exact ih30 _ _ _ x43_1 z52 (ib_wk b55 (by decide) (by decide)) (by omega) hQ (lv_sub hl [0, 2, 3] rfl)
                · have h56 := ib_ne k49
                  have b57 : Bd r48 (1) (1) := rf_nlo b48 (by decide : Bd 0 (0) (0)) h56
                  refine lv_aload_n hx hb dX11_idle_59 rfl (lv_at hl 3 rfl) ?_
                  refine xget E hQ 0 (by decide) c20 rfl 4 (by decide) q520 rfl dX11_idle_60 ?_
                  refine xget E hQ 2 (by decide) c11 rfl 11 (by decide) q290 rfl dX11_idle_63 ?_
                  refine lv_iload_n hx hb dX11_idle_66 rfl (lv_at hl 1 rfl) ?_
                  refine lv_iload_n hx hb dX11_idle_67 rfl (lv_at hl 0 rfl) ?_
                  refine lv_iconst (v := (-1)) hx hb dX11_idle_68 (by decide) ?_
                  refine xcVi E hs hQ hml hl.1 10 (gX6_decider_10 l g ad hD S hI x30_2 x43_3 (-1)) mX6_decider q1019 (by decide) c29 rfl rfl ⟨(Nat.le_of_ble_eq_true rfl), (Nat.le_of_ble_eq_true rfl)⟩ ⟨(Nat.le_of_ble_eq_true rfl), (Nat.le_of_ble_eq_true rfl)⟩ (Nat.le_of_ble_eq_true rfl) rfl dX11_idle_69 (fun r58 S58 H locs hp58 hQ _ => ?_)
                  obtain ⟨rfl, b58⟩ := hp58
                  refine lv_istore (lv' := [(4, .int r58), (3, .int x43_3), (2, .int x30_2), (1, .int x43_1), (0, .ref (ad 0))]) hx hb dX11_idle_72 hl (by decide) rfl (fun ls hl => ?_)
                  refine lv_iload hx hb dX11_idle_74 (lv_at hl 0 rfl) ?_
                  refine lv_iconst (v := (-1)) hx hb dX11_idle_76 (by decide) ?_
                  refine lv_icmp_eq (tgt := 89) hx hb dX11_idle_77 (by decide) (fun k59 => ?_) (fun k59 => ?_)
                  · have h60 := ib_eq k59
                    have b61 : Bd r58 (-1) (-1) := ⟨(b58).1, ((rf_eq b58 (by decide : Bd (-1) (-1) (-1)) h60).1).2⟩
                    obtain ⟨z62, e63⟩ : ∃ z : Int32, z = x43_3 + 1 := ⟨_, rfl⟩
                    have t64 := ib_add e63 b47 (by decide : Bd 1 (1) (1)) (by decide) (by decide)
                    have b65 : Bd z62 (1) (3) := ib_addb t64 b47 (by decide : Bd 1 (1) (1))
                    have t64 : z62.toInt = x43_3.toInt + 1 := fold_add t64 rfl (by decide)
                    refine lv_iinc (v := z62) (lv' := [(3, .int z62), (4, .int r58), (2, .int x30_2), (1, .int x43_1), (0, .ref (ad 0))]) hx hb dX11_idle_89 hl (k := 1) rfl (by rw [e63]; rfl) (by decide) rfl (fun ls hl => ?_)
                    refine lv_goto (tgt := 43) hx hb dX11_idle_92 (by decide) ?_
                    exact ih43 _ _ _ x43_1 z62 (ib_wk b65 (by decide) (by decide)) (by omega) hQ (lv_sub hl [0, 2, 3, 4] rfl)
                  · have h66 := ib_ne k59
                    have b67 : Bd r58 (0) (5) := rf_nlo b58 (by decide : Bd (-1) (-1) (-1)) h66
                    refine lv_iload_n hx hb dX11_idle_80 rfl (lv_at hl 3 rfl) ?_
                    refine lv_iconst (v := 1) hx hb dX11_idle_81 (by decide) ?_
                    refine lv_iload hx hb dX11_idle_82 (lv_at hl 0 rfl) ?_
                    refine lv_ishl hx hb dX11_idle_84 ?_
                    refine lv_topi (fun z68 e69 => ?_)
                    refine lv_iconst (v := (-1)) hx hb dX11_idle_85 (by decide) ?_
                    refine lv_ixor hx hb dX11_idle_86 ?_
                    refine lv_topi (fun z70 e71 => ?_)
                    refine lv_iand hx hb dX11_idle_87 ?_
                    refine lv_topi (fun z72 e73 => ?_)
                    refine lv_istore_n (lv' := [(1, .int z72), (4, .int r58), (3, .int x43_3), (2, .int x30_2), (0, .ref (ad 0))]) hx hb dX11_idle_88 rfl hl (by decide) rfl (fun ls hl => ?_)
                    obtain ⟨z74, e75⟩ : ∃ z : Int32, z = x43_3 + 1 := ⟨_, rfl⟩
                    have t76 := ib_add e75 b47 (by decide : Bd 1 (1) (1)) (by decide) (by decide)
                    have b77 : Bd z74 (1) (3) := ib_addb t76 b47 (by decide : Bd 1 (1) (1))
                    have t76 : z74.toInt = x43_3.toInt + 1 := fold_add t76 rfl (by decide)
                    refine lv_iinc (v := z74) (lv' := [(3, .int z74), (1, .int z72), (4, .int r58), (2, .int x30_2), (0, .ref (ad 0))]) hx hb dX11_idle_89 hl (k := 2) rfl (by rw [e75]; rfl) (by decide) rfl (fun ls hl => ?_)
                    refine lv_goto (tgt := 43) hx hb dX11_idle_92 (by decide) ?_
                    exact ih43 _ _ _ z72 z74 (ib_wk b77 (by decide) (by decide)) (by omega) hQ (lv_sub hl [0, 3, 1, 4] rfl)
          obtain ⟨n43, hn43⟩ := fu_n (3)
          exact loop43 n43 _ _ _ x30_1 0 (ib_wk (by decide : Bd 0 (0) (0)) (by decide) (by decide)) (by have : (0 : Int32).toInt = 0 := (by decide); omega) hQ (lv_sub hl [0, 1, 2, 3] rfl)
    obtain ⟨n30, hn30⟩ := fu_n (12)
    exact loop30 n30 _ _ _ z32 0 (ib_wk (by decide : Bd 0 (0) (0)) (by decide) (by decide)) (by have : (0 : Int32).toInt = 0 := (by decide); omega) hQ (lv_sub hl [0, 1, 2] rfl)
  · have h78 := ib_eq k22
    have b79 : Bd r21 (0) (0) := ⟨(b21).1, ((rf_eq b21 (by decide : Bd 0 (0) (0)) h78).1).2⟩
    clear g21_0
    refine lv_bipush (v := (-2)) hx hb dX11_idle_10 (by decide) ?_
    exact xri E hr hlk hQ (rfl) dX11_idle_12
set_option maxHeartbeats 4000000 in
set_option maxRecDepth 100000 in
theorem gX11_without_0 (l : Launch) (g : GG) (ad : Nat → Nat) (hD : Dj ad 122) (S : SS) (hI : InvX g ad S) (a1 : Int32) (a2 : Int32) (hq1 : 0 ≤ 1201 * fld (S 2) 1 + (-1) * fld (S 2) 0) (hq2 : 0 ≤ 8 * fld (S 2) 1 + (-1) * fld (S 2) 7) (hq3 : 0 ≤ 3 * fld (S 2) 1 + (-1) * fld (S 2) 12) : Met l yX11_without (wG (.code yX11_without cX11_without 3 (some .int))) (Rm 5) (XPre g ad 122 S [.ref (ad 0), .int a1, .int a2]) (va_Qi (fun _ S' => S = S') (QB g ad 122) (FA ad 122)) 0 0 (FA ad 122) := by
  refine xmet cX11_without "EbbWreck" (by decide) rfl (Nat.le_of_ble_eq_true rfl) (fun p e s m below meth c E hr hlk hml hQ ls hl => ?_)
  have hx := E.1
  have hb := E.2.1
  have hs : Sp ad 122 (FA ad 122) := Sp.fa hD
  have hl : lv_has ls 3 [(0, .ref (ad 0)), (1, .int a1), (2, .int a2)] := hl
  obtain ⟨v1, v3, v5, v6, v7, v9, c11, b2, b4, b8, b10⟩ := invX_2 hI
  have c11 : S 2 = .inr (1, [.int v1, .int v3, .int v5, .ref (ad 3), .ref (ad 5), .ref (ad 6), .int v6, .int v7, .ref (ad 7), .ref (ad 8), .ref (ad 9), .ref (ad 10), .int v9, .ref (ad 15), .ref (ad 16)]) := c11
  have q12 : fld (S 2) 1 = v3.toInt := fld_of c11 rfl
  have q13 : fld (S 2) 0 = v1.toInt := fld_of c11 rfl
  have q14 : fld (S 2) 7 = v7.toInt := fld_of c11 rfl
  have q15 : fld (S 2) 12 = v9.toInt := fld_of c11 rfl
  refine lv_aload_n hx hb dX11_without_0 rfl (lv_at hl 0 rfl) ?_
  obtain ⟨v16, v18, v19, c20, b17⟩ := invX_0 hI
  have c20 : S 0 = .inr (11, [.ref (ad 1), .int v16, .int v18, .int v19, .ref (ad 2), .ref (ad 20), .ref (ad 38), .ref (ad 93), .ref (ad 94), .ref (ad 95), .ref (ad 102), .ref (ad 104), .ref (ad 107), .ref (ad 111), .ref (ad 119)]) := c20
  refine xget E hQ 0 (by decide) c20 rfl 4 (by decide) q520 rfl dX11_without_1 ?_
  refine xget E hQ 2 (by decide) c11 rfl 11 (by decide) q290 rfl dX11_without_4 ?_
  refine lv_iload_n hx hb dX11_without_7 rfl (lv_at hl 1 rfl) ?_
  obtain ⟨v21, c23, b22⟩ := invX_10 hI
  have c23 : S 10 = .inr (6, [.int v21, .ref (ad 11), .ref (ad 12), .ref (ad 13), .ref (ad 14)]) := c23
  refine xcVi E hs hQ hml hl.1 10 (gX6_hasRule_10 l g ad hD S hI a1) mX6_hasRule q840 (by decide) c23 rfl rfl ⟨(Nat.le_of_ble_eq_true rfl), (Nat.le_of_ble_eq_true rfl)⟩ ⟨(Nat.le_of_ble_eq_true rfl), (Nat.le_of_ble_eq_true rfl)⟩ (Nat.le_of_ble_eq_true rfl) rfl dX11_without_8 (fun r24 S24 H locs hp24 hQ _ => ?_)
  obtain ⟨rfl, b24, g24_0⟩ := hp24
  have q25 : fld (S 10) 0 = v21.toInt := fld_of c23 rfl
  refine lv_if_eq (tgt := 22) hx hb dX11_without_11 (by decide) (fun k26 => ?_) (fun k26 => ?_)
  · have h27 := ib_eq k26
    have b28 : Bd r24 (0) (0) := ⟨(b24).1, ((rf_eq b24 (by decide : Bd 0 (0) (0)) h27).1).2⟩
    clear g24_0
    refine lv_bipush (v := (-2)) hx hb dX11_without_22 (by decide) ?_
    exact xri E hr hlk hQ (rfl) dX11_without_24
  · have h29 := ib_ne k26
    have b30 : Bd r24 (1) (1) := rf_nlo b24 (by decide : Bd 0 (0) (0)) h29
    have g31 := g24_0.resolve_left (by omega)
    clear g24_0
    have b32 : Bd a1 (0) (5) := ⟨by omega, by omega⟩
    have b33 : Bd v21 (1) (6) := ⟨by omega, by omega⟩
    refine lv_aload_n hx hb dX11_without_14 rfl (lv_at hl 0 rfl) ?_
    refine lv_iload_n hx hb dX11_without_15 rfl (lv_at hl 2 rfl) ?_
    refine xcVi E hs hQ hml hl.1 0 (gX11_isAskedParty_0 l g ad hD S hI a2) mX11_isAskedParty q963 (by decide) c20 rfl rfl ⟨(Nat.le_of_ble_eq_true rfl), (Nat.le_of_ble_eq_true rfl)⟩ ⟨(Nat.le_of_ble_eq_true rfl), (Nat.le_of_ble_eq_true rfl)⟩ (Nat.le_of_ble_eq_true rfl) rfl dX11_without_16 (fun r34 S34 H locs hp34 hQ _ => ?_)
    obtain ⟨rfl, b34, g34_0⟩ := hp34
    refine lv_if_ne (tgt := 25) hx hb dX11_without_19 (by decide) (fun k35 => ?_) (fun k35 => ?_)
    · have h36 := ib_ne k35
      have b37 : Bd r34 (1) (1) := rf_nlo b34 (by decide : Bd 0 (0) (0)) h36
      have g38 := g34_0.resolve_left (by omega)
      clear g34_0
      have b39 : Bd v1 (1) (1201) := ⟨by omega, by omega⟩
      refine lv_aload_n hx hb dX11_without_25 rfl (lv_at hl 0 rfl) ?_
      refine xget E hQ 0 (by decide) c20 rfl 9 (by decide) q525 rfl dX11_without_26 ?_
      refine lv_iload_n hx hb dX11_without_29 rfl (lv_at hl 2 rfl) ?_
      refine lv_iconst (v := 0) hx hb dX11_without_30 (by decide) ?_
      refine lv_iload_n hx hb dX11_without_31 rfl (lv_at hl 1 rfl) ?_
      obtain ⟨v41, v42, c44, b43⟩ := invX_95 hI
      have c44 : S 95 = .inr (2, [.ref (ad 2), .ref (ad 96), .ref (ad 97), .ref (ad 98), .ref (ad 99), .ref (ad 100), .ref (ad 101), .int v41, .int v42]) := c44
      refine xcVi E hs hQ hml hl.1 95 (gX2_worthOf_95 l g ad hD S hI a2 0 a1) mX2_worthOf q967 (by decide) c44 rfl rfl ⟨(Nat.le_of_ble_eq_true rfl), (Nat.le_of_ble_eq_true rfl)⟩ ⟨(Nat.le_of_ble_eq_true rfl), (Nat.le_of_ble_eq_true rfl)⟩ (Nat.le_of_ble_eq_true rfl) rfl dX11_without_32 (fun r40 S40 H locs hp40 hQ _ => ?_)
      subst hp40
      exact xri E hr hlk hQ (rfl) dX11_without_35
    · have h45 := ib_eq k35
      have b46 : Bd r34 (0) (0) := ⟨(b34).1, ((rf_eq b34 (by decide : Bd 0 (0) (0)) h45).1).2⟩
      clear g34_0
      refine lv_bipush (v := (-2)) hx hb dX11_without_22 (by decide) ?_
      exact xri E hr hlk hQ (rfl) dX11_without_24
set_option maxHeartbeats 4000000 in
set_option maxRecDepth 100000 in
theorem gX11_strike_0 (l : Launch) (g : GG) (ad : Nat → Nat) (hD : Dj ad 122) (S : SS) (hI : InvX g ad S) (a1 : Int32) (hq1 : 0 ≤ 1201 * fld (S 2) 1 + (-1) * fld (S 2) 0) (hq2 : 0 ≤ 8 * fld (S 2) 1 + (-1) * fld (S 2) 7) (hq3 : 0 ≤ 3 * fld (S 2) 1 + (-1) * fld (S 2) 12) : Met l yX11_strike (wG (.code yX11_strike cX11_strike 6 (some .int))) (Rm 5) (XPre g ad 122 S [.ref (ad 0), .int a1]) (va_Qi (fun r S' => S = S' ∧ Bd r (-2) (5)) (QB g ad 122) (FA ad 122)) 0 0 (FA ad 122) := by
  refine xmet cX11_strike "EbbWreck" (by decide) rfl (Nat.le_of_ble_eq_true rfl) (fun p e s m below meth c E hr hlk hml hQ ls hl => ?_)
  have hx := E.1
  have hb := E.2.1
  have hs : Sp ad 122 (FA ad 122) := Sp.fa hD
  have hl : lv_has ls 6 [(0, .ref (ad 0)), (1, .int a1)] := hl
  obtain ⟨v1, v3, v5, v6, v7, v9, c11, b2, b4, b8, b10⟩ := invX_2 hI
  have c11 : S 2 = .inr (1, [.int v1, .int v3, .int v5, .ref (ad 3), .ref (ad 5), .ref (ad 6), .int v6, .int v7, .ref (ad 7), .ref (ad 8), .ref (ad 9), .ref (ad 10), .int v9, .ref (ad 15), .ref (ad 16)]) := c11
  have q12 : fld (S 2) 1 = v3.toInt := fld_of c11 rfl
  have q13 : fld (S 2) 0 = v1.toInt := fld_of c11 rfl
  have q14 : fld (S 2) 7 = v7.toInt := fld_of c11 rfl
  have q15 : fld (S 2) 12 = v9.toInt := fld_of c11 rfl
  refine lv_aload_n hx hb dX11_strike_0 rfl (lv_at hl 0 rfl) ?_
  refine lv_iload_n hx hb dX11_strike_1 rfl (lv_at hl 1 rfl) ?_
  obtain ⟨v17, v19, v20, c21, b18⟩ := invX_0 hI
  have c21 : S 0 = .inr (11, [.ref (ad 1), .int v17, .int v19, .int v20, .ref (ad 2), .ref (ad 20), .ref (ad 38), .ref (ad 93), .ref (ad 94), .ref (ad 95), .ref (ad 102), .ref (ad 104), .ref (ad 107), .ref (ad 111), .ref (ad 119)]) := c21
  refine xcVi E hs hQ hml hl.1 0 (gX11_isAskedParty_0 l g ad hD S hI a1) mX11_isAskedParty q963 (by decide) c21 rfl rfl ⟨(Nat.le_of_ble_eq_true rfl), (Nat.le_of_ble_eq_true rfl)⟩ ⟨(Nat.le_of_ble_eq_true rfl), (Nat.le_of_ble_eq_true rfl)⟩ (Nat.le_of_ble_eq_true rfl) rfl dX11_strike_2 (fun r16 S16 H locs hp16 hQ _ => ?_)
  obtain ⟨rfl, b16, g16_0⟩ := hp16
  refine lv_if_ne (tgt := 11) hx hb dX11_strike_5 (by decide) (fun k22 => ?_) (fun k22 => ?_)
  · have h23 := ib_ne k22
    have b24 : Bd r16 (1) (1) := rf_nlo b16 (by decide : Bd 0 (0) (0)) h23
    have g25 := g16_0.resolve_left (by omega)
    clear g16_0
    have b26 : Bd v1 (1) (1201) := ⟨by omega, by omega⟩
    refine lv_iconst (v := (-1)) hx hb dX11_strike_11 (by decide) ?_
    refine lv_istore_n (lv' := [(2, .int (-1)), (0, .ref (ad 0)), (1, .int a1)]) hx hb dX11_strike_12 rfl hl (by decide) rfl (fun ls hl => ?_)
    refine lv_aload_n hx hb dX11_strike_13 rfl (lv_at hl 1 rfl) ?_
    refine xget E hQ 0 (by decide) c21 rfl 9 (by decide) q525 rfl dX11_strike_14 ?_
    refine lv_iload_n hx hb dX11_strike_17 rfl (lv_at hl 2 rfl) ?_
    refine lv_iconst (v := 0) hx hb dX11_strike_18 (by decide) ?_
    refine lv_iconst (v := (-1)) hx hb dX11_strike_19 (by decide) ?_
    obtain ⟨v28, v29, c31, b30⟩ := invX_95 hI
    have c31 : S 95 = .inr (2, [.ref (ad 2), .ref (ad 96), .ref (ad 97), .ref (ad 98), .ref (ad 99), .ref (ad 100), .ref (ad 101), .int v28, .int v29]) := c31
    refine xcVi E hs hQ hml hl.1 95 (gX2_worthOf_95 l g ad hD S hI a1 0 (-1)) mX2_worthOf q967 (by decide) c31 rfl rfl ⟨(Nat.le_of_ble_eq_true rfl), (Nat.le_of_ble_eq_true rfl)⟩ ⟨(Nat.le_of_ble_eq_true rfl), (Nat.le_of_ble_eq_true rfl)⟩ (Nat.le_of_ble_eq_true rfl) rfl dX11_strike_20 (fun r27 S27 H locs hp27 hQ _ => ?_)
    subst hp27
    refine lv_istore_n (lv' := [(3, .int r27), (2, .int (-1)), (0, .ref (ad 0)), (1, .int a1)]) hx hb dX11_strike_23 rfl hl (by decide) rfl (fun ls hl => ?_)
    refine lv_iconst (v := 0) hx hb dX11_strike_24 (by decide) ?_
    refine lv_istore (lv' := [(4, .int 0), (3, .int r27), (2, .int (-1)), (0, .ref (ad 0)), (1, .int a1)]) hx hb dX11_strike_25 hl (by decide) rfl (fun ls hl => ?_)
    have loop27 : ∀ (n : Nat) (H : Heap) (locs : List Loc) (ls : Array Slot) (x27_2 : Int32) (x27_3 : Int32) (x27_4 : Int32), Bd x27_2 (-1) (5) → Bd x27_4 (0) (6) → (-1) * x27_4.toInt + 6 < ((n : Nat) : Int) → Hp g ad 122 S (FA ad 122) s.heap H locs → lv_has ls 6 [(4, .int x27_4), (3, .int x27_3), (2, .int x27_2), (0, .ref (ad 0)), (1, .int a1)] → W p l e (Rm 5) s m [.ref (ad 0), .int a1].toArray below meth c H locs 0 0 (MQ below (va_Qi (fun r S' => S = S' ∧ Bd r (-2) (5)) (QB g ad 122) (FA ad 122)) [.ref (ad 0), .int a1].toArray s 0 0 (FA ad 122)) (F0 m 27 ls []) := by
      intro n
      induction n with
      | zero => intro H locs ls x27_2 x27_3 x27_4 Bx27_2 Bx27_4 hn27_ hQ hl; exfalso; have := (Bx27_4).2; omega
      | succ n27_ ih27 =>
        intro H locs ls x27_2 x27_3 x27_4 Bx27_2 Bx27_4 hn27_ hQ hl
        refine lv_iload hx hb dX11_strike_27 (lv_at hl 0 rfl) ?_
        refine lv_aload_n hx hb dX11_strike_29 rfl (lv_at hl 3 rfl) ?_
        refine xget E hQ 0 (by decide) c21 rfl 4 (by decide) q520 rfl dX11_strike_30 ?_
        refine xget E hQ 2 (by decide) c11 rfl 11 (by decide) q290 rfl dX11_strike_33 ?_
        obtain ⟨v32, c34, b33⟩ := invX_10 hI
        have c34 : S 10 = .inr (6, [.int v32, .ref (ad 11), .ref (ad 12), .ref (ad 13), .ref (ad 14)]) := c34
        refine xget E hQ 10 (by decide) c34 rfl 0 (by decide) q188 rfl dX11_strike_36 ?_
        refine lv_icmp_ge (tgt := 73) hx hb dX11_strike_39 (by decide) (fun k35 => ?_) (fun k35 => ?_)
        · have h36 := ib_le k35
          refine lv_iload_n hx hb dX11_strike_73 rfl (lv_at hl 2 rfl) ?_
          exact xri E hr hlk hQ (⟨rfl, (ib_wk Bx27_2 (by decide) (by decide))⟩) dX11_strike_74
        · have h37 := ib_nle k35
          have b38 : Bd x27_4 (0) (5) := ⟨(Bx27_4).1, ((rf_lt Bx27_4 b33 h37).1).2⟩
          have b39 : Bd v32 (1) (6) := ⟨((rf_lt Bx27_4 b33 h37).2).1, (b33).2⟩
          refine lv_aload_n hx hb dX11_strike_42 rfl (lv_at hl 3 rfl) ?_
          refine xget E hQ 0 (by decide) c21 rfl 9 (by decide) q525 rfl dX11_strike_43 ?_
          refine lv_iload_n hx hb dX11_strike_46 rfl (lv_at hl 4 rfl) ?_
          refine lv_iconst (v := 0) hx hb dX11_strike_47 (by decide) ?_
          refine lv_iload hx hb dX11_strike_48 (lv_at hl 0 rfl) ?_
          refine xcVi E hs hQ hml hl.1 95 (gX2_worthOf_95 l g ad hD S hI a1 0 x27_4) mX2_worthOf q967 (by decide) c31 rfl rfl ⟨(Nat.le_of_ble_eq_true rfl), (Nat.le_of_ble_eq_true rfl)⟩ ⟨(Nat.le_of_ble_eq_true rfl), (Nat.le_of_ble_eq_true rfl)⟩ (Nat.le_of_ble_eq_true rfl) rfl dX11_strike_50 (fun r40 S40 H locs hp40 hQ _ => ?_)
          subst hp40
          refine lv_istore (lv' := [(5, .int r40), (4, .int x27_4), (3, .int x27_3), (2, .int x27_2), (0, .ref (ad 0)), (1, .int a1)]) hx hb dX11_strike_53 hl (by decide) rfl (fun ls hl => ?_)
          refine lv_iload hx hb dX11_strike_55 (lv_at hl 0 rfl) ?_
          refine lv_iload_n hx hb dX11_strike_57 rfl (lv_at hl 2 rfl) ?_
          refine lv_icmp_le (tgt := 67) hx hb dX11_strike_58 (by decide) (fun k41 => ?_) (fun k41 => ?_)
          · have h42 := ib_le k41
            obtain ⟨z43, e44⟩ : ∃ z : Int32, z = x27_4 + 1 := ⟨_, rfl⟩
            have t45 := ib_add e44 b38 (by decide : Bd 1 (1) (1)) (by decide) (by decide)
            have b46 : Bd z43 (1) (6) := ib_addb t45 b38 (by decide : Bd 1 (1) (1))
            have t45 : z43.toInt = x27_4.toInt + 1 := fold_add t45 rfl (by decide)
            refine lv_iinc (v := z43) (lv' := [(4, .int z43), (5, .int r40), (3, .int x27_3), (2, .int x27_2), (0, .ref (ad 0)), (1, .int a1)]) hx hb dX11_strike_67 hl (k := 1) rfl (by rw [e44]; rfl) (by decide) rfl (fun ls hl => ?_)
            refine lv_goto (tgt := 27) hx hb dX11_strike_70 (by decide) ?_
            exact ih27 _ _ _ x27_2 x27_3 z43 Bx27_2 (ib_wk b46 (by decide) (by decide)) (by omega) hQ (lv_sub hl [0, 2, 3, 4, 5] rfl)
          · have h47 := ib_nle k41
            have b48 : Bd x27_3 (-2147483648) (2147483646) := ⟨((ib_full x27_3)).1, ((rf_lt (ib_full x27_3) (ib_full r40) h47).1).2⟩
            have b49 : Bd r40 (-2147483647) (2147483647) := ⟨((rf_lt (ib_full x27_3) (ib_full r40) h47).2).1, ((ib_full r40)).2⟩
            refine lv_iload hx hb dX11_strike_61 (lv_at hl 0 rfl) ?_
            refine lv_istore_n (lv' := [(3, .int r40), (5, .int r40), (4, .int x27_4), (2, .int x27_2), (0, .ref (ad 0)), (1, .int a1)]) hx hb dX11_strike_63 rfl hl (by decide) rfl (fun ls hl => ?_)
            refine lv_iload hx hb dX11_strike_64 (lv_at hl 2 rfl) ?_
            refine lv_istore_n (lv' := [(2, .int x27_4), (3, .int r40), (5, .int r40), (4, .int x27_4), (0, .ref (ad 0)), (1, .int a1)]) hx hb dX11_strike_66 rfl hl (by decide) rfl (fun ls hl => ?_)
            obtain ⟨z50, e51⟩ : ∃ z : Int32, z = x27_4 + 1 := ⟨_, rfl⟩
            have t52 := ib_add e51 b38 (by decide : Bd 1 (1) (1)) (by decide) (by decide)
            have b53 : Bd z50 (1) (6) := ib_addb t52 b38 (by decide : Bd 1 (1) (1))
            have t52 : z50.toInt = x27_4.toInt + 1 := fold_add t52 rfl (by decide)
            refine lv_iinc (v := z50) (lv' := [(4, .int z50), (2, .int x27_4), (3, .int r40), (5, .int r40), (0, .ref (ad 0)), (1, .int a1)]) hx hb dX11_strike_67 hl (k := 3) rfl (by rw [e51]; rfl) (by decide) rfl (fun ls hl => ?_)
            refine lv_goto (tgt := 27) hx hb dX11_strike_70 (by decide) ?_
            exact ih27 _ _ _ x27_4 r40 z50 (ib_wk b38 (by decide) (by decide)) (ib_wk b53 (by decide) (by decide)) (by omega) hQ (lv_sub hl [0, 2, 1, 4, 5] rfl)
    obtain ⟨n27, hn27⟩ := fu_n (6)
    exact loop27 n27 _ _ _ (-1) r27 0 (ib_wk (by decide : Bd (-1) (-1) (-1)) (by decide) (by decide)) (ib_wk (by decide : Bd 0 (0) (0)) (by decide) (by decide)) (by have : ((-1) : Int32).toInt = (-1) := (by decide); have : (0 : Int32).toInt = 0 := (by decide); omega) hQ (lv_sub hl [0, 1, 2, 3, 4] rfl)
  · have h54 := ib_eq k22
    have b55 : Bd r16 (0) (0) := ⟨(b16).1, ((rf_eq b16 (by decide : Bd 0 (0) (0)) h54).1).2⟩
    clear g16_0
    refine lv_bipush (v := (-2)) hx hb dX11_strike_8 (by decide) ?_
    exact xri E hr hlk hQ (⟨rfl, (ib_wk (by decide : Bd (-2) (-2) (-2)) (by decide) (by decide))⟩) dX11_strike_10
set_option maxHeartbeats 4000000 in
set_option maxRecDepth 100000 in
theorem gX11_clock_0 (l : Launch) (g : GG) (ad : Nat → Nat) (hD : Dj ad 122) (S : SS) (hI : InvX g ad S) (a1 : Int32) (a2 : Int32) (hq1 : 0 ≤ 1201 * fld (S 2) 1 + (-1) * fld (S 2) 0) (hq2 : 0 ≤ 8 * fld (S 2) 1 + (-1) * fld (S 2) 7) (hq3 : 0 ≤ 3 * fld (S 2) 1 + (-1) * fld (S 2) 12) : Met l yX11_clock (wG (.code yX11_clock cX11_clock 3 (some .int))) (Rm 5) (XPre g ad 122 S [.ref (ad 0), .int a1, .int a2]) (va_Qi (fun _ S' => S = S') (QB g ad 122) (FA ad 122)) 0 0 (FA ad 122) := by
  refine xmet cX11_clock "EbbWreck" (by decide) rfl (Nat.le_of_ble_eq_true rfl) (fun p e s m below meth c E hr hlk hml hQ ls hl => ?_)
  have hx := E.1
  have hb := E.2.1
  have hs : Sp ad 122 (FA ad 122) := Sp.fa hD
  have hl : lv_has ls 3 [(0, .ref (ad 0)), (1, .int a1), (2, .int a2)] := hl
  obtain ⟨v1, v3, v5, v6, v7, v9, c11, b2, b4, b8, b10⟩ := invX_2 hI
  have c11 : S 2 = .inr (1, [.int v1, .int v3, .int v5, .ref (ad 3), .ref (ad 5), .ref (ad 6), .int v6, .int v7, .ref (ad 7), .ref (ad 8), .ref (ad 9), .ref (ad 10), .int v9, .ref (ad 15), .ref (ad 16)]) := c11
  have q12 : fld (S 2) 1 = v3.toInt := fld_of c11 rfl
  have q13 : fld (S 2) 0 = v1.toInt := fld_of c11 rfl
  have q14 : fld (S 2) 7 = v7.toInt := fld_of c11 rfl
  have q15 : fld (S 2) 12 = v9.toInt := fld_of c11 rfl
  refine lv_aload_n hx hb dX11_clock_0 rfl (lv_at hl 0 rfl) ?_
  refine lv_iload_n hx hb dX11_clock_1 rfl (lv_at hl 1 rfl) ?_
  obtain ⟨v17, v19, v20, c21, b18⟩ := invX_0 hI
  have c21 : S 0 = .inr (11, [.ref (ad 1), .int v17, .int v19, .int v20, .ref (ad 2), .ref (ad 20), .ref (ad 38), .ref (ad 93), .ref (ad 94), .ref (ad 95), .ref (ad 102), .ref (ad 104), .ref (ad 107), .ref (ad 111), .ref (ad 119)]) := c21
  refine xcVi E hs hQ hml hl.1 0 (gX11_isAskedParty_0 l g ad hD S hI a1) mX11_isAskedParty q963 (by decide) c21 rfl rfl ⟨(Nat.le_of_ble_eq_true rfl), (Nat.le_of_ble_eq_true rfl)⟩ ⟨(Nat.le_of_ble_eq_true rfl), (Nat.le_of_ble_eq_true rfl)⟩ (Nat.le_of_ble_eq_true rfl) rfl dX11_clock_2 (fun r16 S16 H locs hp16 hQ _ => ?_)
  obtain ⟨rfl, b16, g16_0⟩ := hp16
  refine lv_if_eq (tgt := 20) hx hb dX11_clock_5 (by decide) (fun k22 => ?_) (fun k22 => ?_)
  · have h23 := ib_eq k22
    have b24 : Bd r16 (0) (0) := ⟨(b16).1, ((rf_eq b16 (by decide : Bd 0 (0) (0)) h23).1).2⟩
    clear g16_0
    refine lv_bipush (v := (-2)) hx hb dX11_clock_20 (by decide) ?_
    exact xri E hr hlk hQ (rfl) dX11_clock_22
  · have h25 := ib_ne k22
    have b26 : Bd r16 (1) (1) := rf_nlo b16 (by decide : Bd 0 (0) (0)) h25
    have g27 := g16_0.resolve_left (by omega)
    clear g16_0
    have b28 : Bd v1 (1) (1201) := ⟨by omega, by omega⟩
    refine lv_iload_n hx hb dX11_clock_8 rfl (lv_at hl 2 rfl) ?_
    refine lv_bipush (v := (-20)) hx hb dX11_clock_9 (by decide) ?_
    refine lv_icmp_lt (tgt := 20) hx hb dX11_clock_11 (by decide) (fun k29 => ?_) (fun k29 => ?_)
    · have h30 := ib_lt k29
      have b31 : Bd a2 (-2147483648) (-21) := ⟨((ib_full a2)).1, ((rf_lt (ib_full a2) (by decide : Bd (-20) (-20) (-20)) h30).1).2⟩
      refine lv_bipush (v := (-2)) hx hb dX11_clock_20 (by decide) ?_
      exact xri E hr hlk hQ (rfl) dX11_clock_22
    · have h32 := ib_nlt k29
      have b33 : Bd a2 (-20) (2147483647) := ⟨((rf_le (by decide : Bd (-20) (-20) (-20)) (ib_full a2) h32).2).1, ((ib_full a2)).2⟩
      refine lv_iload_n hx hb dX11_clock_14 rfl (lv_at hl 2 rfl) ?_
      refine lv_bipush (v := 20) hx hb dX11_clock_15 (by decide) ?_
      refine lv_icmp_le (tgt := 23) hx hb dX11_clock_17 (by decide) (fun k34 => ?_) (fun k34 => ?_)
      · have h35 := ib_le k34
        have b36 : Bd a2 (-20) (20) := ⟨(b33).1, ((rf_le b33 (by decide : Bd 20 (20) (20)) h35).1).2⟩
        refine lv_aload_n hx hb dX11_clock_23 rfl (lv_at hl 0 rfl) ?_
        refine xget E hQ 0 (by decide) c21 rfl 9 (by decide) q525 rfl dX11_clock_24 ?_
        refine lv_iload_n hx hb dX11_clock_27 rfl (lv_at hl 1 rfl) ?_
        refine lv_iload_n hx hb dX11_clock_28 rfl (lv_at hl 2 rfl) ?_
        refine lv_iconst (v := (-1)) hx hb dX11_clock_29 (by decide) ?_
        obtain ⟨v38, v39, c41, b40⟩ := invX_95 hI
        have c41 : S 95 = .inr (2, [.ref (ad 2), .ref (ad 96), .ref (ad 97), .ref (ad 98), .ref (ad 99), .ref (ad 100), .ref (ad 101), .int v38, .int v39]) := c41
        refine xcVi E hs hQ hml hl.1 95 (gX2_worthOf_95 l g ad hD S hI a1 a2 (-1)) mX2_worthOf q967 (by decide) c41 rfl rfl ⟨(Nat.le_of_ble_eq_true rfl), (Nat.le_of_ble_eq_true rfl)⟩ ⟨(Nat.le_of_ble_eq_true rfl), (Nat.le_of_ble_eq_true rfl)⟩ (Nat.le_of_ble_eq_true rfl) rfl dX11_clock_30 (fun r37 S37 H locs hp37 hQ _ => ?_)
        subst hp37
        exact xri E hr hlk hQ (rfl) dX11_clock_33
      · have h42 := ib_nle k34
        have b43 : Bd a2 (21) (2147483647) := ⟨((rf_lt (by decide : Bd 20 (20) (20)) b33 h42).2).1, (b33).2⟩
        refine lv_bipush (v := (-2)) hx hb dX11_clock_20 (by decide) ?_
        exact xri E hr hlk hQ (rfl) dX11_clock_22
set_option maxHeartbeats 4000000 in
set_option maxRecDepth 100000 in
theorem gX11_set_0 (l : Launch) (g : GG) (ad : Nat → Nat) (hD : Dj ad 122) (S : SS) (hI : InvX g ad S) (a1 : Int32) (hq1 : 0 ≤ 1201 * fld (S 2) 1 + (-1) * fld (S 2) 0) (hq2 : 0 ≤ 8 * fld (S 2) 1 + (-1) * fld (S 2) 7) (hq3 : 0 ≤ 3 * fld (S 2) 1 + (-1) * fld (S 2) 12) : Met l yX11_set (wG (.code yX11_set cX11_set 7 (some .int))) (Rm 5) (XPre g ad 122 S [.ref (ad 0), .int a1]) (va_Qi (fun r S' => S = S' ∧ Bd r (-1000) (20)) (QB g ad 122) (FA ad 122)) 0 0 (FA ad 122) := by
  refine xmet cX11_set "EbbWreck" (by decide) rfl (Nat.le_of_ble_eq_true rfl) (fun p e s m below meth c E hr hlk hml hQ ls hl => ?_)
  have hx := E.1
  have hb := E.2.1
  have hs : Sp ad 122 (FA ad 122) := Sp.fa hD
  have hl : lv_has ls 7 [(0, .ref (ad 0)), (1, .int a1)] := hl
  obtain ⟨v1, v3, v5, v6, v7, v9, c11, b2, b4, b8, b10⟩ := invX_2 hI
  have c11 : S 2 = .inr (1, [.int v1, .int v3, .int v5, .ref (ad 3), .ref (ad 5), .ref (ad 6), .int v6, .int v7, .ref (ad 7), .ref (ad 8), .ref (ad 9), .ref (ad 10), .int v9, .ref (ad 15), .ref (ad 16)]) := c11
  have q12 : fld (S 2) 1 = v3.toInt := fld_of c11 rfl
  have q13 : fld (S 2) 0 = v1.toInt := fld_of c11 rfl
  have q14 : fld (S 2) 7 = v7.toInt := fld_of c11 rfl
  have q15 : fld (S 2) 12 = v9.toInt := fld_of c11 rfl
  refine lv_aload_n hx hb dX11_set_0 rfl (lv_at hl 0 rfl) ?_
  refine lv_iload_n hx hb dX11_set_1 rfl (lv_at hl 1 rfl) ?_
  obtain ⟨v17, v19, v20, c21, b18⟩ := invX_0 hI
  have c21 : S 0 = .inr (11, [.ref (ad 1), .int v17, .int v19, .int v20, .ref (ad 2), .ref (ad 20), .ref (ad 38), .ref (ad 93), .ref (ad 94), .ref (ad 95), .ref (ad 102), .ref (ad 104), .ref (ad 107), .ref (ad 111), .ref (ad 119)]) := c21
  refine xcVi E hs hQ hml hl.1 0 (gX11_isAskedParty_0 l g ad hD S hI a1) mX11_isAskedParty q963 (by decide) c21 rfl rfl ⟨(Nat.le_of_ble_eq_true rfl), (Nat.le_of_ble_eq_true rfl)⟩ ⟨(Nat.le_of_ble_eq_true rfl), (Nat.le_of_ble_eq_true rfl)⟩ (Nat.le_of_ble_eq_true rfl) rfl dX11_set_2 (fun r16 S16 H locs hp16 hQ _ => ?_)
  obtain ⟨rfl, b16, g16_0⟩ := hp16
  refine lv_if_ne (tgt := 12) hx hb dX11_set_5 (by decide) (fun k22 => ?_) (fun k22 => ?_)
  · have h23 := ib_ne k22
    have b24 : Bd r16 (1) (1) := rf_nlo b16 (by decide : Bd 0 (0) (0)) h23
    have g25 := g16_0.resolve_left (by omega)
    clear g16_0
    have b26 : Bd v1 (1) (1201) := ⟨by omega, by omega⟩
    refine lv_iconst (v := 0) hx hb dX11_set_12 (by decide) ?_
    refine lv_istore_n (lv' := [(2, .int 0), (0, .ref (ad 0)), (1, .int a1)]) hx hb dX11_set_13 rfl hl (by decide) rfl (fun ls hl => ?_)
    refine lv_aload_n hx hb dX11_set_14 rfl (lv_at hl 1 rfl) ?_
    refine xget E hQ 0 (by decide) c21 rfl 9 (by decide) q525 rfl dX11_set_15 ?_
    refine lv_iload_n hx hb dX11_set_18 rfl (lv_at hl 2 rfl) ?_
    refine lv_iconst (v := 0) hx hb dX11_set_19 (by decide) ?_
    refine lv_iconst (v := (-1)) hx hb dX11_set_20 (by decide) ?_
    obtain ⟨v28, v29, c31, b30⟩ := invX_95 hI
    have c31 : S 95 = .inr (2, [.ref (ad 2), .ref (ad 96), .ref (ad 97), .ref (ad 98), .ref (ad 99), .ref (ad 100), .ref (ad 101), .int v28, .int v29]) := c31
    refine xcVi E hs hQ hml hl.1 95 (gX2_worthOf_95 l g ad hD S hI a1 0 (-1)) mX2_worthOf q967 (by decide) c31 rfl rfl ⟨(Nat.le_of_ble_eq_true rfl), (Nat.le_of_ble_eq_true rfl)⟩ ⟨(Nat.le_of_ble_eq_true rfl), (Nat.le_of_ble_eq_true rfl)⟩ (Nat.le_of_ble_eq_true rfl) rfl dX11_set_21 (fun r27 S27 H locs hp27 hQ _ => ?_)
    subst hp27
    refine lv_istore_n (lv' := [(3, .int r27), (2, .int 0), (0, .ref (ad 0)), (1, .int a1)]) hx hb dX11_set_24 rfl hl (by decide) rfl (fun ls hl => ?_)
    refine lv_iconst (v := 1) hx hb dX11_set_25 (by decide) ?_
    refine lv_istore (lv' := [(4, .int 1), (3, .int r27), (2, .int 0), (0, .ref (ad 0)), (1, .int a1)]) hx hb dX11_set_26 hl (by decide) rfl (fun ls hl => ?_)
    have loop28 : ∀ (n : Nat) (H : Heap) (locs : List Loc) (ls : Array Slot) (x28_2 : Int32) (x28_3 : Int32) (x28_4 : Int32), Bd x28_2 (-20) (20) → Bd x28_4 (1) (35) → (-1) * x28_4.toInt + 35 < ((n : Nat) : Int) → Hp g ad 122 S (FA ad 122) s.heap H locs → lv_has ls 7 [(4, .int x28_4), (3, .int x28_3), (2, .int x28_2), (0, .ref (ad 0)), (1, .int a1)] → W p l e (Rm 5) s m [.ref (ad 0), .int a1].toArray below meth c H locs 0 0 (MQ below (va_Qi (fun r S' => S = S' ∧ Bd r (-1000) (20)) (QB g ad 122) (FA ad 122)) [.ref (ad 0), .int a1].toArray s 0 0 (FA ad 122)) (F0 m 28 ls []) := by
      intro n
      induction n with
      | zero => intro H locs ls x28_2 x28_3 x28_4 Bx28_2 Bx28_4 hn28_ hQ hl; exfalso; have := (Bx28_4).2; omega
      | succ n28_ ih28 =>
        intro H locs ls x28_2 x28_3 x28_4 Bx28_2 Bx28_4 hn28_ hQ hl
        refine lv_iload hx hb dX11_set_28 (lv_at hl 0 rfl) ?_
        refine lv_bipush (v := 20) hx hb dX11_set_30 (by decide) ?_
        refine lv_icmp_gt (tgt := 93) hx hb dX11_set_32 (by decide) (fun k32 => ?_) (fun k32 => ?_)
        · have h33 := ib_lt k32
          have b34 : Bd x28_4 (21) (35) := ⟨((rf_lt (by decide : Bd 20 (20) (20)) Bx28_4 h33).2).1, (Bx28_4).2⟩
          refine lv_iload_n hx hb dX11_set_93 rfl (lv_at hl 2 rfl) ?_
          exact xri E hr hlk hQ (⟨rfl, (ib_wk Bx28_2 (by decide) (by decide))⟩) dX11_set_94
        · have h35 := ib_nlt k32
          have b36 : Bd x28_4 (1) (20) := ⟨(Bx28_4).1, ((rf_le Bx28_4 (by decide : Bd 20 (20) (20)) h35).1).2⟩
          refine lv_aload_n hx hb dX11_set_35 rfl (lv_at hl 3 rfl) ?_
          refine xget E hQ 0 (by decide) c21 rfl 9 (by decide) q525 rfl dX11_set_36 ?_
          refine lv_iload_n hx hb dX11_set_39 rfl (lv_at hl 4 rfl) ?_
          refine lv_iload hx hb dX11_set_40 (lv_at hl 0 rfl) ?_
          refine lv_ineg hx hb dX11_set_42 ?_
          refine lv_topi (fun z37 e38 => ?_)
          have t39 := ib_neg e38 b36 (by decide)
          have b40 : Bd z37 (-20) (-1) := ib_negb t39 b36
          refine lv_iconst (v := (-1)) hx hb dX11_set_43 (by decide) ?_
          refine xcVi E hs hQ hml hl.1 95 (gX2_worthOf_95 l g ad hD S hI a1 z37 (-1)) mX2_worthOf q967 (by decide) c31 rfl rfl ⟨(Nat.le_of_ble_eq_true rfl), (Nat.le_of_ble_eq_true rfl)⟩ ⟨(Nat.le_of_ble_eq_true rfl), (Nat.le_of_ble_eq_true rfl)⟩ (Nat.le_of_ble_eq_true rfl) rfl dX11_set_44 (fun r41 S41 H locs hp41 hQ _ => ?_)
          subst hp41
          refine lv_istore (lv' := [(5, .int r41), (4, .int x28_4), (3, .int x28_3), (2, .int x28_2), (0, .ref (ad 0)), (1, .int a1)]) hx hb dX11_set_47 hl (by decide) rfl (fun ls hl => ?_)
          refine lv_iload hx hb dX11_set_49 (lv_at hl 0 rfl) ?_
          refine lv_iload_n hx hb dX11_set_51 rfl (lv_at hl 2 rfl) ?_
          refine lv_icmp_le (tgt := 62) hx hb dX11_set_52 (by decide) (fun k42 => ?_) (fun k42 => ?_)
          · have h43 := ib_le k42
            refine lv_aload_n hx hb dX11_set_62 rfl (lv_at hl 4 rfl) ?_
            refine xget E hQ 0 (by decide) c21 rfl 9 (by decide) q525 rfl dX11_set_63 ?_
            refine lv_iload_n hx hb dX11_set_66 rfl (lv_at hl 5 rfl) ?_
            refine lv_iload hx hb dX11_set_67 (lv_at hl 1 rfl) ?_
            refine lv_iconst (v := (-1)) hx hb dX11_set_69 (by decide) ?_
            refine xcVi E hs hQ hml hl.1 95 (gX2_worthOf_95 l g ad hD S hI a1 x28_4 (-1)) mX2_worthOf q967 (by decide) c31 rfl rfl ⟨(Nat.le_of_ble_eq_true rfl), (Nat.le_of_ble_eq_true rfl)⟩ ⟨(Nat.le_of_ble_eq_true rfl), (Nat.le_of_ble_eq_true rfl)⟩ (Nat.le_of_ble_eq_true rfl) rfl dX11_set_70 (fun r44 S44 H locs hp44 hQ _ => ?_)
            subst hp44
            refine lv_istore (lv' := [(6, .int r44), (5, .int r41), (4, .int x28_4), (3, .int x28_3), (2, .int x28_2), (0, .ref (ad 0)), (1, .int a1)]) hx hb dX11_set_73 hl (by decide) rfl (fun ls hl => ?_)
            refine lv_iload hx hb dX11_set_75 (lv_at hl 0 rfl) ?_
            refine lv_iload_n hx hb dX11_set_77 rfl (lv_at hl 3 rfl) ?_
            refine lv_icmp_le (tgt := 87) hx hb dX11_set_78 (by decide) (fun k45 => ?_) (fun k45 => ?_)
            · have h46 := ib_le k45
              obtain ⟨z47, e48⟩ : ∃ z : Int32, z = x28_4 + 1 := ⟨_, rfl⟩
              have t49 := ib_add e48 b36 (by decide : Bd 1 (1) (1)) (by decide) (by decide)
              have b50 : Bd z47 (2) (21) := ib_addb t49 b36 (by decide : Bd 1 (1) (1))
              have t49 : z47.toInt = x28_4.toInt + 1 := fold_add t49 rfl (by decide)
              refine lv_iinc (v := z47) (lv' := [(4, .int z47), (6, .int r44), (5, .int r41), (3, .int x28_3), (2, .int x28_2), (0, .ref (ad 0)), (1, .int a1)]) hx hb dX11_set_87 hl (k := 2) rfl (by rw [e48]; rfl) (by decide) rfl (fun ls hl => ?_)
              refine lv_goto (tgt := 28) hx hb dX11_set_90 (by decide) ?_
              exact ih28 _ _ _ x28_2 x28_3 z47 Bx28_2 (ib_wk b50 (by decide) (by decide)) (by omega) hQ (lv_sub hl [0, 3, 4, 5, 6] rfl)
            · have h51 := ib_nle k45
              have b52 : Bd x28_3 (-2147483648) (2147483646) := ⟨((ib_full x28_3)).1, ((rf_lt (ib_full x28_3) (ib_full r44) h51).1).2⟩
              have b53 : Bd r44 (-2147483647) (2147483647) := ⟨((rf_lt (ib_full x28_3) (ib_full r44) h51).2).1, ((ib_full r44)).2⟩
              refine lv_iload hx hb dX11_set_81 (lv_at hl 0 rfl) ?_
              refine lv_istore_n (lv' := [(3, .int r44), (6, .int r44), (5, .int r41), (4, .int x28_4), (2, .int x28_2), (0, .ref (ad 0)), (1, .int a1)]) hx hb dX11_set_83 rfl hl (by decide) rfl (fun ls hl => ?_)
              refine lv_iload hx hb dX11_set_84 (lv_at hl 3 rfl) ?_
              refine lv_istore_n (lv' := [(2, .int x28_4), (3, .int r44), (6, .int r44), (5, .int r41), (4, .int x28_4), (0, .ref (ad 0)), (1, .int a1)]) hx hb dX11_set_86 rfl hl (by decide) rfl (fun ls hl => ?_)
              obtain ⟨z54, e55⟩ : ∃ z : Int32, z = x28_4 + 1 := ⟨_, rfl⟩
              have t56 := ib_add e55 b36 (by decide : Bd 1 (1) (1)) (by decide) (by decide)
              have b57 : Bd z54 (2) (21) := ib_addb t56 b36 (by decide : Bd 1 (1) (1))
              have t56 : z54.toInt = x28_4.toInt + 1 := fold_add t56 rfl (by decide)
              refine lv_iinc (v := z54) (lv' := [(4, .int z54), (2, .int x28_4), (3, .int r44), (6, .int r44), (5, .int r41), (0, .ref (ad 0)), (1, .int a1)]) hx hb dX11_set_87 hl (k := 4) rfl (by rw [e55]; rfl) (by decide) rfl (fun ls hl => ?_)
              refine lv_goto (tgt := 28) hx hb dX11_set_90 (by decide) ?_
              exact ih28 _ _ _ x28_4 r44 z54 (ib_wk b36 (by decide) (by decide)) (ib_wk b57 (by decide) (by decide)) (by omega) hQ (lv_sub hl [0, 2, 1, 5, 6] rfl)
          · have h58 := ib_nle k42
            have b59 : Bd x28_3 (-2147483648) (2147483646) := ⟨((ib_full x28_3)).1, ((rf_lt (ib_full x28_3) (ib_full r41) h58).1).2⟩
            have b60 : Bd r41 (-2147483647) (2147483647) := ⟨((rf_lt (ib_full x28_3) (ib_full r41) h58).2).1, ((ib_full r41)).2⟩
            refine lv_iload hx hb dX11_set_55 (lv_at hl 0 rfl) ?_
            refine lv_istore_n (lv' := [(3, .int r41), (5, .int r41), (4, .int x28_4), (2, .int x28_2), (0, .ref (ad 0)), (1, .int a1)]) hx hb dX11_set_57 rfl hl (by decide) rfl (fun ls hl => ?_)
            refine lv_iload hx hb dX11_set_58 (lv_at hl 2 rfl) ?_
            refine lv_ineg hx hb dX11_set_60 ?_
            refine lv_topi (fun z61 e62 => ?_)
            have t63 := ib_neg e62 b36 (by decide)
            have b64 : Bd z61 (-20) (-1) := ib_negb t63 b36
            refine lv_istore_n (lv' := [(2, .int z61), (3, .int r41), (5, .int r41), (4, .int x28_4), (0, .ref (ad 0)), (1, .int a1)]) hx hb dX11_set_61 rfl hl (by decide) rfl (fun ls hl => ?_)
            refine lv_aload_n hx hb dX11_set_62 rfl (lv_at hl 4 rfl) ?_
            refine xget E hQ 0 (by decide) c21 rfl 9 (by decide) q525 rfl dX11_set_63 ?_
            refine lv_iload_n hx hb dX11_set_66 rfl (lv_at hl 5 rfl) ?_
            refine lv_iload hx hb dX11_set_67 (lv_at hl 3 rfl) ?_
            refine lv_iconst (v := (-1)) hx hb dX11_set_69 (by decide) ?_
            refine xcVi E hs hQ hml hl.1 95 (gX2_worthOf_95 l g ad hD S hI a1 x28_4 (-1)) mX2_worthOf q967 (by decide) c31 rfl rfl ⟨(Nat.le_of_ble_eq_true rfl), (Nat.le_of_ble_eq_true rfl)⟩ ⟨(Nat.le_of_ble_eq_true rfl), (Nat.le_of_ble_eq_true rfl)⟩ (Nat.le_of_ble_eq_true rfl) rfl dX11_set_70 (fun r65 S65 H locs hp65 hQ _ => ?_)
            subst hp65
            refine lv_istore (lv' := [(6, .int r65), (2, .int z61), (3, .int r41), (5, .int r41), (4, .int x28_4), (0, .ref (ad 0)), (1, .int a1)]) hx hb dX11_set_73 hl (by decide) rfl (fun ls hl => ?_)
            refine lv_iload hx hb dX11_set_75 (lv_at hl 0 rfl) ?_
            refine lv_iload_n hx hb dX11_set_77 rfl (lv_at hl 2 rfl) ?_
            refine lv_icmp_le (tgt := 87) hx hb dX11_set_78 (by decide) (fun k66 => ?_) (fun k66 => ?_)
            · have h67 := ib_le k66
              obtain ⟨z68, e69⟩ : ∃ z : Int32, z = x28_4 + 1 := ⟨_, rfl⟩
              have t70 := ib_add e69 b36 (by decide : Bd 1 (1) (1)) (by decide) (by decide)
              have b71 : Bd z68 (2) (21) := ib_addb t70 b36 (by decide : Bd 1 (1) (1))
              have t70 : z68.toInt = x28_4.toInt + 1 := fold_add t70 rfl (by decide)
              refine lv_iinc (v := z68) (lv' := [(4, .int z68), (6, .int r65), (2, .int z61), (3, .int r41), (5, .int r41), (0, .ref (ad 0)), (1, .int a1)]) hx hb dX11_set_87 hl (k := 4) rfl (by rw [e69]; rfl) (by decide) rfl (fun ls hl => ?_)
              refine lv_goto (tgt := 28) hx hb dX11_set_90 (by decide) ?_
              exact ih28 _ _ _ z61 r41 z68 (ib_wk b64 (by decide) (by decide)) (ib_wk b71 (by decide) (by decide)) (by omega) hQ (lv_sub hl [0, 3, 2, 5, 6] rfl)
            · have h72 := ib_nle k66
              have b73 : Bd r41 (-2147483647) (2147483646) := ⟨(b60).1, ((rf_lt b60 (ib_full r65) h72).1).2⟩
              have b74 : Bd r65 (-2147483646) (2147483647) := ⟨((rf_lt b60 (ib_full r65) h72).2).1, ((ib_full r65)).2⟩
              refine lv_iload hx hb dX11_set_81 (lv_at hl 0 rfl) ?_
              refine lv_istore_n (lv' := [(3, .int r65), (6, .int r65), (2, .int z61), (5, .int r41), (4, .int x28_4), (0, .ref (ad 0)), (1, .int a1)]) hx hb dX11_set_83 rfl hl (by decide) rfl (fun ls hl => ?_)
              refine lv_iload hx hb dX11_set_84 (lv_at hl 4 rfl) ?_
              refine lv_istore_n (lv' := [(2, .int x28_4), (3, .int r65), (6, .int r65), (5, .int r41), (4, .int x28_4), (0, .ref (ad 0)), (1, .int a1)]) hx hb dX11_set_86 rfl hl (by decide) rfl (fun ls hl => ?_)
              obtain ⟨z75, e76⟩ : ∃ z : Int32, z = x28_4 + 1 := ⟨_, rfl⟩
              have t77 := ib_add e76 b36 (by decide : Bd 1 (1) (1)) (by decide) (by decide)
              have b78 : Bd z75 (2) (21) := ib_addb t77 b36 (by decide : Bd 1 (1) (1))
              have t77 : z75.toInt = x28_4.toInt + 1 := fold_add t77 rfl (by decide)
              refine lv_iinc (v := z75) (lv' := [(4, .int z75), (2, .int x28_4), (3, .int r65), (6, .int r65), (5, .int r41), (0, .ref (ad 0)), (1, .int a1)]) hx hb dX11_set_87 hl (k := 4) rfl (by rw [e76]; rfl) (by decide) rfl (fun ls hl => ?_)
              refine lv_goto (tgt := 28) hx hb dX11_set_90 (by decide) ?_
              exact ih28 _ _ _ x28_4 r65 z75 (ib_wk b36 (by decide) (by decide)) (ib_wk b78 (by decide) (by decide)) (by omega) hQ (lv_sub hl [0, 2, 1, 5, 6] rfl)
    obtain ⟨n28, hn28⟩ := fu_n (34)
    exact loop28 n28 _ _ _ 0 r27 1 (ib_wk (by decide : Bd 0 (0) (0)) (by decide) (by decide)) (ib_wk (by decide : Bd 1 (1) (1)) (by decide) (by decide)) (by have : (0 : Int32).toInt = 0 := (by decide); have : (1 : Int32).toInt = 1 := (by decide); omega) hQ (lv_sub hl [0, 1, 2, 3, 4] rfl)
  · have h79 := ib_eq k22
    have b80 : Bd r16 (0) (0) := ⟨(b16).1, ((rf_eq b16 (by decide : Bd 0 (0) (0)) h79).1).2⟩
    clear g16_0
    refine lv_sipush (v := (-1000)) hx hb dX11_set_8 (by decide) ?_
    exact xri E hr hlk hQ (⟨rfl, (ib_wk (by decide : Bd (-1000) (-1000) (-1000)) (by decide) (by decide))⟩) dX11_set_11
