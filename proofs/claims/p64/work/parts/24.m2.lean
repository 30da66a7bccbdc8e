set_option maxHeartbeats 4000000 in
set_option maxRecDepth 100000 in
theorem gX12_cell_0 (l : Launch) (g : GG) (ad : Nat → Nat) (hD : Dj ad 20) (S : SS) (hI : InvM g ad S) (a1 : Int32) (a2 : Int32) (hq1 : 0 ≤ 12 * elm (S 7) 1 + (-1) * elm (S 7) 0) (hq2 : 0 ≤ 12 * elm (S 7) 3 + (-1) * elm (S 7) 0) (hq3 : 0 ≤ 8 * elm (S 7) 0 + (-1) * elm (S 7) 6) (hq4 : 0 ≤ 3 * elm (S 7) 0 + (-1) * elm (S 7) 8) (hq5 : 0 ≤ 40000 * elm (S 7) 0 + (-1) * elm (S 6) 0) : Met l yX12_cell (wG (.code yX12_cell cX12_cell 3 (some .int))) (Rm 2) (XPre g ad 20 S [.ref (ad 0), .int a1, .int a2]) (va_Qi (fun _ S' => InvM g ad S' ∧ (∀ j, j ∉ ([0] : List Nat) → S' j = S j)) (QB g ad 20) (FA ad 20)) 0 0 (FA ad 20) := by
  refine xmet cX12_cell "EbbWreckModel" (by decide) rfl (Nat.le_of_ble_eq_true rfl) (fun p e s m below meth c E hr hlk hml hQ ls hl => ?_)
  have hx := E.1
  have hb := E.2.1
  have hs : Sp ad 20 (FA ad 20) := Sp.fa hD
  have hl : lv_has ls 3 [(0, .ref (ad 0)), (1, .int a1), (2, .int a2)] := hl
  obtain ⟨f1, c2, b3⟩ := invM_7 hI
  obtain ⟨v4, ee5⟩ : ∃ z : Int32, f1 1 = z := ⟨_, rfl⟩
  have b6 : Bd v4 (0) (12) := (by rw [← ee5]; exact b3.2.1 1 (by decide))
  obtain ⟨v7, ee8⟩ : ∃ z : Int32, f1 0 = z := ⟨_, rfl⟩
  have b9 : Bd v7 (0) (12) := (by rw [← ee8]; exact b3.1 0 (by decide))
  obtain ⟨v10, ee11⟩ : ∃ z : Int32, f1 3 = z := ⟨_, rfl⟩
  have b12 : Bd v10 (0) (12) := (by rw [← ee11]; exact b3.2.2.2.1 3 (by decide))
  obtain ⟨v13, ee14⟩ : ∃ z : Int32, f1 6 = z := ⟨_, rfl⟩
  have b15 : Bd v13 (0) (8) := (by rw [← ee14]; exact b3.2.2.2.2.1 6 (by decide))
  obtain ⟨v16, ee17⟩ : ∃ z : Int32, f1 8 = z := ⟨_, rfl⟩
  have b18 : Bd v16 (0) (3) := (by rw [← ee17]; exact b3.2.2.2.2.2.2.1 8 (by decide))
  obtain ⟨f19, c20, b21⟩ := invM_6 hI
  obtain ⟨v22, ee23⟩ : ∃ z : Int32, f19 0 = z := ⟨_, rfl⟩
  have b24 : Bd v22 (0) (40000) := (by rw [← ee23]; exact b21 0)
  have q25 : elm (S 7) 1 = v4.toInt := (elm_of c2 1).trans (congrArg Int32.toInt (ee5))
  have q26 : elm (S 7) 0 = v7.toInt := (elm_of c2 0).trans (congrArg Int32.toInt (ee8))
  have q27 : elm (S 7) 3 = v10.toInt := (elm_of c2 3).trans (congrArg Int32.toInt (ee11))
  have q28 : elm (S 7) 6 = v13.toInt := (elm_of c2 6).trans (congrArg Int32.toInt (ee14))
  have q29 : elm (S 7) 8 = v16.toInt := (elm_of c2 8).trans (congrArg Int32.toInt (ee17))
  have q30 : elm (S 6) 0 = v22.toInt := (elm_of c20 0).trans (congrArg Int32.toInt (ee23))
  refine lv_aload_n hx hb dX12_cell_0 rfl (lv_at hl 0 rfl) ?_
  refine lv_iconst (v := 0) hx hb dX12_cell_1 (by decide) ?_
  obtain ⟨v31, v32, v34, v36, v38, v39, w40, v41, v43, v44, v45, v46, v48, v50, v52, v54, v56, v57, v58, c59, b33, b35, b37, b42, b47, b49, b51, b53, b55⟩ := invM_0 hI
  have c59 : S 0 = .inr (12, [.int v31, .ref (ad 1), .ref (ad 2), .ref (ad 3), .ref (ad 4), .ref (ad 5), .int v32, .int v34, .int v36, .int v38, .int v39, .long w40, .int v41, .int v43, .int v44, .int v45, .ref (ad 6), .ref (ad 7), .ref (ad 8), .ref (ad 9), .ref (ad 10), .ref (ad 11), .ref (ad 12), .ref (ad 13), .ref (ad 14), .ref (ad 15), .int v46, .int v48, .ref (ad 16), .int v50, .int v52, .int v54, .int v56, .int v57, .ref (ad 17), .ref (ad 18), .int v58, .ref (ad 19)]) := c59
  refine xputi E hs hQ 0 (by decide) c59 rfl 0 (by decide) q1468 rfl rfl (Nat.le_of_ble_eq_true rfl) dX12_cell_2 (fun H locs S60 eS60 hQ => ?_)
  have hI := invM_up_0 hI eS60 ⟨0, v32, v34, v36, v38, v39, w40, v41, v43, v44, v45, v46, v48, v50, v52, v54, v56, v57, v58, rfl, b33, b35, b37, b42, b47, b49, b51, b53, b55⟩
  have c61 : S60 0 = .inr (12, [.int 0, .ref (ad 1), .ref (ad 2), .ref (ad 3), .ref (ad 4), .ref (ad 5), .int v32, .int v34, .int v36, .int v38, .int v39, .long w40, .int v41, .int v43, .int v44, .int v45, .ref (ad 6), .ref (ad 7), .ref (ad 8), .ref (ad 9), .ref (ad 10), .ref (ad 11), .ref (ad 12), .ref (ad 13), .ref (ad 14), .ref (ad 15), .int v46, .int v48, .ref (ad 16), .int v50, .int v52, .int v54, .int v56, .int v57, .ref (ad 17), .ref (ad 18), .int v58, .ref (ad 19)]) := up_at eS60 rfl
  refine lv_aload_n hx hb dX12_cell_5 rfl (lv_at hl 0 rfl) ?_
  refine lv_iload_n hx hb dX12_cell_6 rfl (lv_at hl 1 rfl) ?_
  refine lv_i2l hx hb dX12_cell_7 rfl ?_
  refine lv_topl (fun w62 e63 => ?_)
  have t64 : w62.toInt = a1.toInt := by rw [e63]; exact i2l_i _
  have b65 : BdL w62 (-2147483648) (2147483647) := (by have h1 := ((ib_full a1)).1; have h2 := ((ib_full a1)).2; exact ⟨by omega, by omega⟩)
  have c66 : S60 7 = .inl (g.2 0, 50, .inl f1) := (up_ne eS60 (by decide) c2)
  refine xcVi E hs hQ hml hl.1 0 (gX12_isCell_0 l g ad hD S60 hI w62) mX12_isCell q1750 (by decide) c61 rfl rfl ⟨(Nat.le_of_ble_eq_true rfl), (Nat.le_of_ble_eq_true rfl)⟩ ⟨(Nat.le_of_ble_eq_true rfl), (Nat.le_of_ble_eq_true rfl)⟩ (Nat.le_of_ble_eq_true rfl) rfl dX12_cell_8 (fun r67 S67 H locs hp67 hQ _ => ?_)
  obtain ⟨rfl, b67, g67_0⟩ := hp67
  have q68 : elm (S60 7) 0 = v7.toInt := (elm_of c66 0).trans (congrArg Int32.toInt (ee8))
  refine lv_if_eq (tgt := 26) hx hb dX12_cell_11 (by decide) (fun k69 => ?_) (fun k69 => ?_)
  · have h70 := ib_eq k69
    have b71 : Bd r67 (0) (0) := ⟨(b67).1, ((rf_eq b67 (by decide : Bd 0 (0) (0)) h70).1).2⟩
    clear g67_0
    refine lv_sipush (v := (-1000)) hx hb dX12_cell_26 (by decide) ?_
    exact xri E hr hlk hQ (⟨hI, (up_o o_refl eS60 (by decide))⟩) dX12_cell_29
  · have h72 := ib_ne k69
    have b73 : Bd r67 (1) (1) := rf_nlo b67 (by decide : Bd 0 (0) (0)) h72
    have g74 := g67_0.resolve_left (by omega)
    clear g67_0
    have b75 : BdL w62 (0) (11) := ⟨by omega, by omega⟩
    have b76 : Bd v7 (1) (12) := ⟨by omega, (b9).2⟩
    have b77 : Bd a1 (0) (11) := ⟨by omega, by omega⟩
    refine lv_iload_n hx hb dX12_cell_14 rfl (lv_at hl 2 rfl) ?_
    refine lv_i2l hx hb dX12_cell_15 rfl ?_
    refine lv_topl (fun w78 e79 => ?_)
    have t80 : w78.toInt = a2.toInt := by rw [e79]; exact i2l_i _
    have b81 : BdL w78 (-2147483648) (2147483647) := (by have h1 := ((ib_full a2)).1; have h2 := ((ib_full a2)).2; exact ⟨by omega, by omega⟩)
    refine lv_lconst (v := 0) hx hb dX12_cell_16 (by decide) ?_
    refine lv_ldc2 (v := 2) hx hb E.2.2.1 (E.2.2.2.1 _ q1754) dX12_cell_17 ?_
    have q82 : (0 : Int64).toInt = 0 := by decide
    have q83 : (2 : Int64).toInt = 2 := by decide
    refine xcSi E hs hQ hml hl.1 (gX12_in l g ad hD S60 hI w78 0 2) mX12_in q1591 rfl ⟨(Nat.le_of_ble_eq_true rfl), (Nat.le_of_ble_eq_true rfl)⟩ ⟨(Nat.le_of_ble_eq_true rfl), (Nat.le_of_ble_eq_true rfl)⟩ (Nat.le_of_ble_eq_true rfl) rfl dX12_cell_20 (fun r84 S84 H locs hp84 hQ => ?_)
    obtain ⟨rfl, b84, g84_0, u84_0⟩ := hp84
    refine lv_if_ne (tgt := 30) hx hb dX12_cell_23 (by decide) (fun k85 => ?_) (fun k85 => ?_)
    · have h86 := ib_ne k85
      have b87 : Bd r84 (1) (1) := rf_nlo b84 (by decide : Bd 0 (0) (0)) h86
      have g88 := g84_0.resolve_left (by omega)
      clear g84_0
      have b89 : BdL w78 (0) (2) := ⟨by omega, by omega⟩
      have b90 : Bd a2 (0) (2) := ⟨by omega, by omega⟩
      refine lv_iload_n hx hb dX12_cell_30 rfl (lv_at hl 2 rfl) ?_
      refine lv_iconst (v := 2) hx hb dX12_cell_31 (by decide) ?_
      refine lv_icmp_ge (tgt := 48) hx hb dX12_cell_32 (by decide) (fun k91 => ?_) (fun k91 => ?_)
      · have h92 := ib_le k91
        have b93 : Bd a2 (2) (2) := ⟨((rf_le (by decide : Bd 2 (2) (2)) b90 h92).2).1, (b90).2⟩
        refine lv_aload_n hx hb dX12_cell_48 rfl (lv_at hl 0 rfl) ?_
        refine lv_iload_n hx hb dX12_cell_49 rfl (lv_at hl 1 rfl) ?_
        refine xcVi E hs hQ hml hl.1 0 (gX12_isBeach_0 l g ad hD S60 hI a1) mX12_isBeach q1755 (by decide) c61 rfl rfl ⟨(Nat.le_of_ble_eq_true rfl), (Nat.le_of_ble_eq_true rfl)⟩ ⟨(Nat.le_of_ble_eq_true rfl), (Nat.le_of_ble_eq_true rfl)⟩ (Nat.le_of_ble_eq_true rfl) rfl dX12_cell_50 (fun r94 S94 H locs hp94 hQ _ => ?_)
        obtain ⟨rfl, b94, fg94⟩ := hp94
        refine lv_if_eq (tgt := 60) hx hb dX12_cell_53 (by decide) (fun k95 => ?_) (fun k95 => ?_)
        · have h96 := ib_eq k95
          have b97 : Bd r94 (0) (0) := ⟨(b94).1, ((rf_eq b94 (by decide : Bd 0 (0) (0)) h96).1).2⟩
          refine lv_iconst (v := 0) hx hb dX12_cell_60 (by decide) ?_
          exact xri E hr hlk hQ (⟨hI, (up_o o_refl eS60 (by decide))⟩) dX12_cell_61
        · have h98 := ib_ne k95
          have b99 : Bd r94 (1) (1) := rf_nlo b94 (by decide : Bd 0 (0) (0)) h98
          refine lv_iconst (v := 1) hx hb dX12_cell_56 (by decide) ?_
          refine lv_goto (tgt := 61) hx hb dX12_cell_57 (by decide) ?_
          exact xri E hr hlk hQ (⟨hI, (up_o o_refl eS60 (by decide))⟩) dX12_cell_61
      · have h100 := ib_nle k91
        have b101 : Bd a2 (0) (1) := ⟨(b90).1, ((rf_lt b90 (by decide : Bd 2 (2) (2)) h100).1).2⟩
        refine lv_aload_n hx hb dX12_cell_35 rfl (lv_at hl 0 rfl) ?_
        refine xget E hQ 0 (by decide) c61 rfl 18 (by decide) q1486 rfl dX12_cell_36 ?_
        refine lv_iconst (v := 2) hx hb dX12_cell_39 (by decide) ?_
        refine lv_iload_n hx hb dX12_cell_40 rfl (lv_at hl 1 rfl) ?_
        refine lv_imul hx hb dX12_cell_41 ?_
        refine lv_topi (fun z102 e103 => ?_)
        have t104 := ib_cmul (q := 2) e103 (by decide) (by decide) b77 (by decide) (by decide)
        have b105 : Bd z102 (0) (22) := ib_mulb t104 (by decide) b77
        refine lv_iload_n hx hb dX12_cell_42 rfl (lv_at hl 2 rfl) ?_
        refine lv_iadd hx hb dX12_cell_43 ?_
        refine lv_topi (fun z106 e107 => ?_)
        have t108 := ib_add e107 b105 b101 (by decide) (by decide)
        have b109 : Bd z106 (0) (23) := ib_addb t108 b105 b101
        obtain ⟨f110, c111⟩ := invM_8 hI
        refine xiald E hQ 8 (by decide) c111 (ib_in b109 (by decide) (by decide)) dX12_cell_44 ?_
        refine lv_topi (fun z113 e114 => ?_)
        refine lv_goto (tgt := 61) hx hb dX12_cell_45 (by decide) ?_
        exact xri E hr hlk hQ (⟨hI, (up_o o_refl eS60 (by decide))⟩) dX12_cell_61
    · have h115 := ib_eq k85
      have b116 : Bd r84 (0) (0) := ⟨(b84).1, ((rf_eq b84 (by decide : Bd 0 (0) (0)) h115).1).2⟩
      clear g84_0
      refine lv_sipush (v := (-1000)) hx hb dX12_cell_26 (by decide) ?_
      exact xri E hr hlk hQ (⟨hI, (up_o o_refl eS60 (by decide))⟩) dX12_cell_29
set_option maxHeartbeats 4000000 in
set_option maxRecDepth 100000 in
theorem gX12_thing_0 (l : Launch) (g : GG) (ad : Nat → Nat) (hD : Dj ad 20) (S : SS) (hI : InvM g ad S) (a1 : Int32) (a2 : Int32) (hq1 : 0 ≤ 12 * elm (S 7) 1 + (-1) * elm (S 7) 0) (hq2 : 0 ≤ 12 * elm (S 7) 3 + (-1) * elm (S 7) 0) (hq3 : 0 ≤ 8 * elm (S 7) 0 + (-1) * elm (S 7) 6) (hq4 : 0 ≤ 3 * elm (S 7) 0 + (-1) * elm (S 7) 8) (hq5 : 0 ≤ 40000 * elm (S 7) 0 + (-1) * elm (S 6) 0) : Met l yX12_thing (wG (.code yX12_thing cX12_thing 3 (some .int))) (Rm 2) (XPre g ad 20 S [.ref (ad 0), .int a1, .int a2]) (va_Qi (fun _ S' => InvM g ad S' ∧ (∀ j, j ∉ ([0] : List Nat) → S' j = S j)) (QB g ad 20) (FA ad 20)) 0 0 (FA ad 20) := by
  refine xmet cX12_thing "EbbWreckModel" (by decide) rfl (Nat.le_of_ble_eq_true rfl) (fun p e s m below meth c E hr hlk hml hQ ls hl => ?_)
  have hx := E.1
  have hb := E.2.1
  have hs : Sp ad 20 (FA ad 20) := Sp.fa hD
  have hl : lv_has ls 3 [(0, .ref (ad 0)), (1, .int a1), (2, .int a2)] := hl
  obtain ⟨f1, c2, b3⟩ := invM_7 hI
  obtain ⟨v4, ee5⟩ : ∃ z : Int32, f1 1 = z := ⟨_, rfl⟩
  have b6 : Bd v4 (0) (12) := (by rw [← ee5]; exact b3.2.1 1 (by decide))
  obtain ⟨v7, ee8⟩ : ∃ z : Int32, f1 0 = z := ⟨_, rfl⟩
  have b9 : Bd v7 (0) (12) := (by rw [← ee8]; exact b3.1 0 (by decide))
  obtain ⟨v10, ee11⟩ : ∃ z : Int32, f1 3 = z := ⟨_, rfl⟩
  have b12 : Bd v10 (0) (12) := (by rw [← ee11]; exact b3.2.2.2.1 3 (by decide))
  obtain ⟨v13, ee14⟩ : ∃ z : Int32, f1 6 = z := ⟨_, rfl⟩
  have b15 : Bd v13 (0) (8) := (by rw [← ee14]; exact b3.2.2.2.2.1 6 (by decide))
  obtain ⟨v16, ee17⟩ : ∃ z : Int32, f1 8 = z := ⟨_, rfl⟩
  have b18 : Bd v16 (0) (3) := (by rw [← ee17]; exact b3.2.2.2.2.2.2.1 8 (by decide))
  obtain ⟨f19, c20, b21⟩ := invM_6 hI
  obtain ⟨v22, ee23⟩ : ∃ z : Int32, f19 0 = z := ⟨_, rfl⟩
  have b24 : Bd v22 (0) (40000) := (by rw [← ee23]; exact b21 0)
  have q25 : elm (S 7) 1 = v4.toInt := (elm_of c2 1).trans (congrArg Int32.toInt (ee5))
  have q26 : elm (S 7) 0 = v7.toInt := (elm_of c2 0).trans (congrArg Int32.toInt (ee8))
  have q27 : elm (S 7) 3 = v10.toInt := (elm_of c2 3).trans (congrArg Int32.toInt (ee11))
  have q28 : elm (S 7) 6 = v13.toInt := (elm_of c2 6).trans (congrArg Int32.toInt (ee14))
  have q29 : elm (S 7) 8 = v16.toInt := (elm_of c2 8).trans (congrArg Int32.toInt (ee17))
  have q30 : elm (S 6) 0 = v22.toInt := (elm_of c20 0).trans (congrArg Int32.toInt (ee23))
  refine lv_aload_n hx hb dX12_thing_0 rfl (lv_at hl 0 rfl) ?_
  refine lv_iconst (v := 0) hx hb dX12_thing_1 (by decide) ?_
  obtain ⟨v31, v32, v34, v36, v38, v39, w40, v41, v43, v44, v45, v46, v48, v50, v52, v54, v56, v57, v58, c59, b33, b35, b37, b42, b47, b49, b51, b53, b55⟩ := invM_0 hI
  have c59 : S 0 = .inr (12, [.int v31, .ref (ad 1), .ref (ad 2), .ref (ad 3), .ref (ad 4), .ref (ad 5), .int v32, .int v34, .int v36, .int v38, .int v39, .long w40, .int v41, .int v43, .int v44, .int v45, .ref (ad 6), .ref (ad 7), .ref (ad 8), .ref (ad 9), .ref (ad 10), .ref (ad 11), .ref (ad 12), .ref (ad 13), .ref (ad 14), .ref (ad 15), .int v46, .int v48, .ref (ad 16), .int v50, .int v52, .int v54, .int v56, .int v57, .ref (ad 17), .ref (ad 18), .int v58, .ref (ad 19)]) := c59
  refine xputi E hs hQ 0 (by decide) c59 rfl 0 (by decide) q1468 rfl rfl (Nat.le_of_ble_eq_true rfl) dX12_thing_2 (fun H locs S60 eS60 hQ => ?_)
  have hI := invM_up_0 hI eS60 ⟨0, v32, v34, v36, v38, v39, w40, v41, v43, v44, v45, v46, v48, v50, v52, v54, v56, v57, v58, rfl, b33, b35, b37, b42, b47, b49, b51, b53, b55⟩
  have c61 : S60 0 = .inr (12, [.int 0, .ref (ad 1), .ref (ad 2), .ref (ad 3), .ref (ad 4), .ref (ad 5), .int v32, .int v34, .int v36, .int v38, .int v39, .long w40, .int v41, .int v43, .int v44, .int v45, .ref (ad 6), .ref (ad 7), .ref (ad 8), .ref (ad 9), .ref (ad 10), .ref (ad 11), .ref (ad 12), .ref (ad 13), .ref (ad 14), .ref (ad 15), .int v46, .int v48, .ref (ad 16), .int v50, .int v52, .int v54, .int v56, .int v57, .ref (ad 17), .ref (ad 18), .int v58, .ref (ad 19)]) := up_at eS60 rfl
  refine lv_aload_n hx hb dX12_thing_5 rfl (lv_at hl 0 rfl) ?_
  refine lv_iload_n hx hb dX12_thing_6 rfl (lv_at hl 1 rfl) ?_
  have c62 : S60 7 = .inl (g.2 0, 50, .inl f1) := (up_ne eS60 (by decide) c2)
  refine xcVi E hs hQ hml hl.1 0 (gX12_isThing_0 l g ad hD S60 hI a1) mX12_isThing q1766 (by decide) c61 rfl rfl ⟨(Nat.le_of_ble_eq_true rfl), (Nat.le_of_ble_eq_true rfl)⟩ ⟨(Nat.le_of_ble_eq_true rfl), (Nat.le_of_ble_eq_true rfl)⟩ (Nat.le_of_ble_eq_true rfl) rfl dX12_thing_7 (fun r63 S63 H locs hp63 hQ _ => ?_)
  obtain ⟨rfl, b63, g63_0⟩ := hp63
  have q64 : elm (S60 7) 6 = v13.toInt := (elm_of c62 6).trans (congrArg Int32.toInt (ee14))
  refine lv_if_eq (tgt := 38) hx hb dX12_thing_10 (by decide) (fun k65 => ?_) (fun k65 => ?_)
  · have h66 := ib_eq k65
    have b67 : Bd r63 (0) (0) := ⟨(b63).1, ((rf_eq b63 (by decide : Bd 0 (0) (0)) h66).1).2⟩
    clear g63_0
    refine lv_bipush (v := (-2)) hx hb dX12_thing_38 (by decide) ?_
    exact xri E hr hlk hQ (⟨hI, (up_o o_refl eS60 (by decide))⟩) dX12_thing_40
  · have h68 := ib_ne k65
    have b69 : Bd r63 (1) (1) := rf_nlo b63 (by decide : Bd 0 (0) (0)) h68
    have g70 := g63_0.resolve_left (by omega)
    clear g63_0
    have b71 : Bd a1 (0) (7) := ⟨by omega, by omega⟩
    have b72 : Bd v13 (1) (8) := ⟨by omega, (b15).2⟩
    refine lv_iload_n hx hb dX12_thing_13 rfl (lv_at hl 2 rfl) ?_
    refine lv_i2l hx hb dX12_thing_14 rfl ?_
    refine lv_topl (fun w73 e74 => ?_)
    have t75 : w73.toInt = a2.toInt := by rw [e74]; exact i2l_i _
    have b76 : BdL w73 (-2147483648) (2147483647) := (by have h1 := ((ib_full a2)).1; have h2 := ((ib_full a2)).2; exact ⟨by omega, by omega⟩)
    refine lv_lconst (v := 0) hx hb dX12_thing_15 (by decide) ?_
    refine lv_ldc2 (v := 2) hx hb E.2.2.1 (E.2.2.2.1 _ q1754) dX12_thing_16 ?_
    have q77 : (0 : Int64).toInt = 0 := by decide
    have q78 : (2 : Int64).toInt = 2 := by decide
    refine xcSi E hs hQ hml hl.1 (gX12_in l g ad hD S60 hI w73 0 2) mX12_in q1591 rfl ⟨(Nat.le_of_ble_eq_true rfl), (Nat.le_of_ble_eq_true rfl)⟩ ⟨(Nat.le_of_ble_eq_true rfl), (Nat.le_of_ble_eq_true rfl)⟩ (Nat.le_of_ble_eq_true rfl) rfl dX12_thing_19 (fun r79 S79 H locs hp79 hQ => ?_)
    obtain ⟨rfl, b79, g79_0, u79_0⟩ := hp79
    refine lv_if_eq (tgt := 38) hx hb dX12_thing_22 (by decide) (fun k80 => ?_) (fun k80 => ?_)
    · have h81 := ib_eq k80
      have b82 : Bd r79 (0) (0) := ⟨(b79).1, ((rf_eq b79 (by decide : Bd 0 (0) (0)) h81).1).2⟩
      clear g79_0
      refine lv_bipush (v := (-2)) hx hb dX12_thing_38 (by decide) ?_
      exact xri E hr hlk hQ (⟨hI, (up_o o_refl eS60 (by decide))⟩) dX12_thing_40
    · have h83 := ib_ne k80
      have b84 : Bd r79 (1) (1) := rf_nlo b79 (by decide : Bd 0 (0) (0)) h83
      have g85 := g79_0.resolve_left (by omega)
      clear g79_0
      have b86 : BdL w73 (0) (2) := ⟨by omega, by omega⟩
      have b87 : Bd a2 (0) (2) := ⟨by omega, by omega⟩
      refine lv_aload_n hx hb dX12_thing_25 rfl (lv_at hl 0 rfl) ?_
      refine xget E hQ 0 (by decide) c61 rfl 19 (by decide) q1487 rfl dX12_thing_26 ?_
      refine lv_iconst (v := 3) hx hb dX12_thing_29 (by decide) ?_
      refine lv_iload_n hx hb dX12_thing_30 rfl (lv_at hl 1 rfl) ?_
      refine lv_imul hx hb dX12_thing_31 ?_
      refine lv_topi (fun z88 e89 => ?_)
      have t90 := ib_cmul (q := 3) e89 (by decide) (by decide) b71 (by decide) (by decide)
      have b91 : Bd z88 (0) (21) := ib_mulb t90 (by decide) b71
      refine lv_iload_n hx hb dX12_thing_32 rfl (lv_at hl 2 rfl) ?_
      refine lv_iadd hx hb dX12_thing_33 ?_
      refine lv_topi (fun z92 e93 => ?_)
      have t94 := ib_add e93 b91 b87 (by decide) (by decide)
      have b95 : Bd z92 (0) (23) := ib_addb t94 b91 b87
      obtain ⟨f96, c97, b98⟩ := invM_9 hI
      refine xiald E hQ 9 (by decide) c97 (ib_in b95 (by decide) (by decide)) dX12_thing_34 ?_
      refine lv_topi (fun z99 e100 => ?_)
      refine lv_goto (tgt := 40) hx hb dX12_thing_35 (by decide) ?_
      exact xri E hr hlk hQ (⟨hI, (up_o o_refl eS60 (by decide))⟩) dX12_thing_40
set_option maxHeartbeats 4000000 in
set_option maxRecDepth 100000 in
theorem gX12_rule_0 (l : Launch) (g : GG) (ad : Nat → Nat) (hD : Dj ad 20) (S : SS) (hI : InvM g ad S) (a1 : Int32) (a2 : Int32) (hq1 : 0 ≤ 12 * elm (S 7) 1 + (-1) * elm (S 7) 0) (hq2 : 0 ≤ 12 * elm (S 7) 3 + (-1) * elm (S 7) 0) (hq3 : 0 ≤ 8 * elm (S 7) 0 + (-1) * elm (S 7) 6) (hq4 : 0 ≤ 3 * elm (S 7) 0 + (-1) * elm (S 7) 8) (hq5 : 0 ≤ 40000 * elm (S 7) 0 + (-1) * elm (S 6) 0) : Met l yX12_rule (wG (.code yX12_rule cX12_rule 3 (some .int))) (Rm 2) (XPre g ad 20 S [.ref (ad 0), .int a1, .int a2]) (va_Qi (fun _ S' => InvM g ad S' ∧ (∀ j, j ∉ ([0] : List Nat) → S' j = S j)) (QB g ad 20) (FA ad 20)) 0 0 (FA ad 20) := by
  refine xmet cX12_rule "EbbWreckModel" (by decide) rfl (Nat.le_of_ble_eq_true rfl) (fun p e s m below meth c E hr hlk hml hQ ls hl => ?_)
  have hx := E.1
  have hb := E.2.1
  have hs : Sp ad 20 (FA ad 20) := Sp.fa hD
  have hl : lv_has ls 3 [(0, .ref (ad 0)), (1, .int a1), (2, .int a2)] := hl
  obtain ⟨f1, c2, b3⟩ := invM_7 hI
  obtain ⟨v4, ee5⟩ : ∃ z : Int32, f1 1 = z := ⟨_, rfl⟩
  have b6 : Bd v4 (0) (12) := (by rw [← ee5]; exact b3.2.1 1 (by decide))
  obtain ⟨v7, ee8⟩ : ∃ z : Int32, f1 0 = z := ⟨_, rfl⟩
  have b9 : Bd v7 (0) (12) := (by rw [← ee8]; exact b3.1 0 (by decide))
  obtain ⟨v10, ee11⟩ : ∃ z : Int32, f1 3 = z := ⟨_, rfl⟩
  have b12 : Bd v10 (0) (12) := (by rw [← ee11]; exact b3.2.2.2.1 3 (by decide))
  obtain ⟨v13, ee14⟩ : ∃ z : Int32, f1 6 = z := ⟨_, rfl⟩
  have b15 : Bd v13 (0) (8) := (by rw [← ee14]; exact b3.2.2.2.2.1 6 (by decide))
  obtain ⟨v16, ee17⟩ : ∃ z : Int32, f1 8 = z := ⟨_, rfl⟩
  have b18 : Bd v16 (0) (3) := (by rw [← ee17]; exact b3.2.2.2.2.2.2.1 8 (by decide))
  obtain ⟨f19, c20, b21⟩ := invM_6 hI
  obtain ⟨v22, ee23⟩ : ∃ z : Int32, f19 0 = z := ⟨_, rfl⟩
  have b24 : Bd v22 (0) (40000) := (by rw [← ee23]; exact b21 0)
  have q25 : elm (S 7) 1 = v4.toInt := (elm_of c2 1).trans (congrArg Int32.toInt (ee5))
  have q26 : elm (S 7) 0 = v7.toInt := (elm_of c2 0).trans (congrArg Int32.toInt (ee8))
  have q27 : elm (S 7) 3 = v10.toInt := (elm_of c2 3).trans (congrArg Int32.toInt (ee11))
  have q28 : elm (S 7) 6 = v13.toInt := (elm_of c2 6).trans (congrArg Int32.toInt (ee14))
  have q29 : elm (S 7) 8 = v16.toInt := (elm_of c2 8).trans (congrArg Int32.toInt (ee17))
  have q30 : elm (S 6) 0 = v22.toInt := (elm_of c20 0).trans (congrArg Int32.toInt (ee23))
  refine lv_aload_n hx hb dX12_rule_0 rfl (lv_at hl 0 rfl) ?_
  refine lv_iconst (v := 0) hx hb dX12_rule_1 (by decide) ?_
  obtain ⟨v31, v32, v34, v36, v38, v39, w40, v41, v43, v44, v45, v46, v48, v50, v52, v54, v56, v57, v58, c59, b33, b35, b37, b42, b47, b49, b51, b53, b55⟩ := invM_0 hI
  have c59 : S 0 = .inr (12, [.int v31, .ref (ad 1), .ref (ad 2), .ref (ad 3), .ref (ad 4), .ref (ad 5), .int v32, .int v34, .int v36, .int v38, .int v39, .long w40, .int v41, .int v43, .int v44, .int v45, .ref (ad 6), .ref (ad 7), .ref (ad 8), .ref (ad 9), .ref (ad 10), .ref (ad 11), .ref (ad 12), .ref (ad 13), .ref (ad 14), .ref (ad 15), .int v46, .int v48, .ref (ad 16), .int v50, .int v52, .int v54, .int v56, .int v57, .ref (ad 17), .ref (ad 18), .int v58, .ref (ad 19)]) := c59
  refine xputi E hs hQ 0 (by decide) c59 rfl 0 (by decide) q1468 rfl rfl (Nat.le_of_ble_eq_true rfl) dX12_rule_2 (fun H locs S60 eS60 hQ => ?_)
  have hI := invM_up_0 hI eS60 ⟨0, v32, v34, v36, v38, v39, w40, v41, v43, v44, v45, v46, v48, v50, v52, v54, v56, v57, v58, rfl, b33, b35, b37, b42, b47, b49, b51, b53, b55⟩
  have c61 : S60 0 = .inr (12, [.int 0, .ref (ad 1), .ref (ad 2), .ref (ad 3), .ref (ad 4), .ref (ad 5), .int v32, .int v34, .int v36, .int v38, .int v39, .long w40, .int v41, .int v43, .int v44, .int v45, .ref (ad 6), .ref (ad 7), .ref (ad 8), .ref (ad 9), .ref (ad 10), .ref (ad 11), .ref (ad 12), .ref (ad 13), .ref (ad 14), .ref (ad 15), .int v46, .int v48, .ref (ad 16), .int v50, .int v52, .int v54, .int v56, .int v57, .ref (ad 17), .ref (ad 18), .int v58, .ref (ad 19)]) := up_at eS60 rfl
  refine lv_aload_n hx hb dX12_rule_5 rfl (lv_at hl 0 rfl) ?_
  refine lv_iload_n hx hb dX12_rule_6 rfl (lv_at hl 1 rfl) ?_
  have c62 : S60 7 = .inl (g.2 0, 50, .inl f1) := (up_ne eS60 (by decide) c2)
  obtain ⟨v63, ee64⟩ : ∃ z : Int32, f1 7 = z := ⟨_, rfl⟩
  have b65 : Bd v63 (0) (6) := (by rw [← ee64]; exact b3.2.2.2.2.2.1 7 (by decide))
  refine xcVi E hs hQ hml hl.1 0 (gX12_isRule_0 l g ad hD S60 hI a1) mX12_isRule q1774 (by decide) c61 rfl rfl ⟨(Nat.le_of_ble_eq_true rfl), (Nat.le_of_ble_eq_true rfl)⟩ ⟨(Nat.le_of_ble_eq_true rfl), (Nat.le_of_ble_eq_true rfl)⟩ (Nat.le_of_ble_eq_true rfl) rfl dX12_rule_7 (fun r66 S66 H locs hp66 hQ _ => ?_)
  obtain ⟨rfl, b66, g66_0⟩ := hp66
  have q67 : elm (S60 7) 7 = v63.toInt := (elm_of c62 7).trans (congrArg Int32.toInt (ee64))
  refine lv_if_eq (tgt := 38) hx hb dX12_rule_10 (by decide) (fun k68 => ?_) (fun k68 => ?_)
  · have h69 := ib_eq k68
    have b70 : Bd r66 (0) (0) := ⟨(b66).1, ((rf_eq b66 (by decide : Bd 0 (0) (0)) h69).1).2⟩
    clear g66_0
    refine lv_bipush (v := (-2)) hx hb dX12_rule_38 (by decide) ?_
    exact xri E hr hlk hQ (⟨hI, (up_o o_refl eS60 (by decide))⟩) dX12_rule_40
  · have h71 := ib_ne k68
    have b72 : Bd r66 (1) (1) := rf_nlo b66 (by decide : Bd 0 (0) (0)) h71
    have g73 := g66_0.resolve_left (by omega)
    clear g66_0
    have b74 : Bd a1 (0) (5) := ⟨by omega, by omega⟩
    have b75 : Bd v63 (1) (6) := ⟨by omega, (b65).2⟩
    refine lv_iload_n hx hb dX12_rule_13 rfl (lv_at hl 2 rfl) ?_
    refine lv_i2l hx hb dX12_rule_14 rfl ?_
    refine lv_topl (fun w76 e77 => ?_)
    have t78 : w76.toInt = a2.toInt := by rw [e77]; exact i2l_i _
    have b79 : BdL w76 (-2147483648) (2147483647) := (by have h1 := ((ib_full a2)).1; have h2 := ((ib_full a2)).2; exact ⟨by omega, by omega⟩)
    refine lv_lconst (v := 0) hx hb dX12_rule_15 (by decide) ?_
    refine lv_ldc2 (v := 3) hx hb E.2.2.1 (E.2.2.2.1 _ q1590) dX12_rule_16 ?_
    have q80 : (0 : Int64).toInt = 0 := by decide
    have q81 : (3 : Int64).toInt = 3 := by decide
    refine xcSi E hs hQ hml hl.1 (gX12_in l g ad hD S60 hI w76 0 3) mX12_in q1591 rfl ⟨(Nat.le_of_ble_eq_true rfl), (Nat.le_of_ble_eq_true rfl)⟩ ⟨(Nat.le_of_ble_eq_true rfl), (Nat.le_of_ble_eq_true rfl)⟩ (Nat.le_of_ble_eq_true rfl) rfl dX12_rule_19 (fun r82 S82 H locs hp82 hQ => ?_)
    obtain ⟨rfl, b82, g82_0, u82_0⟩ := hp82
    refine lv_if_eq (tgt := 38) hx hb dX12_rule_22 (by decide) (fun k83 => ?_) (fun k83 => ?_)
    · have h84 := ib_eq k83
      have b85 : Bd r82 (0) (0) := ⟨(b82).1, ((rf_eq b82 (by decide : Bd 0 (0) (0)) h84).1).2⟩
      clear g82_0
      refine lv_bipush (v := (-2)) hx hb dX12_rule_38 (by decide) ?_
      exact xri E hr hlk hQ (⟨hI, (up_o o_refl eS60 (by decide))⟩) dX12_rule_40
    · have h86 := ib_ne k83
      have b87 : Bd r82 (1) (1) := rf_nlo b82 (by decide : Bd 0 (0) (0)) h86
      have g88 := g82_0.resolve_left (by omega)
      clear g82_0
      have b89 : BdL w76 (0) (3) := ⟨by omega, by omega⟩
      have b90 : Bd a2 (0) (3) := ⟨by omega, by omega⟩
      refine lv_aload_n hx hb dX12_rule_25 rfl (lv_at hl 0 rfl) ?_
      refine xget E hQ 0 (by decide) c61 rfl 20 (by decide) q1488 rfl dX12_rule_26 ?_
      refine lv_iconst (v := 4) hx hb dX12_rule_29 (by decide) ?_
      refine lv_iload_n hx hb dX12_rule_30 rfl (lv_at hl 1 rfl) ?_
      refine lv_imul hx hb dX12_rule_31 ?_
      refine lv_topi (fun z91 e92 => ?_)
      have t93 := ib_cmul (q := 4) e92 (by decide) (by decide) b74 (by decide) (by decide)
      have b94 : Bd z91 (0) (20) := ib_mulb t93 (by decide) b74
      refine lv_iload_n hx hb dX12_rule_32 rfl (lv_at hl 2 rfl) ?_
      refine lv_iadd hx hb dX12_rule_33 ?_
      refine lv_topi (fun z95 e96 => ?_)
      have t97 := ib_add e96 b94 b90 (by decide) (by decide)
      have b98 : Bd z95 (0) (23) := ib_addb t97 b94 b90
      obtain ⟨f99, c100⟩ := invM_10 hI
      refine xiald E hQ 10 (by decide) c100 (ib_in b98 (by decide) (by decide)) dX12_rule_34 ?_
      refine lv_topi (fun z102 e103 => ?_)
      refine lv_goto (tgt := 40) hx hb dX12_rule_35 (by decide) ?_
      exact xri E hr hlk hQ (⟨hI, (up_o o_refl eS60 (by decide))⟩) dX12_rule_40
set_option maxHeartbeats 4000000 in
set_option maxRecDepth 100000 in
theorem gX12_phase_0 (l : Launch) (g : GG) (ad : Nat → Nat) (hD : Dj ad 20) (S : SS) (hI : InvM g ad S) (a1 : Int32) (hq1 : 0 ≤ 12 * elm (S 7) 1 + (-1) * elm (S 7) 0) (hq2 : 0 ≤ 12 * elm (S 7) 3 + (-1) * elm (S 7) 0) (hq3 : 0 ≤ 8 * elm (S 7) 0 + (-1) * elm (S 7) 6) (hq4 : 0 ≤ 3 * elm (S 7) 0 + (-1) * elm (S 7) 8) (hq5 : 0 ≤ 40000 * elm (S 7) 0 + (-1) * elm (S 6) 0) : Met l yX12_phase (wG (.code yX12_phase cX12_phase 2 (some .int))) (Rm 2) (XPre g ad 20 S [.ref (ad 0), .int a1]) (va_Qi (fun r S' => InvM g ad S' ∧ (∀ j, j ∉ ([0] : List Nat) → S' j = S j) ∧ Bd r (-2) (2)) (QB g ad 20) (FA ad 20)) 0 0 (FA ad 20) := by
  refine xmet cX12_phase "EbbWreckModel" (by decide) rfl (Nat.le_of_ble_eq_true rfl) (fun p e s m below meth c E hr hlk hml hQ ls hl => ?_)
  have hx := E.1
  have hb := E.2.1
  have hs : Sp ad 20 (FA ad 20) := Sp.fa hD
  have hl : lv_has ls 2 [(0, .ref (ad 0)), (1, .int a1)] := hl
  obtain ⟨f1, c2, b3⟩ := invM_7 hI
  obtain ⟨v4, ee5⟩ : ∃ z : Int32, f1 1 = z := ⟨_, rfl⟩
  have b6 : Bd v4 (0) (12) := (by rw [← ee5]; exact b3.2.1 1 (by decide))
  obtain ⟨v7, ee8⟩ : ∃ z : Int32, f1 0 = z := ⟨_, rfl⟩
  have b9 : Bd v7 (0) (12) := (by rw [← ee8]; exact b3.1 0 (by decide))
  obtain ⟨v10, ee11⟩ : ∃ z : Int32, f1 3 = z := ⟨_, rfl⟩
  have b12 : Bd v10 (0) (12) := (by rw [← ee11]; exact b3.2.2.2.1 3 (by decide))
  obtain ⟨v13, ee14⟩ : ∃ z : Int32, f1 6 = z := ⟨_, rfl⟩
  have b15 : Bd v13 (0) (8) := (by rw [← ee14]; exact b3.2.2.2.2.1 6 (by decide))
  obtain ⟨v16, ee17⟩ : ∃ z : Int32, f1 8 = z := ⟨_, rfl⟩
  have b18 : Bd v16 (0) (3) := (by rw [← ee17]; exact b3.2.2.2.2.2.2.1 8 (by decide))
  obtain ⟨f19, c20, b21⟩ := invM_6 hI
  obtain ⟨v22, ee23⟩ : ∃ z : Int32, f19 0 = z := ⟨_, rfl⟩
  have b24 : Bd v22 (0) (40000) := (by rw [← ee23]; exact b21 0)
  have q25 : elm (S 7) 1 = v4.toInt := (elm_of c2 1).trans (congrArg Int32.toInt (ee5))
  have q26 : elm (S 7) 0 = v7.toInt := (elm_of c2 0).trans (congrArg Int32.toInt (ee8))
  have q27 : elm (S 7) 3 = v10.toInt := (elm_of c2 3).trans (congrArg Int32.toInt (ee11))
  have q28 : elm (S 7) 6 = v13.toInt := (elm_of c2 6).trans (congrArg Int32.toInt (ee14))
  have q29 : elm (S 7) 8 = v16.toInt := (elm_of c2 8).trans (congrArg Int32.toInt (ee17))
  have q30 : elm (S 6) 0 = v22.toInt := (elm_of c20 0).trans (congrArg Int32.toInt (ee23))
  refine lv_aload_n hx hb dX12_phase_0 rfl (lv_at hl 0 rfl) ?_
  refine lv_iconst (v := 0) hx hb dX12_phase_1 (by decide) ?_
  obtain ⟨v31, v32, v34, v36, v38, v39, w40, v41, v43, v44, v45, v46, v48, v50, v52, v54, v56, v57, v58, c59, b33, b35, b37, b42, b47, b49, b51, b53, b55⟩ := invM_0 hI
  have c59 : S 0 = .inr (12, [.int v31, .ref (ad 1), .ref (ad 2), .ref (ad 3), .ref (ad 4), .ref (ad 5), .int v32, .int v34, .int v36, .int v38, .int v39, .long w40, .int v41, .int v43, .int v44, .int v45, .ref (ad 6), .ref (ad 7), .ref (ad 8), .ref (ad 9), .ref (ad 10), .ref (ad 11), .ref (ad 12), .ref (ad 13), .ref (ad 14), .ref (ad 15), .int v46, .int v48, .ref (ad 16), .int v50, .int v52, .int v54, .int v56, .int v57, .ref (ad 17), .ref (ad 18), .int v58, .ref (ad 19)]) := c59
  refine xputi E hs hQ 0 (by decide) c59 rfl 0 (by decide) q1468 rfl rfl (Nat.le_of_ble_eq_true rfl) dX12_phase_2 (fun H locs S60 eS60 hQ => ?_)
  have hI := invM_up_0 hI eS60 ⟨0, v32, v34, v36, v38, v39, w40, v41, v43, v44, v45, v46, v48, v50, v52, v54, v56, v57, v58, rfl, b33, b35, b37, b42, b47, b49, b51, b53, b55⟩
  have c61 : S60 0 = .inr (12, [.int 0, .ref (ad 1), .ref (ad 2), .ref (ad 3), .ref (ad 4), .ref (ad 5), .int v32, .int v34, .int v36, .int v38, .int v39, .long w40, .int v41, .int v43, .int v44, .int v45, .ref (ad 6), .ref (ad 7), .ref (ad 8), .ref (ad 9), .ref (ad 10), .ref (ad 11), .ref (ad 12), .ref (ad 13), .ref (ad 14), .ref (ad 15), .int v46, .int v48, .ref (ad 16), .int v50, .int v52, .int v54, .int v56, .int v57, .ref (ad 17), .ref (ad 18), .int v58, .ref (ad 19)]) := up_at eS60 rfl
  refine lv_aload_n hx hb dX12_phase_5 rfl (lv_at hl 0 rfl) ?_
  have c62 : S60 6 = .inl (g.2 0, 5, .inl f19) := (up_ne eS60 (by decide) c20)
  refine xcVi E hs hQ hml hl.1 0 (gX12_isShore_0 l g ad hD S60 hI ) mX12_isShore q1782 (by decide) c61 rfl rfl ⟨(Nat.le_of_ble_eq_true rfl), (Nat.le_of_ble_eq_true rfl)⟩ ⟨(Nat.le_of_ble_eq_true rfl), (Nat.le_of_ble_eq_true rfl)⟩ (Nat.le_of_ble_eq_true rfl) rfl dX12_phase_6 (fun r63 S63 H locs hp63 hQ _ => ?_)
  obtain ⟨rfl, b63, g63_0⟩ := hp63
  have q64 : elm (S60 6) 0 = v22.toInt := (elm_of c62 0).trans (congrArg Int32.toInt (ee23))
  refine lv_if_eq (tgt := 32) hx hb dX12_phase_9 (by decide) (fun k65 => ?_) (fun k65 => ?_)
  · have h66 := ib_eq k65
    have b67 : Bd r63 (0) (0) := ⟨(b63).1, ((rf_eq b63 (by decide : Bd 0 (0) (0)) h66).1).2⟩
    clear g63_0
    refine lv_bipush (v := (-2)) hx hb dX12_phase_32 (by decide) ?_
    exact xri E hr hlk hQ (⟨hI, (up_o o_refl eS60 (by decide)), (ib_wk (by decide : Bd (-2) (-2) (-2)) (by decide) (by decide))⟩) dX12_phase_34
  · have h68 := ib_ne k65
    have b69 : Bd r63 (1) (1) := rf_nlo b63 (by decide : Bd 0 (0) (0)) h68
    have g70 := g63_0.resolve_left (by omega)
    clear g63_0
    have b71 : Bd v22 (1) (40000) := ⟨by omega, (b24).2⟩
    refine lv_iload_n hx hb dX12_phase_12 rfl (lv_at hl 1 rfl) ?_
    refine lv_i2l hx hb dX12_phase_13 rfl ?_
    refine lv_topl (fun w72 e73 => ?_)
    have t74 : w72.toInt = a1.toInt := by rw [e73]; exact i2l_i _
    have b75 : BdL w72 (-2147483648) (2147483647) := (by have h1 := ((ib_full a1)).1; have h2 := ((ib_full a1)).2; exact ⟨by omega, by omega⟩)
    refine lv_lconst (v := 0) hx hb dX12_phase_14 (by decide) ?_
    refine lv_ldc2 (v := 2000000000) hx hb E.2.2.1 (E.2.2.2.1 _ q1786) dX12_phase_15 ?_
    have q76 : (0 : Int64).toInt = 0 := by decide
    have q77 : (2000000000 : Int64).toInt = 2000000000 := by decide
    refine xcSi E hs hQ hml hl.1 (gX12_in l g ad hD S60 hI w72 0 2000000000) mX12_in q1591 rfl ⟨(Nat.le_of_ble_eq_true rfl), (Nat.le_of_ble_eq_true rfl)⟩ ⟨(Nat.le_of_ble_eq_true rfl), (Nat.le_of_ble_eq_true rfl)⟩ (Nat.le_of_ble_eq_true rfl) rfl dX12_phase_18 (fun r78 S78 H locs hp78 hQ => ?_)
    obtain ⟨rfl, b78, g78_0, u78_0⟩ := hp78
    refine lv_if_eq (tgt := 32) hx hb dX12_phase_21 (by decide) (fun k79 => ?_) (fun k79 => ?_)
    · have h80 := ib_eq k79
      have b81 : Bd r78 (0) (0) := ⟨(b78).1, ((rf_eq b78 (by decide : Bd 0 (0) (0)) h80).1).2⟩
      clear g78_0
      refine lv_bipush (v := (-2)) hx hb dX12_phase_32 (by decide) ?_
      exact xri E hr hlk hQ (⟨hI, (up_o o_refl eS60 (by decide)), (ib_wk (by decide : Bd (-2) (-2) (-2)) (by decide) (by decide))⟩) dX12_phase_34
    · have h82 := ib_ne k79
      have b83 : Bd r78 (1) (1) := rf_nlo b78 (by decide : Bd 0 (0) (0)) h82
      have g84 := g78_0.resolve_left (by omega)
      clear g78_0
      have b85 : BdL w72 (0) (2000000000) := ⟨by omega, by omega⟩
      have b86 : Bd a1 (0) (2000000000) := ⟨by omega, by omega⟩
      refine lv_aload_n hx hb dX12_phase_24 rfl (lv_at hl 0 rfl) ?_
      refine lv_iload_n hx hb dX12_phase_25 rfl (lv_at hl 1 rfl) ?_
      have c87 : S60 7 = .inl (g.2 0, 50, .inl f1) := (up_ne eS60 (by decide) c2)
      have q88 : elm (S60 7) 1 = v4.toInt := (elm_of c87 1).trans (congrArg Int32.toInt (ee5))
      refine xcVi E hs hQ hml hl.1 0 (gX12_phaseOf_0 l g ad hD S60 hI a1 (by omega)) mX12_phaseOf q1787 (by decide) c61 rfl rfl ⟨(Nat.le_of_ble_eq_true rfl), (Nat.le_of_ble_eq_true rfl)⟩ ⟨(Nat.le_of_ble_eq_true rfl), (Nat.le_of_ble_eq_true rfl)⟩ (Nat.le_of_ble_eq_true rfl) rfl dX12_phase_26 (fun r89 S89 H locs hp89 hQ _ => ?_)
      obtain ⟨rfl, b89, fg89⟩ := hp89
      refine lv_goto (tgt := 34) hx hb dX12_phase_29 (by decide) ?_
      exact xri E hr hlk hQ (⟨hI, (up_o o_refl eS60 (by decide)), (ib_wk b89 (by decide) (by decide))⟩) dX12_phase_34
set_option maxHeartbeats 4000000 in
set_option maxRecDepth 100000 in
theorem gX12_drifts_0 (l : Launch) (g : GG) (ad : Nat → Nat) (hD : Dj ad 20) (S : SS) (hI : InvM g ad S) (a1 : Int32) (a2 : Int32) (hq1 : 0 ≤ 12 * elm (S 7) 1 + (-1) * elm (S 7) 0) (hq2 : 0 ≤ 12 * elm (S 7) 3 + (-1) * elm (S 7) 0) (hq3 : 0 ≤ 8 * elm (S 7) 0 + (-1) * elm (S 7) 6) (hq4 : 0 ≤ 3 * elm (S 7) 0 + (-1) * elm (S 7) 8) (hq5 : 0 ≤ 40000 * elm (S 7) 0 + (-1) * elm (S 6) 0) : Met l yX12_drifts (wG (.code yX12_drifts cX12_drifts 3 (some .int))) (Rm 3) (XPre g ad 20 S [.ref (ad 0), .int a1, .int a2]) (va_Qi (fun r S' => InvM g ad S' ∧ (∀ j, j ∉ ([0] : List Nat) → S' j = S j) ∧ Bd r (-2) (11)) (QB g ad 20) (FA ad 20)) 0 0 (FA ad 20) := by
  refine xmet cX12_drifts "EbbWreckModel" (by decide) rfl (Nat.le_of_ble_eq_true rfl) (fun p e s m below meth c E hr hlk hml hQ ls hl => ?_)
  have hx := E.1
  have hb := E.2.1
  have hs : Sp ad 20 (FA ad 20) := Sp.fa hD
  have hl : lv_has ls 3 [(0, .ref (ad 0)), (1, .int a1), (2, .int a2)] := hl
  obtain ⟨f1, c2, b3⟩ := invM_7 hI
  obtain ⟨v4, ee5⟩ : ∃ z : Int32, f1 1 = z := ⟨_, rfl⟩
  have b6 : Bd v4 (0) (12) := (by rw [← ee5]; exact b3.2.1 1 (by decide))
  obtain ⟨v7, ee8⟩ : ∃ z : Int32, f1 0 = z := ⟨_, rfl⟩
  have b9 : Bd v7 (0) (12) := (by rw [← ee8]; exact b3.1 0 (by decide))
  obtain ⟨v10, ee11⟩ : ∃ z : Int32, f1 3 = z := ⟨_, rfl⟩
  have b12 : Bd v10 (0) (12) := (by rw [← ee11]; exact b3.2.2.2.1 3 (by decide))
  obtain ⟨v13, ee14⟩ : ∃ z : Int32, f1 6 = z := ⟨_, rfl⟩
  have b15 : Bd v13 (0) (8) := (by rw [← ee14]; exact b3.2.2.2.2.1 6 (by decide))
  obtain ⟨v16, ee17⟩ : ∃ z : Int32, f1 8 = z := ⟨_, rfl⟩
  have b18 : Bd v16 (0) (3) := (by rw [← ee17]; exact b3.2.2.2.2.2.2.1 8 (by decide))
  obtain ⟨f19, c20, b21⟩ := invM_6 hI
  obtain ⟨v22, ee23⟩ : ∃ z : Int32, f19 0 = z := ⟨_, rfl⟩
  have b24 : Bd v22 (0) (40000) := (by rw [← ee23]; exact b21 0)
  have q25 : elm (S 7) 1 = v4.toInt := (elm_of c2 1).trans (congrArg Int32.toInt (ee5))
  have q26 : elm (S 7) 0 = v7.toInt := (elm_of c2 0).trans (congrArg Int32.toInt (ee8))
  have q27 : elm (S 7) 3 = v10.toInt := (elm_of c2 3).trans (congrArg Int32.toInt (ee11))
  have q28 : elm (S 7) 6 = v13.toInt := (elm_of c2 6).trans (congrArg Int32.toInt (ee14))
  have q29 : elm (S 7) 8 = v16.toInt := (elm_of c2 8).trans (congrArg Int32.toInt (ee17))
  have q30 : elm (S 6) 0 = v22.toInt := (elm_of c20 0).trans (congrArg Int32.toInt (ee23))
  refine lv_aload_n hx hb dX12_drifts_0 rfl (lv_at hl 0 rfl) ?_
  refine lv_iconst (v := 0) hx hb dX12_drifts_1 (by decide) ?_
  obtain ⟨v31, v32, v34, v36, v38, v39, w40, v41, v43, v44, v45, v46, v48, v50, v52, v54, v56, v57, v58, c59, b33, b35, b37, b42, b47, b49, b51, b53, b55⟩ := invM_0 hI
  have c59 : S 0 = .inr (12, [.int v31, .ref (ad 1), .ref (ad 2), .ref (ad 3), .ref (ad 4), .ref (ad 5), .int v32, .int v34, .int v36, .int v38, .int v39, .long w40, .int v41, .int v43, .int v44, .int v45, .ref (ad 6), .ref (ad 7), .ref (ad 8), .ref (ad 9), .ref (ad 10), .ref (ad 11), .ref (ad 12), .ref (ad 13), .ref (ad 14), .ref (ad 15), .int v46, .int v48, .ref (ad 16), .int v50, .int v52, .int v54, .int v56, .int v57, .ref (ad 17), .ref (ad 18), .int v58, .ref (ad 19)]) := c59
  refine xputi E hs hQ 0 (by decide) c59 rfl 0 (by decide) q1468 rfl rfl (Nat.le_of_ble_eq_true rfl) dX12_drifts_2 (fun H locs S60 eS60 hQ => ?_)
  have hI := invM_up_0 hI eS60 ⟨0, v32, v34, v36, v38, v39, w40, v41, v43, v44, v45, v46, v48, v50, v52, v54, v56, v57, v58, rfl, b33, b35, b37, b42, b47, b49, b51, b53, b55⟩
  have c61 : S60 0 = .inr (12, [.int 0, .ref (ad 1), .ref (ad 2), .ref (ad 3), .ref (ad 4), .ref (ad 5), .int v32, .int v34, .int v36, .int v38, .int v39, .long w40, .int v41, .int v43, .int v44, .int v45, .ref (ad 6), .ref (ad 7), .ref (ad 8), .ref (ad 9), .ref (ad 10), .ref (ad 11), .ref (ad 12), .ref (ad 13), .ref (ad 14), .ref (ad 15), .int v46, .int v48, .ref (ad 16), .int v50, .int v52, .int v54, .int v56, .int v57, .ref (ad 17), .ref (ad 18), .int v58, .ref (ad 19)]) := up_at eS60 rfl
  refine lv_aload_n hx hb dX12_drifts_5 rfl (lv_at hl 0 rfl) ?_
  refine lv_iload_n hx hb dX12_drifts_6 rfl (lv_at hl 1 rfl) ?_
  refine lv_i2l hx hb dX12_drifts_7 rfl ?_
  refine lv_topl (fun w62 e63 => ?_)
  have t64 : w62.toInt = a1.toInt := by rw [e63]; exact i2l_i _
  have b65 : BdL w62 (-2147483648) (2147483647) := (by have h1 := ((ib_full a1)).1; have h2 := ((ib_full a1)).2; exact ⟨by omega, by omega⟩)
  have c66 : S60 7 = .inl (g.2 0, 50, .inl f1) := (up_ne eS60 (by decide) c2)
  refine xcVi E hs hQ hml hl.1 0 (gX12_isCell_0 l g ad hD S60 hI w62) mX12_isCell q1750 (by decide) c61 rfl rfl ⟨(Nat.le_of_ble_eq_true rfl), (Nat.le_of_ble_eq_true rfl)⟩ ⟨(Nat.le_of_ble_eq_true rfl), (Nat.le_of_ble_eq_true rfl)⟩ (Nat.le_of_ble_eq_true rfl) rfl dX12_drifts_8 (fun r67 S67 H locs hp67 hQ _ => ?_)
  obtain ⟨rfl, b67, g67_0⟩ := hp67
  have q68 : elm (S60 7) 0 = v7.toInt := (elm_of c66 0).trans (congrArg Int32.toInt (ee8))
  refine lv_if_eq (tgt := 35) hx hb dX12_drifts_11 (by decide) (fun k69 => ?_) (fun k69 => ?_)
  · have h70 := ib_eq k69
    have b71 : Bd r67 (0) (0) := ⟨(b67).1, ((rf_eq b67 (by decide : Bd 0 (0) (0)) h70).1).2⟩
    clear g67_0
    refine lv_bipush (v := (-2)) hx hb dX12_drifts_35 (by decide) ?_
    exact xri E hr hlk hQ (⟨hI, (up_o o_refl eS60 (by decide)), (ib_wk (by decide : Bd (-2) (-2) (-2)) (by decide) (by decide))⟩) dX12_drifts_37
  · have h72 := ib_ne k69
    have b73 : Bd r67 (1) (1) := rf_nlo b67 (by decide : Bd 0 (0) (0)) h72
    have g74 := g67_0.resolve_left (by omega)
    clear g67_0
    have b75 : BdL w62 (0) (11) := ⟨by omega, by omega⟩
    have b76 : Bd v7 (1) (12) := ⟨by omega, (b9).2⟩
    have b77 : Bd a1 (0) (11) := ⟨by omega, by omega⟩
    refine lv_iload_n hx hb dX12_drifts_14 rfl (lv_at hl 2 rfl) ?_
    refine lv_i2l hx hb dX12_drifts_15 rfl ?_
    refine lv_topl (fun w78 e79 => ?_)
    have t80 : w78.toInt = a2.toInt := by rw [e79]; exact i2l_i _
    have b81 : BdL w78 (-2147483648) (2147483647) := (by have h1 := ((ib_full a2)).1; have h2 := ((ib_full a2)).2; exact ⟨by omega, by omega⟩)
    refine lv_lconst (v := 0) hx hb dX12_drifts_16 (by decide) ?_
    refine lv_ldc2 (v := 2000000000) hx hb E.2.2.1 (E.2.2.2.1 _ q1786) dX12_drifts_17 ?_
    have q82 : (0 : Int64).toInt = 0 := by decide
    have q83 : (2000000000 : Int64).toInt = 2000000000 := by decide
    refine xcSi E hs hQ hml hl.1 (gX12_in l g ad hD S60 hI w78 0 2000000000) mX12_in q1591 rfl ⟨(Nat.le_of_ble_eq_true rfl), (Nat.le_of_ble_eq_true rfl)⟩ ⟨(Nat.le_of_ble_eq_true rfl), (Nat.le_of_ble_eq_true rfl)⟩ (Nat.le_of_ble_eq_true rfl) rfl dX12_drifts_20 (fun r84 S84 H locs hp84 hQ => ?_)
    obtain ⟨rfl, b84, g84_0, u84_0⟩ := hp84
    refine lv_if_eq (tgt := 35) hx hb dX12_drifts_23 (by decide) (fun k85 => ?_) (fun k85 => ?_)
    · have h86 := ib_eq k85
      have b87 : Bd r84 (0) (0) := ⟨(b84).1, ((rf_eq b84 (by decide : Bd 0 (0) (0)) h86).1).2⟩
      clear g84_0
      refine lv_bipush (v := (-2)) hx hb dX12_drifts_35 (by decide) ?_
      exact xri E hr hlk hQ (⟨hI, (up_o o_refl eS60 (by decide)), (ib_wk (by decide : Bd (-2) (-2) (-2)) (by decide) (by decide))⟩) dX12_drifts_37
    · have h88 := ib_ne k85
      have b89 : Bd r84 (1) (1) := rf_nlo b84 (by decide : Bd 0 (0) (0)) h88
      have g90 := g84_0.resolve_left (by omega)
      clear g84_0
      have b91 : BdL w78 (0) (2000000000) := ⟨by omega, by omega⟩
      have b92 : Bd a2 (0) (2000000000) := ⟨by omega, by omega⟩
      refine lv_aload_n hx hb dX12_drifts_26 rfl (lv_at hl 0 rfl) ?_
      refine lv_iload_n hx hb dX12_drifts_27 rfl (lv_at hl 1 rfl) ?_
      refine lv_iload_n hx hb dX12_drifts_28 rfl (lv_at hl 2 rfl) ?_
      have q93 : elm (S60 7) 1 = v4.toInt := (elm_of c66 1).trans (congrArg Int32.toInt (ee5))
      refine xcVi E hs hQ hml hl.1 0 (gX12_on_0 l g ad hD S60 hI a1 a2 b77 (by omega) (by omega)) mX12_on q1804 (by decide) c61 rfl rfl ⟨(Nat.le_of_ble_eq_true rfl), (Nat.le_of_ble_eq_true rfl)⟩ ⟨(Nat.le_of_ble_eq_true rfl), (Nat.le_of_ble_eq_true rfl)⟩ (Nat.le_of_ble_eq_true rfl) rfl dX12_drifts_29 (fun r94 S94 H locs hp94 hQ _ => ?_)
      obtain ⟨rfl, b94, g94_0, fg94⟩ := hp94
      refine lv_goto (tgt := 37) hx hb dX12_drifts_32 (by decide) ?_
      exact xri E hr hlk hQ (⟨hI, (up_o o_refl eS60 (by decide)), (ib_wk b94 (by decide) (by decide))⟩) dX12_drifts_37
set_option maxHeartbeats 4000000 in
set_option maxRecDepth 100000 in
theorem gX12_gaps_0 (l : Launch) (g : GG) (ad : Nat → Nat) (hD : Dj ad 20) (S : SS) (hI : InvM g ad S) (a1 : Int32) (hq1 : 0 ≤ 12 * elm (S 7) 1 + (-1) * elm (S 7) 0) (hq2 : 0 ≤ 12 * elm (S 7) 3 + (-1) * elm (S 7) 0) (hq3 : 0 ≤ 8 * elm (S 7) 0 + (-1) * elm (S 7) 6) (hq4 : 0 ≤ 3 * elm (S 7) 0 + (-1) * elm (S 7) 8) (hq5 : 0 ≤ 40000 * elm (S 7) 0 + (-1) * elm (S 6) 0) : Met l yX12_gaps (wG (.code yX12_gaps cX12_gaps 4 (some .int))) (Rm 3) (XPre g ad 20 S [.ref (ad 0), .int a1]) (va_Qi (fun _ S' => InvM g ad S' ∧ (∀ j, j ∉ ([0] : List Nat) → S' j = S j)) (QB g ad 20) (FA ad 20)) 0 0 (FA ad 20) := by
  refine xmet cX12_gaps "EbbWreckModel" (by decide) rfl (Nat.le_of_ble_eq_true rfl) (fun p e s m below meth c E hr hlk hml hQ ls hl => ?_)
  have hx := E.1
  have hb := E.2.1
  have hs : Sp ad 20 (FA ad 20) := Sp.fa hD
  have hl : lv_has ls 4 [(0, .ref (ad 0)), (1, .int a1)] := hl
  obtain ⟨f1, c2, b3⟩ := invM_7 hI
  obtain ⟨v4, ee5⟩ : ∃ z : Int32, f1 1 = z := ⟨_, rfl⟩
  have b6 : Bd v4 (0) (12) := (by rw [← ee5]; exact b3.2.1 1 (by decide))
  obtain ⟨v7, ee8⟩ : ∃ z : Int32, f1 0 = z := ⟨_, rfl⟩
  have b9 : Bd v7 (0) (12) := (by rw [← ee8]; exact b3.1 0 (by decide))
  obtain ⟨v10, ee11⟩ : ∃ z : Int32, f1 3 = z := ⟨_, rfl⟩
  have b12 : Bd v10 (0) (12) := (by rw [← ee11]; exact b3.2.2.2.1 3 (by decide))
  obtain ⟨v13, ee14⟩ : ∃ z : Int32, f1 6 = z := ⟨_, rfl⟩
  have b15 : Bd v13 (0) (8) := (by rw [← ee14]; exact b3.2.2.2.2.1 6 (by decide))
  obtain ⟨v16, ee17⟩ : ∃ z : Int32, f1 8 = z := ⟨_, rfl⟩
  have b18 : Bd v16 (0) (3) := (by rw [← ee17]; exact b3.2.2.2.2.2.2.1 8 (by decide))
  obtain ⟨f19, c20, b21⟩ := invM_6 hI
  obtain ⟨v22, ee23⟩ : ∃ z : Int32, f19 0 = z := ⟨_, rfl⟩
  have b24 : Bd v22 (0) (40000) := (by rw [← ee23]; exact b21 0)
  have q25 : elm (S 7) 1 = v4.toInt := (elm_of c2 1).trans (congrArg Int32.toInt (ee5))
  have q26 : elm (S 7) 0 = v7.toInt := (elm_of c2 0).trans (congrArg Int32.toInt (ee8))
  have q27 : elm (S 7) 3 = v10.toInt := (elm_of c2 3).trans (congrArg Int32.toInt (ee11))
  have q28 : elm (S 7) 6 = v13.toInt := (elm_of c2 6).trans (congrArg Int32.toInt (ee14))
  have q29 : elm (S 7) 8 = v16.toInt := (elm_of c2 8).trans (congrArg Int32.toInt (ee17))
  have q30 : elm (S 6) 0 = v22.toInt := (elm_of c20 0).trans (congrArg Int32.toInt (ee23))
  refine lv_aload_n hx hb dX12_gaps_0 rfl (lv_at hl 0 rfl) ?_
  refine lv_iconst (v := 0) hx hb dX12_gaps_1 (by decide) ?_
  obtain ⟨v31, v32, v34, v36, v38, v39, w40, v41, v43, v44, v45, v46, v48, v50, v52, v54, v56, v57, v58, c59, b33, b35, b37, b42, b47, b49, b51, b53, b55⟩ := invM_0 hI
  have c59 : S 0 = .inr (12, [.int v31, .ref (ad 1), .ref (ad 2), .ref (ad 3), .ref (ad 4), .ref (ad 5), .int v32, .int v34, .int v36, .int v38, .int v39, .long w40, .int v41, .int v43, .int v44, .int v45, .ref (ad 6), .ref (ad 7), .ref (ad 8), .ref (ad 9), .ref (ad 10), .ref (ad 11), .ref (ad 12), .ref (ad 13), .ref (ad 14), .ref (ad 15), .int v46, .int v48, .ref (ad 16), .int v50, .int v52, .int v54, .int v56, .int v57, .ref (ad 17), .ref (ad 18), .int v58, .ref (ad 19)]) := c59
  refine xputi E hs hQ 0 (by decide) c59 rfl 0 (by decide) q1468 rfl rfl (Nat.le_of_ble_eq_true rfl) dX12_gaps_2 (fun H locs S60 eS60 hQ => ?_)
  have hI := invM_up_0 hI eS60 ⟨0, v32, v34, v36, v38, v39, w40, v41, v43, v44, v45, v46, v48, v50, v52, v54, v56, v57, v58, rfl, b33, b35, b37, b42, b47, b49, b51, b53, b55⟩
  have c61 : S60 0 = .inr (12, [.int 0, .ref (ad 1), .ref (ad 2), .ref (ad 3), .ref (ad 4), .ref (ad 5), .int v32, .int v34, .int v36, .int v38, .int v39, .long w40, .int v41, .int v43, .int v44, .int v45, .ref (ad 6), .ref (ad 7), .ref (ad 8), .ref (ad 9), .ref (ad 10), .ref (ad 11), .ref (ad 12), .ref (ad 13), .ref (ad 14), .ref (ad 15), .int v46, .int v48, .ref (ad 16), .int v50, .int v52, .int v54, .int v56, .int v57, .ref (ad 17), .ref (ad 18), .int v58, .ref (ad 19)]) := up_at eS60 rfl
  refine lv_aload_n hx hb dX12_gaps_5 rfl (lv_at hl 0 rfl) ?_
  have c62 : S60 6 = .inl (g.2 0, 5, .inl f19) := (up_ne eS60 (by decide) c20)
  refine xcVi E hs hQ hml hl.1 0 (gX12_isShore_0 l g ad hD S60 hI ) mX12_isShore q1782 (by decide) c61 rfl rfl ⟨(Nat.le_of_ble_eq_true rfl), (Nat.le_of_ble_eq_true rfl)⟩ ⟨(Nat.le_of_ble_eq_true rfl), (Nat.le_of_ble_eq_true rfl)⟩ (Nat.le_of_ble_eq_true rfl) rfl dX12_gaps_6 (fun r63 S63 H locs hp63 hQ _ => ?_)
  obtain ⟨rfl, b63, g63_0⟩ := hp63
  have q64 : elm (S60 6) 0 = v22.toInt := (elm_of c62 0).trans (congrArg Int32.toInt (ee23))
  refine lv_if_eq (tgt := 24) hx hb dX12_gaps_9 (by decide) (fun k65 => ?_) (fun k65 => ?_)
  · have h66 := ib_eq k65
    have b67 : Bd r63 (0) (0) := ⟨(b63).1, ((rf_eq b63 (by decide : Bd 0 (0) (0)) h66).1).2⟩
    clear g63_0
    refine lv_bipush (v := (-2)) hx hb dX12_gaps_24 (by decide) ?_
    exact xri E hr hlk hQ (⟨hI, (up_o o_refl eS60 (by decide))⟩) dX12_gaps_26
  · have h68 := ib_ne k65
    have b69 : Bd r63 (1) (1) := rf_nlo b63 (by decide : Bd 0 (0) (0)) h68
    have g70 := g63_0.resolve_left (by omega)
    clear g63_0
    have b71 : Bd v22 (1) (40000) := ⟨by omega, (b24).2⟩
    refine lv_iload_n hx hb dX12_gaps_12 rfl (lv_at hl 1 rfl) ?_
    refine lv_i2l hx hb dX12_gaps_13 rfl ?_
    refine lv_topl (fun w72 e73 => ?_)
    have t74 : w72.toInt = a1.toInt := by rw [e73]; exact i2l_i _
    have b75 : BdL w72 (-2147483648) (2147483647) := (by have h1 := ((ib_full a1)).1; have h2 := ((ib_full a1)).2; exact ⟨by omega, by omega⟩)
    refine lv_lconst (v := 0) hx hb dX12_gaps_14 (by decide) ?_
    refine lv_ldc2 (v := 2) hx hb E.2.2.1 (E.2.2.2.1 _ q1754) dX12_gaps_15 ?_
    have q76 : (0 : Int64).toInt = 0 := by decide
    have q77 : (2 : Int64).toInt = 2 := by decide
    refine xcSi E hs hQ hml hl.1 (gX12_in l g ad hD S60 hI w72 0 2) mX12_in q1591 rfl ⟨(Nat.le_of_ble_eq_true rfl), (Nat.le_of_ble_eq_true rfl)⟩ ⟨(Nat.le_of_ble_eq_true rfl), (Nat.le_of_ble_eq_true rfl)⟩ (Nat.le_of_ble_eq_true rfl) rfl dX12_gaps_18 (fun r78 S78 H locs hp78 hQ => ?_)
    obtain ⟨rfl, b78, g78_0, u78_0⟩ := hp78
    refine lv_if_ne (tgt := 27) hx hb dX12_gaps_21 (by decide) (fun k79 => ?_) (fun k79 => ?_)
    · have h80 := ib_ne k79
      have b81 : Bd r78 (1) (1) := rf_nlo b78 (by decide : Bd 0 (0) (0)) h80
      have g82 := g78_0.resolve_left (by omega)
      clear g78_0
      have b83 : BdL w72 (0) (2) := ⟨by omega, by omega⟩
      have b84 : Bd a1 (0) (2) := ⟨by omega, by omega⟩
      refine lv_iconst (v := 0) hx hb dX12_gaps_27 (by decide) ?_
      refine lv_istore_n (lv' := [(2, .int 0), (0, .ref (ad 0)), (1, .int a1)]) hx hb dX12_gaps_28 rfl hl (by decide) rfl (fun ls hl => ?_)
      refine lv_iconst (v := 0) hx hb dX12_gaps_29 (by decide) ?_
      refine lv_istore_n (lv' := [(3, .int 0), (2, .int 0), (0, .ref (ad 0)), (1, .int a1)]) hx hb dX12_gaps_30 rfl hl (by decide) rfl (fun ls hl => ?_)
      have loop31 : ∀ (n : Nat) (H : Heap) (locs : List Loc) (ls : Array Slot) (x31_2 : Int32) (x31_3 : Int32), Bd x31_3 (0) (12) → (-1) * x31_3.toInt + 12 < ((n : Nat) : Int) → Hp g ad 20 S60 (FA ad 20) s.heap H locs → lv_has ls 4 [(3, .int x31_3), (2, .int x31_2), (0, .ref (ad 0)), (1, .int a1)] → W p l e (Rm 3) s m [.ref (ad 0), .int a1].toArray below meth c H locs 0 0 (MQ below (va_Qi (fun _ S' => InvM g ad S' ∧ (∀ j, j ∉ ([0] : List Nat) → S' j = S j)) (QB g ad 20) (FA ad 20)) [.ref (ad 0), .int a1].toArray s 0 0 (FA ad 20)) (F0 m 31 ls []) := by
        intro n
        induction n with
        | zero => intro H locs ls x31_2 x31_3 Bx31_3 hn31_ hQ hl; exfalso; have := (Bx31_3).2; omega
        | succ n31_ ih31 =>
          intro H locs ls x31_2 x31_3 Bx31_3 hn31_ hQ hl
          refine lv_iload_n hx hb dX12_gaps_31 rfl (lv_at hl 0 rfl) ?_
          refine lv_aload_n hx hb dX12_gaps_32 rfl (lv_at hl 2 rfl) ?_
          refine xget E hQ 0 (by decide) c61 rfl 17 (by decide) q1485 rfl dX12_gaps_33 ?_
          refine lv_iconst (v := 0) hx hb dX12_gaps_36 (by decide) ?_
          have c85 : S60 7 = .inl (g.2 0, 50, .inl f1) := (up_ne eS60 (by decide) c2)
          refine xiald E hQ 7 (by decide) c85 (vp_in_lit 0 50 (by decide)) dX12_gaps_37 ?_
          refine sb_at (P := fun z => W _ _ _ _ _ _ _ _ _ _ _ _ _ _ _ (F0 _ _ _ (.int z :: _))) (show f1 (0 : Int32).toNatClampNeg = v7 from ee8) ?_
          refine lv_icmp_ge (tgt := 76) hx hb dX12_gaps_38 (by decide) (fun k86 => ?_) (fun k86 => ?_)
          · have h87 := ib_le k86
            refine lv_iload_n hx hb dX12_gaps_76 rfl (lv_at hl 1 rfl) ?_
            exact xri E hr hlk hQ (⟨hI, (up_o o_refl eS60 (by decide))⟩) dX12_gaps_77
          · have h88 := ib_nle k86
            have b89 : Bd x31_3 (0) (11) := ⟨(Bx31_3).1, ((rf_lt Bx31_3 b9 h88).1).2⟩
            have b90 : Bd v7 (1) (12) := ⟨((rf_lt Bx31_3 b9 h88).2).1, (b9).2⟩
            refine lv_iload_n hx hb dX12_gaps_41 rfl (lv_at hl 1 rfl) ?_
            refine lv_aload_n hx hb dX12_gaps_42 rfl (lv_at hl 2 rfl) ?_
            refine lv_iload_n hx hb dX12_gaps_43 rfl (lv_at hl 0 rfl) ?_
            refine xcVi E hs hQ hml hl.1 0 (gX12_isBeach_0 l g ad hD S60 hI x31_3) mX12_isBeach q1755 (by decide) c61 rfl rfl ⟨(Nat.le_of_ble_eq_true rfl), (Nat.le_of_ble_eq_true rfl)⟩ ⟨(Nat.le_of_ble_eq_true rfl), (Nat.le_of_ble_eq_true rfl)⟩ (Nat.le_of_ble_eq_true rfl) rfl dX12_gaps_44 (fun r91 S91 H locs hp91 hQ _ => ?_)
            obtain ⟨rfl, b91, fg91⟩ := hp91
            refine lv_if_eq (tgt := 67) hx hb dX12_gaps_47 (by decide) (fun k92 => ?_) (fun k92 => ?_)
            · have h93 := ib_eq k92
              have b94 : Bd r91 (0) (0) := ⟨(b91).1, ((rf_eq b91 (by decide : Bd 0 (0) (0)) h93).1).2⟩
              refine lv_iconst (v := 0) hx hb dX12_gaps_67 (by decide) ?_
              refine lv_ior hx hb dX12_gaps_68 ?_
              refine lv_topi (fun z95 e96 => ?_)
              refine lv_istore_n (lv' := [(2, .int z95), (3, .int x31_3), (0, .ref (ad 0)), (1, .int a1)]) hx hb dX12_gaps_69 rfl hl (by decide) rfl (fun ls hl => ?_)
              obtain ⟨z97, e98⟩ : ∃ z : Int32, z = x31_3 + 1 := ⟨_, rfl⟩
              have t99 := ib_add e98 b89 (by decide : Bd 1 (1) (1)) (by decide) (by decide)
              have b100 : Bd z97 (1) (12) := ib_addb t99 b89 (by decide : Bd 1 (1) (1))
              have t99 : z97.toInt = x31_3.toInt + 1 := fold_add t99 rfl (by decide)
              refine lv_iinc (v := z97) (lv' := [(3, .int z97), (2, .int z95), (0, .ref (ad 0)), (1, .int a1)]) hx hb dX12_gaps_70 hl (k := 1) rfl (by rw [e98]; rfl) (by decide) rfl (fun ls hl => ?_)
              refine lv_goto (tgt := 31) hx hb dX12_gaps_73 (by decide) ?_
              exact ih31 _ _ _ z95 z97 (ib_wk b100 (by decide) (by decide)) (by omega) hQ (lv_sub hl [0, 1, 2, 3] rfl)
            · have h101 := ib_ne k92
              have b102 : Bd r91 (1) (1) := rf_nlo b91 (by decide : Bd 0 (0) (0)) h101
              refine lv_aload_n hx hb dX12_gaps_50 rfl (lv_at hl 2 rfl) ?_
              refine lv_iload_n hx hb dX12_gaps_51 rfl (lv_at hl 0 rfl) ?_
              refine lv_iload_n hx hb dX12_gaps_52 rfl (lv_at hl 3 rfl) ?_
              refine lv_iconst (v := (-1)) hx hb dX12_gaps_53 (by decide) ?_
              refine xcVi E hs hQ hml hl.1 0 (gX12_partyOf_0 l g ad hD S60 hI x31_3 a1 (-1)) mX12_partyOf q1862 (by decide) c61 rfl rfl ⟨(Nat.le_of_ble_eq_true rfl), (Nat.le_of_ble_eq_true rfl)⟩ ⟨(Nat.le_of_ble_eq_true rfl), (Nat.le_of_ble_eq_true rfl)⟩ (Nat.le_of_ble_eq_true rfl) rfl dX12_gaps_54 (fun r103 S103 H locs hp103 hQ _ => ?_)
              obtain ⟨rfl, fg103⟩ := hp103
              refine lv_iconst (v := (-1)) hx hb dX12_gaps_57 (by decide) ?_
              refine lv_icmp_ne (tgt := 67) hx hb dX12_gaps_58 (by decide) (fun k104 => ?_) (fun k104 => ?_)
              · have h105 := ib_ne k104
                refine lv_iconst (v := 0) hx hb dX12_gaps_67 (by decide) ?_
                refine lv_ior hx hb dX12_gaps_68 ?_
                refine lv_topi (fun z106 e107 => ?_)
                refine lv_istore_n (lv' := [(2, .int z106), (3, .int x31_3), (0, .ref (ad 0)), (1, .int a1)]) hx hb dX12_gaps_69 rfl hl (by decide) rfl (fun ls hl => ?_)
                obtain ⟨z108, e109⟩ : ∃ z : Int32, z = x31_3 + 1 := ⟨_, rfl⟩
                have t110 := ib_add e109 b89 (by decide : Bd 1 (1) (1)) (by decide) (by decide)
                have b111 : Bd z108 (1) (12) := ib_addb t110 b89 (by decide : Bd 1 (1) (1))
                have t110 : z108.toInt = x31_3.toInt + 1 := fold_add t110 rfl (by decide)
                refine lv_iinc (v := z108) (lv' := [(3, .int z108), (2, .int z106), (0, .ref (ad 0)), (1, .int a1)]) hx hb dX12_gaps_70 hl (k := 1) rfl (by rw [e109]; rfl) (by decide) rfl (fun ls hl => ?_)
                refine lv_goto (tgt := 31) hx hb dX12_gaps_73 (by decide) ?_
                exact ih31 _ _ _ z106 z108 (ib_wk b111 (by decide) (by decide)) (by omega) hQ (lv_sub hl [0, 1, 2, 3] rfl)
              · have h112 := ib_eq k104
                have b113 : Bd r103 (-1) (-1) := ⟨((rf_eq (ib_full r103) (by decide : Bd (-1) (-1) (-1)) h112).1).1, ((rf_eq (ib_full r103) (by decide : Bd (-1) (-1) (-1)) h112).1).2⟩
                refine lv_iconst (v := 1) hx hb dX12_gaps_61 (by decide) ?_
                refine lv_iload_n hx hb dX12_gaps_62 rfl (lv_at hl 0 rfl) ?_
                refine lv_ishl hx hb dX12_gaps_63 ?_
                refine lv_topi (fun z114 e115 => ?_)
                refine lv_goto (tgt := 68) hx hb dX12_gaps_64 (by decide) ?_
                refine lv_ior hx hb dX12_gaps_68 ?_
                refine lv_topi (fun z116 e117 => ?_)
                refine lv_istore_n (lv' := [(2, .int z116), (3, .int x31_3), (0, .ref (ad 0)), (1, .int a1)]) hx hb dX12_gaps_69 rfl hl (by decide) rfl (fun ls hl => ?_)
                obtain ⟨z118, e119⟩ : ∃ z : Int32, z = x31_3 + 1 := ⟨_, rfl⟩
                have t120 := ib_add e119 b89 (by decide : Bd 1 (1) (1)) (by decide) (by decide)
                have b121 : Bd z118 (1) (12) := ib_addb t120 b89 (by decide : Bd 1 (1) (1))
                have t120 : z118.toInt = x31_3.toInt + 1 := fold_add t120 rfl (by decide)
                refine lv_iinc (v := z118) (lv' := [(3, .int z118), (2, .int z116), (0, .ref (ad 0)), (1, .int a1)]) hx hb dX12_gaps_70 hl (k := 1) rfl (by rw [e119]; rfl) (by decide) rfl (fun ls hl => ?_)
                refine lv_goto (tgt := 31) hx hb dX12_gaps_73 (by decide) ?_
                exact ih31 _ _ _ z116 z118 (ib_wk b121 (by decide) (by decide)) (by omega) hQ (lv_sub hl [0, 1, 2, 3] rfl)
      obtain ⟨n31, hn31⟩ := fu_n (12)
      exact loop31 n31 _ _ _ 0 0 (ib_wk (by decide : Bd 0 (0) (0)) (by decide) (by decide)) (by have : (0 : Int32).toInt = 0 := (by decide); omega) hQ (lv_sub hl [0, 1, 2, 3] rfl)
    · have h122 := ib_eq k79
      have b123 : Bd r78 (0) (0) := ⟨(b78).1, ((rf_eq b78 (by decide : Bd 0 (0) (0)) h122).1).2⟩
      clear g78_0
      refine lv_bipush (v := (-2)) hx hb dX12_gaps_24 (by decide) ?_
      exact xri E hr hlk hQ (⟨hI, (up_o o_refl eS60 (by decide))⟩) dX12_gaps_26
set_option maxHeartbeats 4000000 in
set_option maxRecDepth 100000 in
theorem gX12_idle_0 (l : Launch) (g : GG) (ad : Nat → Nat) (hD : Dj ad 20) (S : SS) (hI : InvM g ad S) (hq1 : 0 ≤ 12 * elm (S 7) 1 + (-1) * elm (S 7) 0) (hq2 : 0 ≤ 12 * elm (S 7) 3 + (-1) * elm (S 7) 0) (hq3 : 0 ≤ 8 * elm (S 7) 0 + (-1) * elm (S 7) 6) (hq4 : 0 ≤ 3 * elm (S 7) 0 + (-1) * elm (S 7) 8) (hq5 : 0 ≤ 40000 * elm (S 7) 0 + (-1) * elm (S 6) 0) : Met l yX12_idle (wG (.code yX12_idle cX12_idle 3 (some .int))) (Rm 3) (XPre g ad 20 S [.ref (ad 0)]) (va_Qi (fun _ S' => InvM g ad S' ∧ (∀ j, j ∉ ([0] : List Nat) → S' j = S j)) (QB g ad 20) (FA ad 20)) 0 0 (FA ad 20) := by
  refine xmet cX12_idle "EbbWreckModel" (by decide) rfl (Nat.le_of_ble_eq_true rfl) (fun p e s m below meth c E hr hlk hml hQ ls hl => ?_)
  have hx := E.1
  have hb := E.2.1
  have hs : Sp ad 20 (FA ad 20) := Sp.fa hD
  have hl : lv_has ls 3 [(0, .ref (ad 0))] := hl
  obtain ⟨f1, c2, b3⟩ := invM_7 hI
  obtain ⟨v4, ee5⟩ : ∃ z : Int32, f1 1 = z := ⟨_, rfl⟩
  have b6 : Bd v4 (0) (12) := (by rw [← ee5]; exact b3.2.1 1 (by decide))
  obtain ⟨v7, ee8⟩ : ∃ z : Int32, f1 0 = z := ⟨_, rfl⟩
  have b9 : Bd v7 (0) (12) := (by rw [← ee8]; exact b3.1 0 (by decide))
  obtain ⟨v10, ee11⟩ : ∃ z : Int32, f1 3 = z := ⟨_, rfl⟩
  have b12 : Bd v10 (0) (12) := (by rw [← ee11]; exact b3.2.2.2.1 3 (by decide))
  obtain ⟨v13, ee14⟩ : ∃ z : Int32, f1 6 = z := ⟨_, rfl⟩
  have b15 : Bd v13 (0) (8) := (by rw [← ee14]; exact b3.2.2.2.2.1 6 (by decide))
  obtain ⟨v16, ee17⟩ : ∃ z : Int32, f1 8 = z := ⟨_, rfl⟩
  have b18 : Bd v16 (0) (3) := (by rw [← ee17]; exact b3.2.2.2.2.2.2.1 8 (by decide))
  obtain ⟨f19, c20, b21⟩ := invM_6 hI
  obtain ⟨v22, ee23⟩ : ∃ z : Int32, f19 0 = z := ⟨_, rfl⟩
  have b24 : Bd v22 (0) (40000) := (by rw [← ee23]; exact b21 0)
  have q25 : elm (S 7) 1 = v4.toInt := (elm_of c2 1).trans (congrArg Int32.toInt (ee5))
  have q26 : elm (S 7) 0 = v7.toInt := (elm_of c2 0).trans (congrArg Int32.toInt (ee8))
  have q27 : elm (S 7) 3 = v10.toInt := (elm_of c2 3).trans (congrArg Int32.toInt (ee11))
  have q28 : elm (S 7) 6 = v13.toInt := (elm_of c2 6).trans (congrArg Int32.toInt (ee14))
  have q29 : elm (S 7) 8 = v16.toInt := (elm_of c2 8).trans (congrArg Int32.toInt (ee17))
  have q30 : elm (S 6) 0 = v22.toInt := (elm_of c20 0).trans (congrArg Int32.toInt (ee23))
  refine lv_aload_n hx hb dX12_idle_0 rfl (lv_at hl 0 rfl) ?_
  refine lv_iconst (v := 0) hx hb dX12_idle_1 (by decide) ?_
  obtain ⟨v31, v32, v34, v36, v38, v39, w40, v41, v43, v44, v45, v46, v48, v50, v52, v54, v56, v57, v58, c59, b33, b35, b37, b42, b47, b49, b51, b53, b55⟩ := invM_0 hI
  have c59 : S 0 = .inr (12, [.int v31, .ref (ad 1), .ref (ad 2), .ref (ad 3), .ref (ad 4), .ref (ad 5), .int v32, .int v34, .int v36, .int v38, .int v39, .long w40, .int v41, .int v43, .int v44, .int v45, .ref (ad 6), .ref (ad 7), .ref (ad 8), .ref (ad 9), .ref (ad 10), .ref (ad 11), .ref (ad 12), .ref (ad 13), .ref (ad 14), .ref (ad 15), .int v46, .int v48, .ref (ad 16), .int v50, .int v52, .int v54, .int v56, .int v57, .ref (ad 17), .ref (ad 18), .int v58, .ref (ad 19)]) := c59
  refine xputi E hs hQ 0 (by decide) c59 rfl 0 (by decide) q1468 rfl rfl (Nat.le_of_ble_eq_true rfl) dX12_idle_2 (fun H locs S60 eS60 hQ => ?_)
  have hI := invM_up_0 hI eS60 ⟨0, v32, v34, v36, v38, v39, w40, v41, v43, v44, v45, v46, v48, v50, v52, v54, v56, v57, v58, rfl, b33, b35, b37, b42, b47, b49, b51, b53, b55⟩
  have c61 : S60 0 = .inr (12, [.int 0, .ref (ad 1), .ref (ad 2), .ref (ad 3), .ref (ad 4), .ref (ad 5), .int v32, .int v34, .int v36, .int v38, .int v39, .long w40, .int v41, .int v43, .int v44, .int v45, .ref (ad 6), .ref (ad 7), .ref (ad 8), .ref (ad 9), .ref (ad 10), .ref (ad 11), .ref (ad 12), .ref (ad 13), .ref (ad 14), .ref (ad 15), .int v46, .int v48, .ref (ad 16), .int v50, .int v52, .int v54, .int v56, .int v57, .ref (ad 17), .ref (ad 18), .int v58, .ref (ad 19)]) := up_at eS60 rfl
  refine lv_aload_n hx hb dX12_idle_5 rfl (lv_at hl 0 rfl) ?_
  have c62 : S60 6 = .inl (g.2 0, 5, .inl f19) := (up_ne eS60 (by decide) c20)
  refine xcVi E hs hQ hml hl.1 0 (gX12_isShore_0 l g ad hD S60 hI ) mX12_isShore q1782 (by decide) c61 rfl rfl ⟨(Nat.le_of_ble_eq_true rfl), (Nat.le_of_ble_eq_true rfl)⟩ ⟨(Nat.le_of_ble_eq_true rfl), (Nat.le_of_ble_eq_true rfl)⟩ (Nat.le_of_ble_eq_true rfl) rfl dX12_idle_6 (fun r63 S63 H locs hp63 hQ _ => ?_)
  obtain ⟨rfl, b63, g63_0⟩ := hp63
  have q64 : elm (S60 6) 0 = v22.toInt := (elm_of c62 0).trans (congrArg Int32.toInt (ee23))
  refine lv_if_ne (tgt := 15) hx hb dX12_idle_9 (by decide) (fun k65 => ?_) (fun k65 => ?_)
  · have h66 := ib_ne k65
    have b67 : Bd r63 (1) (1) := rf_nlo b63 (by decide : Bd 0 (0) (0)) h66
    have g68 := g63_0.resolve_left (by omega)
    clear g63_0
    have b69 : Bd v22 (1) (40000) := ⟨by omega, (b24).2⟩
    refine lv_iconst (v := 0) hx hb dX12_idle_15 (by decide) ?_
    refine lv_istore_n (lv' := [(1, .int 0), (0, .ref (ad 0))]) hx hb dX12_idle_16 rfl hl (by decide) rfl (fun ls hl => ?_)
    refine lv_iconst (v := 0) hx hb dX12_idle_17 (by decide) ?_
    refine lv_istore_n (lv' := [(2, .int 0), (1, .int 0), (0, .ref (ad 0))]) hx hb dX12_idle_18 rfl hl (by decide) rfl (fun ls hl => ?_)
    have loop19 : ∀ (n : Nat) (H : Heap) (locs : List Loc) (ls : Array Slot) (x19_1 : Int32) (x19_2 : Int32), Bd x19_2 (0) (6) → (-1) * x19_2.toInt + 6 < ((n : Nat) : Int) → Hp g ad 20 S60 (FA ad 20) s.heap H locs → lv_has ls 3 [(2, .int x19_2), (1, .int x19_1), (0, .ref (ad 0))] → W p l e (Rm 3) s m [.ref (ad 0)].toArray below meth c H locs 0 0 (MQ below (va_Qi (fun _ S' => InvM g ad S' ∧ (∀ j, j ∉ ([0] : List Nat) → S' j = S j)) (QB g ad 20) (FA ad 20)) [.ref (ad 0)].toArray s 0 0 (FA ad 20)) (F0 m 19 ls []) := by
      intro n
      induction n with
      | zero => intro H locs ls x19_1 x19_2 Bx19_2 hn19_ hQ hl; exfalso; have := (Bx19_2).2; omega
      | succ n19_ ih19 =>
        intro H locs ls x19_1 x19_2 Bx19_2 hn19_ hQ hl
        refine lv_iload_n hx hb dX12_idle_19 rfl (lv_at hl 0 rfl) ?_
        refine lv_aload_n hx hb dX12_idle_20 rfl (lv_at hl 2 rfl) ?_
        refine xget E hQ 0 (by decide) c61 rfl 17 (by decide) q1485 rfl dX12_idle_21 ?_
        refine lv_bipush (v := 7) hx hb dX12_idle_24 (by decide) ?_
        have c70 : S60 7 = .inl (g.2 0, 50, .inl f1) := (up_ne eS60 (by decide) c2)
        refine xiald E hQ 7 (by decide) c70 (vp_in_lit 7 50 (by decide)) dX12_idle_26 ?_
        obtain ⟨v71, ee72⟩ : ∃ z : Int32, f1 7 = z := ⟨_, rfl⟩
        have b73 : Bd v71 (0) (6) := (by rw [← ee72]; exact b3.2.2.2.2.2.1 7 (by decide))
        refine sb_at (P := fun z => W _ _ _ _ _ _ _ _ _ _ _ _ _ _ _ (F0 _ _ _ (.int z :: _))) (show f1 (7 : Int32).toNatClampNeg = v71 from ee72) ?_
        refine lv_icmp_ge (tgt := 54) hx hb dX12_idle_27 (by decide) (fun k74 => ?_) (fun k74 => ?_)
        · have h75 := ib_le k74
          refine lv_iload_n hx hb dX12_idle_54 rfl (lv_at hl 1 rfl) ?_
          exact xri E hr hlk hQ (⟨hI, (up_o o_refl eS60 (by decide))⟩) dX12_idle_55
        · have h76 := ib_nle k74
          have b77 : Bd x19_2 (0) (5) := ⟨(Bx19_2).1, ((rf_lt Bx19_2 b73 h76).1).2⟩
          have b78 : Bd v71 (1) (6) := ⟨((rf_lt Bx19_2 b73 h76).2).1, (b73).2⟩
          refine lv_iload_n hx hb dX12_idle_30 rfl (lv_at hl 1 rfl) ?_
          refine lv_aload_n hx hb dX12_idle_31 rfl (lv_at hl 2 rfl) ?_
          refine lv_iload_n hx hb dX12_idle_32 rfl (lv_at hl 0 rfl) ?_
          refine xcVi E hs hQ hml hl.1 0 (gX12_isIdle_0 l g ad hD S60 hI x19_2 b77) mX12_isIdle q1906 (by decide) c61 rfl rfl ⟨(Nat.le_of_ble_eq_true rfl), (Nat.le_of_ble_eq_true rfl)⟩ ⟨(Nat.le_of_ble_eq_true rfl), (Nat.le_of_ble_eq_true rfl)⟩ (Nat.le_of_ble_eq_true rfl) rfl dX12_idle_33 (fun r79 S79 H locs hp79 hQ _ => ?_)
          obtain ⟨rfl, b79⟩ := hp79
          refine lv_if_eq (tgt := 45) hx hb dX12_idle_36 (by decide) (fun k80 => ?_) (fun k80 => ?_)
          · have h81 := ib_eq k80
            have b82 : Bd r79 (0) (0) := ⟨(b79).1, ((rf_eq b79 (by decide : Bd 0 (0) (0)) h81).1).2⟩
            refine lv_iconst (v := 0) hx hb dX12_idle_45 (by decide) ?_
            refine lv_ior hx hb dX12_idle_46 ?_
            refine lv_topi (fun z83 e84 => ?_)
            refine lv_istore_n (lv' := [(1, .int z83), (2, .int x19_2), (0, .ref (ad 0))]) hx hb dX12_idle_47 rfl hl (by decide) rfl (fun ls hl => ?_)
            obtain ⟨z85, e86⟩ : ∃ z : Int32, z = x19_2 + 1 := ⟨_, rfl⟩
            have t87 := ib_add e86 b77 (by decide : Bd 1 (1) (1)) (by decide) (by decide)
            have b88 : Bd z85 (1) (6) := ib_addb t87 b77 (by decide : Bd 1 (1) (1))
            have t87 : z85.toInt = x19_2.toInt + 1 := fold_add t87 rfl (by decide)
            refine lv_iinc (v := z85) (lv' := [(2, .int z85), (1, .int z83), (0, .ref (ad 0))]) hx hb dX12_idle_48 hl (k := 1) rfl (by rw [e86]; rfl) (by decide) rfl (fun ls hl => ?_)
            refine lv_goto (tgt := 19) hx hb dX12_idle_51 (by decide) ?_
            exact ih19 _ _ _ z83 z85 (ib_wk b88 (by decide) (by decide)) (by omega) hQ (lv_sub hl [0, 1, 2] rfl)
          · have h89 := ib_ne k80
            have b90 : Bd r79 (1) (1) := rf_nlo b79 (by decide : Bd 0 (0) (0)) h89
            refine lv_iconst (v := 1) hx hb dX12_idle_39 (by decide) ?_
            refine lv_iload_n hx hb dX12_idle_40 rfl (lv_at hl 0 rfl) ?_
            refine lv_ishl hx hb dX12_idle_41 ?_
            refine lv_topi (fun z91 e92 => ?_)
            refine lv_goto (tgt := 46) hx hb dX12_idle_42 (by decide) ?_
            refine lv_ior hx hb dX12_idle_46 ?_
            refine lv_topi (fun z93 e94 => ?_)
            refine lv_istore_n (lv' := [(1, .int z93), (2, .int x19_2), (0, .ref (ad 0))]) hx hb dX12_idle_47 rfl hl (by decide) rfl (fun ls hl => ?_)
            obtain ⟨z95, e96⟩ : ∃ z : Int32, z = x19_2 + 1 := ⟨_, rfl⟩
            have t97 := ib_add e96 b77 (by decide : Bd 1 (1) (1)) (by decide) (by decide)
            have b98 : Bd z95 (1) (6) := ib_addb t97 b77 (by decide : Bd 1 (1) (1))
            have t97 : z95.toInt = x19_2.toInt + 1 := fold_add t97 rfl (by decide)
            refine lv_iinc (v := z95) (lv' := [(2, .int z95), (1, .int z93), (0, .ref (ad 0))]) hx hb dX12_idle_48 hl (k := 1) rfl (by rw [e96]; rfl) (by decide) rfl (fun ls hl => ?_)
            refine lv_goto (tgt := 19) hx hb dX12_idle_51 (by decide) ?_
            exact ih19 _ _ _ z93 z95 (ib_wk b98 (by decide) (by decide)) (by omega) hQ (lv_sub hl [0, 1, 2] rfl)
    obtain ⟨n19, hn19⟩ := fu_n (6)
    exact loop19 n19 _ _ _ 0 0 (ib_wk (by decide : Bd 0 (0) (0)) (by decide) (by decide)) (by have : (0 : Int32).toInt = 0 := (by decide); omega) hQ (lv_sub hl [0, 1, 2] rfl)
  · have h99 := ib_eq k65
    have b100 : Bd r63 (0) (0) := ⟨(b63).1, ((rf_eq b63 (by decide : Bd 0 (0) (0)) h99).1).2⟩
    clear g63_0
    refine lv_bipush (v := (-2)) hx hb dX12_idle_12 (by decide) ?_
    exact xri E hr hlk hQ (⟨hI, (up_o o_refl eS60 (by decide))⟩) dX12_idle_14
set_option maxHeartbeats 4000000 in
set_option maxRecDepth 100000 in
theorem gX12_slacks_0 (l : Launch) (g : GG) (ad : Nat → Nat) (hD : Dj ad 20) (S : SS) (hI : InvM g ad S) (a1 : Int32) (hq1 : 0 ≤ 12 * elm (S 7) 1 + (-1) * elm (S 7) 0) (hq2 : 0 ≤ 12 * elm (S 7) 3 + (-1) * elm (S 7) 0) (hq3 : 0 ≤ 8 * elm (S 7) 0 + (-1) * elm (S 7) 6) (hq4 : 0 ≤ 3 * elm (S 7) 0 + (-1) * elm (S 7) 8) (hq5 : 0 ≤ 40000 * elm (S 7) 0 + (-1) * elm (S 6) 0) : Met l yX12_slacks (wG (.code yX12_slacks cX12_slacks 4 (some .int))) (Rm 2) (XPre g ad 20 S [.ref (ad 0), .int a1]) (va_Qi (fun _ S' => InvM g ad S' ∧ (∀ j, j ∉ ([0] : List Nat) → S' j = S j)) (QB g ad 20) (FA ad 20)) 0 0 (FA ad 20) := by
  refine xmet cX12_slacks "EbbWreckModel" (by decide) rfl (Nat.le_of_ble_eq_true rfl) (fun p e s m below meth c E hr hlk hml hQ ls hl => ?_)
  have hx := E.1
  have hb := E.2.1
  have hs : Sp ad 20 (FA ad 20) := Sp.fa hD
  have hl : lv_has ls 4 [(0, .ref (ad 0)), (1, .int a1)] := hl
  obtain ⟨f1, c2, b3⟩ := invM_7 hI
  obtain ⟨v4, ee5⟩ : ∃ z : Int32, f1 1 = z := ⟨_, rfl⟩
  have b6 : Bd v4 (0) (12) := (by rw [← ee5]; exact b3.2.1 1 (by decide))
  obtain ⟨v7, ee8⟩ : ∃ z : Int32, f1 0 = z := ⟨_, rfl⟩
  have b9 : Bd v7 (0) (12) := (by rw [← ee8]; exact b3.1 0 (by decide))
  obtain ⟨v10, ee11⟩ : ∃ z : Int32, f1 3 = z := ⟨_, rfl⟩
  have b12 : Bd v10 (0) (12) := (by rw [← ee11]; exact b3.2.2.2.1 3 (by decide))
  obtain ⟨v13, ee14⟩ : ∃ z : Int32, f1 6 = z := ⟨_, rfl⟩
  have b15 : Bd v13 (0) (8) := (by rw [← ee14]; exact b3.2.2.2.2.1 6 (by decide))
  obtain ⟨v16, ee17⟩ : ∃ z : Int32, f1 8 = z := ⟨_, rfl⟩
  have b18 : Bd v16 (0) (3) := (by rw [← ee17]; exact b3.2.2.2.2.2.2.1 8 (by decide))
  obtain ⟨f19, c20, b21⟩ := invM_6 hI
  obtain ⟨v22, ee23⟩ : ∃ z : Int32, f19 0 = z := ⟨_, rfl⟩
  have b24 : Bd v22 (0) (40000) := (by rw [← ee23]; exact b21 0)
  have q25 : elm (S 7) 1 = v4.toInt := (elm_of c2 1).trans (congrArg Int32.toInt (ee5))
  have q26 : elm (S 7) 0 = v7.toInt := (elm_of c2 0).trans (congrArg Int32.toInt (ee8))
  have q27 : elm (S 7) 3 = v10.toInt := (elm_of c2 3).trans (congrArg Int32.toInt (ee11))
  have q28 : elm (S 7) 6 = v13.toInt := (elm_of c2 6).trans (congrArg Int32.toInt (ee14))
  have q29 : elm (S 7) 8 = v16.toInt := (elm_of c2 8).trans (congrArg Int32.toInt (ee17))
  have q30 : elm (S 6) 0 = v22.toInt := (elm_of c20 0).trans (congrArg Int32.toInt (ee23))
  refine lv_aload_n hx hb dX12_slacks_0 rfl (lv_at hl 0 rfl) ?_
  refine lv_iconst (v := 0) hx hb dX12_slacks_1 (by decide) ?_
  obtain ⟨v31, v32, v34, v36, v38, v39, w40, v41, v43, v44, v45, v46, v48, v50, v52, v54, v56, v57, v58, c59, b33, b35, b37, b42, b47, b49, b51, b53, b55⟩ := invM_0 hI
  have c59 : S 0 = .inr (12, [.int v31, .ref (ad 1), .ref (ad 2), .ref (ad 3), .ref (ad 4), .ref (ad 5), .int v32, .int v34, .int v36, .int v38, .int v39, .long w40, .int v41, .int v43, .int v44, .int v45, .ref (ad 6), .ref (ad 7), .ref (ad 8), .ref (ad 9), .ref (ad 10), .ref (ad 11), .ref (ad 12), .ref (ad 13), .ref (ad 14), .ref (ad 15), .int v46, .int v48, .ref (ad 16), .int v50, .int v52, .int v54, .int v56, .int v57, .ref (ad 17), .ref (ad 18), .int v58, .ref (ad 19)]) := c59
  refine xputi E hs hQ 0 (by decide) c59 rfl 0 (by decide) q1468 rfl rfl (Nat.le_of_ble_eq_true rfl) dX12_slacks_2 (fun H locs S60 eS60 hQ => ?_)
  have hI := invM_up_0 hI eS60 ⟨0, v32, v34, v36, v38, v39, w40, v41, v43, v44, v45, v46, v48, v50, v52, v54, v56, v57, v58, rfl, b33, b35, b37, b42, b47, b49, b51, b53, b55⟩
  have c61 : S60 0 = .inr (12, [.int 0, .ref (ad 1), .ref (ad 2), .ref (ad 3), .ref (ad 4), .ref (ad 5), .int v32, .int v34, .int v36, .int v38, .int v39, .long w40, .int v41, .int v43, .int v44, .int v45, .ref (ad 6), .ref (ad 7), .ref (ad 8), .ref (ad 9), .ref (ad 10), .ref (ad 11), .ref (ad 12), .ref (ad 13), .ref (ad 14), .ref (ad 15), .int v46, .int v48, .ref (ad 16), .int v50, .int v52, .int v54, .int v56, .int v57, .ref (ad 17), .ref (ad 18), .int v58, .ref (ad 19)]) := up_at eS60 rfl
  refine lv_aload_n hx hb dX12_slacks_5 rfl (lv_at hl 0 rfl) ?_
  have c62 : S60 6 = .inl (g.2 0, 5, .inl f19) := (up_ne eS60 (by decide) c20)
  refine xcVi E hs hQ hml hl.1 0 (gX12_isShore_0 l g ad hD S60 hI ) mX12_isShore q1782 (by decide) c61 rfl rfl ⟨(Nat.le_of_ble_eq_true rfl), (Nat.le_of_ble_eq_true rfl)⟩ ⟨(Nat.le_of_ble_eq_true rfl), (Nat.le_of_ble_eq_true rfl)⟩ (Nat.le_of_ble_eq_true rfl) rfl dX12_slacks_6 (fun r63 S63 H locs hp63 hQ _ => ?_)
  obtain ⟨rfl, b63, g63_0⟩ := hp63
  have q64 : elm (S60 6) 0 = v22.toInt := (elm_of c62 0).trans (congrArg Int32.toInt (ee23))
  refine lv_if_eq (tgt := 24) hx hb dX12_slacks_9 (by decide) (fun k65 => ?_) (fun k65 => ?_)
  · have h66 := ib_eq k65
    have b67 : Bd r63 (0) (0) := ⟨(b63).1, ((rf_eq b63 (by decide : Bd 0 (0) (0)) h66).1).2⟩
    clear g63_0
    refine lv_bipush (v := (-2)) hx hb dX12_slacks_24 (by decide) ?_
    exact xri E hr hlk hQ (⟨hI, (up_o o_refl eS60 (by decide))⟩) dX12_slacks_26
  · have h68 := ib_ne k65
    have b69 : Bd r63 (1) (1) := rf_nlo b63 (by decide : Bd 0 (0) (0)) h68
    have g70 := g63_0.resolve_left (by omega)
    clear g63_0
    have b71 : Bd v22 (1) (40000) := ⟨by omega, (b24).2⟩
    refine lv_iload_n hx hb dX12_slacks_12 rfl (lv_at hl 1 rfl) ?_
    refine lv_i2l hx hb dX12_slacks_13 rfl ?_
    refine lv_topl (fun w72 e73 => ?_)
    have t74 : w72.toInt = a1.toInt := by rw [e73]; exact i2l_i _
    have b75 : BdL w72 (-2147483648) (2147483647) := (by have h1 := ((ib_full a1)).1; have h2 := ((ib_full a1)).2; exact ⟨by omega, by omega⟩)
    refine lv_lconst (v := 0) hx hb dX12_slacks_14 (by decide) ?_
    refine lv_ldc2 (v := 2000000000) hx hb E.2.2.1 (E.2.2.2.1 _ q1786) dX12_slacks_15 ?_
    have q76 : (0 : Int64).toInt = 0 := by decide
    have q77 : (2000000000 : Int64).toInt = 2000000000 := by decide
    refine xcSi E hs hQ hml hl.1 (gX12_in l g ad hD S60 hI w72 0 2000000000) mX12_in q1591 rfl ⟨(Nat.le_of_ble_eq_true rfl), (Nat.le_of_ble_eq_true rfl)⟩ ⟨(Nat.le_of_ble_eq_true rfl), (Nat.le_of_ble_eq_true rfl)⟩ (Nat.le_of_ble_eq_true rfl) rfl dX12_slacks_18 (fun r78 S78 H locs hp78 hQ => ?_)
    obtain ⟨rfl, b78, g78_0, u78_0⟩ := hp78
    refine lv_if_ne (tgt := 27) hx hb dX12_slacks_21 (by decide) (fun k79 => ?_) (fun k79 => ?_)
    · have h80 := ib_ne k79
      have b81 : Bd r78 (1) (1) := rf_nlo b78 (by decide : Bd 0 (0) (0)) h80
      have g82 := g78_0.resolve_left (by omega)
      clear g78_0
      have b83 : BdL w72 (0) (2000000000) := ⟨by omega, by omega⟩
      have b84 : Bd a1 (0) (2000000000) := ⟨by omega, by omega⟩
      refine lv_iload_n hx hb dX12_slacks_27 rfl (lv_at hl 1 rfl) ?_
      refine lv_aload_n hx hb dX12_slacks_28 rfl (lv_at hl 0 rfl) ?_
      have c85 : S60 7 = .inl (g.2 0, 50, .inl f1) := (up_ne eS60 (by decide) c2)
      obtain ⟨v86, ee87⟩ : ∃ z : Int32, f1 2 = z := ⟨_, rfl⟩
      have b88 : Bd v86 (0) (6) := (by rw [← ee87]; exact b3.2.2.1 2 (by decide))
      refine xcVi E hs hQ hml hl.1 0 (gX12_round_0 l g ad hD S60 hI ) mX12_round q1791 (by decide) c61 rfl rfl ⟨(Nat.le_of_ble_eq_true rfl), (Nat.le_of_ble_eq_true rfl)⟩ ⟨(Nat.le_of_ble_eq_true rfl), (Nat.le_of_ble_eq_true rfl)⟩ (Nat.le_of_ble_eq_true rfl) rfl dX12_slacks_29 (fun r89 S89 H locs hp89 hQ _ => ?_)
      obtain ⟨rfl, b89, g89_0, fg89⟩ := hp89
      have q90 : elm (S60 7) 1 = v4.toInt := (elm_of c85 1).trans (congrArg Int32.toInt (ee5))
      have q91 : elm (S60 7) 2 = v86.toInt := (elm_of c85 2).trans (congrArg Int32.toInt (ee87))
      have q92 : elm (S60 7) 3 = v10.toInt := (elm_of c85 3).trans (congrArg Int32.toInt (ee11))
      have b93 : Bd r89 (1) (36) := ⟨by omega, (b89).2⟩
      have b94 : Bd v10 (1) (12) := ⟨by omega, (b12).2⟩
      have b95 : Bd v4 (1) (12) := ⟨by omega, (b6).2⟩
      refine lv_idiv hx hb dX12_slacks_32 (ib_ne0 b93 (by decide)) ?_
      refine lv_topi (fun z96 e97 => ?_)
      have b98 : Bd z96 (0) (2000000000) := ib_divp e97 b84 b93 (by decide) (by decide)
      refine lv_iconst (v := 2) hx hb dX12_slacks_33 (by decide) ?_
      refine lv_imul hx hb dX12_slacks_34 ?_
      refine lv_topi (fun z99 e100 => ?_)
      refine lv_aload_n hx hb dX12_slacks_35 rfl (lv_at hl 0 rfl) ?_
      refine xget E hQ 0 (by decide) c61 rfl 17 (by decide) q1485 rfl dX12_slacks_36 ?_
      refine lv_iconst (v := 2) hx hb dX12_slacks_39 (by decide) ?_
      refine xiald E hQ 7 (by decide) c85 (vp_in_lit 2 50 (by decide)) dX12_slacks_40 ?_
      refine sb_at (P := fun z => W _ _ _ _ _ _ _ _ _ _ _ _ _ _ _ (F0 _ _ _ (.int z :: _))) (show f1 (2 : Int32).toNatClampNeg = v86 from ee87) ?_
      refine lv_imul hx hb dX12_slacks_41 ?_
      refine lv_topi (fun z101 e102 => ?_)
      refine lv_istore_n (lv' := [(2, .int z101), (0, .ref (ad 0)), (1, .int a1)]) hx hb dX12_slacks_42 rfl hl (by decide) rfl (fun ls hl => ?_)
      refine lv_iconst (v := 0) hx hb dX12_slacks_43 (by decide) ?_
      refine lv_istore_n (lv' := [(3, .int 0), (2, .int z101), (0, .ref (ad 0)), (1, .int a1)]) hx hb dX12_slacks_44 rfl hl (by decide) rfl (fun ls hl => ?_)
      have loop45 : ∀ (n : Nat) (H : Heap) (locs : List Loc) (ls : Array Slot) (x45_2 : Int32) (x45_3 : Int32), Bd x45_3 (0) (35) → (-1) * x45_3.toInt + 35 < ((n : Nat) : Int) → Hp g ad 20 S60 (FA ad 20) s.heap H locs → lv_has ls 4 [(3, .int x45_3), (2, .int x45_2), (0, .ref (ad 0)), (1, .int a1)] → W p l e (Rm 2) s m [.ref (ad 0), .int a1].toArray below meth c H locs 0 0 (MQ below (va_Qi (fun _ S' => InvM g ad S' ∧ (∀ j, j ∉ ([0] : List Nat) → S' j = S j)) (QB g ad 20) (FA ad 20)) [.ref (ad 0), .int a1].toArray s 0 0 (FA ad 20)) (F0 m 45 ls []) := by
        intro n
        induction n with
        | zero => intro H locs ls x45_2 x45_3 Bx45_3 hn45_ hQ hl; exfalso; have := (Bx45_3).2; omega
        | succ n45_ ih45 =>
          intro H locs ls x45_2 x45_3 Bx45_3 hn45_ hQ hl
          refine lv_iload_n hx hb dX12_slacks_45 rfl (lv_at hl 0 rfl) ?_
          refine lv_iload_n hx hb dX12_slacks_46 rfl (lv_at hl 3 rfl) ?_
          refine lv_aload_n hx hb dX12_slacks_47 rfl (lv_at hl 2 rfl) ?_
          refine xcVi E hs hQ hml hl.1 0 (gX12_round_0 l g ad hD S60 hI ) mX12_round q1791 (by decide) c61 rfl rfl ⟨(Nat.le_of_ble_eq_true rfl), (Nat.le_of_ble_eq_true rfl)⟩ ⟨(Nat.le_of_ble_eq_true rfl), (Nat.le_of_ble_eq_true rfl)⟩ (Nat.le_of_ble_eq_true rfl) rfl dX12_slacks_48 (fun r103 S103 H locs hp103 hQ _ => ?_)
          obtain ⟨rfl, b103, g103_0, fg103⟩ := hp103
          have b104 : Bd r103 (2) (36) := ⟨by omega, (b103).2⟩
          have t105 : r103.toInt = r89.toInt := by rw [fg103, fg89]
          refine lv_irem hx hb dX12_slacks_51 (ib_ne0 b104 (by decide)) ?_
          refine lv_topi (fun z106 e107 => ?_)
          have b109 : Bd z106 (0) (35) := ib_remp e107 b84 b104 (by decide) (by decide)
          have rx108 := ib_remx e107 b84 b104 (by decide)
          refine lv_icmp_ge (tgt := 78) hx hb dX12_slacks_52 (by decide) (fun k110 => ?_) (fun k110 => ?_)
          · have h111 := ib_le k110
            refine lv_iload_n hx hb dX12_slacks_78 rfl (lv_at hl 1 rfl) ?_
            exact xri E hr hlk hQ (⟨hI, (up_o o_refl eS60 (by decide))⟩) dX12_slacks_79
          · have h112 := ib_nle k110
            have b113 : Bd x45_3 (0) (34) := ⟨(Bx45_3).1, ((rf_lt Bx45_3 b109 h112).1).2⟩
            have b114 : Bd z106 (1) (35) := ⟨((rf_lt Bx45_3 b109 h112).2).1, (b109).2⟩
            refine lv_iload_n hx hb dX12_slacks_55 rfl (lv_at hl 1 rfl) ?_
            refine lv_aload_n hx hb dX12_slacks_56 rfl (lv_at hl 2 rfl) ?_
            refine lv_iload_n hx hb dX12_slacks_57 rfl (lv_at hl 0 rfl) ?_
            refine xcVi E hs hQ hml hl.1 0 (gX12_phaseOf_0 l g ad hD S60 hI x45_3 (by omega)) mX12_phaseOf q1787 (by decide) c61 rfl rfl ⟨(Nat.le_of_ble_eq_true rfl), (Nat.le_of_ble_eq_true rfl)⟩ ⟨(Nat.le_of_ble_eq_true rfl), (Nat.le_of_ble_eq_true rfl)⟩ (Nat.le_of_ble_eq_true rfl) rfl dX12_slacks_58 (fun r115 S115 H locs hp115 hQ _ => ?_)
            obtain ⟨rfl, b115, fg115⟩ := hp115
            refine lv_iconst (v := 1) hx hb dX12_slacks_61 (by decide) ?_
            refine lv_icmp_ne (tgt := 69) hx hb dX12_slacks_62 (by decide) (fun k116 => ?_) (fun k116 => ?_)
            · have h117 := ib_ne k116
              refine lv_iconst (v := 0) hx hb dX12_slacks_69 (by decide) ?_
              refine lv_iadd hx hb dX12_slacks_70 ?_
              refine lv_topi (fun z118 e119 => ?_)
              have t120 := ib_add e119 (ib_full x45_2) (by decide : Bd 0 (0) (0)) (by decide) (by decide)
              have b121 : Bd z118 (-2147483648) (2147483647) := ib_addb t120 (ib_full x45_2) (by decide : Bd 0 (0) (0))
              have t120 : z118.toInt = x45_2.toInt + 0 := fold_add t120 rfl (by decide)
              refine lv_istore_n (lv' := [(2, .int z118), (3, .int x45_3), (0, .ref (ad 0)), (1, .int a1)]) hx hb dX12_slacks_71 rfl hl (by decide) rfl (fun ls hl => ?_)
              obtain ⟨z122, e123⟩ : ∃ z : Int32, z = x45_3 + 1 := ⟨_, rfl⟩
              have t124 := ib_add e123 b113 (by decide : Bd 1 (1) (1)) (by decide) (by decide)
              have b125 : Bd z122 (1) (35) := ib_addb t124 b113 (by decide : Bd 1 (1) (1))
              have t124 : z122.toInt = x45_3.toInt + 1 := fold_add t124 rfl (by decide)
              refine lv_iinc (v := z122) (lv' := [(3, .int z122), (2, .int z118), (0, .ref (ad 0)), (1, .int a1)]) hx hb dX12_slacks_72 hl (k := 1) rfl (by rw [e123]; rfl) (by decide) rfl (fun ls hl => ?_)
              refine lv_goto (tgt := 45) hx hb dX12_slacks_75 (by decide) ?_
              exact ih45 _ _ _ z118 z122 (ib_wk b125 (by decide) (by decide)) (by omega) hQ (lv_sub hl [0, 1, 2, 3] rfl)
            · have h126 := ib_eq k116
              have b127 : Bd r115 (1) (1) := ⟨((rf_eq b115 (by decide : Bd 1 (1) (1)) h126).1).1, ((rf_eq b115 (by decide : Bd 1 (1) (1)) h126).1).2⟩
              refine lv_iconst (v := 1) hx hb dX12_slacks_65 (by decide) ?_
              refine lv_goto (tgt := 70) hx hb dX12_slacks_66 (by decide) ?_
              refine lv_iadd hx hb dX12_slacks_70 ?_
              refine lv_topi (fun z128 e129 => ?_)
              refine lv_istore_n (lv' := [(2, .int z128), (3, .int x45_3), (0, .ref (ad 0)), (1, .int a1)]) hx hb dX12_slacks_71 rfl hl (by decide) rfl (fun ls hl => ?_)
              obtain ⟨z130, e131⟩ : ∃ z : Int32, z = x45_3 + 1 := ⟨_, rfl⟩
              have t132 := ib_add e131 b113 (by decide : Bd 1 (1) (1)) (by decide) (by decide)
              have b133 : Bd z130 (1) (35) := ib_addb t132 b113 (by decide : Bd 1 (1) (1))
              have t132 : z130.toInt = x45_3.toInt + 1 := fold_add t132 rfl (by decide)
              refine lv_iinc (v := z130) (lv' := [(3, .int z130), (2, .int z128), (0, .ref (ad 0)), (1, .int a1)]) hx hb dX12_slacks_72 hl (k := 1) rfl (by rw [e131]; rfl) (by decide) rfl (fun ls hl => ?_)
              refine lv_goto (tgt := 45) hx hb dX12_slacks_75 (by decide) ?_
              exact ih45 _ _ _ z128 z130 (ib_wk b133 (by decide) (by decide)) (by omega) hQ (lv_sub hl [0, 1, 2, 3] rfl)
      obtain ⟨n45, hn45⟩ := fu_n (35)
      exact loop45 n45 _ _ _ z101 0 (ib_wk (by decide : Bd 0 (0) (0)) (by decide) (by decide)) (by have : (0 : Int32).toInt = 0 := (by decide); omega) hQ (lv_sub hl [0, 1, 2, 3] rfl)
    · have h134 := ib_eq k79
      have b135 : Bd r78 (0) (0) := ⟨(b78).1, ((rf_eq b78 (by decide : Bd 0 (0) (0)) h134).1).2⟩
      clear g78_0
      refine lv_bipush (v := (-2)) hx hb dX12_slacks_24 (by decide) ?_
      exact xri E hr hlk hQ (⟨hI, (up_o o_refl eS60 (by decide))⟩) dX12_slacks_26
set_option maxHeartbeats 4000000 in
set_option maxRecDepth 100000 in
theorem gX12_eddy_0 (l : Launch) (g : GG) (ad : Nat → Nat) (hD : Dj ad 20) (S : SS) (hI : InvM g ad S) (a1 : Int32) (hq1 : 0 ≤ 12 * elm (S 7) 1 + (-1) * elm (S 7) 0) (hq2 : 0 ≤ 12 * elm (S 7) 3 + (-1) * elm (S 7) 0) (hq3 : 0 ≤ 8 * elm (S 7) 0 + (-1) * elm (S 7) 6) (hq4 : 0 ≤ 3 * elm (S 7) 0 + (-1) * elm (S 7) 8) (hq5 : 0 ≤ 40000 * elm (S 7) 0 + (-1) * elm (S 6) 0) : Met l yX12_eddy (wG (.code yX12_eddy cX12_eddy 4 (some .int))) (Rm 4) (XPre g ad 20 S [.ref (ad 0), .int a1]) (va_Qi (fun r S' => InvM g ad S' ∧ (∀ j, j ∉ ([0] : List Nat) → S' j = S j) ∧ Bd r (-2) (13)) (QB g ad 20) (FA ad 20)) 0 0 (FA ad 20) := by
  refine xmet cX12_eddy "EbbWreckModel" (by decide) rfl (Nat.le_of_ble_eq_true rfl) (fun p e s m below meth c E hr hlk hml hQ ls hl => ?_)
  have hx := E.1
  have hb := E.2.1
  have hs : Sp ad 20 (FA ad 20) := Sp.fa hD
  have hl : lv_has ls 4 [(0, .ref (ad 0)), (1, .int a1)] := hl
  obtain ⟨f1, c2, b3⟩ := invM_7 hI
  obtain ⟨v4, ee5⟩ : ∃ z : Int32, f1 1 = z := ⟨_, rfl⟩
  have b6 : Bd v4 (0) (12) := (by rw [← ee5]; exact b3.2.1 1 (by decide))
  obtain ⟨v7, ee8⟩ : ∃ z : Int32, f1 0 = z := ⟨_, rfl⟩
  have b9 : Bd v7 (0) (12) := (by rw [← ee8]; exact b3.1 0 (by decide))
  obtain ⟨v10, ee11⟩ : ∃ z : Int32, f1 3 = z := ⟨_, rfl⟩
  have b12 : Bd v10 (0) (12) := (by rw [← ee11]; exact b3.2.2.2.1 3 (by decide))
  obtain ⟨v13, ee14⟩ : ∃ z : Int32, f1 6 = z := ⟨_, rfl⟩
  have b15 : Bd v13 (0) (8) := (by rw [← ee14]; exact b3.2.2.2.2.1 6 (by decide))
  obtain ⟨v16, ee17⟩ : ∃ z : Int32, f1 8 = z := ⟨_, rfl⟩
  have b18 : Bd v16 (0) (3) := (by rw [← ee17]; exact b3.2.2.2.2.2.2.1 8 (by decide))
  obtain ⟨f19, c20, b21⟩ := invM_6 hI
  obtain ⟨v22, ee23⟩ : ∃ z : Int32, f19 0 = z := ⟨_, rfl⟩
  have b24 : Bd v22 (0) (40000) := (by rw [← ee23]; exact b21 0)
  have q25 : elm (S 7) 1 = v4.toInt := (elm_of c2 1).trans (congrArg Int32.toInt (ee5))
  have q26 : elm (S 7) 0 = v7.toInt := (elm_of c2 0).trans (congrArg Int32.toInt (ee8))
  have q27 : elm (S 7) 3 = v10.toInt := (elm_of c2 3).trans (congrArg Int32.toInt (ee11))
  have q28 : elm (S 7) 6 = v13.toInt := (elm_of c2 6).trans (congrArg Int32.toInt (ee14))
  have q29 : elm (S 7) 8 = v16.toInt := (elm_of c2 8).trans (congrArg Int32.toInt (ee17))
  have q30 : elm (S 6) 0 = v22.toInt := (elm_of c20 0).trans (congrArg Int32.toInt (ee23))
  refine lv_aload_n hx hb dX12_eddy_0 rfl (lv_at hl 0 rfl) ?_
  refine lv_iconst (v := 0) hx hb dX12_eddy_1 (by decide) ?_
  obtain ⟨v31, v32, v34, v36, v38, v39, w40, v41, v43, v44, v45, v46, v48, v50, v52, v54, v56, v57, v58, c59, b33, b35, b37, b42, b47, b49, b51, b53, b55⟩ := invM_0 hI
  have c59 : S 0 = .inr (12, [.int v31, .ref (ad 1), .ref (ad 2), .ref (ad 3), .ref (ad 4), .ref (ad 5), .int v32, .int v34, .int v36, .int v38, .int v39, .long w40, .int v41, .int v43, .int v44, .int v45, .ref (ad 6), .ref (ad 7), .ref (ad 8), .ref (ad 9), .ref (ad 10), .ref (ad 11), .ref (ad 12), .ref (ad 13), .ref (ad 14), .ref (ad 15), .int v46, .int v48, .ref (ad 16), .int v50, .int v52, .int v54, .int v56, .int v57, .ref (ad 17), .ref (ad 18), .int v58, .ref (ad 19)]) := c59
  refine xputi E hs hQ 0 (by decide) c59 rfl 0 (by decide) q1468 rfl rfl (Nat.le_of_ble_eq_true rfl) dX12_eddy_2 (fun H locs S60 eS60 hQ => ?_)
  have hI := invM_up_0 hI eS60 ⟨0, v32, v34, v36, v38, v39, w40, v41, v43, v44, v45, v46, v48, v50, v52, v54, v56, v57, v58, rfl, b33, b35, b37, b42, b47, b49, b51, b53, b55⟩
  have c61 : S60 0 = .inr (12, [.int 0, .ref (ad 1), .ref (ad 2), .ref (ad 3), .ref (ad 4), .ref (ad 5), .int v32, .int v34, .int v36, .int v38, .int v39, .long w40, .int v41, .int v43, .int v44, .int v45, .ref (ad 6), .ref (ad 7), .ref (ad 8), .ref (ad 9), .ref (ad 10), .ref (ad 11), .ref (ad 12), .ref (ad 13), .ref (ad 14), .ref (ad 15), .int v46, .int v48, .ref (ad 16), .int v50, .int v52, .int v54, .int v56, .int v57, .ref (ad 17), .ref (ad 18), .int v58, .ref (ad 19)]) := up_at eS60 rfl
  refine lv_aload_n hx hb dX12_eddy_5 rfl (lv_at hl 0 rfl) ?_
  refine lv_iload_n hx hb dX12_eddy_6 rfl (lv_at hl 1 rfl) ?_
  refine lv_i2l hx hb dX12_eddy_7 rfl ?_
  refine lv_topl (fun w62 e63 => ?_)
  have t64 : w62.toInt = a1.toInt := by rw [e63]; exact i2l_i _
  have b65 : BdL w62 (-2147483648) (2147483647) := (by have h1 := ((ib_full a1)).1; have h2 := ((ib_full a1)).2; exact ⟨by omega, by omega⟩)
  have c66 : S60 7 = .inl (g.2 0, 50, .inl f1) := (up_ne eS60 (by decide) c2)
  refine xcVi E hs hQ hml hl.1 0 (gX12_isCell_0 l g ad hD S60 hI w62) mX12_isCell q1750 (by decide) c61 rfl rfl ⟨(Nat.le_of_ble_eq_true rfl), (Nat.le_of_ble_eq_true rfl)⟩ ⟨(Nat.le_of_ble_eq_true rfl), (Nat.le_of_ble_eq_true rfl)⟩ (Nat.le_of_ble_eq_true rfl) rfl dX12_eddy_8 (fun r67 S67 H locs hp67 hQ _ => ?_)
  obtain ⟨rfl, b67, g67_0⟩ := hp67
  have q68 : elm (S60 7) 0 = v7.toInt := (elm_of c66 0).trans (congrArg Int32.toInt (ee8))
  refine lv_if_ne (tgt := 17) hx hb dX12_eddy_11 (by decide) (fun k69 => ?_) (fun k69 => ?_)
  · have h70 := ib_ne k69
    have b71 : Bd r67 (1) (1) := rf_nlo b67 (by decide : Bd 0 (0) (0)) h70
    have g72 := g67_0.resolve_left (by omega)
    clear g67_0
    have b73 : BdL w62 (0) (11) := ⟨by omega, by omega⟩
    have b74 : Bd v7 (1) (12) := ⟨by omega, (b9).2⟩
    have b75 : Bd a1 (0) (11) := ⟨by omega, by omega⟩
    refine lv_iconst (v := 1) hx hb dX12_eddy_17 (by decide) ?_
    refine lv_iload_n hx hb dX12_eddy_18 rfl (lv_at hl 1 rfl) ?_
    refine lv_ishl hx hb dX12_eddy_19 ?_
    refine lv_topi (fun z76 e77 => ?_)
    refine lv_istore_n (lv' := [(2, .int z76), (0, .ref (ad 0)), (1, .int a1)]) hx hb dX12_eddy_20 rfl hl (by decide) rfl (fun ls hl => ?_)
    refine lv_iconst (v := 1) hx hb dX12_eddy_21 (by decide) ?_
    refine lv_istore_n (lv' := [(3, .int 1), (2, .int z76), (0, .ref (ad 0)), (1, .int a1)]) hx hb dX12_eddy_22 rfl hl (by decide) rfl (fun ls hl => ?_)
    have loop23 : ∀ (n : Nat) (S_23 : SS) (H : Heap) (locs : List Loc) (ls : Array Slot) (x23_2 : Int32) (x23_3 : Int32) (y23_0_0 : Int32) (y23_0_6 : Int32) (y23_0_7 : Int32) (y23_0_8 : Int32) (y23_0_9 : Int32) (y23_0_10 : Int32) (wy23_0_11 : Int64) (y23_0_12 : Int32) (y23_0_13 : Int32) (y23_0_14 : Int32) (y23_0_15 : Int32) (y23_0_26 : Int32) (y23_0_27 : Int32) (y23_0_29 : Int32) (y23_0_30 : Int32) (y23_0_31 : Int32) (y23_0_32 : Int32) (y23_0_33 : Int32) (y23_0_36 : Int32), Bd x23_3 (1) (20) → Bd y23_0_6 (0) (1200) → Bd y23_0_7 (0) (1200) → Bd y23_0_8 (0) (4) → Bd y23_0_12 (0) (3) → Bd y23_0_26 (0) (11) → Bd y23_0_27 (-1) (400) → Bd y23_0_29 (0) (2) → Bd y23_0_30 (0) (11) → Bd y23_0_31 (-1) (468) → (-1) * x23_3.toInt + 20 < ((n : Nat) : Int) → InvM g ad S_23 → (∀ j, j ∉ ([0] : List Nat) → S_23 j = S60 j) → S_23 0 = .inr (12, [.int y23_0_0, .ref (ad 1), .ref (ad 2), .ref (ad 3), .ref (ad 4), .ref (ad 5), .int y23_0_6, .int y23_0_7, .int y23_0_8, .int y23_0_9, .int y23_0_10, .long wy23_0_11, .int y23_0_12, .int y23_0_13, .int y23_0_14, .int y23_0_15, .ref (ad 6), .ref (ad 7), .ref (ad 8), .ref (ad 9), .ref (ad 10), .ref (ad 11), .ref (ad 12), .ref (ad 13), .ref (ad 14), .ref (ad 15), .int y23_0_26, .int y23_0_27, .ref (ad 16), .int y23_0_29, .int y23_0_30, .int y23_0_31, .int y23_0_32, .int y23_0_33, .ref (ad 17), .ref (ad 18), .int y23_0_36, .ref (ad 19)]) → Hp g ad 20 S_23 (FA ad 20) s.heap H locs → lv_has ls 4 [(3, .int x23_3), (2, .int x23_2), (0, .ref (ad 0)), (1, .int a1)] → W p l e (Rm 4) s m [.ref (ad 0), .int a1].toArray below meth c H locs 0 0 (MQ below (va_Qi (fun r S' => InvM g ad S' ∧ (∀ j, j ∉ ([0] : List Nat) → S' j = S j) ∧ Bd r (-2) (13)) (QB g ad 20) (FA ad 20)) [.ref (ad 0), .int a1].toArray s 0 0 (FA ad 20)) (F0 m 23 ls []) := by
      intro n
      induction n with
      | zero => intro S_23 H locs ls x23_2 x23_3 y23_0_0 y23_0_6 y23_0_7 y23_0_8 y23_0_9 y23_0_10 wy23_0_11 y23_0_12 y23_0_13 y23_0_14 y23_0_15 y23_0_26 y23_0_27 y23_0_29 y23_0_30 y23_0_31 y23_0_32 y23_0_33 y23_0_36 Bx23_3 By23_0_6 By23_0_7 By23_0_8 By23_0_12 By23_0_26 By23_0_27 By23_0_29 By23_0_30 By23_0_31 hn23_ hI hf23 cl23_0 hQ hl; exfalso; have := (Bx23_3).2; omega
      | succ n23_ ih23 =>
        intro S_23 H locs ls x23_2 x23_3 y23_0_0 y23_0_6 y23_0_7 y23_0_8 y23_0_9 y23_0_10 wy23_0_11 y23_0_12 y23_0_13 y23_0_14 y23_0_15 y23_0_26 y23_0_27 y23_0_29 y23_0_30 y23_0_31 y23_0_32 y23_0_33 y23_0_36 Bx23_3 By23_0_6 By23_0_7 By23_0_8 By23_0_12 By23_0_26 By23_0_27 By23_0_29 By23_0_30 By23_0_31 hn23_ hI hf23 cl23_0 hQ hl
        refine lv_iload_n hx hb dX12_eddy_23 rfl (lv_at hl 0 rfl) ?_
        refine lv_bipush (v := 13) hx hb dX12_eddy_24 (by decide) ?_
        refine lv_icmp_gt (tgt := 79) hx hb dX12_eddy_26 (by decide) (fun k78 => ?_) (fun k78 => ?_)
        · have h79 := ib_lt k78
          have b80 : Bd x23_3 (14) (20) := ⟨((rf_lt (by decide : Bd 13 (13) (13)) Bx23_3 h79).2).1, (Bx23_3).2⟩
          refine lv_iconst (v := (-1)) hx hb dX12_eddy_79 (by decide) ?_
          exact xri E hr hlk hQ (⟨hI, (o_trans (up_o o_refl eS60 (by decide)) hf23 (by decide)), (ib_wk (by decide : Bd (-1) (-1) (-1)) (by decide) (by decide))⟩) dX12_eddy_80
        · have h81 := ib_nlt k78
          have b82 : Bd x23_3 (1) (13) := ⟨(Bx23_3).1, ((rf_le Bx23_3 (by decide : Bd 13 (13) (13)) h81).1).2⟩
          refine lv_aload_n hx hb dX12_eddy_29 rfl (lv_at hl 2 rfl) ?_
          refine lv_iload_n hx hb dX12_eddy_30 rfl (lv_at hl 3 rfl) ?_
          refine lv_iconst (v := 0) hx hb dX12_eddy_31 (by decide) ?_
          refine lv_iload_n hx hb dX12_eddy_32 rfl (lv_at hl 0 rfl) ?_
          refine lv_aload_n hx hb dX12_eddy_33 rfl (lv_at hl 2 rfl) ?_
          have c83 : S_23 7 = .inl (g.2 0, 50, .inl f1) := ((hf23 7 (by decide)).trans c66)
          obtain ⟨v84, ee85⟩ : ∃ z : Int32, f1 2 = z := ⟨_, rfl⟩
          have b86 : Bd v84 (0) (6) := (by rw [← ee85]; exact b3.2.2.1 2 (by decide))
          refine xcVi E hs hQ hml hl.1 0 (gX12_round_0 l g ad hD S_23 hI ) mX12_round q1791 (by decide) cl23_0 rfl rfl ⟨(Nat.le_of_ble_eq_true rfl), (Nat.le_of_ble_eq_true rfl)⟩ ⟨(Nat.le_of_ble_eq_true rfl), (Nat.le_of_ble_eq_true rfl)⟩ (Nat.le_of_ble_eq_true rfl) rfl dX12_eddy_34 (fun r87 S87 H locs hp87 hQ _ => ?_)
          obtain ⟨rfl, b87, g87_0, fg87⟩ := hp87
          have q88 : elm (S_23 7) 1 = v4.toInt := (elm_of c83 1).trans (congrArg Int32.toInt (ee5))
          have q89 : elm (S_23 7) 2 = v84.toInt := (elm_of c83 2).trans (congrArg Int32.toInt (ee85))
          have q90 : elm (S_23 7) 3 = v10.toInt := (elm_of c83 3).trans (congrArg Int32.toInt (ee11))
          have b91 : Bd r87 (1) (36) := ⟨by omega, (b87).2⟩
          have b92 : Bd v10 (1) (12) := ⟨by omega, (b12).2⟩
          have b93 : Bd v4 (1) (12) := ⟨by omega, (b6).2⟩
          refine lv_imul hx hb dX12_eddy_37 ?_
          refine lv_topi (fun z94 e95 => ?_)
          have b96 : Bd z94 (1) (468) := ib_mulv e95 b82 b91 (by decide) (by decide) (by decide)
          have q97 : elm (S_23 7) 0 = v7.toInt := (elm_of c83 0).trans (congrArg Int32.toInt (ee8))
          refine xcVv E hs hQ hml hl.1 0 (gX12_floatsFrom_0 l g ad hD S_23 hI a1 0 z94 b75 (ib_wk (by decide : Bd 0 (0) (0)) (by decide) (by decide)) (ib_wk b96 (by decide) (by decide)) (by omega) (by omega)) mX12_floatsFrom q1986 (by decide) cl23_0 rfl rfl ⟨(Nat.le_of_ble_eq_true rfl), (Nat.le_of_ble_eq_true rfl)⟩ ⟨(Nat.le_of_ble_eq_true rfl), (Nat.le_of_ble_eq_true rfl)⟩ (Nat.le_of_ble_eq_true rfl) rfl dX12_eddy_38 (fun S98 H locs hp98 hQ _ => ?_)
          obtain ⟨hI, o98⟩ := hp98
          refine lv_aload_n hx hb dX12_eddy_41 rfl (lv_at hl 2 rfl) ?_
          obtain ⟨v99, v100, v102, v104, v106, v107, w108, v109, v111, v112, v113, v114, v116, v118, v120, v122, v124, v125, v126, c127, b101, b103, b105, b110, b115, b117, b119, b121, b123⟩ := invM_0 hI
          have c127 : S98 0 = .inr (12, [.int v99, .ref (ad 1), .ref (ad 2), .ref (ad 3), .ref (ad 4), .ref (ad 5), .int v100, .int v102, .int v104, .int v106, .int v107, .long w108, .int v109, .int v111, .int v112, .int v113, .ref (ad 6), .ref (ad 7), .ref (ad 8), .ref (ad 9), .ref (ad 10), .ref (ad 11), .ref (ad 12), .ref (ad 13), .ref (ad 14), .ref (ad 15), .int v114, .int v116, .ref (ad 16), .int v118, .int v120, .int v122, .int v124, .int v125, .ref (ad 17), .ref (ad 18), .int v126, .ref (ad 19)]) := c127
          refine xget E hQ 0 (by decide) c127 rfl 31 (by decide) q1499 rfl dX12_eddy_42 ?_
          refine lv_iconst (v := (-1)) hx hb dX12_eddy_45 (by decide) ?_
          refine lv_icmp_eq (tgt := 51) hx hb dX12_eddy_46 (by decide) (fun k128 => ?_) (fun k128 => ?_)
          · have h129 := ib_eq k128
            have b130 : Bd v122 (-1) (-1) := ⟨(b123).1, ((rf_eq b123 (by decide : Bd (-1) (-1) (-1)) h129).1).2⟩
            refine lv_iload_n hx hb dX12_eddy_51 rfl (lv_at hl 1 rfl) ?_
            refine lv_aload_n hx hb dX12_eddy_52 rfl (lv_at hl 2 rfl) ?_
            refine xget E hQ 0 (by decide) c127 rfl 30 (by decide) q1498 rfl dX12_eddy_53 ?_
            refine xcSi E hs hQ hml hl.1 (gX12_isBit l g ad hD S98 hI x23_2 v120) mX12_isBit q1759 rfl ⟨(Nat.le_of_ble_eq_true rfl), (Nat.le_of_ble_eq_true rfl)⟩ ⟨(Nat.le_of_ble_eq_true rfl), (Nat.le_of_ble_eq_true rfl)⟩ (Nat.le_of_ble_eq_true rfl) rfl dX12_eddy_56 (fun r131 S131 H locs hp131 hQ => ?_)
            obtain ⟨rfl, b131, fg131⟩ := hp131
            refine lv_if_eq (tgt := 64) hx hb dX12_eddy_59 (by decide) (fun k132 => ?_) (fun k132 => ?_)
            · have h133 := ib_eq k132
              have b134 : Bd r131 (0) (0) := ⟨(b131).1, ((rf_eq b131 (by decide : Bd 0 (0) (0)) h133).1).2⟩
              refine lv_iload_n hx hb dX12_eddy_64 rfl (lv_at hl 1 rfl) ?_
              refine lv_iconst (v := 1) hx hb dX12_eddy_65 (by decide) ?_
              refine lv_aload_n hx hb dX12_eddy_66 rfl (lv_at hl 2 rfl) ?_
              refine xget E hQ 0 (by decide) c127 rfl 30 (by decide) q1498 rfl dX12_eddy_67 ?_
              refine lv_ishl hx hb dX12_eddy_70 ?_
              refine lv_topi (fun z135 e136 => ?_)
              refine lv_ior hx hb dX12_eddy_71 ?_
              refine lv_topi (fun z137 e138 => ?_)
              refine lv_istore_n (lv' := [(2, .int z137), (3, .int x23_3), (0, .ref (ad 0)), (1, .int a1)]) hx hb dX12_eddy_72 rfl hl (by decide) rfl (fun ls hl => ?_)
              obtain ⟨z139, e140⟩ : ∃ z : Int32, z = x23_3 + 1 := ⟨_, rfl⟩
              have t141 := ib_add e140 b82 (by decide : Bd 1 (1) (1)) (by decide) (by decide)
              have b142 : Bd z139 (2) (14) := ib_addb t141 b82 (by decide : Bd 1 (1) (1))
              have t141 : z139.toInt = x23_3.toInt + 1 := fold_add t141 rfl (by decide)
              refine lv_iinc (v := z139) (lv' := [(3, .int z139), (2, .int z137), (0, .ref (ad 0)), (1, .int a1)]) hx hb dX12_eddy_73 hl (k := 1) rfl (by rw [e140]; rfl) (by decide) rfl (fun ls hl => ?_)
              refine lv_goto (tgt := 23) hx hb dX12_eddy_76 (by decide) ?_
              exact ih23 _ _ _ _ z137 z139 v99 v100 v102 v104 v106 v107 w108 v109 v111 v112 v113 v114 v116 v118 v120 v122 v124 v125 v126 (ib_wk b142 (by decide) (by decide)) b101 b103 b105 b110 b115 b117 b119 b121 (ib_wk b130 (by decide) (by decide)) (by omega) hI (o_trans hf23 o98 (by decide)) c127 hQ (lv_sub hl [0, 1, 2, 3] rfl)
            · have h143 := ib_ne k132
              have b144 : Bd r131 (1) (1) := rf_nlo b131 (by decide : Bd 0 (0) (0)) h143
              refine lv_iload_n hx hb dX12_eddy_62 rfl (lv_at hl 0 rfl) ?_
              exact xri E hr hlk hQ (⟨hI, (o_trans (o_trans (up_o o_refl eS60 (by decide)) hf23 (by decide)) o98 (by decide)), (ib_wk b82 (by decide) (by decide))⟩) dX12_eddy_63
          · have h145 := ib_ne k128
            have b146 : Bd v122 (0) (468) := rf_nlo b123 (by decide : Bd (-1) (-1) (-1)) h145
            refine lv_iconst (v := (-1)) hx hb dX12_eddy_49 (by decide) ?_
            exact xri E hr hlk hQ (⟨hI, (o_trans (o_trans (up_o o_refl eS60 (by decide)) hf23 (by decide)) o98 (by decide)), (ib_wk (by decide : Bd (-1) (-1) (-1)) (by decide) (by decide))⟩) dX12_eddy_50
    obtain ⟨n23, hn23⟩ := fu_n (19)
    exact loop23 n23 _ _ _ _ z76 1 0 v32 v34 v36 v38 v39 w40 v41 v43 v44 v45 v46 v48 v50 v52 v54 v56 v57 v58 (ib_wk (by decide : Bd 1 (1) (1)) (by decide) (by decide)) b33 b35 b37 b42 b47 b49 b51 b53 b55 (by have : (1 : Int32).toInt = 1 := (by decide); have : (0 : Int32).toInt = 0 := (by decide); omega) hI o_refl c61 hQ (lv_sub hl [0, 1, 2, 3] rfl)
  · have h147 := ib_eq k69
    have b148 : Bd r67 (0) (0) := ⟨(b67).1, ((rf_eq b67 (by decide : Bd 0 (0) (0)) h147).1).2⟩
    clear g67_0
    refine lv_bipush (v := (-2)) hx hb dX12_eddy_14 (by decide) ?_
    exact xri E hr hlk hQ (⟨hI, (up_o o_refl eS60 (by decide)), (ib_wk (by decide : Bd (-2) (-2) (-2)) (by decide) (by decide))⟩) dX12_eddy_16
set_option maxHeartbeats 4000000 in
set_option maxRecDepth 100000 in
theorem gX12_stuck_0 (l : Launch) (g : GG) (ad : Nat → Nat) (hD : Dj ad 20) (S : SS) (hI : InvM g ad S) (hq1 : 0 ≤ 12 * elm (S 7) 1 + (-1) * elm (S 7) 0) (hq2 : 0 ≤ 12 * elm (S 7) 3 + (-1) * elm (S 7) 0) (hq3 : 0 ≤ 8 * elm (S 7) 0 + (-1) * elm (S 7) 6) (hq4 : 0 ≤ 3 * elm (S 7) 0 + (-1) * elm (S 7) 8) (hq5 : 0 ≤ 40000 * elm (S 7) 0 + (-1) * elm (S 6) 0) : Met l yX12_stuck (wG (.code yX12_stuck cX12_stuck 3 (some .int))) (Rm 4) (XPre g ad 20 S [.ref (ad 0)]) (va_Qi (fun _ S' => InvM g ad S' ∧ (∀ j, j ∉ ([0] : List Nat) → S' j = S j)) (QB g ad 20) (FA ad 20)) 0 0 (FA ad 20) := by
  refine xmet cX12_stuck "EbbWreckModel" (by decide) rfl (Nat.le_of_ble_eq_true rfl) (fun p e s m below meth c E hr hlk hml hQ ls hl => ?_)
  have hx := E.1
  have hb := E.2.1
  have hs : Sp ad 20 (FA ad 20) := Sp.fa hD
  have hl : lv_has ls 3 [(0, .ref (ad 0))] := hl
  obtain ⟨f1, c2, b3⟩ := invM_7 hI
  obtain ⟨v4, ee5⟩ : ∃ z : Int32, f1 1 = z := ⟨_, rfl⟩
  have b6 : Bd v4 (0) (12) := (by rw [← ee5]; exact b3.2.1 1 (by decide))
  obtain ⟨v7, ee8⟩ : ∃ z : Int32, f1 0 = z := ⟨_, rfl⟩
  have b9 : Bd v7 (0) (12) := (by rw [← ee8]; exact b3.1 0 (by decide))
  obtain ⟨v10, ee11⟩ : ∃ z : Int32, f1 3 = z := ⟨_, rfl⟩
  have b12 : Bd v10 (0) (12) := (by rw [← ee11]; exact b3.2.2.2.1 3 (by decide))
  obtain ⟨v13, ee14⟩ : ∃ z : Int32, f1 6 = z := ⟨_, rfl⟩
  have b15 : Bd v13 (0) (8) := (by rw [← ee14]; exact b3.2.2.2.2.1 6 (by decide))
  obtain ⟨v16, ee17⟩ : ∃ z : Int32, f1 8 = z := ⟨_, rfl⟩
  have b18 : Bd v16 (0) (3) := (by rw [← ee17]; exact b3.2.2.2.2.2.2.1 8 (by decide))
  obtain ⟨f19, c20, b21⟩ := invM_6 hI
  obtain ⟨v22, ee23⟩ : ∃ z : Int32, f19 0 = z := ⟨_, rfl⟩
  have b24 : Bd v22 (0) (40000) := (by rw [← ee23]; exact b21 0)
  have q25 : elm (S 7) 1 = v4.toInt := (elm_of c2 1).trans (congrArg Int32.toInt (ee5))
  have q26 : elm (S 7) 0 = v7.toInt := (elm_of c2 0).trans (congrArg Int32.toInt (ee8))
  have q27 : elm (S 7) 3 = v10.toInt := (elm_of c2 3).trans (congrArg Int32.toInt (ee11))
  have q28 : elm (S 7) 6 = v13.toInt := (elm_of c2 6).trans (congrArg Int32.toInt (ee14))
  have q29 : elm (S 7) 8 = v16.toInt := (elm_of c2 8).trans (congrArg Int32.toInt (ee17))
  have q30 : elm (S 6) 0 = v22.toInt := (elm_of c20 0).trans (congrArg Int32.toInt (ee23))
  refine lv_aload_n hx hb dX12_stuck_0 rfl (lv_at hl 0 rfl) ?_
  refine lv_iconst (v := 0) hx hb dX12_stuck_1 (by decide) ?_
  obtain ⟨v31, v32, v34, v36, v38, v39, w40, v41, v43, v44, v45, v46, v48, v50, v52, v54, v56, v57, v58, c59, b33, b35, b37, b42, b47, b49, b51, b53, b55⟩ := invM_0 hI
  have c59 : S 0 = .inr (12, [.int v31, .ref (ad 1), .ref (ad 2), .ref (ad 3), .ref (ad 4), .ref (ad 5), .int v32, .int v34, .int v36, .int v38, .int v39, .long w40, .int v41, .int v43, .int v44, .int v45, .ref (ad 6), .ref (ad 7), .ref (ad 8), .ref (ad 9), .ref (ad 10), .ref (ad 11), .ref (ad 12), .ref (ad 13), .ref (ad 14), .ref (ad 15), .int v46, .int v48, .ref (ad 16), .int v50, .int v52, .int v54, .int v56, .int v57, .ref (ad 17), .ref (ad 18), .int v58, .ref (ad 19)]) := c59
  refine xputi E hs hQ 0 (by decide) c59 rfl 0 (by decide) q1468 rfl rfl (Nat.le_of_ble_eq_true rfl) dX12_stuck_2 (fun H locs S60 eS60 hQ => ?_)
  have hI := invM_up_0 hI eS60 ⟨0, v32, v34, v36, v38, v39, w40, v41, v43, v44, v45, v46, v48, v50, v52, v54, v56, v57, v58, rfl, b33, b35, b37, b42, b47, b49, b51, b53, b55⟩
  have c61 : S60 0 = .inr (12, [.int 0, .ref (ad 1), .ref (ad 2), .ref (ad 3), .ref (ad 4), .ref (ad 5), .int v32, .int v34, .int v36, .int v38, .int v39, .long w40, .int v41, .int v43, .int v44, .int v45, .ref (ad 6), .ref (ad 7), .ref (ad 8), .ref (ad 9), .ref (ad 10), .ref (ad 11), .ref (ad 12), .ref (ad 13), .ref (ad 14), .ref (ad 15), .int v46, .int v48, .ref (ad 16), .int v50, .int v52, .int v54, .int v56, .int v57, .ref (ad 17), .ref (ad 18), .int v58, .ref (ad 19)]) := up_at eS60 rfl
  refine lv_aload_n hx hb dX12_stuck_5 rfl (lv_at hl 0 rfl) ?_
  have c62 : S60 6 = .inl (g.2 0, 5, .inl f19) := (up_ne eS60 (by decide) c20)
  refine xcVi E hs hQ hml hl.1 0 (gX12_isShore_0 l g ad hD S60 hI ) mX12_isShore q1782 (by decide) c61 rfl rfl ⟨(Nat.le_of_ble_eq_true rfl), (Nat.le_of_ble_eq_true rfl)⟩ ⟨(Nat.le_of_ble_eq_true rfl), (Nat.le_of_ble_eq_true rfl)⟩ (Nat.le_of_ble_eq_true rfl) rfl dX12_stuck_6 (fun r63 S63 H locs hp63 hQ _ => ?_)
  obtain ⟨rfl, b63, g63_0⟩ := hp63
  have q64 : elm (S60 6) 0 = v22.toInt := (elm_of c62 0).trans (congrArg Int32.toInt (ee23))
  refine lv_if_ne (tgt := 15) hx hb dX12_stuck_9 (by decide) (fun k65 => ?_) (fun k65 => ?_)
  · have h66 := ib_ne k65
    have b67 : Bd r63 (1) (1) := rf_nlo b63 (by decide : Bd 0 (0) (0)) h66
    have g68 := g63_0.resolve_left (by omega)
    clear g63_0
    have b69 : Bd v22 (1) (40000) := ⟨by omega, (b24).2⟩
    refine lv_iconst (v := 0) hx hb dX12_stuck_15 (by decide) ?_
    refine lv_istore_n (lv' := [(1, .int 0), (0, .ref (ad 0))]) hx hb dX12_stuck_16 rfl hl (by decide) rfl (fun ls hl => ?_)
    refine lv_iconst (v := 0) hx hb dX12_stuck_17 (by decide) ?_
    refine lv_istore_n (lv' := [(2, .int 0), (1, .int 0), (0, .ref (ad 0))]) hx hb dX12_stuck_18 rfl hl (by decide) rfl (fun ls hl => ?_)
    have loop19 : ∀ (n : Nat) (S_19 : SS) (H : Heap) (locs : List Loc) (ls : Array Slot) (x19_1 : Int32) (x19_2 : Int32) (y19_0_0 : Int32) (y19_0_6 : Int32) (y19_0_7 : Int32) (y19_0_8 : Int32) (y19_0_9 : Int32) (y19_0_10 : Int32) (wy19_0_11 : Int64) (y19_0_12 : Int32) (y19_0_13 : Int32) (y19_0_14 : Int32) (y19_0_15 : Int32) (y19_0_26 : Int32) (y19_0_27 : Int32) (y19_0_29 : Int32) (y19_0_30 : Int32) (y19_0_31 : Int32) (y19_0_32 : Int32) (y19_0_33 : Int32) (y19_0_36 : Int32), Bd x19_2 (0) (12) → Bd y19_0_6 (0) (1200) → Bd y19_0_7 (0) (1200) → Bd y19_0_8 (0) (4) → Bd y19_0_12 (0) (3) → Bd y19_0_26 (0) (11) → Bd y19_0_27 (-1) (400) → Bd y19_0_29 (0) (2) → Bd y19_0_30 (0) (11) → Bd y19_0_31 (-1) (468) → (-1) * x19_2.toInt + 12 < ((n : Nat) : Int) → InvM g ad S_19 → (∀ j, j ∉ ([0] : List Nat) → S_19 j = S60 j) → S_19 0 = .inr (12, [.int y19_0_0, .ref (ad 1), .ref (ad 2), .ref (ad 3), .ref (ad 4), .ref (ad 5), .int y19_0_6, .int y19_0_7, .int y19_0_8, .int y19_0_9, .int y19_0_10, .long wy19_0_11, .int y19_0_12, .int y19_0_13, .int y19_0_14, .int y19_0_15, .ref (ad 6), .ref (ad 7), .ref (ad 8), .ref (ad 9), .ref (ad 10), .ref (ad 11), .ref (ad 12), .ref (ad 13), .ref (ad 14), .ref (ad 15), .int y19_0_26, .int y19_0_27, .ref (ad 16), .int y19_0_29, .int y19_0_30, .int y19_0_31, .int y19_0_32, .int y19_0_33, .ref (ad 17), .ref (ad 18), .int y19_0_36, .ref (ad 19)]) → Hp g ad 20 S_19 (FA ad 20) s.heap H locs → lv_has ls 3 [(2, .int x19_2), (1, .int x19_1), (0, .ref (ad 0))] → W p l e (Rm 4) s m [.ref (ad 0)].toArray below meth c H locs 0 0 (MQ below (va_Qi (fun _ S' => InvM g ad S' ∧ (∀ j, j ∉ ([0] : List Nat) → S' j = S j)) (QB g ad 20) (FA ad 20)) [.ref (ad 0)].toArray s 0 0 (FA ad 20)) (F0 m 19 ls []) := by
      intro n
      induction n with
      | zero => intro S_19 H locs ls x19_1 x19_2 y19_0_0 y19_0_6 y19_0_7 y19_0_8 y19_0_9 y19_0_10 wy19_0_11 y19_0_12 y19_0_13 y19_0_14 y19_0_15 y19_0_26 y19_0_27 y19_0_29 y19_0_30 y19_0_31 y19_0_32 y19_0_33 y19_0_36 Bx19_2 By19_0_6 By19_0_7 By19_0_8 By19_0_12 By19_0_26 By19_0_27 By19_0_29 By19_0_30 By19_0_31 hn19_ hI hf19 cl19_0 hQ hl; exfalso; have := (Bx19_2).2; omega
      | succ n19_ ih19 =>
        intro S_19 H locs ls x19_1 x19_2 y19_0_0 y19_0_6 y19_0_7 y19_0_8 y19_0_9 y19_0_10 wy19_0_11 y19_0_12 y19_0_13 y19_0_14 y19_0_15 y19_0_26 y19_0_27 y19_0_29 y19_0_30 y19_0_31 y19_0_32 y19_0_33 y19_0_36 Bx19_2 By19_0_6 By19_0_7 By19_0_8 By19_0_12 By19_0_26 By19_0_27 By19_0_29 By19_0_30 By19_0_31 hn19_ hI hf19 cl19_0 hQ hl
        refine lv_iload_n hx hb dX12_stuck_19 rfl (lv_at hl 0 rfl) ?_
        refine lv_aload_n hx hb dX12_stuck_20 rfl (lv_at hl 2 rfl) ?_
        refine xget E hQ 0 (by decide) cl19_0 rfl 17 (by decide) q1485 rfl dX12_stuck_21 ?_
        refine lv_iconst (v := 0) hx hb dX12_stuck_24 (by decide) ?_
        have c70 : S_19 7 = .inl (g.2 0, 50, .inl f1) := ((hf19 7 (by decide)).trans (up_ne eS60 (by decide) c2))
        refine xiald E hQ 7 (by decide) c70 (vp_in_lit 0 50 (by decide)) dX12_stuck_25 ?_
        refine sb_at (P := fun z => W _ _ _ _ _ _ _ _ _ _ _ _ _ _ _ (F0 _ _ _ (.int z :: _))) (show f1 (0 : Int32).toNatClampNeg = v7 from ee8) ?_
        refine lv_icmp_ge (tgt := 62) hx hb dX12_stuck_26 (by decide) (fun k71 => ?_) (fun k71 => ?_)
        · have h72 := ib_le k71
          refine lv_iload_n hx hb dX12_stuck_62 rfl (lv_at hl 1 rfl) ?_
          exact xri E hr hlk hQ (⟨hI, (o_trans (up_o o_refl eS60 (by decide)) hf19 (by decide))⟩) dX12_stuck_63
        · have h73 := ib_nle k71
          have b74 : Bd x19_2 (0) (11) := ⟨(Bx19_2).1, ((rf_lt Bx19_2 b9 h73).1).2⟩
          have b75 : Bd v7 (1) (12) := ⟨((rf_lt Bx19_2 b9 h73).2).1, (b9).2⟩
          refine lv_aload_n hx hb dX12_stuck_29 rfl (lv_at hl 2 rfl) ?_
          refine lv_iload_n hx hb dX12_stuck_30 rfl (lv_at hl 0 rfl) ?_
          refine lv_iconst (v := 0) hx hb dX12_stuck_31 (by decide) ?_
          refine lv_sipush (v := 400) hx hb dX12_stuck_32 (by decide) ?_
          have q76 : elm (S_19 7) 0 = v7.toInt := (elm_of c70 0).trans (congrArg Int32.toInt (ee8))
          have q77 : elm (S_19 7) 1 = v4.toInt := (elm_of c70 1).trans (congrArg Int32.toInt (ee5))
          refine xcVv E hs hQ hml hl.1 0 (gX12_floatsFrom_0 l g ad hD S_19 hI x19_2 0 400 b74 (ib_wk (by decide : Bd 0 (0) (0)) (by decide) (by decide)) (ib_wk (by decide : Bd 400 (400) (400)) (by decide) (by decide)) (by omega) (by omega)) mX12_floatsFrom q1986 (by decide) cl19_0 rfl rfl ⟨(Nat.le_of_ble_eq_true rfl), (Nat.le_of_ble_eq_true rfl)⟩ ⟨(Nat.le_of_ble_eq_true rfl), (Nat.le_of_ble_eq_true rfl)⟩ (Nat.le_of_ble_eq_true rfl) rfl dX12_stuck_35 (fun S78 H locs hp78 hQ _ => ?_)
          obtain ⟨hI, o78⟩ := hp78
          refine lv_iload_n hx hb dX12_stuck_38 rfl (lv_at hl 1 rfl) ?_
          refine lv_aload_n hx hb dX12_stuck_39 rfl (lv_at hl 2 rfl) ?_
          obtain ⟨v79, v80, v82, v84, v86, v87, w88, v89, v91, v92, v93, v94, v96, v98, v100, v102, v104, v105, v106, c107, b81, b83, b85, b90, b95, b97, b99, b101, b103⟩ := invM_0 hI
          have c107 : S78 0 = .inr (12, [.int v79, .ref (ad 1), .ref (ad 2), .ref (ad 3), .ref (ad 4), .ref (ad 5), .int v80, .int v82, .int v84, .int v86, .int v87, .long w88, .int v89, .int v91, .int v92, .int v93, .ref (ad 6), .ref (ad 7), .ref (ad 8), .ref (ad 9), .ref (ad 10), .ref (ad 11), .ref (ad 12), .ref (ad 13), .ref (ad 14), .ref (ad 15), .int v94, .int v96, .ref (ad 16), .int v98, .int v100, .int v102, .int v104, .int v105, .ref (ad 17), .ref (ad 18), .int v106, .ref (ad 19)]) := c107
          refine xget E hQ 0 (by decide) c107 rfl 31 (by decide) q1499 rfl dX12_stuck_40 ?_
          refine lv_iconst (v := (-1)) hx hb dX12_stuck_43 (by decide) ?_
          refine lv_icmp_ne (tgt := 53) hx hb dX12_stuck_44 (by decide) (fun k108 => ?_) (fun k108 => ?_)
          · have h109 := ib_ne k108
            have b110 : Bd v102 (0) (468) := rf_nlo b103 (by decide : Bd (-1) (-1) (-1)) h109
            refine lv_iconst (v := 0) hx hb dX12_stuck_53 (by decide) ?_
            refine lv_ior hx hb dX12_stuck_54 ?_
            refine lv_topi (fun z111 e112 => ?_)
            refine lv_istore_n (lv' := [(1, .int z111), (2, .int x19_2), (0, .ref (ad 0))]) hx hb dX12_stuck_55 rfl hl (by decide) rfl (fun ls hl => ?_)
            obtain ⟨z113, e114⟩ : ∃ z : Int32, z = x19_2 + 1 := ⟨_, rfl⟩
            have t115 := ib_add e114 b74 (by decide : Bd 1 (1) (1)) (by decide) (by decide)
            have b116 : Bd z113 (1) (12) := ib_addb t115 b74 (by decide : Bd 1 (1) (1))
            have t115 : z113.toInt = x19_2.toInt + 1 := fold_add t115 rfl (by decide)
            refine lv_iinc (v := z113) (lv' := [(2, .int z113), (1, .int z111), (0, .ref (ad 0))]) hx hb dX12_stuck_56 hl (k := 1) rfl (by rw [e114]; rfl) (by decide) rfl (fun ls hl => ?_)
            refine lv_goto (tgt := 19) hx hb dX12_stuck_59 (by decide) ?_
            exact ih19 _ _ _ _ z111 z113 v79 v80 v82 v84 v86 v87 w88 v89 v91 v92 v93 v94 v96 v98 v100 v102 v104 v105 v106 (ib_wk b116 (by decide) (by decide)) b81 b83 b85 b90 b95 b97 b99 b101 (ib_wk b110 (by decide) (by decide)) (by omega) hI (o_trans hf19 o78 (by decide)) c107 hQ (lv_sub hl [0, 1, 2] rfl)
          · have h117 := ib_eq k108
            have b118 : Bd v102 (-1) (-1) := ⟨(b103).1, ((rf_eq b103 (by decide : Bd (-1) (-1) (-1)) h117).1).2⟩
            refine lv_iconst (v := 1) hx hb dX12_stuck_47 (by decide) ?_
            refine lv_iload_n hx hb dX12_stuck_48 rfl (lv_at hl 0 rfl) ?_
            refine lv_ishl hx hb dX12_stuck_49 ?_
            refine lv_topi (fun z119 e120 => ?_)
            refine lv_goto (tgt := 54) hx hb dX12_stuck_50 (by decide) ?_
            refine lv_ior hx hb dX12_stuck_54 ?_
            refine lv_topi (fun z121 e122 => ?_)
            refine lv_istore_n (lv' := [(1, .int z121), (2, .int x19_2), (0, .ref (ad 0))]) hx hb dX12_stuck_55 rfl hl (by decide) rfl (fun ls hl => ?_)
            obtain ⟨z123, e124⟩ : ∃ z : Int32, z = x19_2 + 1 := ⟨_, rfl⟩
            have t125 := ib_add e124 b74 (by decide : Bd 1 (1) (1)) (by decide) (by decide)
            have b126 : Bd z123 (1) (12) := ib_addb t125 b74 (by decide : Bd 1 (1) (1))
            have t125 : z123.toInt = x19_2.toInt + 1 := fold_add t125 rfl (by decide)
            refine lv_iinc (v := z123) (lv' := [(2, .int z123), (1, .int z121), (0, .ref (ad 0))]) hx hb dX12_stuck_56 hl (k := 1) rfl (by rw [e124]; rfl) (by decide) rfl (fun ls hl => ?_)
            refine lv_goto (tgt := 19) hx hb dX12_stuck_59 (by decide) ?_
            exact ih19 _ _ _ _ z121 z123 v79 v80 v82 v84 v86 v87 w88 v89 v91 v92 v93 v94 v96 v98 v100 v102 v104 v105 v106 (ib_wk b126 (by decide) (by decide)) b81 b83 b85 b90 b95 b97 b99 b101 (ib_wk b118 (by decide) (by decide)) (by omega) hI (o_trans hf19 o78 (by decide)) c107 hQ (lv_sub hl [0, 1, 2] rfl)
    obtain ⟨n19, hn19⟩ := fu_n (12)
    exact loop19 n19 _ _ _ _ 0 0 0 v32 v34 v36 v38 v39 w40 v41 v43 v44 v45 v46 v48 v50 v52 v54 v56 v57 v58 (ib_wk (by decide : Bd 0 (0) (0)) (by decide) (by decide)) b33 b35 b37 b42 b47 b49 b51 b53 b55 (by have : (0 : Int32).toInt = 0 := (by decide); omega) hI o_refl c61 hQ (lv_sub hl [0, 1, 2] rfl)
  · have h127 := ib_eq k65
    have b128 : Bd r63 (0) (0) := ⟨(b63).1, ((rf_eq b63 (by decide : Bd 0 (0) (0)) h127).1).2⟩
    clear g63_0
    refine lv_bipush (v := (-2)) hx hb dX12_stuck_12 (by decide) ?_
    exact xri E hr hlk hQ (⟨hI, (up_o o_refl eS60 (by decide))⟩) dX12_stuck_14
set_option maxHeartbeats 4000000 in
set_option maxRecDepth 100000 in
theorem gX12_drop_0 (l : Launch) (g : GG) (ad : Nat → Nat) (hD : Dj ad 20) (S : SS) (hI : InvM g ad S) (a1 : Int32) (a2 : Int32) (hq1 : 0 ≤ 12 * elm (S 7) 1 + (-1) * elm (S 7) 0) (hq2 : 0 ≤ 12 * elm (S 7) 3 + (-1) * elm (S 7) 0) (hq3 : 0 ≤ 8 * elm (S 7) 0 + (-1) * elm (S 7) 6) (hq4 : 0 ≤ 3 * elm (S 7) 0 + (-1) * elm (S 7) 8) (hq5 : 0 ≤ 40000 * elm (S 7) 0 + (-1) * elm (S 6) 0) : Met l yX12_drop (wG (.code yX12_drop cX12_drop 3 (some .int))) (Rm 5) (XPre g ad 20 S [.ref (ad 0), .int a1, .int a2]) (va_Qi (fun _ S' => InvM g ad S' ∧ (∀ j, j ∉ ([0] : List Nat) → S' j = S j)) (QB g ad 20) (FA ad 20)) 0 0 (FA ad 20) := by
  refine xmet cX12_drop "EbbWreckModel" (by decide) rfl (Nat.le_of_ble_eq_true rfl) (fun p e s m below meth c E hr hlk hml hQ ls hl => ?_)
  have hx := E.1
  have hb := E.2.1
  have hs : Sp ad 20 (FA ad 20) := Sp.fa hD
  have hl : lv_has ls 3 [(0, .ref (ad 0)), (1, .int a1), (2, .int a2)] := hl
  obtain ⟨f1, c2, b3⟩ := invM_7 hI
  obtain ⟨v4, ee5⟩ : ∃ z : Int32, f1 1 = z := ⟨_, rfl⟩
  have b6 : Bd v4 (0) (12) := (by rw [← ee5]; exact b3.2.1 1 (by decide))
  obtain ⟨v7, ee8⟩ : ∃ z : Int32, f1 0 = z := ⟨_, rfl⟩
  have b9 : Bd v7 (0) (12) := (by rw [← ee8]; exact b3.1 0 (by decide))
  obtain ⟨v10, ee11⟩ : ∃ z : Int32, f1 3 = z := ⟨_, rfl⟩
  have b12 : Bd v10 (0) (12) := (by rw [← ee11]; exact b3.2.2.2.1 3 (by decide))
  obtain ⟨v13, ee14⟩ : ∃ z : Int32, f1 6 = z := ⟨_, rfl⟩
  have b15 : Bd v13 (0) (8) := (by rw [← ee14]; exact b3.2.2.2.2.1 6 (by decide))
  obtain ⟨v16, ee17⟩ : ∃ z : Int32, f1 8 = z := ⟨_, rfl⟩
  have b18 : Bd v16 (0) (3) := (by rw [← ee17]; exact b3.2.2.2.2.2.2.1 8 (by decide))
  obtain ⟨f19, c20, b21⟩ := invM_6 hI
  obtain ⟨v22, ee23⟩ : ∃ z : Int32, f19 0 = z := ⟨_, rfl⟩
  have b24 : Bd v22 (0) (40000) := (by rw [← ee23]; exact b21 0)
  have q25 : elm (S 7) 1 = v4.toInt := (elm_of c2 1).trans (congrArg Int32.toInt (ee5))
  have q26 : elm (S 7) 0 = v7.toInt := (elm_of c2 0).trans (congrArg Int32.toInt (ee8))
  have q27 : elm (S 7) 3 = v10.toInt := (elm_of c2 3).trans (congrArg Int32.toInt (ee11))
  have q28 : elm (S 7) 6 = v13.toInt := (elm_of c2 6).trans (congrArg Int32.toInt (ee14))
  have q29 : elm (S 7) 8 = v16.toInt := (elm_of c2 8).trans (congrArg Int32.toInt (ee17))
  have q30 : elm (S 6) 0 = v22.toInt := (elm_of c20 0).trans (congrArg Int32.toInt (ee23))
  refine lv_aload_n hx hb dX12_drop_0 rfl (lv_at hl 0 rfl) ?_
  refine lv_iconst (v := 0) hx hb dX12_drop_1 (by decide) ?_
  obtain ⟨v31, v32, v34, v36, v38, v39, w40, v41, v43, v44, v45, v46, v48, v50, v52, v54, v56, v57, v58, c59, b33, b35, b37, b42, b47, b49, b51, b53, b55⟩ := invM_0 hI
  have c59 : S 0 = .inr (12, [.int v31, .ref (ad 1), .ref (ad 2), .ref (ad 3), .ref (ad 4), .ref (ad 5), .int v32, .int v34, .int v36, .int v38, .int v39, .long w40, .int v41, .int v43, .int v44, .int v45, .ref (ad 6), .ref (ad 7), .ref (ad 8), .ref (ad 9), .ref (ad 10), .ref (ad 11), .ref (ad 12), .ref (ad 13), .ref (ad 14), .ref (ad 15), .int v46, .int v48, .ref (ad 16), .int v50, .int v52, .int v54, .int v56, .int v57, .ref (ad 17), .ref (ad 18), .int v58, .ref (ad 19)]) := c59
  refine xputi E hs hQ 0 (by decide) c59 rfl 0 (by decide) q1468 rfl rfl (Nat.le_of_ble_eq_true rfl) dX12_drop_2 (fun H locs S60 eS60 hQ => ?_)
  have hI := invM_up_0 hI eS60 ⟨0, v32, v34, v36, v38, v39, w40, v41, v43, v44, v45, v46, v48, v50, v52, v54, v56, v57, v58, rfl, b33, b35, b37, b42, b47, b49, b51, b53, b55⟩
  have c61 : S60 0 = .inr (12, [.int 0, .ref (ad 1), .ref (ad 2), .ref (ad 3), .ref (ad 4), .ref (ad 5), .int v32, .int v34, .int v36, .int v38, .int v39, .long w40, .int v41, .int v43, .int v44, .int v45, .ref (ad 6), .ref (ad 7), .ref (ad 8), .ref (ad 9), .ref (ad 10), .ref (ad 11), .ref (ad 12), .ref (ad 13), .ref (ad 14), .ref (ad 15), .int v46, .int v48, .ref (ad 16), .int v50, .int v52, .int v54, .int v56, .int v57, .ref (ad 17), .ref (ad 18), .int v58, .ref (ad 19)]) := up_at eS60 rfl
  refine lv_aload_n hx hb dX12_drop_5 rfl (lv_at hl 0 rfl) ?_
  refine lv_iload_n hx hb dX12_drop_6 rfl (lv_at hl 1 rfl) ?_
  have c62 : S60 6 = .inl (g.2 0, 5, .inl f19) := (up_ne eS60 (by decide) c20)
  refine xcVi E hs hQ hml hl.1 0 (gX12_isParty_0 l g ad hD S60 hI a1) mX12_isParty q1874 (by decide) c61 rfl rfl ⟨(Nat.le_of_ble_eq_true rfl), (Nat.le_of_ble_eq_true rfl)⟩ ⟨(Nat.le_of_ble_eq_true rfl), (Nat.le_of_ble_eq_true rfl)⟩ (Nat.le_of_ble_eq_true rfl) rfl dX12_drop_7 (fun r63 S63 H locs hp63 hQ _ => ?_)
  obtain ⟨rfl, b63, g63_0⟩ := hp63
  have q64 : elm (S60 6) 0 = v22.toInt := (elm_of c62 0).trans (congrArg Int32.toInt (ee23))
  refine lv_if_eq (tgt := 34) hx hb dX12_drop_10 (by decide) (fun k65 => ?_) (fun k65 => ?_)
  · have h66 := ib_eq k65
    have b67 : Bd r63 (0) (0) := ⟨(b63).1, ((rf_eq b63 (by decide : Bd 0 (0) (0)) h66).1).2⟩
    clear g63_0
    refine lv_bipush (v := (-2)) hx hb dX12_drop_34 (by decide) ?_
    exact xri E hr hlk hQ (⟨hI, (up_o o_refl eS60 (by decide))⟩) dX12_drop_36
  · have h68 := ib_ne k65
    have b69 : Bd r63 (1) (1) := rf_nlo b63 (by decide : Bd 0 (0) (0)) h68
    have g70 := g63_0.resolve_left (by omega)
    clear g63_0
    have b71 : Bd v22 (1) (40000) := ⟨by omega, (b24).2⟩
    have b72 : Bd a1 (0) (5) := ⟨by omega, by omega⟩
    refine lv_iload_n hx hb dX12_drop_13 rfl (lv_at hl 2 rfl) ?_
    refine lv_i2l hx hb dX12_drop_14 rfl ?_
    refine lv_topl (fun w73 e74 => ?_)
    have t75 : w73.toInt = a2.toInt := by rw [e74]; exact i2l_i _
    have b76 : BdL w73 (-2147483648) (2147483647) := (by have h1 := ((ib_full a2)).1; have h2 := ((ib_full a2)).2; exact ⟨by omega, by omega⟩)
    refine lv_lconst (v := 0) hx hb dX12_drop_15 (by decide) ?_
    refine lv_ldc2 (v := 99) hx hb E.2.2.1 (E.2.2.2.1 _ q1998) dX12_drop_16 ?_
    have q77 : (0 : Int64).toInt = 0 := by decide
    have q78 : (99 : Int64).toInt = 99 := by decide
    refine xcSi E hs hQ hml hl.1 (gX12_in l g ad hD S60 hI w73 0 99) mX12_in q1591 rfl ⟨(Nat.le_of_ble_eq_true rfl), (Nat.le_of_ble_eq_true rfl)⟩ ⟨(Nat.le_of_ble_eq_true rfl), (Nat.le_of_ble_eq_true rfl)⟩ (Nat.le_of_ble_eq_true rfl) rfl dX12_drop_19 (fun r79 S79 H locs hp79 hQ => ?_)
    obtain ⟨rfl, b79, g79_0, u79_0⟩ := hp79
    refine lv_if_eq (tgt := 34) hx hb dX12_drop_22 (by decide) (fun k80 => ?_) (fun k80 => ?_)
    · have h81 := ib_eq k80
      have b82 : Bd r79 (0) (0) := ⟨(b79).1, ((rf_eq b79 (by decide : Bd 0 (0) (0)) h81).1).2⟩
      clear g79_0
      refine lv_bipush (v := (-2)) hx hb dX12_drop_34 (by decide) ?_
      exact xri E hr hlk hQ (⟨hI, (up_o o_refl eS60 (by decide))⟩) dX12_drop_36
    · have h83 := ib_ne k80
      have b84 : Bd r79 (1) (1) := rf_nlo b79 (by decide : Bd 0 (0) (0)) h83
      have g85 := g79_0.resolve_left (by omega)
      clear g79_0
      have b86 : BdL w73 (0) (99) := ⟨by omega, by omega⟩
      have b87 : Bd a2 (0) (99) := ⟨by omega, by omega⟩
      refine lv_aload_n hx hb dX12_drop_25 rfl (lv_at hl 0 rfl) ?_
      refine lv_iload_n hx hb dX12_drop_26 rfl (lv_at hl 1 rfl) ?_
      refine lv_iload_n hx hb dX12_drop_27 rfl (lv_at hl 2 rfl) ?_
      have c88 : S60 7 = .inl (g.2 0, 50, .inl f1) := (up_ne eS60 (by decide) c2)
      have q89 : elm (S60 7) 0 = v7.toInt := (elm_of c88 0).trans (congrArg Int32.toInt (ee8))
      have q90 : elm (S60 7) 1 = v4.toInt := (elm_of c88 1).trans (congrArg Int32.toInt (ee5))
      refine xcVi E hs hQ hml hl.1 0 (gX12_dropOf_0 l g ad hD S60 hI a1 a2 b87 (by omega) (by omega)) mX12_dropOf q1999 (by decide) c61 rfl rfl ⟨(Nat.le_of_ble_eq_true rfl), (Nat.le_of_ble_eq_true rfl)⟩ ⟨(Nat.le_of_ble_eq_true rfl), (Nat.le_of_ble_eq_true rfl)⟩ (Nat.le_of_ble_eq_true rfl) rfl dX12_drop_28 (fun r91 S91 H locs hp91 hQ _ => ?_)
      obtain ⟨hI, o91⟩ := hp91
      refine lv_goto (tgt := 36) hx hb dX12_drop_31 (by decide) ?_
      exact xri E hr hlk hQ (⟨hI, (o_trans (up_o o_refl eS60 (by decide)) o91 (by decide))⟩) dX12_drop_36
set_option maxHeartbeats 4000000 in
set_option maxRecDepth 100000 in
theorem gX12_drops_0 (l : Launch) (g : GG) (ad : Nat → Nat) (hD : Dj ad 20) (S : SS) (hI : InvM g ad S) (a1 : Int32) (hq1 : 0 ≤ 12 * elm (S 7) 1 + (-1) * elm (S 7) 0) (hq2 : 0 ≤ 12 * elm (S 7) 3 + (-1) * elm (S 7) 0) (hq3 : 0 ≤ 8 * elm (S 7) 0 + (-1) * elm (S 7) 6) (hq4 : 0 ≤ 3 * elm (S 7) 0 + (-1) * elm (S 7) 8) (hq5 : 0 ≤ 40000 * elm (S 7) 0 + (-1) * elm (S 6) 0) : Met l yX12_drops (wG (.code yX12_drops cX12_drops 6 (some .int))) (Rm 5) (XPre g ad 20 S [.ref (ad 0), .int a1]) (va_Qi (fun r S' => InvM g ad S' ∧ (∀ j, j ∉ ([0] : List Nat) → S' j = S j) ∧ Bd r (-2) (99)) (QB g ad 20) (FA ad 20)) 0 0 (FA ad 20) := by
  refine xmet cX12_drops "EbbWreckModel" (by decide) rfl (Nat.le_of_ble_eq_true rfl) (fun p e s m below meth c E hr hlk hml hQ ls hl => ?_)
  have hx := E.1
  have hb := E.2.1
  have hs : Sp ad 20 (FA ad 20) := Sp.fa hD
  have hl : lv_has ls 6 [(0, .ref (ad 0)), (1, .int a1)] := hl
  obtain ⟨f1, c2, b3⟩ := invM_7 hI
  obtain ⟨v4, ee5⟩ : ∃ z : Int32, f1 1 = z := ⟨_, rfl⟩
  have b6 : Bd v4 (0) (12) := (by rw [← ee5]; exact b3.2.1 1 (by decide))
  obtain ⟨v7, ee8⟩ : ∃ z : Int32, f1 0 = z := ⟨_, rfl⟩
  have b9 : Bd v7 (0) (12) := (by rw [← ee8]; exact b3.1 0 (by decide))
  obtain ⟨v10, ee11⟩ : ∃ z : Int32, f1 3 = z := ⟨_, rfl⟩
  have b12 : Bd v10 (0) (12) := (by rw [← ee11]; exact b3.2.2.2.1 3 (by decide))
  obtain ⟨v13, ee14⟩ : ∃ z : Int32, f1 6 = z := ⟨_, rfl⟩
  have b15 : Bd v13 (0) (8) := (by rw [← ee14]; exact b3.2.2.2.2.1 6 (by decide))
  obtain ⟨v16, ee17⟩ : ∃ z : Int32, f1 8 = z := ⟨_, rfl⟩
  have b18 : Bd v16 (0) (3) := (by rw [← ee17]; exact b3.2.2.2.2.2.2.1 8 (by decide))
  obtain ⟨f19, c20, b21⟩ := invM_6 hI
  obtain ⟨v22, ee23⟩ : ∃ z : Int32, f19 0 = z := ⟨_, rfl⟩
  have b24 : Bd v22 (0) (40000) := (by rw [← ee23]; exact b21 0)
  have q25 : elm (S 7) 1 = v4.toInt := (elm_of c2 1).trans (congrArg Int32.toInt (ee5))
  have q26 : elm (S 7) 0 = v7.toInt := (elm_of c2 0).trans (congrArg Int32.toInt (ee8))
  have q27 : elm (S 7) 3 = v10.toInt := (elm_of c2 3).trans (congrArg Int32.toInt (ee11))
  have q28 : elm (S 7) 6 = v13.toInt := (elm_of c2 6).trans (congrArg Int32.toInt (ee14))
  have q29 : elm (S 7) 8 = v16.toInt := (elm_of c2 8).trans (congrArg Int32.toInt (ee17))
  have q30 : elm (S 6) 0 = v22.toInt := (elm_of c20 0).trans (congrArg Int32.toInt (ee23))
  refine lv_aload_n hx hb dX12_drops_0 rfl (lv_at hl 0 rfl) ?_
  refine lv_iconst (v := 0) hx hb dX12_drops_1 (by decide) ?_
  obtain ⟨v31, v32, v34, v36, v38, v39, w40, v41, v43, v44, v45, v46, v48, v50, v52, v54, v56, v57, v58, c59, b33, b35, b37, b42, b47, b49, b51, b53, b55⟩ := invM_0 hI
  have c59 : S 0 = .inr (12, [.int v31, .ref (ad 1), .ref (ad 2), .ref (ad 3), .ref (ad 4), .ref (ad 5), .int v32, .int v34, .int v36, .int v38, .int v39, .long w40, .int v41, .int v43, .int v44, .int v45, .ref (ad 6), .ref (ad 7), .ref (ad 8), .ref (ad 9), .ref (ad 10), .ref (ad 11), .ref (ad 12), .ref (ad 13), .ref (ad 14), .ref (ad 15), .int v46, .int v48, .ref (ad 16), .int v50, .int v52, .int v54, .int v56, .int v57, .ref (ad 17), .ref (ad 18), .int v58, .ref (ad 19)]) := c59
  refine xputi E hs hQ 0 (by decide) c59 rfl 0 (by decide) q1468 rfl rfl (Nat.le_of_ble_eq_true rfl) dX12_drops_2 (fun H locs S60 eS60 hQ => ?_)
  have hI := invM_up_0 hI eS60 ⟨0, v32, v34, v36, v38, v39, w40, v41, v43, v44, v45, v46, v48, v50, v52, v54, v56, v57, v58, rfl, b33, b35, b37, b42, b47, b49, b51, b53, b55⟩
  have c61 : S60 0 = .inr (12, [.int 0, .ref (ad 1), .ref (ad 2), .ref (ad 3), .ref (ad 4), .ref (ad 5), .int v32, .int v34, .int v36, .int v38, .int v39, .long w40, .int v41, .int v43, .int v44, .int v45, .ref (ad 6), .ref (ad 7), .ref (ad 8), .ref (ad 9), .ref (ad 10), .ref (ad 11), .ref (ad 12), .ref (ad 13), .ref (ad 14), .ref (ad 15), .int v46, .int v48, .ref (ad 16), .int v50, .int v52, .int v54, .int v56, .int v57, .ref (ad 17), .ref (ad 18), .int v58, .ref (ad 19)]) := up_at eS60 rfl
  refine lv_aload_n hx hb dX12_drops_5 rfl (lv_at hl 0 rfl) ?_
  refine lv_iload_n hx hb dX12_drops_6 rfl (lv_at hl 1 rfl) ?_
  have c62 : S60 6 = .inl (g.2 0, 5, .inl f19) := (up_ne eS60 (by decide) c20)
  refine xcVi E hs hQ hml hl.1 0 (gX12_isParty_0 l g ad hD S60 hI a1) mX12_isParty q1874 (by decide) c61 rfl rfl ⟨(Nat.le_of_ble_eq_true rfl), (Nat.le_of_ble_eq_true rfl)⟩ ⟨(Nat.le_of_ble_eq_true rfl), (Nat.le_of_ble_eq_true rfl)⟩ (Nat.le_of_ble_eq_true rfl) rfl dX12_drops_7 (fun r63 S63 H locs hp63 hQ _ => ?_)
  obtain ⟨rfl, b63, g63_0⟩ := hp63
  have q64 : elm (S60 6) 0 = v22.toInt := (elm_of c62 0).trans (congrArg Int32.toInt (ee23))
  refine lv_if_ne (tgt := 16) hx hb dX12_drops_10 (by decide) (fun k65 => ?_) (fun k65 => ?_)
  · have h66 := ib_ne k65
    have b67 : Bd r63 (1) (1) := rf_nlo b63 (by decide : Bd 0 (0) (0)) h66
    have g68 := g63_0.resolve_left (by omega)
    clear g63_0
    have b69 : Bd v22 (1) (40000) := ⟨by omega, (b24).2⟩
    have b70 : Bd a1 (0) (5) := ⟨by omega, by omega⟩
    refine lv_iconst (v := (-1)) hx hb dX12_drops_16 (by decide) ?_
    refine lv_istore_n (lv' := [(2, .int (-1)), (0, .ref (ad 0)), (1, .int a1)]) hx hb dX12_drops_17 rfl hl (by decide) rfl (fun ls hl => ?_)
    refine lv_iconst (v := 0) hx hb dX12_drops_18 (by decide) ?_
    refine lv_istore_n (lv' := [(3, .int 0), (2, .int (-1)), (0, .ref (ad 0)), (1, .int a1)]) hx hb dX12_drops_19 rfl hl (by decide) rfl (fun ls hl => ?_)
    refine lv_iconst (v := 0) hx hb dX12_drops_20 (by decide) ?_
    refine lv_istore (lv' := [(4, .int 0), (3, .int 0), (2, .int (-1)), (0, .ref (ad 0)), (1, .int a1)]) hx hb dX12_drops_21 hl (by decide) rfl (fun ls hl => ?_)
    have loop23 : ∀ (n : Nat) (S_23 : SS) (H : Heap) (locs : List Loc) (ls : Array Slot) (x23_2 : Int32) (x23_3 : Int32) (x23_4 : Int32) (y23_0_0 : Int32) (y23_0_6 : Int32) (y23_0_7 : Int32) (y23_0_8 : Int32) (y23_0_9 : Int32) (y23_0_10 : Int32) (wy23_0_11 : Int64) (y23_0_12 : Int32) (y23_0_13 : Int32) (y23_0_14 : Int32) (y23_0_15 : Int32) (y23_0_26 : Int32) (y23_0_27 : Int32) (y23_0_29 : Int32) (y23_0_30 : Int32) (y23_0_31 : Int32) (y23_0_32 : Int32) (y23_0_33 : Int32) (y23_0_36 : Int32), Bd x23_2 (-1) (99) → Bd x23_3 (0) (2147483647) → Bd x23_4 (0) (100) → Bd y23_0_6 (0) (1200) → Bd y23_0_7 (0) (1200) → Bd y23_0_8 (0) (4) → Bd y23_0_12 (0) (3) → Bd y23_0_26 (0) (11) → Bd y23_0_27 (-1) (400) → Bd y23_0_29 (0) (2) → Bd y23_0_30 (0) (11) → Bd y23_0_31 (-1) (468) → (-1) * x23_4.toInt + 100 < ((n : Nat) : Int) → InvM g ad S_23 → (∀ j, j ∉ ([0] : List Nat) → S_23 j = S60 j) → S_23 0 = .inr (12, [.int y23_0_0, .ref (ad 1), .ref (ad 2), .ref (ad 3), .ref (ad 4), .ref (ad 5), .int y23_0_6, .int y23_0_7, .int y23_0_8, .int y23_0_9, .int y23_0_10, .long wy23_0_11, .int y23_0_12, .int y23_0_13, .int y23_0_14, .int y23_0_15, .ref (ad 6), .ref (ad 7), .ref (ad 8), .ref (ad 9), .ref (ad 10), .ref (ad 11), .ref (ad 12), .ref (ad 13), .ref (ad 14), .ref (ad 15), .int y23_0_26, .int y23_0_27, .ref (ad 16), .int y23_0_29, .int y23_0_30, .int y23_0_31, .int y23_0_32, .int y23_0_33, .ref (ad 17), .ref (ad 18), .int y23_0_36, .ref (ad 19)]) → Hp g ad 20 S_23 (FA ad 20) s.heap H locs → lv_has ls 6 [(4, .int x23_4), (3, .int x23_3), (2, .int x23_2), (0, .ref (ad 0)), (1, .int a1)] → W p l e (Rm 5) s m [.ref (ad 0), .int a1].toArray below meth c H locs 0 0 (MQ below (va_Qi (fun r S' => InvM g ad S' ∧ (∀ j, j ∉ ([0] : List Nat) → S' j = S j) ∧ Bd r (-2) (99)) (QB g ad 20) (FA ad 20)) [.ref (ad 0), .int a1].toArray s 0 0 (FA ad 20)) (F0 m 23 ls []) := by
      intro n
      induction n with
      | zero => intro S_23 H locs ls x23_2 x23_3 x23_4 y23_0_0 y23_0_6 y23_0_7 y23_0_8 y23_0_9 y23_0_10 wy23_0_11 y23_0_12 y23_0_13 y23_0_14 y23_0_15 y23_0_26 y23_0_27 y23_0_29 y23_0_30 y23_0_31 y23_0_32 y23_0_33 y23_0_36 Bx23_2 Bx23_3 Bx23_4 By23_0_6 By23_0_7 By23_0_8 By23_0_12 By23_0_26 By23_0_27 By23_0_29 By23_0_30 By23_0_31 hn23_ hI hf23 cl23_0 hQ hl; exfalso; have := (Bx23_4).2; omega
      | succ n23_ ih23 =>
        intro S_23 H locs ls x23_2 x23_3 x23_4 y23_0_0 y23_0_6 y23_0_7 y23_0_8 y23_0_9 y23_0_10 wy23_0_11 y23_0_12 y23_0_13 y23_0_14 y23_0_15 y23_0_26 y23_0_27 y23_0_29 y23_0_30 y23_0_31 y23_0_32 y23_0_33 y23_0_36 Bx23_2 Bx23_3 Bx23_4 By23_0_6 By23_0_7 By23_0_8 By23_0_12 By23_0_26 By23_0_27 By23_0_29 By23_0_30 By23_0_31 hn23_ hI hf23 cl23_0 hQ hl
        refine lv_iload hx hb dX12_drops_23 (lv_at hl 0 rfl) ?_
        refine lv_bipush (v := 99) hx hb dX12_drops_25 (by decide) ?_
        refine lv_icmp_gt (tgt := 63) hx hb dX12_drops_27 (by decide) (fun k71 => ?_) (fun k71 => ?_)
        · have h72 := ib_lt k71
          have b73 : Bd x23_4 (100) (100) := ⟨((rf_lt (by decide : Bd 99 (99) (99)) Bx23_4 h72).2).1, (Bx23_4).2⟩
          refine lv_iload_n hx hb dX12_drops_63 rfl (lv_at hl 2 rfl) ?_
          exact xri E hr hlk hQ (⟨hI, (o_trans (up_o o_refl eS60 (by decide)) hf23 (by decide)), (ib_wk Bx23_2 (by decide) (by decide))⟩) dX12_drops_64
        · have h74 := ib_nlt k71
          have b75 : Bd x23_4 (0) (99) := ⟨(Bx23_4).1, ((rf_le Bx23_4 (by decide : Bd 99 (99) (99)) h74).1).2⟩
          refine lv_aload_n hx hb dX12_drops_30 rfl (lv_at hl 3 rfl) ?_
          refine lv_iload_n hx hb dX12_drops_31 rfl (lv_at hl 4 rfl) ?_
          refine lv_iload hx hb dX12_drops_32 (lv_at hl 0 rfl) ?_
          have c76 : S_23 7 = .inl (g.2 0, 50, .inl f1) := ((hf23 7 (by decide)).trans (up_ne eS60 (by decide) c2))
          have q77 : elm (S_23 7) 0 = v7.toInt := (elm_of c76 0).trans (congrArg Int32.toInt (ee8))
          have q78 : elm (S_23 7) 1 = v4.toInt := (elm_of c76 1).trans (congrArg Int32.toInt (ee5))
          refine xcVi E hs hQ hml hl.1 0 (gX12_dropOf_0 l g ad hD S_23 hI a1 x23_4 b75 (by omega) (by omega)) mX12_dropOf q1999 (by decide) cl23_0 rfl rfl ⟨(Nat.le_of_ble_eq_true rfl), (Nat.le_of_ble_eq_true rfl)⟩ ⟨(Nat.le_of_ble_eq_true rfl), (Nat.le_of_ble_eq_true rfl)⟩ (Nat.le_of_ble_eq_true rfl) rfl dX12_drops_34 (fun r79 S79 H locs hp79 hQ _ => ?_)
          obtain ⟨hI, o79⟩ := hp79
          refine xcSi E hs hQ hml hl.1 (gX12_sizeOf l g ad hD S79 hI r79) mX12_sizeOf q1895 rfl ⟨(Nat.le_of_ble_eq_true rfl), (Nat.le_of_ble_eq_true rfl)⟩ ⟨(Nat.le_of_ble_eq_true rfl), (Nat.le_of_ble_eq_true rfl)⟩ (Nat.le_of_ble_eq_true rfl) rfl dX12_drops_37 (fun r80 S80 H locs hp80 hQ => ?_)
          subst hp80
          refine lv_istore (lv' := [(5, .int r80), (4, .int x23_4), (3, .int x23_3), (2, .int x23_2), (0, .ref (ad 0)), (1, .int a1)]) hx hb dX12_drops_40 hl (by decide) rfl (fun ls hl => ?_)
          refine lv_iload hx hb dX12_drops_42 (lv_at hl 0 rfl) ?_
          refine lv_iload_n hx hb dX12_drops_44 rfl (lv_at hl 2 rfl) ?_
          refine lv_icmp_gt (tgt := 51) hx hb dX12_drops_45 (by decide) (fun k81 => ?_) (fun k81 => ?_)
          · have h82 := ib_lt k81
            have b83 : Bd x23_3 (0) (2147483646) := ⟨(Bx23_3).1, ((rf_lt Bx23_3 (ib_full r80) h82).1).2⟩
            have b84 : Bd r80 (1) (2147483647) := ⟨((rf_lt Bx23_3 (ib_full r80) h82).2).1, ((ib_full r80)).2⟩
            refine lv_iload hx hb dX12_drops_51 (lv_at hl 1 rfl) ?_
            refine lv_istore_n (lv' := [(2, .int x23_4), (5, .int r80), (4, .int x23_4), (3, .int x23_3), (0, .ref (ad 0)), (1, .int a1)]) hx hb dX12_drops_53 rfl hl (by decide) rfl (fun ls hl => ?_)
            refine lv_iload hx hb dX12_drops_54 (lv_at hl 1 rfl) ?_
            refine lv_istore_n (lv' := [(3, .int r80), (2, .int x23_4), (5, .int r80), (4, .int x23_4), (0, .ref (ad 0)), (1, .int a1)]) hx hb dX12_drops_56 rfl hl (by decide) rfl (fun ls hl => ?_)
            obtain ⟨z85, e86⟩ : ∃ z : Int32, z = x23_4 + 1 := ⟨_, rfl⟩
            have t87 := ib_add e86 b75 (by decide : Bd 1 (1) (1)) (by decide) (by decide)
            have b88 : Bd z85 (1) (100) := ib_addb t87 b75 (by decide : Bd 1 (1) (1))
            have t87 : z85.toInt = x23_4.toInt + 1 := fold_add t87 rfl (by decide)
            refine lv_iinc (v := z85) (lv' := [(4, .int z85), (3, .int r80), (2, .int x23_4), (5, .int r80), (0, .ref (ad 0)), (1, .int a1)]) hx hb dX12_drops_57 hl (k := 3) rfl (by rw [e86]; rfl) (by decide) rfl (fun ls hl => ?_)
            refine lv_goto (tgt := 23) hx hb dX12_drops_60 (by decide) ?_
            obtain ⟨v89, v90, v92, v94, v96, v97, w98, v99, v101, v102, v103, v104, v106, v108, v110, v112, v114, v115, v116, c117, b91, b93, b95, b100, b105, b107, b109, b111, b113⟩ := invM_0 hI
            have c117 : S79 0 = .inr (12, [.int v89, .ref (ad 1), .ref (ad 2), .ref (ad 3), .ref (ad 4), .ref (ad 5), .int v90, .int v92, .int v94, .int v96, .int v97, .long w98, .int v99, .int v101, .int v102, .int v103, .ref (ad 6), .ref (ad 7), .ref (ad 8), .ref (ad 9), .ref (ad 10), .ref (ad 11), .ref (ad 12), .ref (ad 13), .ref (ad 14), .ref (ad 15), .int v104, .int v106, .ref (ad 16), .int v108, .int v110, .int v112, .int v114, .int v115, .ref (ad 17), .ref (ad 18), .int v116, .ref (ad 19)]) := c117
            exact ih23 _ _ _ _ x23_4 r80 z85 v89 v90 v92 v94 v96 v97 w98 v99 v101 v102 v103 v104 v106 v108 v110 v112 v114 v115 v116 (ib_wk b75 (by decide) (by decide)) (ib_wk b84 (by decide) (by decide)) (ib_wk b88 (by decide) (by decide)) b91 b93 b95 b100 b105 b107 b109 b111 b113 (by omega) hI (o_trans hf23 o79 (by decide)) c117 hQ (lv_sub hl [0, 1, 2, 4, 5] rfl)
          · have h118 := ib_nlt k81
            refine lv_goto (tgt := 57) hx hb dX12_drops_48 (by decide) ?_
            obtain ⟨z119, e120⟩ : ∃ z : Int32, z = x23_4 + 1 := ⟨_, rfl⟩
            have t121 := ib_add e120 b75 (by decide : Bd 1 (1) (1)) (by decide) (by decide)
            have b122 : Bd z119 (1) (100) := ib_addb t121 b75 (by decide : Bd 1 (1) (1))
            have t121 : z119.toInt = x23_4.toInt + 1 := fold_add t121 rfl (by decide)
            refine lv_iinc (v := z119) (lv' := [(4, .int z119), (5, .int r80), (3, .int x23_3), (2, .int x23_2), (0, .ref (ad 0)), (1, .int a1)]) hx hb dX12_drops_57 hl (k := 1) rfl (by rw [e120]; rfl) (by decide) rfl (fun ls hl => ?_)
            refine lv_goto (tgt := 23) hx hb dX12_drops_60 (by decide) ?_
            obtain ⟨v123, v124, v126, v128, v130, v131, w132, v133, v135, v136, v137, v138, v140, v142, v144, v146, v148, v149, v150, c151, b125, b127, b129, b134, b139, b141, b143, b145, b147⟩ := invM_0 hI
            have c151 : S79 0 = .inr (12, [.int v123, .ref (ad 1), .ref (ad 2), .ref (ad 3), .ref (ad 4), .ref (ad 5), .int v124, .int v126, .int v128, .int v130, .int v131, .long w132, .int v133, .int v135, .int v136, .int v137, .ref (ad 6), .ref (ad 7), .ref (ad 8), .ref (ad 9), .ref (ad 10), .ref (ad 11), .ref (ad 12), .ref (ad 13), .ref (ad 14), .ref (ad 15), .int v138, .int v140, .ref (ad 16), .int v142, .int v144, .int v146, .int v148, .int v149, .ref (ad 17), .ref (ad 18), .int v150, .ref (ad 19)]) := c151
            exact ih23 _ _ _ _ x23_2 x23_3 z119 v123 v124 v126 v128 v130 v131 w132 v133 v135 v136 v137 v138 v140 v142 v144 v146 v148 v149 v150 Bx23_2 Bx23_3 (ib_wk b122 (by decide) (by decide)) b125 b127 b129 b134 b139 b141 b143 b145 b147 (by omega) hI (o_trans hf23 o79 (by decide)) c151 hQ (lv_sub hl [0, 2, 3, 4, 5] rfl)
    obtain ⟨n23, hn23⟩ := fu_n (100)
    exact loop23 n23 _ _ _ _ (-1) 0 0 0 v32 v34 v36 v38 v39 w40 v41 v43 v44 v45 v46 v48 v50 v52 v54 v56 v57 v58 (ib_wk (by decide : Bd (-1) (-1) (-1)) (by decide) (by decide)) (ib_wk (by decide : Bd 0 (0) (0)) (by decide) (by decide)) (ib_wk (by decide : Bd 0 (0) (0)) (by decide) (by decide)) b33 b35 b37 b42 b47 b49 b51 b53 b55 (by have : ((-1) : Int32).toInt = (-1) := (by decide); have : (0 : Int32).toInt = 0 := (by decide); omega) hI o_refl c61 hQ (lv_sub hl [0, 1, 2, 3, 4] rfl)
  · have h152 := ib_eq k65
    have b153 : Bd r63 (0) (0) := ⟨(b63).1, ((rf_eq b63 (by decide : Bd 0 (0) (0)) h152).1).2⟩
    clear g63_0
    refine lv_bipush (v := (-2)) hx hb dX12_drops_13 (by decide) ?_
    exact xri E hr hlk hQ (⟨hI, (up_o o_refl eS60 (by decide)), (ib_wk (by decide : Bd (-2) (-2) (-2)) (by decide) (by decide))⟩) dX12_drops_15
set_option maxHeartbeats 4000000 in
set_option maxRecDepth 100000 in
theorem gX12_origins_0 (l : Launch) (g : GG) (ad : Nat → Nat) (hD : Dj ad 20) (S : SS) (hI : InvM g ad S) (a1 : Int32) (a2 : Int32) (a3 : Int32) (hq1 : 0 ≤ 12 * elm (S 7) 1 + (-1) * elm (S 7) 0) (hq2 : 0 ≤ 12 * elm (S 7) 3 + (-1) * elm (S 7) 0) (hq3 : 0 ≤ 8 * elm (S 7) 0 + (-1) * elm (S 7) 6) (hq4 : 0 ≤ 3 * elm (S 7) 0 + (-1) * elm (S 7) 8) (hq5 : 0 ≤ 40000 * elm (S 7) 0 + (-1) * elm (S 6) 0) : Met l yX12_origins (wG (.code yX12_origins cX12_origins 6 (some .int))) (Rm 4) (XPre g ad 20 S [.ref (ad 0), .int a1, .int a2, .int a3]) (va_Qi (fun _ S' => InvM g ad S' ∧ (∀ j, j ∉ ([0] : List Nat) → S' j = S j)) (QB g ad 20) (FA ad 20)) 0 0 (FA ad 20) := by
  refine xmet cX12_origins "EbbWreckModel" (by decide) rfl (Nat.le_of_ble_eq_true rfl) (fun p e s m below meth c E hr hlk hml hQ ls hl => ?_)
  have hx := E.1
  have hb := E.2.1
  have hs : Sp ad 20 (FA ad 20) := Sp.fa hD
  have hl : lv_has ls 6 [(0, .ref (ad 0)), (1, .int a1), (2, .int a2), (3, .int a3)] := hl
  obtain ⟨f1, c2, b3⟩ := invM_7 hI
  obtain ⟨v4, ee5⟩ : ∃ z : Int32, f1 1 = z := ⟨_, rfl⟩
  have b6 : Bd v4 (0) (12) := (by rw [← ee5]; exact b3.2.1 1 (by decide))
  obtain ⟨v7, ee8⟩ : ∃ z : Int32, f1 0 = z := ⟨_, rfl⟩
  have b9 : Bd v7 (0) (12) := (by rw [← ee8]; exact b3.1 0 (by decide))
  obtain ⟨v10, ee11⟩ : ∃ z : Int32, f1 3 = z := ⟨_, rfl⟩
  have b12 : Bd v10 (0) (12) := (by rw [← ee11]; exact b3.2.2.2.1 3 (by decide))
  obtain ⟨v13, ee14⟩ : ∃ z : Int32, f1 6 = z := ⟨_, rfl⟩
  have b15 : Bd v13 (0) (8) := (by rw [← ee14]; exact b3.2.2.2.2.1 6 (by decide))
  obtain ⟨v16, ee17⟩ : ∃ z : Int32, f1 8 = z := ⟨_, rfl⟩
  have b18 : Bd v16 (0) (3) := (by rw [← ee17]; exact b3.2.2.2.2.2.2.1 8 (by decide))
  obtain ⟨f19, c20, b21⟩ := invM_6 hI
  obtain ⟨v22, ee23⟩ : ∃ z : Int32, f19 0 = z := ⟨_, rfl⟩
  have b24 : Bd v22 (0) (40000) := (by rw [← ee23]; exact b21 0)
  have q25 : elm (S 7) 1 = v4.toInt := (elm_of c2 1).trans (congrArg Int32.toInt (ee5))
  have q26 : elm (S 7) 0 = v7.toInt := (elm_of c2 0).trans (congrArg Int32.toInt (ee8))
  have q27 : elm (S 7) 3 = v10.toInt := (elm_of c2 3).trans (congrArg Int32.toInt (ee11))
  have q28 : elm (S 7) 6 = v13.toInt := (elm_of c2 6).trans (congrArg Int32.toInt (ee14))
  have q29 : elm (S 7) 8 = v16.toInt := (elm_of c2 8).trans (congrArg Int32.toInt (ee17))
  have q30 : elm (S 6) 0 = v22.toInt := (elm_of c20 0).trans (congrArg Int32.toInt (ee23))
  refine lv_aload_n hx hb dX12_origins_0 rfl (lv_at hl 0 rfl) ?_
  refine lv_iconst (v := 0) hx hb dX12_origins_1 (by decide) ?_
  obtain ⟨v31, v32, v34, v36, v38, v39, w40, v41, v43, v44, v45, v46, v48, v50, v52, v54, v56, v57, v58, c59, b33, b35, b37, b42, b47, b49, b51, b53, b55⟩ := invM_0 hI
  have c59 : S 0 = .inr (12, [.int v31, .ref (ad 1), .ref (ad 2), .ref (ad 3), .ref (ad 4), .ref (ad 5), .int v32, .int v34, .int v36, .int v38, .int v39, .long w40, .int v41, .int v43, .int v44, .int v45, .ref (ad 6), .ref (ad 7), .ref (ad 8), .ref (ad 9), .ref (ad 10), .ref (ad 11), .ref (ad 12), .ref (ad 13), .ref (ad 14), .ref (ad 15), .int v46, .int v48, .ref (ad 16), .int v50, .int v52, .int v54, .int v56, .int v57, .ref (ad 17), .ref (ad 18), .int v58, .ref (ad 19)]) := c59
  refine xputi E hs hQ 0 (by decide) c59 rfl 0 (by decide) q1468 rfl rfl (Nat.le_of_ble_eq_true rfl) dX12_origins_2 (fun H locs S60 eS60 hQ => ?_)
  have hI := invM_up_0 hI eS60 ⟨0, v32, v34, v36, v38, v39, w40, v41, v43, v44, v45, v46, v48, v50, v52, v54, v56, v57, v58, rfl, b33, b35, b37, b42, b47, b49, b51, b53, b55⟩
  have c61 : S60 0 = .inr (12, [.int 0, .ref (ad 1), .ref (ad 2), .ref (ad 3), .ref (ad 4), .ref (ad 5), .int v32, .int v34, .int v36, .int v38, .int v39, .long w40, .int v41, .int v43, .int v44, .int v45, .ref (ad 6), .ref (ad 7), .ref (ad 8), .ref (ad 9), .ref (ad 10), .ref (ad 11), .ref (ad 12), .ref (ad 13), .ref (ad 14), .ref (ad 15), .int v46, .int v48, .ref (ad 16), .int v50, .int v52, .int v54, .int v56, .int v57, .ref (ad 17), .ref (ad 18), .int v58, .ref (ad 19)]) := up_at eS60 rfl
  refine lv_aload_n hx hb dX12_origins_5 rfl (lv_at hl 0 rfl) ?_
  refine lv_iload_n hx hb dX12_origins_6 rfl (lv_at hl 3 rfl) ?_
  refine lv_i2l hx hb dX12_origins_7 rfl ?_
  refine lv_topl (fun w62 e63 => ?_)
  have t64 : w62.toInt = a3.toInt := by rw [e63]; exact i2l_i _
  have b65 : BdL w62 (-2147483648) (2147483647) := (by have h1 := ((ib_full a3)).1; have h2 := ((ib_full a3)).2; exact ⟨by omega, by omega⟩)
  have c66 : S60 7 = .inl (g.2 0, 50, .inl f1) := (up_ne eS60 (by decide) c2)
  refine xcVi E hs hQ hml hl.1 0 (gX12_isCell_0 l g ad hD S60 hI w62) mX12_isCell q1750 (by decide) c61 rfl rfl ⟨(Nat.le_of_ble_eq_true rfl), (Nat.le_of_ble_eq_true rfl)⟩ ⟨(Nat.le_of_ble_eq_true rfl), (Nat.le_of_ble_eq_true rfl)⟩ (Nat.le_of_ble_eq_true rfl) rfl dX12_origins_8 (fun r67 S67 H locs hp67 hQ _ => ?_)
  obtain ⟨rfl, b67, g67_0⟩ := hp67
  have q68 : elm (S60 7) 0 = v7.toInt := (elm_of c66 0).trans (congrArg Int32.toInt (ee8))
  refine lv_if_eq (tgt := 39) hx hb dX12_origins_11 (by decide) (fun k69 => ?_) (fun k69 => ?_)
  · have h70 := ib_eq k69
    have b71 : Bd r67 (0) (0) := ⟨(b67).1, ((rf_eq b67 (by decide : Bd 0 (0) (0)) h70).1).2⟩
    clear g67_0
    refine lv_bipush (v := (-2)) hx hb dX12_origins_39 (by decide) ?_
    exact xri E hr hlk hQ (⟨hI, (up_o o_refl eS60 (by decide))⟩) dX12_origins_41
  · have h72 := ib_ne k69
    have b73 : Bd r67 (1) (1) := rf_nlo b67 (by decide : Bd 0 (0) (0)) h72
    have g74 := g67_0.resolve_left (by omega)
    clear g67_0
    have b75 : BdL w62 (0) (11) := ⟨by omega, by omega⟩
    have b76 : Bd v7 (1) (12) := ⟨by omega, (b9).2⟩
    have b77 : Bd a3 (0) (11) := ⟨by omega, by omega⟩
    refine lv_iload_n hx hb dX12_origins_14 rfl (lv_at hl 1 rfl) ?_
    refine lv_i2l hx hb dX12_origins_15 rfl ?_
    refine lv_topl (fun w78 e79 => ?_)
    have t80 : w78.toInt = a1.toInt := by rw [e79]; exact i2l_i _
    have b81 : BdL w78 (-2147483648) (2147483647) := (by have h1 := ((ib_full a1)).1; have h2 := ((ib_full a1)).2; exact ⟨by omega, by omega⟩)
    refine lv_lconst (v := 0) hx hb dX12_origins_16 (by decide) ?_
    refine lv_ldc2 (v := 400) hx hb E.2.2.1 (E.2.2.2.1 _ q1828) dX12_origins_17 ?_
    have q82 : (0 : Int64).toInt = 0 := by decide
    have q83 : (400 : Int64).toInt = 400 := by decide
    refine xcSi E hs hQ hml hl.1 (gX12_in l g ad hD S60 hI w78 0 400) mX12_in q1591 rfl ⟨(Nat.le_of_ble_eq_true rfl), (Nat.le_of_ble_eq_true rfl)⟩ ⟨(Nat.le_of_ble_eq_true rfl), (Nat.le_of_ble_eq_true rfl)⟩ (Nat.le_of_ble_eq_true rfl) rfl dX12_origins_20 (fun r84 S84 H locs hp84 hQ => ?_)
    obtain ⟨rfl, b84, g84_0, u84_0⟩ := hp84
    refine lv_if_eq (tgt := 39) hx hb dX12_origins_23 (by decide) (fun k85 => ?_) (fun k85 => ?_)
    · have h86 := ib_eq k85
      have b87 : Bd r84 (0) (0) := ⟨(b84).1, ((rf_eq b84 (by decide : Bd 0 (0) (0)) h86).1).2⟩
      clear g84_0
      refine lv_bipush (v := (-2)) hx hb dX12_origins_39 (by decide) ?_
      exact xri E hr hlk hQ (⟨hI, (up_o o_refl eS60 (by decide))⟩) dX12_origins_41
    · have h88 := ib_ne k85
      have b89 : Bd r84 (1) (1) := rf_nlo b84 (by decide : Bd 0 (0) (0)) h88
      have g90 := g84_0.resolve_left (by omega)
      clear g84_0
      have b91 : BdL w78 (0) (400) := ⟨by omega, by omega⟩
      have b92 : Bd a1 (0) (400) := ⟨by omega, by omega⟩
      refine lv_iload_n hx hb dX12_origins_26 rfl (lv_at hl 2 rfl) ?_
      refine lv_i2l hx hb dX12_origins_27 rfl ?_
      refine lv_topl (fun w93 e94 => ?_)
      have t95 : w93.toInt = a2.toInt := by rw [e94]; exact i2l_i _
      have b96 : BdL w93 (-2147483648) (2147483647) := (by have h1 := ((ib_full a2)).1; have h2 := ((ib_full a2)).2; exact ⟨by omega, by omega⟩)
      refine lv_iload_n hx hb dX12_origins_28 rfl (lv_at hl 1 rfl) ?_
      refine lv_i2l hx hb dX12_origins_29 rfl ?_
      refine lv_topl (fun w97 e98 => ?_)
      have t99 : w97.toInt = a1.toInt := by rw [e98]; exact i2l_i _
      have b100 : BdL w97 (0) (400) := (by have h1 := (b92).1; have h2 := (b92).2; exact ⟨by omega, by omega⟩)
      refine lv_ldc2 (v := 400) hx hb E.2.2.1 (E.2.2.2.1 _ q1828) dX12_origins_30 ?_
      refine xcSi E hs hQ hml hl.1 (gX12_in l g ad hD S60 hI w93 w97 400) mX12_in q1591 rfl ⟨(Nat.le_of_ble_eq_true rfl), (Nat.le_of_ble_eq_true rfl)⟩ ⟨(Nat.le_of_ble_eq_true rfl), (Nat.le_of_ble_eq_true rfl)⟩ (Nat.le_of_ble_eq_true rfl) rfl dX12_origins_33 (fun r101 S101 H locs hp101 hQ => ?_)
      obtain ⟨rfl, b101, g101_0, u101_0⟩ := hp101
      refine lv_if_ne (tgt := 42) hx hb dX12_origins_36 (by decide) (fun k102 => ?_) (fun k102 => ?_)
      · have h103 := ib_ne k102
        have b104 : Bd r101 (1) (1) := rf_nlo b101 (by decide : Bd 0 (0) (0)) h103
        have g105 := g101_0.resolve_left (by omega)
        clear g101_0
        have b106 : BdL w93 (0) (400) := ⟨by omega, by omega⟩
        have b107 : Bd a2 (0) (400) := ⟨by omega, by omega⟩
        refine lv_iconst (v := 0) hx hb dX12_origins_42 (by decide) ?_
        refine lv_istore (lv' := [(4, .int 0), (0, .ref (ad 0)), (1, .int a1), (2, .int a2), (3, .int a3)]) hx hb dX12_origins_43 hl (by decide) rfl (fun ls hl => ?_)
        refine lv_iconst (v := 0) hx hb dX12_origins_45 (by decide) ?_
        refine lv_istore (lv' := [(5, .int 0), (4, .int 0), (0, .ref (ad 0)), (1, .int a1), (2, .int a2), (3, .int a3)]) hx hb dX12_origins_46 hl (by decide) rfl (fun ls hl => ?_)
        have loop48 : ∀ (n : Nat) (S_48 : SS) (H : Heap) (locs : List Loc) (ls : Array Slot) (x48_4 : Int32) (x48_5 : Int32) (y48_0_0 : Int32) (y48_0_6 : Int32) (y48_0_7 : Int32) (y48_0_8 : Int32) (y48_0_9 : Int32) (y48_0_10 : Int32) (wy48_0_11 : Int64) (y48_0_12 : Int32) (y48_0_13 : Int32) (y48_0_14 : Int32) (y48_0_15 : Int32) (y48_0_26 : Int32) (y48_0_27 : Int32) (y48_0_29 : Int32) (y48_0_30 : Int32) (y48_0_31 : Int32) (y48_0_32 : Int32) (y48_0_33 : Int32) (y48_0_36 : Int32), Bd x48_5 (0) (12) → Bd y48_0_6 (0) (1200) → Bd y48_0_7 (0) (1200) → Bd y48_0_8 (0) (4) → Bd y48_0_12 (0) (3) → Bd y48_0_26 (0) (11) → Bd y48_0_27 (-1) (400) → Bd y48_0_29 (0) (2) → Bd y48_0_30 (0) (11) → Bd y48_0_31 (-1) (468) → (-1) * x48_5.toInt + 12 < ((n : Nat) : Int) → InvM g ad S_48 → (∀ j, j ∉ ([0] : List Nat) → S_48 j = S60 j) → S_48 0 = .inr (12, [.int y48_0_0, .ref (ad 1), .ref (ad 2), .ref (ad 3), .ref (ad 4), .ref (ad 5), .int y48_0_6, .int y48_0_7, .int y48_0_8, .int y48_0_9, .int y48_0_10, .long wy48_0_11, .int y48_0_12, .int y48_0_13, .int y48_0_14, .int y48_0_15, .ref (ad 6), .ref (ad 7), .ref (ad 8), .ref (ad 9), .ref (ad 10), .ref (ad 11), .ref (ad 12), .ref (ad 13), .ref (ad 14), .ref (ad 15), .int y48_0_26, .int y48_0_27, .ref (ad 16), .int y48_0_29, .int y48_0_30, .int y48_0_31, .int y48_0_32, .int y48_0_33, .ref (ad 17), .ref (ad 18), .int y48_0_36, .ref (ad 19)]) → Hp g ad 20 S_48 (FA ad 20) s.heap H locs → lv_has ls 6 [(5, .int x48_5), (4, .int x48_4), (0, .ref (ad 0)), (1, .int a1), (2, .int a2), (3, .int a3)] → W p l e (Rm 4) s m [.ref (ad 0), .int a1, .int a2, .int a3].toArray below meth c H locs 0 0 (MQ below (va_Qi (fun _ S' => InvM g ad S' ∧ (∀ j, j ∉ ([0] : List Nat) → S' j = S j)) (QB g ad 20) (FA ad 20)) [.ref (ad 0), .int a1, .int a2, .int a3].toArray s 0 0 (FA ad 20)) (F0 m 48 ls []) := by
          intro n
          induction n with
          | zero => intro S_48 H locs ls x48_4 x48_5 y48_0_0 y48_0_6 y48_0_7 y48_0_8 y48_0_9 y48_0_10 wy48_0_11 y48_0_12 y48_0_13 y48_0_14 y48_0_15 y48_0_26 y48_0_27 y48_0_29 y48_0_30 y48_0_31 y48_0_32 y48_0_33 y48_0_36 Bx48_5 By48_0_6 By48_0_7 By48_0_8 By48_0_12 By48_0_26 By48_0_27 By48_0_29 By48_0_30 By48_0_31 hn48_ hI hf48 cl48_0 hQ hl; exfalso; have := (Bx48_5).2; omega
          | succ n48_ ih48 =>
            intro S_48 H locs ls x48_4 x48_5 y48_0_0 y48_0_6 y48_0_7 y48_0_8 y48_0_9 y48_0_10 wy48_0_11 y48_0_12 y48_0_13 y48_0_14 y48_0_15 y48_0_26 y48_0_27 y48_0_29 y48_0_30 y48_0_31 y48_0_32 y48_0_33 y48_0_36 Bx48_5 By48_0_6 By48_0_7 By48_0_8 By48_0_12 By48_0_26 By48_0_27 By48_0_29 By48_0_30 By48_0_31 hn48_ hI hf48 cl48_0 hQ hl
            refine lv_iload hx hb dX12_origins_48 (lv_at hl 0 rfl) ?_
            refine lv_aload_n hx hb dX12_origins_50 rfl (lv_at hl 2 rfl) ?_
            refine xget E hQ 0 (by decide) cl48_0 rfl 17 (by decide) q1485 rfl dX12_origins_51 ?_
            refine lv_iconst (v := 0) hx hb dX12_origins_54 (by decide) ?_
            have c108 : S_48 7 = .inl (g.2 0, 50, .inl f1) := ((hf48 7 (by decide)).trans c66)
            refine xiald E hQ 7 (by decide) c108 (vp_in_lit 0 50 (by decide)) dX12_origins_55 ?_
            refine sb_at (P := fun z => W _ _ _ _ _ _ _ _ _ _ _ _ _ _ _ (F0 _ _ _ (.int z :: _))) (show f1 (0 : Int32).toNatClampNeg = v7 from ee8) ?_
            refine lv_icmp_ge (tgt := 110) hx hb dX12_origins_56 (by decide) (fun k109 => ?_) (fun k109 => ?_)
            · have h110 := ib_le k109
              have b111 : Bd x48_5 (1) (12) := ⟨((rf_le b76 Bx48_5 h110).2).1, (Bx48_5).2⟩
              refine lv_iload hx hb dX12_origins_110 (lv_at hl 1 rfl) ?_
              exact xri E hr hlk hQ (⟨hI, (o_trans (up_o o_refl eS60 (by decide)) hf48 (by decide))⟩) dX12_origins_112
            · have h112 := ib_nle k109
              have b113 : Bd x48_5 (0) (11) := ⟨(Bx48_5).1, ((rf_lt Bx48_5 b76 h112).1).2⟩
              refine lv_aload_n hx hb dX12_origins_59 rfl (lv_at hl 2 rfl) ?_
              refine lv_iload hx hb dX12_origins_60 (lv_at hl 0 rfl) ?_
              refine lv_iload_n hx hb dX12_origins_62 rfl (lv_at hl 3 rfl) ?_
              refine lv_iload_n hx hb dX12_origins_63 rfl (lv_at hl 4 rfl) ?_
              have q114 : elm (S_48 7) 0 = v7.toInt := (elm_of c108 0).trans (congrArg Int32.toInt (ee8))
              have q115 : elm (S_48 7) 1 = v4.toInt := (elm_of c108 1).trans (congrArg Int32.toInt (ee5))
              refine xcVv E hs hQ hml hl.1 0 (gX12_floatsFrom_0 l g ad hD S_48 hI x48_5 a1 a2 b113 b92 (ib_wk b107 (by decide) (by decide)) (by omega) (by omega)) mX12_floatsFrom q1986 (by decide) cl48_0 rfl rfl ⟨(Nat.le_of_ble_eq_true rfl), (Nat.le_of_ble_eq_true rfl)⟩ ⟨(Nat.le_of_ble_eq_true rfl), (Nat.le_of_ble_eq_true rfl)⟩ (Nat.le_of_ble_eq_true rfl) rfl dX12_origins_64 (fun S116 H locs hp116 hQ _ => ?_)
              obtain ⟨hI, o116⟩ := hp116
              refine lv_iload hx hb dX12_origins_67 (lv_at hl 1 rfl) ?_
              refine lv_aload_n hx hb dX12_origins_69 rfl (lv_at hl 2 rfl) ?_
              obtain ⟨v117, v118, v120, v122, v124, v125, w126, v127, v129, v130, v131, v132, v134, v136, v138, v140, v142, v143, v144, c145, b119, b121, b123, b128, b133, b135, b137, b139, b141⟩ := invM_0 hI
              have c145 : S116 0 = .inr (12, [.int v117, .ref (ad 1), .ref (ad 2), .ref (ad 3), .ref (ad 4), .ref (ad 5), .int v118, .int v120, .int v122, .int v124, .int v125, .long w126, .int v127, .int v129, .int v130, .int v131, .ref (ad 6), .ref (ad 7), .ref (ad 8), .ref (ad 9), .ref (ad 10), .ref (ad 11), .ref (ad 12), .ref (ad 13), .ref (ad 14), .ref (ad 15), .int v132, .int v134, .ref (ad 16), .int v136, .int v138, .int v140, .int v142, .int v143, .ref (ad 17), .ref (ad 18), .int v144, .ref (ad 19)]) := c145
              refine xget E hQ 0 (by decide) c145 rfl 30 (by decide) q1498 rfl dX12_origins_70 ?_
              refine lv_iload_n hx hb dX12_origins_73 rfl (lv_at hl 5 rfl) ?_
              refine lv_icmp_ne (tgt := 100) hx hb dX12_origins_74 (by decide) (fun k146 => ?_) (fun k146 => ?_)
              · have h147 := ib_ne k146
                refine lv_iconst (v := 0) hx hb dX12_origins_100 (by decide) ?_
                refine lv_ior hx hb dX12_origins_101 ?_
                refine lv_topi (fun z148 e149 => ?_)
                refine lv_istore (lv' := [(4, .int z148), (5, .int x48_5), (0, .ref (ad 0)), (1, .int a1), (2, .int a2), (3, .int a3)]) hx hb dX12_origins_102 hl (by decide) rfl (fun ls hl => ?_)
                obtain ⟨z150, e151⟩ : ∃ z : Int32, z = x48_5 + 1 := ⟨_, rfl⟩
                have t152 := ib_add e151 b113 (by decide : Bd 1 (1) (1)) (by decide) (by decide)
                have b153 : Bd z150 (1) (12) := ib_addb t152 b113 (by decide : Bd 1 (1) (1))
                have t152 : z150.toInt = x48_5.toInt + 1 := fold_add t152 rfl (by decide)
                refine lv_iinc (v := z150) (lv' := [(5, .int z150), (4, .int z148), (0, .ref (ad 0)), (1, .int a1), (2, .int a2), (3, .int a3)]) hx hb dX12_origins_104 hl (k := 1) rfl (by rw [e151]; rfl) (by decide) rfl (fun ls hl => ?_)
                refine lv_goto (tgt := 48) hx hb dX12_origins_107 (by decide) ?_
                exact ih48 _ _ _ _ z148 z150 v117 v118 v120 v122 v124 v125 w126 v127 v129 v130 v131 v132 v134 v136 v138 v140 v142 v143 v144 (ib_wk b153 (by decide) (by decide)) b119 b121 b123 b128 b133 b135 b137 b139 b141 (by omega) hI (o_trans hf48 o116 (by decide)) c145 hQ (lv_sub hl [0, 1, 2, 3, 4, 5] rfl)
              · have h154 := ib_eq k146
                refine lv_aload_n hx hb dX12_origins_77 rfl (lv_at hl 2 rfl) ?_
                refine xget E hQ 0 (by decide) c145 rfl 31 (by decide) q1499 rfl dX12_origins_78 ?_
                refine lv_iconst (v := (-1)) hx hb dX12_origins_81 (by decide) ?_
                refine lv_icmp_eq (tgt := 93) hx hb dX12_origins_82 (by decide) (fun k155 => ?_) (fun k155 => ?_)
                · have h156 := ib_eq k155
                  have b157 : Bd v140 (-1) (-1) := ⟨(b141).1, ((rf_eq b141 (by decide : Bd (-1) (-1) (-1)) h156).1).2⟩
                  refine lv_iconst (v := 1) hx hb dX12_origins_93 (by decide) ?_
                  refine lv_iload hx hb dX12_origins_94 (lv_at hl 0 rfl) ?_
                  refine lv_ishl hx hb dX12_origins_96 ?_
                  refine lv_topi (fun z158 e159 => ?_)
                  refine lv_goto (tgt := 101) hx hb dX12_origins_97 (by decide) ?_
                  refine lv_ior hx hb dX12_origins_101 ?_
                  refine lv_topi (fun z160 e161 => ?_)
                  refine lv_istore (lv' := [(4, .int z160), (5, .int x48_5), (0, .ref (ad 0)), (1, .int a1), (2, .int a2), (3, .int a3)]) hx hb dX12_origins_102 hl (by decide) rfl (fun ls hl => ?_)
                  obtain ⟨z162, e163⟩ : ∃ z : Int32, z = x48_5 + 1 := ⟨_, rfl⟩
                  have t164 := ib_add e163 b113 (by decide : Bd 1 (1) (1)) (by decide) (by decide)
                  have b165 : Bd z162 (1) (12) := ib_addb t164 b113 (by decide : Bd 1 (1) (1))
                  have t164 : z162.toInt = x48_5.toInt + 1 := fold_add t164 rfl (by decide)
                  refine lv_iinc (v := z162) (lv' := [(5, .int z162), (4, .int z160), (0, .ref (ad 0)), (1, .int a1), (2, .int a2), (3, .int a3)]) hx hb dX12_origins_104 hl (k := 1) rfl (by rw [e163]; rfl) (by decide) rfl (fun ls hl => ?_)
                  refine lv_goto (tgt := 48) hx hb dX12_origins_107 (by decide) ?_
                  exact ih48 _ _ _ _ z160 z162 v117 v118 v120 v122 v124 v125 w126 v127 v129 v130 v131 v132 v134 v136 v138 v140 v142 v143 v144 (ib_wk b165 (by decide) (by decide)) b119 b121 b123 b128 b133 b135 b137 b139 (ib_wk b157 (by decide) (by decide)) (by omega) hI (o_trans hf48 o116 (by decide)) c145 hQ (lv_sub hl [0, 1, 2, 3, 4, 5] rfl)
                · have h166 := ib_ne k155
                  have b167 : Bd v140 (0) (468) := rf_nlo b141 (by decide : Bd (-1) (-1) (-1)) h166
                  refine lv_aload_n hx hb dX12_origins_85 rfl (lv_at hl 2 rfl) ?_
                  refine xget E hQ 0 (by decide) c145 rfl 31 (by decide) q1499 rfl dX12_origins_86 ?_
                  refine lv_iload_n hx hb dX12_origins_89 rfl (lv_at hl 4 rfl) ?_
                  refine lv_icmp_ne (tgt := 100) hx hb dX12_origins_90 (by decide) (fun k168 => ?_) (fun k168 => ?_)
                  · have h169 := ib_ne k168
                    refine lv_iconst (v := 0) hx hb dX12_origins_100 (by decide) ?_
                    refine lv_ior hx hb dX12_origins_101 ?_
                    refine lv_topi (fun z170 e171 => ?_)
                    refine lv_istore (lv' := [(4, .int z170), (5, .int x48_5), (0, .ref (ad 0)), (1, .int a1), (2, .int a2), (3, .int a3)]) hx hb dX12_origins_102 hl (by decide) rfl (fun ls hl => ?_)
                    obtain ⟨z172, e173⟩ : ∃ z : Int32, z = x48_5 + 1 := ⟨_, rfl⟩
                    have t174 := ib_add e173 b113 (by decide : Bd 1 (1) (1)) (by decide) (by decide)
                    have b175 : Bd z172 (1) (12) := ib_addb t174 b113 (by decide : Bd 1 (1) (1))
                    have t174 : z172.toInt = x48_5.toInt + 1 := fold_add t174 rfl (by decide)
                    refine lv_iinc (v := z172) (lv' := [(5, .int z172), (4, .int z170), (0, .ref (ad 0)), (1, .int a1), (2, .int a2), (3, .int a3)]) hx hb dX12_origins_104 hl (k := 1) rfl (by rw [e173]; rfl) (by decide) rfl (fun ls hl => ?_)
                    refine lv_goto (tgt := 48) hx hb dX12_origins_107 (by decide) ?_
                    exact ih48 _ _ _ _ z170 z172 v117 v118 v120 v122 v124 v125 w126 v127 v129 v130 v131 v132 v134 v136 v138 v140 v142 v143 v144 (ib_wk b175 (by decide) (by decide)) b119 b121 b123 b128 b133 b135 b137 b139 (ib_wk b167 (by decide) (by decide)) (by omega) hI (o_trans hf48 o116 (by decide)) c145 hQ (lv_sub hl [0, 1, 2, 3, 4, 5] rfl)
                  · have h176 := ib_eq k168
                    have b177 : Bd v140 (0) (400) := ⟨(b167).1, ((rf_eq b167 b107 h176).1).2⟩
                    refine lv_iconst (v := 1) hx hb dX12_origins_93 (by decide) ?_
                    refine lv_iload hx hb dX12_origins_94 (lv_at hl 0 rfl) ?_
                    refine lv_ishl hx hb dX12_origins_96 ?_
                    refine lv_topi (fun z178 e179 => ?_)
                    refine lv_goto (tgt := 101) hx hb dX12_origins_97 (by decide) ?_
                    refine lv_ior hx hb dX12_origins_101 ?_
                    refine lv_topi (fun z180 e181 => ?_)
                    refine lv_istore (lv' := [(4, .int z180), (5, .int x48_5), (0, .ref (ad 0)), (1, .int a1), (2, .int a2), (3, .int a3)]) hx hb dX12_origins_102 hl (by decide) rfl (fun ls hl => ?_)
                    obtain ⟨z182, e183⟩ : ∃ z : Int32, z = x48_5 + 1 := ⟨_, rfl⟩
                    have t184 := ib_add e183 b113 (by decide : Bd 1 (1) (1)) (by decide) (by decide)
                    have b185 : Bd z182 (1) (12) := ib_addb t184 b113 (by decide : Bd 1 (1) (1))
                    have t184 : z182.toInt = x48_5.toInt + 1 := fold_add t184 rfl (by decide)
                    refine lv_iinc (v := z182) (lv' := [(5, .int z182), (4, .int z180), (0, .ref (ad 0)), (1, .int a1), (2, .int a2), (3, .int a3)]) hx hb dX12_origins_104 hl (k := 1) rfl (by rw [e183]; rfl) (by decide) rfl (fun ls hl => ?_)
                    refine lv_goto (tgt := 48) hx hb dX12_origins_107 (by decide) ?_
                    exact ih48 _ _ _ _ z180 z182 v117 v118 v120 v122 v124 v125 w126 v127 v129 v130 v131 v132 v134 v136 v138 v140 v142 v143 v144 (ib_wk b185 (by decide) (by decide)) b119 b121 b123 b128 b133 b135 b137 b139 (ib_wk b177 (by decide) (by decide)) (by omega) hI (o_trans hf48 o116 (by decide)) c145 hQ (lv_sub hl [0, 1, 2, 3, 4, 5] rfl)
        obtain ⟨n48, hn48⟩ := fu_n (12)
        exact loop48 n48 _ _ _ _ 0 0 0 v32 v34 v36 v38 v39 w40 v41 v43 v44 v45 v46 v48 v50 v52 v54 v56 v57 v58 (ib_wk (by decide : Bd 0 (0) (0)) (by decide) (by decide)) b33 b35 b37 b42 b47 b49 b51 b53 b55 (by have : (0 : Int32).toInt = 0 := (by decide); omega) hI o_refl c61 hQ (lv_sub hl [0, 1, 2, 3, 4, 5] rfl)
      · have h186 := ib_eq k102
        have b187 : Bd r101 (0) (0) := ⟨(b101).1, ((rf_eq b101 (by decide : Bd 0 (0) (0)) h186).1).2⟩
        clear g101_0
        refine lv_bipush (v := (-2)) hx hb dX12_origins_39 (by decide) ?_
        exact xri E hr hlk hQ (⟨hI, (up_o o_refl eS60 (by decide))⟩) dX12_origins_41
set_option maxHeartbeats 4000000 in
set_option maxRecDepth 100000 in
theorem gX12_when_0 (l : Launch) (g : GG) (ad : Nat → Nat) (hD : Dj ad 20) (S : SS) (hI : InvM g ad S) (a1 : Int32) (a2 : Int32) (a3 : Int32) (hq1 : 0 ≤ 12 * elm (S 7) 1 + (-1) * elm (S 7) 0) (hq2 : 0 ≤ 12 * elm (S 7) 3 + (-1) * elm (S 7) 0) (hq3 : 0 ≤ 8 * elm (S 7) 0 + (-1) * elm (S 7) 6) (hq4 : 0 ≤ 3 * elm (S 7) 0 + (-1) * elm (S 7) 8) (hq5 : 0 ≤ 40000 * elm (S 7) 0 + (-1) * elm (S 6) 0) : Met l yX12_when (wG (.code yX12_when cX12_when 5 (some .int))) (Rm 4) (XPre g ad 20 S [.ref (ad 0), .int a1, .int a2, .int a3]) (va_Qi (fun r S' => InvM g ad S' ∧ (∀ j, j ∉ ([0] : List Nat) → S' j = S j) ∧ Bd r (-2) (399)) (QB g ad 20) (FA ad 20)) 0 0 (FA ad 20) := by
  refine xmet cX12_when "EbbWreckModel" (by decide) rfl (Nat.le_of_ble_eq_true rfl) (fun p e s m below meth c E hr hlk hml hQ ls hl => ?_)
  have hx := E.1
  have hb := E.2.1
  have hs : Sp ad 20 (FA ad 20) := Sp.fa hD
  have hl : lv_has ls 5 [(0, .ref (ad 0)), (1, .int a1), (2, .int a2), (3, .int a3)] := hl
  obtain ⟨f1, c2, b3⟩ := invM_7 hI
  obtain ⟨v4, ee5⟩ : ∃ z : Int32, f1 1 = z := ⟨_, rfl⟩
  have b6 : Bd v4 (0) (12) := (by rw [← ee5]; exact b3.2.1 1 (by decide))
  obtain ⟨v7, ee8⟩ : ∃ z : Int32, f1 0 = z := ⟨_, rfl⟩
  have b9 : Bd v7 (0) (12) := (by rw [← ee8]; exact b3.1 0 (by decide))
  obtain ⟨v10, ee11⟩ : ∃ z : Int32, f1 3 = z := ⟨_, rfl⟩
  have b12 : Bd v10 (0) (12) := (by rw [← ee11]; exact b3.2.2.2.1 3 (by decide))
  obtain ⟨v13, ee14⟩ : ∃ z : Int32, f1 6 = z := ⟨_, rfl⟩
  have b15 : Bd v13 (0) (8) := (by rw [← ee14]; exact b3.2.2.2.2.1 6 (by decide))
  obtain ⟨v16, ee17⟩ : ∃ z : Int32, f1 8 = z := ⟨_, rfl⟩
  have b18 : Bd v16 (0) (3) := (by rw [← ee17]; exact b3.2.2.2.2.2.2.1 8 (by decide))
  obtain ⟨f19, c20, b21⟩ := invM_6 hI
  obtain ⟨v22, ee23⟩ : ∃ z : Int32, f19 0 = z := ⟨_, rfl⟩
  have b24 : Bd v22 (0) (40000) := (by rw [← ee23]; exact b21 0)
  have q25 : elm (S 7) 1 = v4.toInt := (elm_of c2 1).trans (congrArg Int32.toInt (ee5))
  have q26 : elm (S 7) 0 = v7.toInt := (elm_of c2 0).trans (congrArg Int32.toInt (ee8))
  have q27 : elm (S 7) 3 = v10.toInt := (elm_of c2 3).trans (congrArg Int32.toInt (ee11))
  have q28 : elm (S 7) 6 = v13.toInt := (elm_of c2 6).trans (congrArg Int32.toInt (ee14))
  have q29 : elm (S 7) 8 = v16.toInt := (elm_of c2 8).trans (congrArg Int32.toInt (ee17))
  have q30 : elm (S 6) 0 = v22.toInt := (elm_of c20 0).trans (congrArg Int32.toInt (ee23))
  refine lv_aload_n hx hb dX12_when_0 rfl (lv_at hl 0 rfl) ?_
  refine lv_iconst (v := 0) hx hb dX12_when_1 (by decide) ?_
  obtain ⟨v31, v32, v34, v36, v38, v39, w40, v41, v43, v44, v45, v46, v48, v50, v52, v54, v56, v57, v58, c59, b33, b35, b37, b42, b47, b49, b51, b53, b55⟩ := invM_0 hI
  have c59 : S 0 = .inr (12, [.int v31, .ref (ad 1), .ref (ad 2), .ref (ad 3), .ref (ad 4), .ref (ad 5), .int v32, .int v34, .int v36, .int v38, .int v39, .long w40, .int v41, .int v43, .int v44, .int v45, .ref (ad 6), .ref (ad 7), .ref (ad 8), .ref (ad 9), .ref (ad 10), .ref (ad 11), .ref (ad 12), .ref (ad 13), .ref (ad 14), .ref (ad 15), .int v46, .int v48, .ref (ad 16), .int v50, .int v52, .int v54, .int v56, .int v57, .ref (ad 17), .ref (ad 18), .int v58, .ref (ad 19)]) := c59
  refine xputi E hs hQ 0 (by decide) c59 rfl 0 (by decide) q1468 rfl rfl (Nat.le_of_ble_eq_true rfl) dX12_when_2 (fun H locs S60 eS60 hQ => ?_)
  have hI := invM_up_0 hI eS60 ⟨0, v32, v34, v36, v38, v39, w40, v41, v43, v44, v45, v46, v48, v50, v52, v54, v56, v57, v58, rfl, b33, b35, b37, b42, b47, b49, b51, b53, b55⟩
  have c61 : S60 0 = .inr (12, [.int 0, .ref (ad 1), .ref (ad 2), .ref (ad 3), .ref (ad 4), .ref (ad 5), .int v32, .int v34, .int v36, .int v38, .int v39, .long w40, .int v41, .int v43, .int v44, .int v45, .ref (ad 6), .ref (ad 7), .ref (ad 8), .ref (ad 9), .ref (ad 10), .ref (ad 11), .ref (ad 12), .ref (ad 13), .ref (ad 14), .ref (ad 15), .int v46, .int v48, .ref (ad 16), .int v50, .int v52, .int v54, .int v56, .int v57, .ref (ad 17), .ref (ad 18), .int v58, .ref (ad 19)]) := up_at eS60 rfl
  refine lv_aload_n hx hb dX12_when_5 rfl (lv_at hl 0 rfl) ?_
  refine lv_iload_n hx hb dX12_when_6 rfl (lv_at hl 1 rfl) ?_
  refine lv_i2l hx hb dX12_when_7 rfl ?_
  refine lv_topl (fun w62 e63 => ?_)
  have t64 : w62.toInt = a1.toInt := by rw [e63]; exact i2l_i _
  have b65 : BdL w62 (-2147483648) (2147483647) := (by have h1 := ((ib_full a1)).1; have h2 := ((ib_full a1)).2; exact ⟨by omega, by omega⟩)
  have c66 : S60 7 = .inl (g.2 0, 50, .inl f1) := (up_ne eS60 (by decide) c2)
  refine xcVi E hs hQ hml hl.1 0 (gX12_isCell_0 l g ad hD S60 hI w62) mX12_isCell q1750 (by decide) c61 rfl rfl ⟨(Nat.le_of_ble_eq_true rfl), (Nat.le_of_ble_eq_true rfl)⟩ ⟨(Nat.le_of_ble_eq_true rfl), (Nat.le_of_ble_eq_true rfl)⟩ (Nat.le_of_ble_eq_true rfl) rfl dX12_when_8 (fun r67 S67 H locs hp67 hQ _ => ?_)
  obtain ⟨rfl, b67, g67_0⟩ := hp67
  have q68 : elm (S60 7) 0 = v7.toInt := (elm_of c66 0).trans (congrArg Int32.toInt (ee8))
  refine lv_if_eq (tgt := 35) hx hb dX12_when_11 (by decide) (fun k69 => ?_) (fun k69 => ?_)
  · have h70 := ib_eq k69
    have b71 : Bd r67 (0) (0) := ⟨(b67).1, ((rf_eq b67 (by decide : Bd 0 (0) (0)) h70).1).2⟩
    clear g67_0
    refine lv_bipush (v := (-2)) hx hb dX12_when_35 (by decide) ?_
    exact xri E hr hlk hQ (⟨hI, (up_o o_refl eS60 (by decide)), (ib_wk (by decide : Bd (-2) (-2) (-2)) (by decide) (by decide))⟩) dX12_when_37
  · have h72 := ib_ne k69
    have b73 : Bd r67 (1) (1) := rf_nlo b67 (by decide : Bd 0 (0) (0)) h72
    have g74 := g67_0.resolve_left (by omega)
    clear g67_0
    have b75 : BdL w62 (0) (11) := ⟨by omega, by omega⟩
    have b76 : Bd v7 (1) (12) := ⟨by omega, (b9).2⟩
    have b77 : Bd a1 (0) (11) := ⟨by omega, by omega⟩
    refine lv_aload_n hx hb dX12_when_14 rfl (lv_at hl 0 rfl) ?_
    refine lv_iload_n hx hb dX12_when_15 rfl (lv_at hl 3 rfl) ?_
    refine lv_i2l hx hb dX12_when_16 rfl ?_
    refine lv_topl (fun w78 e79 => ?_)
    have t80 : w78.toInt = a3.toInt := by rw [e79]; exact i2l_i _
    have b81 : BdL w78 (-2147483648) (2147483647) := (by have h1 := ((ib_full a3)).1; have h2 := ((ib_full a3)).2; exact ⟨by omega, by omega⟩)
    refine xcVi E hs hQ hml hl.1 0 (gX12_isCell_0 l g ad hD S60 hI w78) mX12_isCell q1750 (by decide) c61 rfl rfl ⟨(Nat.le_of_ble_eq_true rfl), (Nat.le_of_ble_eq_true rfl)⟩ ⟨(Nat.le_of_ble_eq_true rfl), (Nat.le_of_ble_eq_true rfl)⟩ (Nat.le_of_ble_eq_true rfl) rfl dX12_when_17 (fun r82 S82 H locs hp82 hQ _ => ?_)
    obtain ⟨rfl, b82, g82_0⟩ := hp82
    refine lv_if_eq (tgt := 35) hx hb dX12_when_20 (by decide) (fun k83 => ?_) (fun k83 => ?_)
    · have h84 := ib_eq k83
      have b85 : Bd r82 (0) (0) := ⟨(b82).1, ((rf_eq b82 (by decide : Bd 0 (0) (0)) h84).1).2⟩
      clear g82_0
      refine lv_bipush (v := (-2)) hx hb dX12_when_35 (by decide) ?_
      exact xri E hr hlk hQ (⟨hI, (up_o o_refl eS60 (by decide)), (ib_wk (by decide : Bd (-2) (-2) (-2)) (by decide) (by decide))⟩) dX12_when_37
    · have h86 := ib_ne k83
      have b87 : Bd r82 (1) (1) := rf_nlo b82 (by decide : Bd 0 (0) (0)) h86
      have g88 := g82_0.resolve_left (by omega)
      clear g82_0
      have b89 : BdL w78 (0) (11) := ⟨by omega, by omega⟩
      have b90 : Bd a3 (0) (11) := ⟨by omega, by omega⟩
      refine lv_iload_n hx hb dX12_when_23 rfl (lv_at hl 2 rfl) ?_
      refine lv_i2l hx hb dX12_when_24 rfl ?_
      refine lv_topl (fun w91 e92 => ?_)
      have t93 : w91.toInt = a2.toInt := by rw [e92]; exact i2l_i _
      have b94 : BdL w91 (-2147483648) (2147483647) := (by have h1 := ((ib_full a2)).1; have h2 := ((ib_full a2)).2; exact ⟨by omega, by omega⟩)
      refine lv_lconst (v := 0) hx hb dX12_when_25 (by decide) ?_
      refine lv_ldc2 (v := 400) hx hb E.2.2.1 (E.2.2.2.1 _ q1828) dX12_when_26 ?_
      have q95 : (0 : Int64).toInt = 0 := by decide
      have q96 : (400 : Int64).toInt = 400 := by decide
      refine xcSi E hs hQ hml hl.1 (gX12_in l g ad hD S60 hI w91 0 400) mX12_in q1591 rfl ⟨(Nat.le_of_ble_eq_true rfl), (Nat.le_of_ble_eq_true rfl)⟩ ⟨(Nat.le_of_ble_eq_true rfl), (Nat.le_of_ble_eq_true rfl)⟩ (Nat.le_of_ble_eq_true rfl) rfl dX12_when_29 (fun r97 S97 H locs hp97 hQ => ?_)
      obtain ⟨rfl, b97, g97_0, u97_0⟩ := hp97
      refine lv_if_ne (tgt := 38) hx hb dX12_when_32 (by decide) (fun k98 => ?_) (fun k98 => ?_)
      · have h99 := ib_ne k98
        have b100 : Bd r97 (1) (1) := rf_nlo b97 (by decide : Bd 0 (0) (0)) h99
        have g101 := g97_0.resolve_left (by omega)
        clear g97_0
        have b102 : BdL w91 (0) (400) := ⟨by omega, by omega⟩
        have b103 : Bd a2 (0) (400) := ⟨by omega, by omega⟩
        refine lv_iload_n hx hb dX12_when_38 rfl (lv_at hl 2 rfl) ?_
        refine lv_iconst (v := 1) hx hb dX12_when_39 (by decide) ?_
        refine lv_isub hx hb dX12_when_40 ?_
        refine lv_topi (fun z104 e105 => ?_)
        have t106 := ib_sub e105 b103 (by decide : Bd 1 (1) (1)) (by decide) (by decide)
        have b107 : Bd z104 (-1) (399) := ib_subb t106 b103 (by decide : Bd 1 (1) (1))
        have t106 : z104.toInt = a2.toInt - 1 := fold_sub t106 rfl (by decide)
        refine lv_istore (lv' := [(4, .int z104), (0, .ref (ad 0)), (1, .int a1), (2, .int a2), (3, .int a3)]) hx hb dX12_when_41 hl (by decide) rfl (fun ls hl => ?_)
        have loop43 : ∀ (n : Nat) (S_43 : SS) (H : Heap) (locs : List Loc) (ls : Array Slot) (x43_4 : Int32) (y43_0_0 : Int32) (y43_0_6 : Int32) (y43_0_7 : Int32) (y43_0_8 : Int32) (y43_0_9 : Int32) (y43_0_10 : Int32) (wy43_0_11 : Int64) (y43_0_12 : Int32) (y43_0_13 : Int32) (y43_0_14 : Int32) (y43_0_15 : Int32) (y43_0_26 : Int32) (y43_0_27 : Int32) (y43_0_29 : Int32) (y43_0_30 : Int32) (y43_0_31 : Int32) (y43_0_32 : Int32) (y43_0_33 : Int32) (y43_0_36 : Int32), Bd x43_4 (-1) (399) → Bd y43_0_6 (0) (1200) → Bd y43_0_7 (0) (1200) → Bd y43_0_8 (0) (4) → Bd y43_0_12 (0) (3) → Bd y43_0_26 (0) (11) → Bd y43_0_27 (-1) (400) → Bd y43_0_29 (0) (2) → Bd y43_0_30 (0) (11) → Bd y43_0_31 (-1) (468) → x43_4.toInt + 1 < ((n : Nat) : Int) → InvM g ad S_43 → (∀ j, j ∉ ([0] : List Nat) → S_43 j = S60 j) → S_43 0 = .inr (12, [.int y43_0_0, .ref (ad 1), .ref (ad 2), .ref (ad 3), .ref (ad 4), .ref (ad 5), .int y43_0_6, .int y43_0_7, .int y43_0_8, .int y43_0_9, .int y43_0_10, .long wy43_0_11, .int y43_0_12, .int y43_0_13, .int y43_0_14, .int y43_0_15, .ref (ad 6), .ref (ad 7), .ref (ad 8), .ref (ad 9), .ref (ad 10), .ref (ad 11), .ref (ad 12), .ref (ad 13), .ref (ad 14), .ref (ad 15), .int y43_0_26, .int y43_0_27, .ref (ad 16), .int y43_0_29, .int y43_0_30, .int y43_0_31, .int y43_0_32, .int y43_0_33, .ref (ad 17), .ref (ad 18), .int y43_0_36, .ref (ad 19)]) → Hp g ad 20 S_43 (FA ad 20) s.heap H locs → lv_has ls 5 [(4, .int x43_4), (0, .ref (ad 0)), (1, .int a1), (2, .int a2), (3, .int a3)] → W p l e (Rm 4) s m [.ref (ad 0), .int a1, .int a2, .int a3].toArray below meth c H locs 0 0 (MQ below (va_Qi (fun r S' => InvM g ad S' ∧ (∀ j, j ∉ ([0] : List Nat) → S' j = S j) ∧ Bd r (-2) (399)) (QB g ad 20) (FA ad 20)) [.ref (ad 0), .int a1, .int a2, .int a3].toArray s 0 0 (FA ad 20)) (F0 m 43 ls []) := by
          intro n
          induction n with
          | zero => intro S_43 H locs ls x43_4 y43_0_0 y43_0_6 y43_0_7 y43_0_8 y43_0_9 y43_0_10 wy43_0_11 y43_0_12 y43_0_13 y43_0_14 y43_0_15 y43_0_26 y43_0_27 y43_0_29 y43_0_30 y43_0_31 y43_0_32 y43_0_33 y43_0_36 Bx43_4 By43_0_6 By43_0_7 By43_0_8 By43_0_12 By43_0_26 By43_0_27 By43_0_29 By43_0_30 By43_0_31 hn43_ hI hf43 cl43_0 hQ hl; exfalso; have := (Bx43_4).1; omega
          | succ n43_ ih43 =>
            intro S_43 H locs ls x43_4 y43_0_0 y43_0_6 y43_0_7 y43_0_8 y43_0_9 y43_0_10 wy43_0_11 y43_0_12 y43_0_13 y43_0_14 y43_0_15 y43_0_26 y43_0_27 y43_0_29 y43_0_30 y43_0_31 y43_0_32 y43_0_33 y43_0_36 Bx43_4 By43_0_6 By43_0_7 By43_0_8 By43_0_12 By43_0_26 By43_0_27 By43_0_29 By43_0_30 By43_0_31 hn43_ hI hf43 cl43_0 hQ hl
            refine lv_iload hx hb dX12_when_43 (lv_at hl 0 rfl) ?_
            refine lv_if_lt (tgt := 81) hx hb dX12_when_45 (by decide) (fun k108 => ?_) (fun k108 => ?_)
            · have h109 := ib_lt k108
              have b110 : Bd x43_4 (-1) (-1) := ⟨(Bx43_4).1, ((rf_lt Bx43_4 (by decide : Bd 0 (0) (0)) h109).1).2⟩
              refine lv_iconst (v := (-1)) hx hb dX12_when_81 (by decide) ?_
              exact xri E hr hlk hQ (⟨hI, (o_trans (up_o o_refl eS60 (by decide)) hf43 (by decide)), (ib_wk (by decide : Bd (-1) (-1) (-1)) (by decide) (by decide))⟩) dX12_when_82
            · have h111 := ib_nlt k108
              have b112 : Bd x43_4 (0) (399) := ⟨((rf_le (by decide : Bd 0 (0) (0)) Bx43_4 h111).2).1, (Bx43_4).2⟩
              refine lv_aload_n hx hb dX12_when_48 rfl (lv_at hl 1 rfl) ?_
              refine lv_iload_n hx hb dX12_when_49 rfl (lv_at hl 2 rfl) ?_
              refine lv_iload hx hb dX12_when_50 (lv_at hl 0 rfl) ?_
              refine lv_iload_n hx hb dX12_when_52 rfl (lv_at hl 3 rfl) ?_
              have c113 : S_43 7 = .inl (g.2 0, 50, .inl f1) := ((hf43 7 (by decide)).trans c66)
              have q114 : elm (S_43 7) 0 = v7.toInt := (elm_of c113 0).trans (congrArg Int32.toInt (ee8))
              have q115 : elm (S_43 7) 1 = v4.toInt := (elm_of c113 1).trans (congrArg Int32.toInt (ee5))
              refine xcVv E hs hQ hml hl.1 0 (gX12_floatsFrom_0 l g ad hD S_43 hI a1 x43_4 a2 b77 (ib_wk b112 (by decide) (by decide)) (ib_wk b103 (by decide) (by decide)) (by omega) (by omega)) mX12_floatsFrom q1986 (by decide) cl43_0 rfl rfl ⟨(Nat.le_of_ble_eq_true rfl), (Nat.le_of_ble_eq_true rfl)⟩ ⟨(Nat.le_of_ble_eq_true rfl), (Nat.le_of_ble_eq_true rfl)⟩ (Nat.le_of_ble_eq_true rfl) rfl dX12_when_53 (fun S116 H locs hp116 hQ _ => ?_)
              obtain ⟨hI, o116⟩ := hp116
              refine lv_aload_n hx hb dX12_when_56 rfl (lv_at hl 1 rfl) ?_
              obtain ⟨v117, v118, v120, v122, v124, v125, w126, v127, v129, v130, v131, v132, v134, v136, v138, v140, v142, v143, v144, c145, b119, b121, b123, b128, b133, b135, b137, b139, b141⟩ := invM_0 hI
              have c145 : S116 0 = .inr (12, [.int v117, .ref (ad 1), .ref (ad 2), .ref (ad 3), .ref (ad 4), .ref (ad 5), .int v118, .int v120, .int v122, .int v124, .int v125, .long w126, .int v127, .int v129, .int v130, .int v131, .ref (ad 6), .ref (ad 7), .ref (ad 8), .ref (ad 9), .ref (ad 10), .ref (ad 11), .ref (ad 12), .ref (ad 13), .ref (ad 14), .ref (ad 15), .int v132, .int v134, .ref (ad 16), .int v136, .int v138, .int v140, .int v142, .int v143, .ref (ad 17), .ref (ad 18), .int v144, .ref (ad 19)]) := c145
              refine xget E hQ 0 (by decide) c145 rfl 31 (by decide) q1499 rfl dX12_when_57 ?_
              refine lv_iload_n hx hb dX12_when_60 rfl (lv_at hl 3 rfl) ?_
              refine lv_icmp_ne (tgt := 75) hx hb dX12_when_61 (by decide) (fun k146 => ?_) (fun k146 => ?_)
              · have h147 := ib_ne k146
                obtain ⟨z148, e149⟩ : ∃ z : Int32, z = x43_4 + (-1) := ⟨_, rfl⟩
                have t150 := ib_add e149 b112 (by decide : Bd (-1) (-1) (-1)) (by decide) (by decide)
                have b151 : Bd z148 (-1) (398) := ib_addb t150 b112 (by decide : Bd (-1) (-1) (-1))
                have t150 : z148.toInt = x43_4.toInt + (-1) := fold_add t150 rfl (by decide)
                refine lv_iinc (v := z148) (lv' := [(4, .int z148), (0, .ref (ad 0)), (1, .int a1), (2, .int a2), (3, .int a3)]) hx hb dX12_when_75 hl (k := 0) rfl (by rw [e149]; rfl) (by decide) rfl (fun ls hl => ?_)
                refine lv_goto (tgt := 43) hx hb dX12_when_78 (by decide) ?_
                exact ih43 _ _ _ _ z148 v117 v118 v120 v122 v124 v125 w126 v127 v129 v130 v131 v132 v134 v136 v138 v140 v142 v143 v144 (ib_wk b151 (by decide) (by decide)) b119 b121 b123 b128 b133 b135 b137 b139 b141 (by omega) hI (o_trans hf43 o116 (by decide)) c145 hQ (lv_sub hl [0, 1, 2, 3, 4] rfl)
              · have h152 := ib_eq k146
                have b153 : Bd v140 (0) (400) := ⟨((rf_eq b141 b103 h152).1).1, ((rf_eq b141 b103 h152).1).2⟩
                refine lv_aload_n hx hb dX12_when_64 rfl (lv_at hl 1 rfl) ?_
                refine xget E hQ 0 (by decide) c145 rfl 30 (by decide) q1498 rfl dX12_when_65 ?_
                refine lv_iload_n hx hb dX12_when_68 rfl (lv_at hl 4 rfl) ?_
                refine lv_icmp_ne (tgt := 75) hx hb dX12_when_69 (by decide) (fun k154 => ?_) (fun k154 => ?_)
                · have h155 := ib_ne k154
                  obtain ⟨z156, e157⟩ : ∃ z : Int32, z = x43_4 + (-1) := ⟨_, rfl⟩
                  have t158 := ib_add e157 b112 (by decide : Bd (-1) (-1) (-1)) (by decide) (by decide)
                  have b159 : Bd z156 (-1) (398) := ib_addb t158 b112 (by decide : Bd (-1) (-1) (-1))
                  have t158 : z156.toInt = x43_4.toInt + (-1) := fold_add t158 rfl (by decide)
                  refine lv_iinc (v := z156) (lv' := [(4, .int z156), (0, .ref (ad 0)), (1, .int a1), (2, .int a2), (3, .int a3)]) hx hb dX12_when_75 hl (k := 0) rfl (by rw [e157]; rfl) (by decide) rfl (fun ls hl => ?_)
                  refine lv_goto (tgt := 43) hx hb dX12_when_78 (by decide) ?_
                  exact ih43 _ _ _ _ z156 v117 v118 v120 v122 v124 v125 w126 v127 v129 v130 v131 v132 v134 v136 v138 v140 v142 v143 v144 (ib_wk b159 (by decide) (by decide)) b119 b121 b123 b128 b133 b135 b137 b139 (ib_wk b153 (by decide) (by decide)) (by omega) hI (o_trans hf43 o116 (by decide)) c145 hQ (lv_sub hl [0, 1, 2, 3, 4] rfl)
                · have h160 := ib_eq k154
                  refine lv_iload hx hb dX12_when_72 (lv_at hl 0 rfl) ?_
                  exact xri E hr hlk hQ (⟨hI, (o_trans (o_trans (up_o o_refl eS60 (by decide)) hf43 (by decide)) o116 (by decide)), (ib_wk b112 (by decide) (by decide))⟩) dX12_when_74
        obtain ⟨n43, hn43⟩ := fu_n (z104.toInt + 1)
        exact loop43 n43 _ _ _ _ z104 0 v32 v34 v36 v38 v39 w40 v41 v43 v44 v45 v46 v48 v50 v52 v54 v56 v57 v58 b107 b33 b35 b37 b42 b47 b49 b51 b53 b55 (by have : (0 : Int32).toInt = 0 := (by decide); omega) hI o_refl c61 hQ (lv_sub hl [0, 1, 2, 3, 4] rfl)
      · have h161 := ib_eq k98
        have b162 : Bd r97 (0) (0) := ⟨(b97).1, ((rf_eq b97 (by decide : Bd 0 (0) (0)) h161).1).2⟩
        clear g97_0
        refine lv_bipush (v := (-2)) hx hb dX12_when_35 (by decide) ?_
        exact xri E hr hlk hQ (⟨hI, (up_o o_refl eS60 (by decide)), (ib_wk (by decide : Bd (-2) (-2) (-2)) (by decide) (by decide))⟩) dX12_when_37
set_option maxHeartbeats 4000000 in
set_option maxRecDepth 100000 in
theorem gX12_fits_0 (l : Launch) (g : GG) (ad : Nat → Nat) (hD : Dj ad 20) (S : SS) (hI : InvM g ad S) (a1 : Int32) (hq1 : 0 ≤ 12 * elm (S 7) 1 + (-1) * elm (S 7) 0) (hq2 : 0 ≤ 12 * elm (S 7) 3 + (-1) * elm (S 7) 0) (hq3 : 0 ≤ 8 * elm (S 7) 0 + (-1) * elm (S 7) 6) (hq4 : 0 ≤ 3 * elm (S 7) 0 + (-1) * elm (S 7) 8) (hq5 : 0 ≤ 40000 * elm (S 7) 0 + (-1) * elm (S 6) 0) : Met l yX12_fits (wG (.code yX12_fits cX12_fits 3 (some .int))) (Rm 5) (XPre g ad 20 S [.ref (ad 0), .int a1]) (va_Qi (fun _ S' => InvM g ad S' ∧ (∀ j, j ∉ ([0] : List Nat) → S' j = S j)) (QB g ad 20) (FA ad 20)) 0 0 (FA ad 20) := by
  refine xmet cX12_fits "EbbWreckModel" (by decide) rfl (Nat.le_of_ble_eq_true rfl) (fun p e s m below meth c E hr hlk hml hQ ls hl => ?_)
  have hx := E.1
  have hb := E.2.1
  have hs : Sp ad 20 (FA ad 20) := Sp.fa hD
  have hl : lv_has ls 3 [(0, .ref (ad 0)), (1, .int a1)] := hl
  obtain ⟨f1, c2, b3⟩ := invM_7 hI
  obtain ⟨v4, ee5⟩ : ∃ z : Int32, f1 1 = z := ⟨_, rfl⟩
  have b6 : Bd v4 (0) (12) := (by rw [← ee5]; exact b3.2.1 1 (by decide))
  obtain ⟨v7, ee8⟩ : ∃ z : Int32, f1 0 = z := ⟨_, rfl⟩
  have b9 : Bd v7 (0) (12) := (by rw [← ee8]; exact b3.1 0 (by decide))
  obtain ⟨v10, ee11⟩ : ∃ z : Int32, f1 3 = z := ⟨_, rfl⟩
  have b12 : Bd v10 (0) (12) := (by rw [← ee11]; exact b3.2.2.2.1 3 (by decide))
  obtain ⟨v13, ee14⟩ : ∃ z : Int32, f1 6 = z := ⟨_, rfl⟩
  have b15 : Bd v13 (0) (8) := (by rw [← ee14]; exact b3.2.2.2.2.1 6 (by decide))
  obtain ⟨v16, ee17⟩ : ∃ z : Int32, f1 8 = z := ⟨_, rfl⟩
  have b18 : Bd v16 (0) (3) := (by rw [← ee17]; exact b3.2.2.2.2.2.2.1 8 (by decide))
  obtain ⟨f19, c20, b21⟩ := invM_6 hI
  obtain ⟨v22, ee23⟩ : ∃ z : Int32, f19 0 = z := ⟨_, rfl⟩
  have b24 : Bd v22 (0) (40000) := (by rw [← ee23]; exact b21 0)
  have q25 : elm (S 7) 1 = v4.toInt := (elm_of c2 1).trans (congrArg Int32.toInt (ee5))
  have q26 : elm (S 7) 0 = v7.toInt := (elm_of c2 0).trans (congrArg Int32.toInt (ee8))
  have q27 : elm (S 7) 3 = v10.toInt := (elm_of c2 3).trans (congrArg Int32.toInt (ee11))
  have q28 : elm (S 7) 6 = v13.toInt := (elm_of c2 6).trans (congrArg Int32.toInt (ee14))
  have q29 : elm (S 7) 8 = v16.toInt := (elm_of c2 8).trans (congrArg Int32.toInt (ee17))
  have q30 : elm (S 6) 0 = v22.toInt := (elm_of c20 0).trans (congrArg Int32.toInt (ee23))
  refine lv_aload_n hx hb dX12_fits_0 rfl (lv_at hl 0 rfl) ?_
  refine lv_iconst (v := 0) hx hb dX12_fits_1 (by decide) ?_
  obtain ⟨v31, v32, v34, v36, v38, v39, w40, v41, v43, v44, v45, v46, v48, v50, v52, v54, v56, v57, v58, c59, b33, b35, b37, b42, b47, b49, b51, b53, b55⟩ := invM_0 hI
  have c59 : S 0 = .inr (12, [.int v31, .ref (ad 1), .ref (ad 2), .ref (ad 3), .ref (ad 4), .ref (ad 5), .int v32, .int v34, .int v36, .int v38, .int v39, .long w40, .int v41, .int v43, .int v44, .int v45, .ref (ad 6), .ref (ad 7), .ref (ad 8), .ref (ad 9), .ref (ad 10), .ref (ad 11), .ref (ad 12), .ref (ad 13), .ref (ad 14), .ref (ad 15), .int v46, .int v48, .ref (ad 16), .int v50, .int v52, .int v54, .int v56, .int v57, .ref (ad 17), .ref (ad 18), .int v58, .ref (ad 19)]) := c59
  refine xputi E hs hQ 0 (by decide) c59 rfl 0 (by decide) q1468 rfl rfl (Nat.le_of_ble_eq_true rfl) dX12_fits_2 (fun H locs S60 eS60 hQ => ?_)
  have hI := invM_up_0 hI eS60 ⟨0, v32, v34, v36, v38, v39, w40, v41, v43, v44, v45, v46, v48, v50, v52, v54, v56, v57, v58, rfl, b33, b35, b37, b42, b47, b49, b51, b53, b55⟩
  have c61 : S60 0 = .inr (12, [.int 0, .ref (ad 1), .ref (ad 2), .ref (ad 3), .ref (ad 4), .ref (ad 5), .int v32, .int v34, .int v36, .int v38, .int v39, .long w40, .int v41, .int v43, .int v44, .int v45, .ref (ad 6), .ref (ad 7), .ref (ad 8), .ref (ad 9), .ref (ad 10), .ref (ad 11), .ref (ad 12), .ref (ad 13), .ref (ad 14), .ref (ad 15), .int v46, .int v48, .ref (ad 16), .int v50, .int v52, .int v54, .int v56, .int v57, .ref (ad 17), .ref (ad 18), .int v58, .ref (ad 19)]) := up_at eS60 rfl
  refine lv_aload_n hx hb dX12_fits_5 rfl (lv_at hl 0 rfl) ?_
  refine lv_iload_n hx hb dX12_fits_6 rfl (lv_at hl 1 rfl) ?_
  have c62 : S60 6 = .inl (g.2 0, 5, .inl f19) := (up_ne eS60 (by decide) c20)
  refine xcVi E hs hQ hml hl.1 0 (gX12_whyNot_0 l g ad hD S60 hI a1) mX12_whyNot q2019 (by decide) c61 rfl rfl ⟨(Nat.le_of_ble_eq_true rfl), (Nat.le_of_ble_eq_true rfl)⟩ ⟨(Nat.le_of_ble_eq_true rfl), (Nat.le_of_ble_eq_true rfl)⟩ (Nat.le_of_ble_eq_true rfl) rfl dX12_fits_7 (fun r63 S63 H locs hp63 hQ _ => ?_)
  obtain ⟨rfl, b63, g63_0⟩ := hp63
  have q64 : elm (S60 6) 0 = v22.toInt := (elm_of c62 0).trans (congrArg Int32.toInt (ee23))
  refine lv_istore_n (lv' := [(2, .int r63), (0, .ref (ad 0)), (1, .int a1)]) hx hb dX12_fits_10 rfl hl (by decide) rfl (fun ls hl => ?_)
  refine lv_iload_n hx hb dX12_fits_11 rfl (lv_at hl 0 rfl) ?_
  refine lv_if_eq (tgt := 19) hx hb dX12_fits_12 (by decide) (fun k65 => ?_) (fun k65 => ?_)
  · have h66 := ib_eq k65
    have b67 : Bd r63 (0) (0) := ⟨((rf_eq b63 (by decide : Bd 0 (0) (0)) h66).1).1, (b63).2⟩
    have g68 := g63_0.resolve_left (by omega)
    clear g63_0
    have b69 : Bd a1 (0) (3) := ⟨by omega, by omega⟩
    have b70 : Bd v22 (1) (40000) := ⟨by omega, (b24).2⟩
    refine lv_aload_n hx hb dX12_fits_19 rfl (lv_at hl 1 rfl) ?_
    refine lv_iload_n hx hb dX12_fits_20 rfl (lv_at hl 2 rfl) ?_
    have c71 : S60 7 = .inl (g.2 0, 50, .inl f1) := (up_ne eS60 (by decide) c2)
    have q72 : elm (S60 7) 0 = v7.toInt := (elm_of c71 0).trans (congrArg Int32.toInt (ee8))
    have q73 : elm (S60 7) 1 = v4.toInt := (elm_of c71 1).trans (congrArg Int32.toInt (ee5))
    refine xcVi E hs hQ hml hl.1 0 (gX12_fitsOf_0 l g ad hD S60 hI a1 b69 (by omega) (by omega)) mX12_fitsOf q2023 (by decide) c61 rfl rfl ⟨(Nat.le_of_ble_eq_true rfl), (Nat.le_of_ble_eq_true rfl)⟩ ⟨(Nat.le_of_ble_eq_true rfl), (Nat.le_of_ble_eq_true rfl)⟩ (Nat.le_of_ble_eq_true rfl) rfl dX12_fits_21 (fun r74 S74 H locs hp74 hQ _ => ?_)
    subst hp74
    exact xri E hr hlk hQ (⟨hI, (up_o o_refl eS60 (by decide))⟩) dX12_fits_24
  · have h75 := ib_ne k65
    have b76 : Bd r63 (-6) (-1) := rf_nhi b63 (by decide : Bd 0 (0) (0)) h75
    clear g63_0
    refine lv_iload_n hx hb dX12_fits_15 rfl (lv_at hl 0 rfl) ?_
    refine lv_goto (tgt := 24) hx hb dX12_fits_16 (by decide) ?_
    exact xri E hr hlk hQ (⟨hI, (up_o o_refl eS60 (by decide))⟩) dX12_fits_24
set_option maxHeartbeats 4000000 in
set_option maxRecDepth 100000 in
theorem gX12_fit_0 (l : Launch) (g : GG) (ad : Nat → Nat) (hD : Dj ad 20) (S : SS) (hI : InvM g ad S) (a1 : Int32) (a2 : Int32) (hq1 : 0 ≤ 12 * elm (S 7) 1 + (-1) * elm (S 7) 0) (hq2 : 0 ≤ 12 * elm (S 7) 3 + (-1) * elm (S 7) 0) (hq3 : 0 ≤ 8 * elm (S 7) 0 + (-1) * elm (S 7) 6) (hq4 : 0 ≤ 3 * elm (S 7) 0 + (-1) * elm (S 7) 8) (hq5 : 0 ≤ 40000 * elm (S 7) 0 + (-1) * elm (S 6) 0) : Met l yX12_fit (wG (.code yX12_fit cX12_fit 6 (some .int))) (Rm 4) (XPre g ad 20 S [.ref (ad 0), .int a1, .int a2]) (va_Qi (fun r S' => InvM g ad S' ∧ (∀ j, j ∉ ([0] : List Nat) → S' j = S j) ∧ Bd r (-1000) (3)) (QB g ad 20) (FA ad 20)) 0 0 (FA ad 20) := by
  refine xmet cX12_fit "EbbWreckModel" (by decide) rfl (Nat.le_of_ble_eq_true rfl) (fun p e s m below meth c E hr hlk hml hQ ls hl => ?_)
  have hx := E.1
  have hb := E.2.1
  have hs : Sp ad 20 (FA ad 20) := Sp.fa hD
  have hl : lv_has ls 6 [(0, .ref (ad 0)), (1, .int a1), (2, .int a2)] := hl
  obtain ⟨f1, c2, b3⟩ := invM_7 hI
  obtain ⟨v4, ee5⟩ : ∃ z : Int32, f1 1 = z := ⟨_, rfl⟩
  have b6 : Bd v4 (0) (12) := (by rw [← ee5]; exact b3.2.1 1 (by decide))
  obtain ⟨v7, ee8⟩ : ∃ z : Int32, f1 0 = z := ⟨_, rfl⟩
  have b9 : Bd v7 (0) (12) := (by rw [← ee8]; exact b3.1 0 (by decide))
  obtain ⟨v10, ee11⟩ : ∃ z : Int32, f1 3 = z := ⟨_, rfl⟩
  have b12 : Bd v10 (0) (12) := (by rw [← ee11]; exact b3.2.2.2.1 3 (by decide))
  obtain ⟨v13, ee14⟩ : ∃ z : Int32, f1 6 = z := ⟨_, rfl⟩
  have b15 : Bd v13 (0) (8) := (by rw [← ee14]; exact b3.2.2.2.2.1 6 (by decide))
  obtain ⟨v16, ee17⟩ : ∃ z : Int32, f1 8 = z := ⟨_, rfl⟩
  have b18 : Bd v16 (0) (3) := (by rw [← ee17]; exact b3.2.2.2.2.2.2.1 8 (by decide))
  obtain ⟨f19, c20, b21⟩ := invM_6 hI
  obtain ⟨v22, ee23⟩ : ∃ z : Int32, f19 0 = z := ⟨_, rfl⟩
  have b24 : Bd v22 (0) (40000) := (by rw [← ee23]; exact b21 0)
  have q25 : elm (S 7) 1 = v4.toInt := (elm_of c2 1).trans (congrArg Int32.toInt (ee5))
  have q26 : elm (S 7) 0 = v7.toInt := (elm_of c2 0).trans (congrArg Int32.toInt (ee8))
  have q27 : elm (S 7) 3 = v10.toInt := (elm_of c2 3).trans (congrArg Int32.toInt (ee11))
  have q28 : elm (S 7) 6 = v13.toInt := (elm_of c2 6).trans (congrArg Int32.toInt (ee14))
  have q29 : elm (S 7) 8 = v16.toInt := (elm_of c2 8).trans (congrArg Int32.toInt (ee17))
  have q30 : elm (S 6) 0 = v22.toInt := (elm_of c20 0).trans (congrArg Int32.toInt (ee23))
  refine lv_aload_n hx hb dX12_fit_0 rfl (lv_at hl 0 rfl) ?_
  refine lv_iconst (v := 0) hx hb dX12_fit_1 (by decide) ?_
  obtain ⟨v31, v32, v34, v36, v38, v39, w40, v41, v43, v44, v45, v46, v48, v50, v52, v54, v56, v57, v58, c59, b33, b35, b37, b42, b47, b49, b51, b53, b55⟩ := invM_0 hI
  have c59 : S 0 = .inr (12, [.int v31, .ref (ad 1), .ref (ad 2), .ref (ad 3), .ref (ad 4), .ref (ad 5), .int v32, .int v34, .int v36, .int v38, .int v39, .long w40, .int v41, .int v43, .int v44, .int v45, .ref (ad 6), .ref (ad 7), .ref (ad 8), .ref (ad 9), .ref (ad 10), .ref (ad 11), .ref (ad 12), .ref (ad 13), .ref (ad 14), .ref (ad 15), .int v46, .int v48, .ref (ad 16), .int v50, .int v52, .int v54, .int v56, .int v57, .ref (ad 17), .ref (ad 18), .int v58, .ref (ad 19)]) := c59
  refine xputi E hs hQ 0 (by decide) c59 rfl 0 (by decide) q1468 rfl rfl (Nat.le_of_ble_eq_true rfl) dX12_fit_2 (fun H locs S60 eS60 hQ => ?_)
  have hI := invM_up_0 hI eS60 ⟨0, v32, v34, v36, v38, v39, w40, v41, v43, v44, v45, v46, v48, v50, v52, v54, v56, v57, v58, rfl, b33, b35, b37, b42, b47, b49, b51, b53, b55⟩
  have c61 : S60 0 = .inr (12, [.int 0, .ref (ad 1), .ref (ad 2), .ref (ad 3), .ref (ad 4), .ref (ad 5), .int v32, .int v34, .int v36, .int v38, .int v39, .long w40, .int v41, .int v43, .int v44, .int v45, .ref (ad 6), .ref (ad 7), .ref (ad 8), .ref (ad 9), .ref (ad 10), .ref (ad 11), .ref (ad 12), .ref (ad 13), .ref (ad 14), .ref (ad 15), .int v46, .int v48, .ref (ad 16), .int v50, .int v52, .int v54, .int v56, .int v57, .ref (ad 17), .ref (ad 18), .int v58, .ref (ad 19)]) := up_at eS60 rfl
  refine lv_iload_n hx hb dX12_fit_5 rfl (lv_at hl 2 rfl) ?_
  refine lv_i2l hx hb dX12_fit_6 rfl ?_
  refine lv_topl (fun w62 e63 => ?_)
  have t64 : w62.toInt = a2.toInt := by rw [e63]; exact i2l_i _
  have b65 : BdL w62 (-2147483648) (2147483647) := (by have h1 := ((ib_full a2)).1; have h2 := ((ib_full a2)).2; exact ⟨by omega, by omega⟩)
  refine lv_lconst (v := 0) hx hb dX12_fit_7 (by decide) ?_
  refine lv_lconst (v := 1) hx hb dX12_fit_8 (by decide) ?_
  have q66 : (0 : Int64).toInt = 0 := by decide
  have q67 : (1 : Int64).toInt = 1 := by decide
  refine xcSi E hs hQ hml hl.1 (gX12_in l g ad hD S60 hI w62 0 1) mX12_in q1591 rfl ⟨(Nat.le_of_ble_eq_true rfl), (Nat.le_of_ble_eq_true rfl)⟩ ⟨(Nat.le_of_ble_eq_true rfl), (Nat.le_of_ble_eq_true rfl)⟩ (Nat.le_of_ble_eq_true rfl) rfl dX12_fit_9 (fun r68 S68 H locs hp68 hQ => ?_)
  obtain ⟨rfl, b68, g68_0, u68_0⟩ := hp68
  refine lv_if_ne (tgt := 19) hx hb dX12_fit_12 (by decide) (fun k69 => ?_) (fun k69 => ?_)
  · have h70 := ib_ne k69
    have b71 : Bd r68 (1) (1) := rf_nlo b68 (by decide : Bd 0 (0) (0)) h70
    have g72 := g68_0.resolve_left (by omega)
    clear g68_0
    have b73 : BdL w62 (0) (1) := ⟨by omega, by omega⟩
    have b74 : Bd a2 (0) (1) := ⟨by omega, by omega⟩
    refine lv_aload_n hx hb dX12_fit_19 rfl (lv_at hl 0 rfl) ?_
    refine lv_iload_n hx hb dX12_fit_20 rfl (lv_at hl 1 rfl) ?_
    have c75 : S60 6 = .inl (g.2 0, 5, .inl f19) := (up_ne eS60 (by decide) c20)
    refine xcVi E hs hQ hml hl.1 0 (gX12_whyNot_0 l g ad hD S60 hI a1) mX12_whyNot q2019 (by decide) c61 rfl rfl ⟨(Nat.le_of_ble_eq_true rfl), (Nat.le_of_ble_eq_true rfl)⟩ ⟨(Nat.le_of_ble_eq_true rfl), (Nat.le_of_ble_eq_true rfl)⟩ (Nat.le_of_ble_eq_true rfl) rfl dX12_fit_21 (fun r76 S76 H locs hp76 hQ _ => ?_)
    obtain ⟨rfl, b76, g76_0⟩ := hp76
    have q77 : elm (S60 6) 0 = v22.toInt := (elm_of c75 0).trans (congrArg Int32.toInt (ee23))
    refine lv_if_eq (tgt := 31) hx hb dX12_fit_24 (by decide) (fun k78 => ?_) (fun k78 => ?_)
    · have h79 := ib_eq k78
      have b80 : Bd r76 (0) (0) := ⟨((rf_eq b76 (by decide : Bd 0 (0) (0)) h79).1).1, (b76).2⟩
      have g81 := g76_0.resolve_left (by omega)
      clear g76_0
      have b82 : Bd a1 (0) (3) := ⟨by omega, by omega⟩
      have b83 : Bd v22 (1) (40000) := ⟨by omega, (b24).2⟩
      refine lv_iconst (v := 0) hx hb dX12_fit_31 (by decide) ?_
      refine lv_istore_n (lv' := [(3, .int 0), (0, .ref (ad 0)), (1, .int a1), (2, .int a2)]) hx hb dX12_fit_32 rfl hl (by decide) rfl (fun ls hl => ?_)
      have loop33 : ∀ (n : Nat) (H : Heap) (locs : List Loc) (ls : Array Slot) (x33_3 : Int32), Bd x33_3 (0) (7) → (-1) * x33_3.toInt + 7 < ((n : Nat) : Int) → Hp g ad 20 S60 (FA ad 20) s.heap H locs → lv_has ls 6 [(3, .int x33_3), (0, .ref (ad 0)), (1, .int a1), (2, .int a2)] → W p l e (Rm 4) s m [.ref (ad 0), .int a1, .int a2].toArray below meth c H locs 0 0 (MQ below (va_Qi (fun r S' => InvM g ad S' ∧ (∀ j, j ∉ ([0] : List Nat) → S' j = S j) ∧ Bd r (-1000) (3)) (QB g ad 20) (FA ad 20)) [.ref (ad 0), .int a1, .int a2].toArray s 0 0 (FA ad 20)) (F0 m 33 ls []) := by
        intro n
        induction n with
        | zero => intro H locs ls x33_3 Bx33_3 hn33_ hQ hl; exfalso; have := (Bx33_3).2; omega
        | succ n33_ ih33 =>
          intro H locs ls x33_3 Bx33_3 hn33_ hQ hl
          refine lv_iload_n hx hb dX12_fit_33 rfl (lv_at hl 0 rfl) ?_
          refine lv_bipush (v := 6) hx hb dX12_fit_34 (by decide) ?_
          refine lv_icmp_gt (tgt := 116) hx hb dX12_fit_36 (by decide) (fun k84 => ?_) (fun k84 => ?_)
          · have h85 := ib_lt k84
            have b86 : Bd x33_3 (7) (7) := ⟨((rf_lt (by decide : Bd 6 (6) (6)) Bx33_3 h85).2).1, (Bx33_3).2⟩
            refine lv_sipush (v := (-1000)) hx hb dX12_fit_116 (by decide) ?_
            exact xri E hr hlk hQ (⟨hI, (up_o o_refl eS60 (by decide)), (ib_wk (by decide : Bd (-1000) (-1000) (-1000)) (by decide) (by decide))⟩) dX12_fit_119
          · have h87 := ib_nlt k84
            have b88 : Bd x33_3 (0) (6) := ⟨(Bx33_3).1, ((rf_le Bx33_3 (by decide : Bd 6 (6) (6)) h87).1).2⟩
            refine lv_bipush (v := (-3)) hx hb dX12_fit_39 (by decide) ?_
            refine lv_istore (lv' := [(4, .int (-3)), (3, .int x33_3), (0, .ref (ad 0)), (1, .int a1), (2, .int a2)]) hx hb dX12_fit_41 hl (by decide) rfl (fun ls hl => ?_)
            have loop43 : ∀ (n : Nat) (H : Heap) (locs : List Loc) (ls : Array Slot) (x43_4 : Int32), Bd x43_4 (-3) (4) → (-1) * x43_4.toInt + 4 < ((n : Nat) : Int) → Hp g ad 20 S60 (FA ad 20) s.heap H locs → lv_has ls 6 [(4, .int x43_4), (3, .int x33_3), (0, .ref (ad 0)), (1, .int a1), (2, .int a2)] → W p l e (Rm 4) s m [.ref (ad 0), .int a1, .int a2].toArray below meth c H locs 0 0 (MQ below (va_Qi (fun r S' => InvM g ad S' ∧ (∀ j, j ∉ ([0] : List Nat) → S' j = S j) ∧ Bd r (-1000) (3)) (QB g ad 20) (FA ad 20)) [.ref (ad 0), .int a1, .int a2].toArray s 0 0 (FA ad 20)) (F0 m 43 ls []) := by
              intro n
              induction n with
              | zero => intro H locs ls x43_4 Bx43_4 hn43_ hQ hl; exfalso; have := (Bx43_4).2; omega
              | succ n43_ ih43 =>
                intro H locs ls x43_4 Bx43_4 hn43_ hQ hl
                refine lv_iload hx hb dX12_fit_43 (lv_at hl 0 rfl) ?_
                refine lv_iconst (v := 3) hx hb dX12_fit_45 (by decide) ?_
                refine lv_icmp_gt (tgt := 110) hx hb dX12_fit_46 (by decide) (fun k89 => ?_) (fun k89 => ?_)
                · have h90 := ib_lt k89
                  have b91 : Bd x43_4 (4) (4) := ⟨((rf_lt (by decide : Bd 3 (3) (3)) Bx43_4 h90).2).1, (Bx43_4).2⟩
                  obtain ⟨z92, e93⟩ : ∃ z : Int32, z = x33_3 + 1 := ⟨_, rfl⟩
                  have t94 := ib_add e93 b88 (by decide : Bd 1 (1) (1)) (by decide) (by decide)
                  have b95 : Bd z92 (1) (7) := ib_addb t94 b88 (by decide : Bd 1 (1) (1))
                  have t94 : z92.toInt = x33_3.toInt + 1 := fold_add t94 rfl (by decide)
                  refine lv_iinc (v := z92) (lv' := [(3, .int z92), (4, .int x43_4), (0, .ref (ad 0)), (1, .int a1), (2, .int a2)]) hx hb dX12_fit_110 hl (k := 1) rfl (by rw [e93]; rfl) (by decide) rfl (fun ls hl => ?_)
                  refine lv_goto (tgt := 33) hx hb dX12_fit_113 (by decide) ?_
                  exact ih33 _ _ _ z92 (ib_wk b95 (by decide) (by decide)) (by omega) hQ (lv_sub hl [0, 2, 3, 4] rfl)
                · have h96 := ib_nlt k89
                  have b97 : Bd x43_4 (-3) (3) := ⟨(Bx43_4).1, ((rf_le Bx43_4 (by decide : Bd 3 (3) (3)) h96).1).2⟩
                  refine lv_bipush (v := (-3)) hx hb dX12_fit_49 (by decide) ?_
                  refine lv_istore (lv' := [(5, .int (-3)), (4, .int x43_4), (3, .int x33_3), (0, .ref (ad 0)), (1, .int a1), (2, .int a2)]) hx hb dX12_fit_51 hl (by decide) rfl (fun ls hl => ?_)
                  have loop53 : ∀ (n : Nat) (H : Heap) (locs : List Loc) (ls : Array Slot) (x53_5 : Int32), Bd x53_5 (-3) (4) → (-1) * x53_5.toInt + 4 < ((n : Nat) : Int) → Hp g ad 20 S60 (FA ad 20) s.heap H locs → lv_has ls 6 [(5, .int x53_5), (4, .int x43_4), (3, .int x33_3), (0, .ref (ad 0)), (1, .int a1), (2, .int a2)] → W p l e (Rm 4) s m [.ref (ad 0), .int a1, .int a2].toArray below meth c H locs 0 0 (MQ below (va_Qi (fun r S' => InvM g ad S' ∧ (∀ j, j ∉ ([0] : List Nat) → S' j = S j) ∧ Bd r (-1000) (3)) (QB g ad 20) (FA ad 20)) [.ref (ad 0), .int a1, .int a2].toArray s 0 0 (FA ad 20)) (F0 m 53 ls []) := by
                    intro n
                    induction n with
                    | zero => intro H locs ls x53_5 Bx53_5 hn53_ hQ hl; exfalso; have := (Bx53_5).2; omega
                    | succ n53_ ih53 =>
                      intro H locs ls x53_5 Bx53_5 hn53_ hQ hl
                      refine lv_iload hx hb dX12_fit_53 (lv_at hl 0 rfl) ?_
                      refine lv_iconst (v := 3) hx hb dX12_fit_55 (by decide) ?_
                      refine lv_icmp_gt (tgt := 104) hx hb dX12_fit_56 (by decide) (fun k98 => ?_) (fun k98 => ?_)
                      · have h99 := ib_lt k98
                        have b100 : Bd x53_5 (4) (4) := ⟨((rf_lt (by decide : Bd 3 (3) (3)) Bx53_5 h99).2).1, (Bx53_5).2⟩
                        obtain ⟨z101, e102⟩ : ∃ z : Int32, z = x43_4 + 1 := ⟨_, rfl⟩
                        have t103 := ib_add e102 b97 (by decide : Bd 1 (1) (1)) (by decide) (by decide)
                        have b104 : Bd z101 (-2) (4) := ib_addb t103 b97 (by decide : Bd 1 (1) (1))
                        have t103 : z101.toInt = x43_4.toInt + 1 := fold_add t103 rfl (by decide)
                        refine lv_iinc (v := z101) (lv' := [(4, .int z101), (5, .int x53_5), (3, .int x33_3), (0, .ref (ad 0)), (1, .int a1), (2, .int a2)]) hx hb dX12_fit_104 hl (k := 1) rfl (by rw [e102]; rfl) (by decide) rfl (fun ls hl => ?_)
                        refine lv_goto (tgt := 43) hx hb dX12_fit_107 (by decide) ?_
                        exact ih43 _ _ _ z101 (ib_wk b104 (by decide) (by decide)) (by omega) hQ (lv_sub hl [0, 2, 3, 4, 5] rfl)
                      · have h105 := ib_nlt k98
                        have b106 : Bd x53_5 (-3) (3) := ⟨(Bx53_5).1, ((rf_le Bx53_5 (by decide : Bd 3 (3) (3)) h105).1).2⟩
                        refine lv_iload hx hb dX12_fit_59 (lv_at hl 1 rfl) ?_
                        refine xcSi E hs hQ hml hl.1 (gX12_size l g ad hD S60 hI x43_4) mX12_size q2039 rfl ⟨(Nat.le_of_ble_eq_true rfl), (Nat.le_of_ble_eq_true rfl)⟩ ⟨(Nat.le_of_ble_eq_true rfl), (Nat.le_of_ble_eq_true rfl)⟩ (Nat.le_of_ble_eq_true rfl) rfl dX12_fit_61 (fun r107 S107 H locs hp107 hQ => ?_)
                        subst hp107
                        refine lv_iload hx hb dX12_fit_64 (lv_at hl 0 rfl) ?_
                        refine xcSi E hs hQ hml hl.1 (gX12_size l g ad hD S60 hI x53_5) mX12_size q2039 rfl ⟨(Nat.le_of_ble_eq_true rfl), (Nat.le_of_ble_eq_true rfl)⟩ ⟨(Nat.le_of_ble_eq_true rfl), (Nat.le_of_ble_eq_true rfl)⟩ (Nat.le_of_ble_eq_true rfl) rfl dX12_fit_66 (fun r108 S108 H locs hp108 hQ => ?_)
                        subst hp108
                        refine lv_iadd hx hb dX12_fit_69 ?_
                        refine lv_topi (fun z109 e110 => ?_)
                        refine lv_iload_n hx hb dX12_fit_70 rfl (lv_at hl 2 rfl) ?_
                        refine lv_icmp_ne (tgt := 98) hx hb dX12_fit_71 (by decide) (fun k111 => ?_) (fun k111 => ?_)
                        · have h112 := ib_ne k111
                          obtain ⟨z113, e114⟩ : ∃ z : Int32, z = x53_5 + 1 := ⟨_, rfl⟩
                          have t115 := ib_add e114 b106 (by decide : Bd 1 (1) (1)) (by decide) (by decide)
                          have b116 : Bd z113 (-2) (4) := ib_addb t115 b106 (by decide : Bd 1 (1) (1))
                          have t115 : z113.toInt = x53_5.toInt + 1 := fold_add t115 rfl (by decide)
                          refine lv_iinc (v := z113) (lv' := [(5, .int z113), (4, .int x43_4), (3, .int x33_3), (0, .ref (ad 0)), (1, .int a1), (2, .int a2)]) hx hb dX12_fit_98 hl (k := 0) rfl (by rw [e114]; rfl) (by decide) rfl (fun ls hl => ?_)
                          refine lv_goto (tgt := 53) hx hb dX12_fit_101 (by decide) ?_
                          exact ih53 _ _ _ z113 (ib_wk b116 (by decide) (by decide)) (by omega) hQ (lv_sub hl [0, 1, 2, 3, 4, 5] rfl)
                        · have h117 := ib_eq k111
                          have b118 : Bd z109 (0) (6) := ⟨((rf_eq (ib_full z109) b88 h117).1).1, ((rf_eq (ib_full z109) b88 h117).1).2⟩
                          refine lv_aload_n hx hb dX12_fit_74 rfl (lv_at hl 3 rfl) ?_
                          refine lv_iload_n hx hb dX12_fit_75 rfl (lv_at hl 4 rfl) ?_
                          refine lv_iload hx hb dX12_fit_76 (lv_at hl 1 rfl) ?_
                          refine lv_iload hx hb dX12_fit_78 (lv_at hl 0 rfl) ?_
                          have c119 : S60 7 = .inl (g.2 0, 50, .inl f1) := (up_ne eS60 (by decide) c2)
                          have q120 : elm (S60 7) 0 = v7.toInt := (elm_of c119 0).trans (congrArg Int32.toInt (ee8))
                          have q121 : elm (S60 7) 1 = v4.toInt := (elm_of c119 1).trans (congrArg Int32.toInt (ee5))
                          refine xcVi E hs hQ hml hl.1 0 (gX12_areFit_0 l g ad hD S60 hI a1 x43_4 x53_5 b82 (by omega) (by omega)) mX12_areFit q2027 (by decide) c61 rfl rfl ⟨(Nat.le_of_ble_eq_true rfl), (Nat.le_of_ble_eq_true rfl)⟩ ⟨(Nat.le_of_ble_eq_true rfl), (Nat.le_of_ble_eq_true rfl)⟩ (Nat.le_of_ble_eq_true rfl) rfl dX12_fit_80 (fun r122 S122 H locs hp122 hQ _ => ?_)
                          obtain ⟨rfl, b122⟩ := hp122
                          refine lv_if_eq (tgt := 98) hx hb dX12_fit_83 (by decide) (fun k123 => ?_) (fun k123 => ?_)
                          · have h124 := ib_eq k123
                            have b125 : Bd r122 (0) (0) := ⟨(b122).1, ((rf_eq b122 (by decide : Bd 0 (0) (0)) h124).1).2⟩
                            obtain ⟨z126, e127⟩ : ∃ z : Int32, z = x53_5 + 1 := ⟨_, rfl⟩
                            have t128 := ib_add e127 b106 (by decide : Bd 1 (1) (1)) (by decide) (by decide)
                            have b129 : Bd z126 (-2) (4) := ib_addb t128 b106 (by decide : Bd 1 (1) (1))
                            have t128 : z126.toInt = x53_5.toInt + 1 := fold_add t128 rfl (by decide)
                            refine lv_iinc (v := z126) (lv' := [(5, .int z126), (4, .int x43_4), (3, .int x33_3), (0, .ref (ad 0)), (1, .int a1), (2, .int a2)]) hx hb dX12_fit_98 hl (k := 0) rfl (by rw [e127]; rfl) (by decide) rfl (fun ls hl => ?_)
                            refine lv_goto (tgt := 53) hx hb dX12_fit_101 (by decide) ?_
                            exact ih53 _ _ _ z126 (ib_wk b129 (by decide) (by decide)) (by omega) hQ (lv_sub hl [0, 1, 2, 3, 4, 5] rfl)
                          · have h130 := ib_ne k123
                            have b131 : Bd r122 (1) (1) := rf_nlo b122 (by decide : Bd 0 (0) (0)) h130
                            refine lv_iload_n hx hb dX12_fit_86 rfl (lv_at hl 5 rfl) ?_
                            refine lv_if_ne (tgt := 95) hx hb dX12_fit_87 (by decide) (fun k132 => ?_) (fun k132 => ?_)
                            · have h133 := ib_ne k132
                              have b134 : Bd a2 (1) (1) := rf_nlo b74 (by decide : Bd 0 (0) (0)) h133
                              refine lv_iload hx hb dX12_fit_95 (lv_at hl 0 rfl) ?_
                              exact xri E hr hlk hQ (⟨hI, (up_o o_refl eS60 (by decide)), (ib_wk b106 (by decide) (by decide))⟩) dX12_fit_97
                            · have h135 := ib_eq k132
                              have b136 : Bd a2 (0) (0) := ⟨(b74).1, ((rf_eq b74 (by decide : Bd 0 (0) (0)) h135).1).2⟩
                              refine lv_iload hx hb dX12_fit_90 (lv_at hl 1 rfl) ?_
                              refine lv_goto (tgt := 97) hx hb dX12_fit_92 (by decide) ?_
                              exact xri E hr hlk hQ (⟨hI, (up_o o_refl eS60 (by decide)), (ib_wk b97 (by decide) (by decide))⟩) dX12_fit_97
                  obtain ⟨n53, hn53⟩ := fu_n (7)
                  exact loop53 n53 _ _ _ (-3) (ib_wk (by decide : Bd (-3) (-3) (-3)) (by decide) (by decide)) (by have : ((-3) : Int32).toInt = (-3) := (by decide); omega) hQ (lv_sub hl [0, 1, 2, 3, 4, 5] rfl)
            obtain ⟨n43, hn43⟩ := fu_n (7)
            exact loop43 n43 _ _ _ (-3) (ib_wk (by decide : Bd (-3) (-3) (-3)) (by decide) (by decide)) (by have : ((-3) : Int32).toInt = (-3) := (by decide); omega) hQ (lv_sub hl [0, 1, 2, 3, 4] rfl)
      obtain ⟨n33, hn33⟩ := fu_n (7)
      exact loop33 n33 _ _ _ 0 (ib_wk (by decide : Bd 0 (0) (0)) (by decide) (by decide)) (by have : (0 : Int32).toInt = 0 := (by decide); omega) hQ (lv_sub hl [0, 1, 2, 3] rfl)
    · have h137 := ib_ne k78
      have b138 : Bd r76 (-6) (-1) := rf_nhi b76 (by decide : Bd 0 (0) (0)) h137
      clear g76_0
      refine lv_sipush (v := (-1000)) hx hb dX12_fit_27 (by decide) ?_
      exact xri E hr hlk hQ (⟨hI, (up_o o_refl eS60 (by decide)), (ib_wk (by decide : Bd (-1000) (-1000) (-1000)) (by decide) (by decide))⟩) dX12_fit_30
  · have h139 := ib_eq k69
    have b140 : Bd r68 (0) (0) := ⟨(b68).1, ((rf_eq b68 (by decide : Bd 0 (0) (0)) h139).1).2⟩
    clear g68_0
    refine lv_sipush (v := (-1000)) hx hb dX12_fit_15 (by decide) ?_
    exact xri E hr hlk hQ (⟨hI, (up_o o_refl eS60 (by decide)), (ib_wk (by decide : Bd (-1000) (-1000) (-1000)) (by decide) (by decide))⟩) dX12_fit_18
set_option maxHeartbeats 4000000 in
set_option maxRecDepth 100000 in
theorem gX12_ask_0 (l : Launch) (g : GG) (ad : Nat → Nat) (hD : Dj ad 20) (S : SS) (hI : InvM g ad S) (a1 : Int32) (hq1 : 0 ≤ 12 * elm (S 7) 1 + (-1) * elm (S 7) 0) (hq2 : 0 ≤ 12 * elm (S 7) 3 + (-1) * elm (S 7) 0) (hq3 : 0 ≤ 8 * elm (S 7) 0 + (-1) * elm (S 7) 6) (hq4 : 0 ≤ 3 * elm (S 7) 0 + (-1) * elm (S 7) 8) (hq5 : 0 ≤ 40000 * elm (S 7) 0 + (-1) * elm (S 6) 0) : Met l yX12_ask (wG (.code yX12_ask cX12_ask 3 (some .int))) (Rm 6) (XPre g ad 20 S [.ref (ad 0), .int a1]) (va_Qi (fun _ S' => InvM g ad S' ∧ (∀ j, j ∉ ([0] : List Nat) → S' j = S j)) (QB g ad 20) (FA ad 20)) 0 0 (FA ad 20) := by
  refine xmet cX12_ask "EbbWreckModel" (by decide) rfl (Nat.le_of_ble_eq_true rfl) (fun p e s m below meth c E hr hlk hml hQ ls hl => ?_)
  have hx := E.1
  have hb := E.2.1
  have hs : Sp ad 20 (FA ad 20) := Sp.fa hD
  have hl : lv_has ls 3 [(0, .ref (ad 0)), (1, .int a1)] := hl
  obtain ⟨f1, c2, b3⟩ := invM_7 hI
  obtain ⟨v4, ee5⟩ : ∃ z : Int32, f1 1 = z := ⟨_, rfl⟩
  have b6 : Bd v4 (0) (12) := (by rw [← ee5]; exact b3.2.1 1 (by decide))
  obtain ⟨v7, ee8⟩ : ∃ z : Int32, f1 0 = z := ⟨_, rfl⟩
  have b9 : Bd v7 (0) (12) := (by rw [← ee8]; exact b3.1 0 (by decide))
  obtain ⟨v10, ee11⟩ : ∃ z : Int32, f1 3 = z := ⟨_, rfl⟩
  have b12 : Bd v10 (0) (12) := (by rw [← ee11]; exact b3.2.2.2.1 3 (by decide))
  obtain ⟨v13, ee14⟩ : ∃ z : Int32, f1 6 = z := ⟨_, rfl⟩
  have b15 : Bd v13 (0) (8) := (by rw [← ee14]; exact b3.2.2.2.2.1 6 (by decide))
  obtain ⟨v16, ee17⟩ : ∃ z : Int32, f1 8 = z := ⟨_, rfl⟩
  have b18 : Bd v16 (0) (3) := (by rw [← ee17]; exact b3.2.2.2.2.2.2.1 8 (by decide))
  obtain ⟨f19, c20, b21⟩ := invM_6 hI
  obtain ⟨v22, ee23⟩ : ∃ z : Int32, f19 0 = z := ⟨_, rfl⟩
  have b24 : Bd v22 (0) (40000) := (by rw [← ee23]; exact b21 0)
  have q25 : elm (S 7) 1 = v4.toInt := (elm_of c2 1).trans (congrArg Int32.toInt (ee5))
  have q26 : elm (S 7) 0 = v7.toInt := (elm_of c2 0).trans (congrArg Int32.toInt (ee8))
  have q27 : elm (S 7) 3 = v10.toInt := (elm_of c2 3).trans (congrArg Int32.toInt (ee11))
  have q28 : elm (S 7) 6 = v13.toInt := (elm_of c2 6).trans (congrArg Int32.toInt (ee14))
  have q29 : elm (S 7) 8 = v16.toInt := (elm_of c2 8).trans (congrArg Int32.toInt (ee17))
  have q30 : elm (S 6) 0 = v22.toInt := (elm_of c20 0).trans (congrArg Int32.toInt (ee23))
  refine lv_aload_n hx hb dX12_ask_0 rfl (lv_at hl 0 rfl) ?_
  refine lv_iconst (v := 0) hx hb dX12_ask_1 (by decide) ?_
  obtain ⟨v31, v32, v34, v36, v38, v39, w40, v41, v43, v44, v45, v46, v48, v50, v52, v54, v56, v57, v58, c59, b33, b35, b37, b42, b47, b49, b51, b53, b55⟩ := invM_0 hI
  have c59 : S 0 = .inr (12, [.int v31, .ref (ad 1), .ref (ad 2), .ref (ad 3), .ref (ad 4), .ref (ad 5), .int v32, .int v34, .int v36, .int v38, .int v39, .long w40, .int v41, .int v43, .int v44, .int v45, .ref (ad 6), .ref (ad 7), .ref (ad 8), .ref (ad 9), .ref (ad 10), .ref (ad 11), .ref (ad 12), .ref (ad 13), .ref (ad 14), .ref (ad 15), .int v46, .int v48, .ref (ad 16), .int v50, .int v52, .int v54, .int v56, .int v57, .ref (ad 17), .ref (ad 18), .int v58, .ref (ad 19)]) := c59
  refine xputi E hs hQ 0 (by decide) c59 rfl 0 (by decide) q1468 rfl rfl (Nat.le_of_ble_eq_true rfl) dX12_ask_2 (fun H locs S60 eS60 hQ => ?_)
  have hI := invM_up_0 hI eS60 ⟨0, v32, v34, v36, v38, v39, w40, v41, v43, v44, v45, v46, v48, v50, v52, v54, v56, v57, v58, rfl, b33, b35, b37, b42, b47, b49, b51, b53, b55⟩
  have c61 : S60 0 = .inr (12, [.int 0, .ref (ad 1), .ref (ad 2), .ref (ad 3), .ref (ad 4), .ref (ad 5), .int v32, .int v34, .int v36, .int v38, .int v39, .long w40, .int v41, .int v43, .int v44, .int v45, .ref (ad 6), .ref (ad 7), .ref (ad 8), .ref (ad 9), .ref (ad 10), .ref (ad 11), .ref (ad 12), .ref (ad 13), .ref (ad 14), .ref (ad 15), .int v46, .int v48, .ref (ad 16), .int v50, .int v52, .int v54, .int v56, .int v57, .ref (ad 17), .ref (ad 18), .int v58, .ref (ad 19)]) := up_at eS60 rfl
  refine lv_aload_n hx hb dX12_ask_5 rfl (lv_at hl 0 rfl) ?_
  refine lv_iload_n hx hb dX12_ask_6 rfl (lv_at hl 1 rfl) ?_
  have c62 : S60 6 = .inl (g.2 0, 5, .inl f19) := (up_ne eS60 (by decide) c20)
  refine xcVi E hs hQ hml hl.1 0 (gX12_whyNot_0 l g ad hD S60 hI a1) mX12_whyNot q2019 (by decide) c61 rfl rfl ⟨(Nat.le_of_ble_eq_true rfl), (Nat.le_of_ble_eq_true rfl)⟩ ⟨(Nat.le_of_ble_eq_true rfl), (Nat.le_of_ble_eq_true rfl)⟩ (Nat.le_of_ble_eq_true rfl) rfl dX12_ask_7 (fun r63 S63 H locs hp63 hQ _ => ?_)
  obtain ⟨rfl, b63, g63_0⟩ := hp63
  have q64 : elm (S60 6) 0 = v22.toInt := (elm_of c62 0).trans (congrArg Int32.toInt (ee23))
  refine lv_istore_n (lv' := [(2, .int r63), (0, .ref (ad 0)), (1, .int a1)]) hx hb dX12_ask_10 rfl hl (by decide) rfl (fun ls hl => ?_)
  refine lv_iload_n hx hb dX12_ask_11 rfl (lv_at hl 0 rfl) ?_
  refine lv_if_eq (tgt := 17) hx hb dX12_ask_12 (by decide) (fun k65 => ?_) (fun k65 => ?_)
  · have h66 := ib_eq k65
    have b67 : Bd r63 (0) (0) := ⟨((rf_eq b63 (by decide : Bd 0 (0) (0)) h66).1).1, (b63).2⟩
    have g68 := g63_0.resolve_left (by omega)
    clear g63_0
    have b69 : Bd a1 (0) (3) := ⟨by omega, by omega⟩
    have b70 : Bd v22 (1) (40000) := ⟨by omega, (b24).2⟩
    refine lv_aload_n hx hb dX12_ask_17 rfl (lv_at hl 1 rfl) ?_
    refine lv_iload_n hx hb dX12_ask_18 rfl (lv_at hl 2 rfl) ?_
    have c71 : S60 7 = .inl (g.2 0, 50, .inl f1) := (up_ne eS60 (by decide) c2)
    have q72 : elm (S60 7) 0 = v7.toInt := (elm_of c71 0).trans (congrArg Int32.toInt (ee8))
    have q73 : elm (S60 7) 1 = v4.toInt := (elm_of c71 1).trans (congrArg Int32.toInt (ee5))
    refine xcVv E hs hQ hml hl.1 0 (gX12_laysAsk_0 l g ad hD S60 hI a1 b69 (by omega) (by omega)) mX12_laysAsk q2046 (by decide) c61 rfl rfl ⟨(Nat.le_of_ble_eq_true rfl), (Nat.le_of_ble_eq_true rfl)⟩ ⟨(Nat.le_of_ble_eq_true rfl), (Nat.le_of_ble_eq_true rfl)⟩ (Nat.le_of_ble_eq_true rfl) rfl dX12_ask_19 (fun S74 H locs hp74 hQ _ => ?_)
    obtain ⟨hI, o74⟩ := hp74
    refine lv_aload_n hx hb dX12_ask_22 rfl (lv_at hl 1 rfl) ?_
    obtain ⟨v75, v76, v78, v80, v82, v83, w84, v85, v87, v88, v89, v90, v92, v94, v96, v98, v100, v101, v102, c103, b77, b79, b81, b86, b91, b93, b95, b97, b99⟩ := invM_0 hI
    have c103 : S74 0 = .inr (12, [.int v75, .ref (ad 1), .ref (ad 2), .ref (ad 3), .ref (ad 4), .ref (ad 5), .int v76, .int v78, .int v80, .int v82, .int v83, .long w84, .int v85, .int v87, .int v88, .int v89, .ref (ad 6), .ref (ad 7), .ref (ad 8), .ref (ad 9), .ref (ad 10), .ref (ad 11), .ref (ad 12), .ref (ad 13), .ref (ad 14), .ref (ad 15), .int v90, .int v92, .ref (ad 16), .int v94, .int v96, .int v98, .int v100, .int v101, .ref (ad 17), .ref (ad 18), .int v102, .ref (ad 19)]) := c103
    refine xget E hQ 0 (by decide) c103 rfl 32 (by decide) q1500 rfl dX12_ask_23 ?_
    exact xri E hr hlk hQ (⟨hI, (o_trans (up_o o_refl eS60 (by decide)) o74 (by decide))⟩) dX12_ask_26
  · have h104 := ib_ne k65
    have b105 : Bd r63 (-6) (-1) := rf_nhi b63 (by decide : Bd 0 (0) (0)) h104
    clear g63_0
    refine lv_iload_n hx hb dX12_ask_15 rfl (lv_at hl 0 rfl) ?_
    exact xri E hr hlk hQ (⟨hI, (up_o o_refl eS60 (by decide))⟩) dX12_ask_16
set_option maxHeartbeats 4000000 in
set_option maxRecDepth 100000 in
theorem gX12_leaves_0 (l : Launch) (g : GG) (ad : Nat → Nat) (hD : Dj ad 20) (S : SS) (hI : InvM g ad S) (a1 : Int32) (hq1 : 0 ≤ 12 * elm (S 7) 1 + (-1) * elm (S 7) 0) (hq2 : 0 ≤ 12 * elm (S 7) 3 + (-1) * elm (S 7) 0) (hq3 : 0 ≤ 8 * elm (S 7) 0 + (-1) * elm (S 7) 6) (hq4 : 0 ≤ 3 * elm (S 7) 0 + (-1) * elm (S 7) 8) (hq5 : 0 ≤ 40000 * elm (S 7) 0 + (-1) * elm (S 6) 0) : Met l yX12_leaves (wG (.code yX12_leaves cX12_leaves 3 (some .int))) (Rm 6) (XPre g ad 20 S [.ref (ad 0), .int a1]) (va_Qi (fun _ S' => InvM g ad S' ∧ (∀ j, j ∉ ([0] : List Nat) → S' j = S j)) (QB g ad 20) (FA ad 20)) 0 0 (FA ad 20) := by
  refine xmet cX12_leaves "EbbWreckModel" (by decide) rfl (Nat.le_of_ble_eq_true rfl) (fun p e s m below meth c E hr hlk hml hQ ls hl => ?_)
  have hx := E.1
  have hb := E.2.1
  have hs : Sp ad 20 (FA ad 20) := Sp.fa hD
  have hl : lv_has ls 3 [(0, .ref (ad 0)), (1, .int a1)] := hl
  obtain ⟨f1, c2, b3⟩ := invM_7 hI
  obtain ⟨v4, ee5⟩ : ∃ z : Int32, f1 1 = z := ⟨_, rfl⟩
  have b6 : Bd v4 (0) (12) := (by rw [← ee5]; exact b3.2.1 1 (by decide))
  obtain ⟨v7, ee8⟩ : ∃ z : Int32, f1 0 = z := ⟨_, rfl⟩
  have b9 : Bd v7 (0) (12) := (by rw [← ee8]; exact b3.1 0 (by decide))
  obtain ⟨v10, ee11⟩ : ∃ z : Int32, f1 3 = z := ⟨_, rfl⟩
  have b12 : Bd v10 (0) (12) := (by rw [← ee11]; exact b3.2.2.2.1 3 (by decide))
  obtain ⟨v13, ee14⟩ : ∃ z : Int32, f1 6 = z := ⟨_, rfl⟩
  have b15 : Bd v13 (0) (8) := (by rw [← ee14]; exact b3.2.2.2.2.1 6 (by decide))
  obtain ⟨v16, ee17⟩ : ∃ z : Int32, f1 8 = z := ⟨_, rfl⟩
  have b18 : Bd v16 (0) (3) := (by rw [← ee17]; exact b3.2.2.2.2.2.2.1 8 (by decide))
  obtain ⟨f19, c20, b21⟩ := invM_6 hI
  obtain ⟨v22, ee23⟩ : ∃ z : Int32, f19 0 = z := ⟨_, rfl⟩
  have b24 : Bd v22 (0) (40000) := (by rw [← ee23]; exact b21 0)
  have q25 : elm (S 7) 1 = v4.toInt := (elm_of c2 1).trans (congrArg Int32.toInt (ee5))
  have q26 : elm (S 7) 0 = v7.toInt := (elm_of c2 0).trans (congrArg Int32.toInt (ee8))
  have q27 : elm (S 7) 3 = v10.toInt := (elm_of c2 3).trans (congrArg Int32.toInt (ee11))
  have q28 : elm (S 7) 6 = v13.toInt := (elm_of c2 6).trans (congrArg Int32.toInt (ee14))
  have q29 : elm (S 7) 8 = v16.toInt := (elm_of c2 8).trans (congrArg Int32.toInt (ee17))
  have q30 : elm (S 6) 0 = v22.toInt := (elm_of c20 0).trans (congrArg Int32.toInt (ee23))
  refine lv_aload_n hx hb dX12_leaves_0 rfl (lv_at hl 0 rfl) ?_
  refine lv_iconst (v := 0) hx hb dX12_leaves_1 (by decide) ?_
  obtain ⟨v31, v32, v34, v36, v38, v39, w40, v41, v43, v44, v45, v46, v48, v50, v52, v54, v56, v57, v58, c59, b33, b35, b37, b42, b47, b49, b51, b53, b55⟩ := invM_0 hI
  have c59 : S 0 = .inr (12, [.int v31, .ref (ad 1), .ref (ad 2), .ref (ad 3), .ref (ad 4), .ref (ad 5), .int v32, .int v34, .int v36, .int v38, .int v39, .long w40, .int v41, .int v43, .int v44, .int v45, .ref (ad 6), .ref (ad 7), .ref (ad 8), .ref (ad 9), .ref (ad 10), .ref (ad 11), .ref (ad 12), .ref (ad 13), .ref (ad 14), .ref (ad 15), .int v46, .int v48, .ref (ad 16), .int v50, .int v52, .int v54, .int v56, .int v57, .ref (ad 17), .ref (ad 18), .int v58, .ref (ad 19)]) := c59
  refine xputi E hs hQ 0 (by decide) c59 rfl 0 (by decide) q1468 rfl rfl (Nat.le_of_ble_eq_true rfl) dX12_leaves_2 (fun H locs S60 eS60 hQ => ?_)
  have hI := invM_up_0 hI eS60 ⟨0, v32, v34, v36, v38, v39, w40, v41, v43, v44, v45, v46, v48, v50, v52, v54, v56, v57, v58, rfl, b33, b35, b37, b42, b47, b49, b51, b53, b55⟩
  have c61 : S60 0 = .inr (12, [.int 0, .ref (ad 1), .ref (ad 2), .ref (ad 3), .ref (ad 4), .ref (ad 5), .int v32, .int v34, .int v36, .int v38, .int v39, .long w40, .int v41, .int v43, .int v44, .int v45, .ref (ad 6), .ref (ad 7), .ref (ad 8), .ref (ad 9), .ref (ad 10), .ref (ad 11), .ref (ad 12), .ref (ad 13), .ref (ad 14), .ref (ad 15), .int v46, .int v48, .ref (ad 16), .int v50, .int v52, .int v54, .int v56, .int v57, .ref (ad 17), .ref (ad 18), .int v58, .ref (ad 19)]) := up_at eS60 rfl
  refine lv_aload_n hx hb dX12_leaves_5 rfl (lv_at hl 0 rfl) ?_
  refine lv_iload_n hx hb dX12_leaves_6 rfl (lv_at hl 1 rfl) ?_
  have c62 : S60 6 = .inl (g.2 0, 5, .inl f19) := (up_ne eS60 (by decide) c20)
  refine xcVi E hs hQ hml hl.1 0 (gX12_whyNot_0 l g ad hD S60 hI a1) mX12_whyNot q2019 (by decide) c61 rfl rfl ⟨(Nat.le_of_ble_eq_true rfl), (Nat.le_of_ble_eq_true rfl)⟩ ⟨(Nat.le_of_ble_eq_true rfl), (Nat.le_of_ble_eq_true rfl)⟩ (Nat.le_of_ble_eq_true rfl) rfl dX12_leaves_7 (fun r63 S63 H locs hp63 hQ _ => ?_)
  obtain ⟨rfl, b63, g63_0⟩ := hp63
  have q64 : elm (S60 6) 0 = v22.toInt := (elm_of c62 0).trans (congrArg Int32.toInt (ee23))
  refine lv_istore_n (lv' := [(2, .int r63), (0, .ref (ad 0)), (1, .int a1)]) hx hb dX12_leaves_10 rfl hl (by decide) rfl (fun ls hl => ?_)
  refine lv_iload_n hx hb dX12_leaves_11 rfl (lv_at hl 0 rfl) ?_
  refine lv_if_eq (tgt := 17) hx hb dX12_leaves_12 (by decide) (fun k65 => ?_) (fun k65 => ?_)
  · have h66 := ib_eq k65
    have b67 : Bd r63 (0) (0) := ⟨((rf_eq b63 (by decide : Bd 0 (0) (0)) h66).1).1, (b63).2⟩
    have g68 := g63_0.resolve_left (by omega)
    clear g63_0
    have b69 : Bd a1 (0) (3) := ⟨by omega, by omega⟩
    have b70 : Bd v22 (1) (40000) := ⟨by omega, (b24).2⟩
    refine lv_aload_n hx hb dX12_leaves_17 rfl (lv_at hl 1 rfl) ?_
    refine lv_iload_n hx hb dX12_leaves_18 rfl (lv_at hl 2 rfl) ?_
    have c71 : S60 7 = .inl (g.2 0, 50, .inl f1) := (up_ne eS60 (by decide) c2)
    have q72 : elm (S60 7) 0 = v7.toInt := (elm_of c71 0).trans (congrArg Int32.toInt (ee8))
    have q73 : elm (S60 7) 1 = v4.toInt := (elm_of c71 1).trans (congrArg Int32.toInt (ee5))
    refine xcVv E hs hQ hml hl.1 0 (gX12_laysAsk_0 l g ad hD S60 hI a1 b69 (by omega) (by omega)) mX12_laysAsk q2046 (by decide) c61 rfl rfl ⟨(Nat.le_of_ble_eq_true rfl), (Nat.le_of_ble_eq_true rfl)⟩ ⟨(Nat.le_of_ble_eq_true rfl), (Nat.le_of_ble_eq_true rfl)⟩ (Nat.le_of_ble_eq_true rfl) rfl dX12_leaves_19 (fun S74 H locs hp74 hQ _ => ?_)
    obtain ⟨hI, o74⟩ := hp74
    refine lv_aload_n hx hb dX12_leaves_22 rfl (lv_at hl 1 rfl) ?_
    obtain ⟨v75, v76, v78, v80, v82, v83, w84, v85, v87, v88, v89, v90, v92, v94, v96, v98, v100, v101, v102, c103, b77, b79, b81, b86, b91, b93, b95, b97, b99⟩ := invM_0 hI
    have c103 : S74 0 = .inr (12, [.int v75, .ref (ad 1), .ref (ad 2), .ref (ad 3), .ref (ad 4), .ref (ad 5), .int v76, .int v78, .int v80, .int v82, .int v83, .long w84, .int v85, .int v87, .int v88, .int v89, .ref (ad 6), .ref (ad 7), .ref (ad 8), .ref (ad 9), .ref (ad 10), .ref (ad 11), .ref (ad 12), .ref (ad 13), .ref (ad 14), .ref (ad 15), .int v90, .int v92, .ref (ad 16), .int v94, .int v96, .int v98, .int v100, .int v101, .ref (ad 17), .ref (ad 18), .int v102, .ref (ad 19)]) := c103
    refine xget E hQ 0 (by decide) c103 rfl 33 (by decide) q1501 rfl dX12_leaves_23 ?_
    exact xri E hr hlk hQ (⟨hI, (o_trans (up_o o_refl eS60 (by decide)) o74 (by decide))⟩) dX12_leaves_26
  · have h104 := ib_ne k65
    have b105 : Bd r63 (-6) (-1) := rf_nhi b63 (by decide : Bd 0 (0) (0)) h104
    clear g63_0
    refine lv_iload_n hx hb dX12_leaves_15 rfl (lv_at hl 0 rfl) ?_
    exact xri E hr hlk hQ (⟨hI, (up_o o_refl eS60 (by decide))⟩) dX12_leaves_16
set_option maxHeartbeats 4000000 in
set_option maxRecDepth 100000 in
theorem gX12_fault_0 (l : Launch) (g : GG) (ad : Nat → Nat) (hD : Dj ad 20) (S : SS) (hI : InvM g ad S) (a1 : Int32) (hq1 : 0 ≤ 12 * elm (S 7) 1 + (-1) * elm (S 7) 0) (hq2 : 0 ≤ 12 * elm (S 7) 3 + (-1) * elm (S 7) 0) (hq3 : 0 ≤ 8 * elm (S 7) 0 + (-1) * elm (S 7) 6) (hq4 : 0 ≤ 3 * elm (S 7) 0 + (-1) * elm (S 7) 8) (hq5 : 0 ≤ 40000 * elm (S 7) 0 + (-1) * elm (S 6) 0) : Met l yX12_fault (wG (.code yX12_fault cX12_fault 2 (some .int))) (Rm 0) (XPre g ad 20 S [.ref (ad 0), .int a1]) (va_Qi (fun _ S' => InvM g ad S' ∧ (∀ j, j ∉ ([0] : List Nat) → S' j = S j)) (QB g ad 20) (FA ad 20)) 0 0 (FA ad 20) := by
  refine xmet cX12_fault "EbbWreckModel" (by decide) rfl (Nat.le_of_ble_eq_true rfl) (fun p e s m below meth c E hr hlk hml hQ ls hl => ?_)
  have hx := E.1
  have hb := E.2.1
  have hs : Sp ad 20 (FA ad 20) := Sp.fa hD
  have hl : lv_has ls 2 [(0, .ref (ad 0)), (1, .int a1)] := hl
  obtain ⟨f1, c2, b3⟩ := invM_7 hI
  obtain ⟨v4, ee5⟩ : ∃ z : Int32, f1 1 = z := ⟨_, rfl⟩
  have b6 : Bd v4 (0) (12) := (by rw [← ee5]; exact b3.2.1 1 (by decide))
  obtain ⟨v7, ee8⟩ : ∃ z : Int32, f1 0 = z := ⟨_, rfl⟩
  have b9 : Bd v7 (0) (12) := (by rw [← ee8]; exact b3.1 0 (by decide))
  obtain ⟨v10, ee11⟩ : ∃ z : Int32, f1 3 = z := ⟨_, rfl⟩
  have b12 : Bd v10 (0) (12) := (by rw [← ee11]; exact b3.2.2.2.1 3 (by decide))
  obtain ⟨v13, ee14⟩ : ∃ z : Int32, f1 6 = z := ⟨_, rfl⟩
  have b15 : Bd v13 (0) (8) := (by rw [← ee14]; exact b3.2.2.2.2.1 6 (by decide))
  obtain ⟨v16, ee17⟩ : ∃ z : Int32, f1 8 = z := ⟨_, rfl⟩
  have b18 : Bd v16 (0) (3) := (by rw [← ee17]; exact b3.2.2.2.2.2.2.1 8 (by decide))
  obtain ⟨f19, c20, b21⟩ := invM_6 hI
  obtain ⟨v22, ee23⟩ : ∃ z : Int32, f19 0 = z := ⟨_, rfl⟩
  have b24 : Bd v22 (0) (40000) := (by rw [← ee23]; exact b21 0)
  have q25 : elm (S 7) 1 = v4.toInt := (elm_of c2 1).trans (congrArg Int32.toInt (ee5))
  have q26 : elm (S 7) 0 = v7.toInt := (elm_of c2 0).trans (congrArg Int32.toInt (ee8))
  have q27 : elm (S 7) 3 = v10.toInt := (elm_of c2 3).trans (congrArg Int32.toInt (ee11))
  have q28 : elm (S 7) 6 = v13.toInt := (elm_of c2 6).trans (congrArg Int32.toInt (ee14))
  have q29 : elm (S 7) 8 = v16.toInt := (elm_of c2 8).trans (congrArg Int32.toInt (ee17))
  have q30 : elm (S 6) 0 = v22.toInt := (elm_of c20 0).trans (congrArg Int32.toInt (ee23))
  refine lv_aload_n hx hb dX12_fault_0 rfl (lv_at hl 0 rfl) ?_
  refine lv_iconst (v := 0) hx hb dX12_fault_1 (by decide) ?_
  obtain ⟨v31, v32, v34, v36, v38, v39, w40, v41, v43, v44, v45, v46, v48, v50, v52, v54, v56, v57, v58, c59, b33, b35, b37, b42, b47, b49, b51, b53, b55⟩ := invM_0 hI
  have c59 : S 0 = .inr (12, [.int v31, .ref (ad 1), .ref (ad 2), .ref (ad 3), .ref (ad 4), .ref (ad 5), .int v32, .int v34, .int v36, .int v38, .int v39, .long w40, .int v41, .int v43, .int v44, .int v45, .ref (ad 6), .ref (ad 7), .ref (ad 8), .ref (ad 9), .ref (ad 10), .ref (ad 11), .ref (ad 12), .ref (ad 13), .ref (ad 14), .ref (ad 15), .int v46, .int v48, .ref (ad 16), .int v50, .int v52, .int v54, .int v56, .int v57, .ref (ad 17), .ref (ad 18), .int v58, .ref (ad 19)]) := c59
  refine xputi E hs hQ 0 (by decide) c59 rfl 0 (by decide) q1468 rfl rfl (Nat.le_of_ble_eq_true rfl) dX12_fault_2 (fun H locs S60 eS60 hQ => ?_)
  have hI := invM_up_0 hI eS60 ⟨0, v32, v34, v36, v38, v39, w40, v41, v43, v44, v45, v46, v48, v50, v52, v54, v56, v57, v58, rfl, b33, b35, b37, b42, b47, b49, b51, b53, b55⟩
  have c61 : S60 0 = .inr (12, [.int 0, .ref (ad 1), .ref (ad 2), .ref (ad 3), .ref (ad 4), .ref (ad 5), .int v32, .int v34, .int v36, .int v38, .int v39, .long w40, .int v41, .int v43, .int v44, .int v45, .ref (ad 6), .ref (ad 7), .ref (ad 8), .ref (ad 9), .ref (ad 10), .ref (ad 11), .ref (ad 12), .ref (ad 13), .ref (ad 14), .ref (ad 15), .int v46, .int v48, .ref (ad 16), .int v50, .int v52, .int v54, .int v56, .int v57, .ref (ad 17), .ref (ad 18), .int v58, .ref (ad 19)]) := up_at eS60 rfl
  refine lv_iload_n hx hb dX12_fault_5 rfl (lv_at hl 1 rfl) ?_
  refine lv_if_ne (tgt := 16) hx hb dX12_fault_6 (by decide) (fun k62 => ?_) (fun k62 => ?_)
  · have h63 := ib_ne k62
    refine lv_iload_n hx hb dX12_fault_16 rfl (lv_at hl 1 rfl) ?_
    refine lv_iconst (v := 1) hx hb dX12_fault_17 (by decide) ?_
    refine lv_icmp_ne (tgt := 28) hx hb dX12_fault_18 (by decide) (fun k64 => ?_) (fun k64 => ?_)
    · have h65 := ib_ne k64
      refine lv_iconst (v := (-1)) hx hb dX12_fault_28 (by decide) ?_
      exact xri E hr hlk hQ (⟨hI, (up_o o_refl eS60 (by decide))⟩) dX12_fault_29
    · have h66 := ib_eq k64
      have b67 : Bd a1 (1) (1) := ⟨((rf_eq (ib_full a1) (by decide : Bd 1 (1) (1)) h66).1).1, ((rf_eq (ib_full a1) (by decide : Bd 1 (1) (1)) h66).1).2⟩
      refine lv_aload_n hx hb dX12_fault_21 rfl (lv_at hl 0 rfl) ?_
      refine xget E hQ 0 (by decide) c61 rfl 15 (by decide) q1483 rfl dX12_fault_22 ?_
      refine lv_goto (tgt := 29) hx hb dX12_fault_25 (by decide) ?_
      exact xri E hr hlk hQ (⟨hI, (up_o o_refl eS60 (by decide))⟩) dX12_fault_29
  · have h68 := ib_eq k62
    have b69 : Bd a1 (0) (0) := ⟨((rf_eq (ib_full a1) (by decide : Bd 0 (0) (0)) h68).1).1, ((rf_eq (ib_full a1) (by decide : Bd 0 (0) (0)) h68).1).2⟩
    refine lv_aload_n hx hb dX12_fault_9 rfl (lv_at hl 0 rfl) ?_
    refine xget E hQ 0 (by decide) c61 rfl 14 (by decide) q1482 rfl dX12_fault_10 ?_
    refine lv_goto (tgt := 29) hx hb dX12_fault_13 (by decide) ?_
    exact xri E hr hlk hQ (⟨hI, (up_o o_refl eS60 (by decide))⟩) dX12_fault_29
set_option maxHeartbeats 4000000 in
set_option maxRecDepth 100000 in
theorem gX12_end_0 (l : Launch) (g : GG) (ad : Nat → Nat) (hD : Dj ad 20) (S : SS) (hI : InvM g ad S) (a1 : Int32) (hq1 : 0 ≤ 12 * elm (S 7) 1 + (-1) * elm (S 7) 0) (hq2 : 0 ≤ 12 * elm (S 7) 3 + (-1) * elm (S 7) 0) (hq3 : 0 ≤ 8 * elm (S 7) 0 + (-1) * elm (S 7) 6) (hq4 : 0 ≤ 3 * elm (S 7) 0 + (-1) * elm (S 7) 8) (hq5 : 0 ≤ 40000 * elm (S 7) 0 + (-1) * elm (S 6) 0) : Met l yX12_end (wG (.code yX12_end cX12_end 2 (some .int))) (Rm 1) (XPre g ad 20 S [.ref (ad 0), .int a1]) (va_Qi (fun r S' => InvM g ad S' ∧ (∀ j, j ∉ ([0] : List Nat) → S' j = S j) ∧ Bd r (-1) (1200)) (QB g ad 20) (FA ad 20)) 0 0 (FA ad 20) := by
  refine xmet cX12_end "EbbWreckModel" (by decide) rfl (Nat.le_of_ble_eq_true rfl) (fun p e s m below meth c E hr hlk hml hQ ls hl => ?_)
  have hx := E.1
  have hb := E.2.1
  have hs : Sp ad 20 (FA ad 20) := Sp.fa hD
  have hl : lv_has ls 2 [(0, .ref (ad 0)), (1, .int a1)] := hl
  obtain ⟨f1, c2, b3⟩ := invM_7 hI
  obtain ⟨v4, ee5⟩ : ∃ z : Int32, f1 1 = z := ⟨_, rfl⟩
  have b6 : Bd v4 (0) (12) := (by rw [← ee5]; exact b3.2.1 1 (by decide))
  obtain ⟨v7, ee8⟩ : ∃ z : Int32, f1 0 = z := ⟨_, rfl⟩
  have b9 : Bd v7 (0) (12) := (by rw [← ee8]; exact b3.1 0 (by decide))
  obtain ⟨v10, ee11⟩ : ∃ z : Int32, f1 3 = z := ⟨_, rfl⟩
  have b12 : Bd v10 (0) (12) := (by rw [← ee11]; exact b3.2.2.2.1 3 (by decide))
  obtain ⟨v13, ee14⟩ : ∃ z : Int32, f1 6 = z := ⟨_, rfl⟩
  have b15 : Bd v13 (0) (8) := (by rw [← ee14]; exact b3.2.2.2.2.1 6 (by decide))
  obtain ⟨v16, ee17⟩ : ∃ z : Int32, f1 8 = z := ⟨_, rfl⟩
  have b18 : Bd v16 (0) (3) := (by rw [← ee17]; exact b3.2.2.2.2.2.2.1 8 (by decide))
  obtain ⟨f19, c20, b21⟩ := invM_6 hI
  obtain ⟨v22, ee23⟩ : ∃ z : Int32, f19 0 = z := ⟨_, rfl⟩
  have b24 : Bd v22 (0) (40000) := (by rw [← ee23]; exact b21 0)
  have q25 : elm (S 7) 1 = v4.toInt := (elm_of c2 1).trans (congrArg Int32.toInt (ee5))
  have q26 : elm (S 7) 0 = v7.toInt := (elm_of c2 0).trans (congrArg Int32.toInt (ee8))
  have q27 : elm (S 7) 3 = v10.toInt := (elm_of c2 3).trans (congrArg Int32.toInt (ee11))
  have q28 : elm (S 7) 6 = v13.toInt := (elm_of c2 6).trans (congrArg Int32.toInt (ee14))
  have q29 : elm (S 7) 8 = v16.toInt := (elm_of c2 8).trans (congrArg Int32.toInt (ee17))
  have q30 : elm (S 6) 0 = v22.toInt := (elm_of c20 0).trans (congrArg Int32.toInt (ee23))
  refine lv_aload_n hx hb dX12_end_0 rfl (lv_at hl 0 rfl) ?_
  refine lv_iconst (v := 0) hx hb dX12_end_1 (by decide) ?_
  obtain ⟨v31, v32, v34, v36, v38, v39, w40, v41, v43, v44, v45, v46, v48, v50, v52, v54, v56, v57, v58, c59, b33, b35, b37, b42, b47, b49, b51, b53, b55⟩ := invM_0 hI
  have c59 : S 0 = .inr (12, [.int v31, .ref (ad 1), .ref (ad 2), .ref (ad 3), .ref (ad 4), .ref (ad 5), .int v32, .int v34, .int v36, .int v38, .int v39, .long w40, .int v41, .int v43, .int v44, .int v45, .ref (ad 6), .ref (ad 7), .ref (ad 8), .ref (ad 9), .ref (ad 10), .ref (ad 11), .ref (ad 12), .ref (ad 13), .ref (ad 14), .ref (ad 15), .int v46, .int v48, .ref (ad 16), .int v50, .int v52, .int v54, .int v56, .int v57, .ref (ad 17), .ref (ad 18), .int v58, .ref (ad 19)]) := c59
  refine xputi E hs hQ 0 (by decide) c59 rfl 0 (by decide) q1468 rfl rfl (Nat.le_of_ble_eq_true rfl) dX12_end_2 (fun H locs S60 eS60 hQ => ?_)
  have hI := invM_up_0 hI eS60 ⟨0, v32, v34, v36, v38, v39, w40, v41, v43, v44, v45, v46, v48, v50, v52, v54, v56, v57, v58, rfl, b33, b35, b37, b42, b47, b49, b51, b53, b55⟩
  have c61 : S60 0 = .inr (12, [.int 0, .ref (ad 1), .ref (ad 2), .ref (ad 3), .ref (ad 4), .ref (ad 5), .int v32, .int v34, .int v36, .int v38, .int v39, .long w40, .int v41, .int v43, .int v44, .int v45, .ref (ad 6), .ref (ad 7), .ref (ad 8), .ref (ad 9), .ref (ad 10), .ref (ad 11), .ref (ad 12), .ref (ad 13), .ref (ad 14), .ref (ad 15), .int v46, .int v48, .ref (ad 16), .int v50, .int v52, .int v54, .int v56, .int v57, .ref (ad 17), .ref (ad 18), .int v58, .ref (ad 19)]) := up_at eS60 rfl
  refine lv_iload_n hx hb dX12_end_5 rfl (lv_at hl 1 rfl) ?_
  refine lv_i2l hx hb dX12_end_6 rfl ?_
  refine lv_topl (fun w62 e63 => ?_)
  have t64 : w62.toInt = a1.toInt := by rw [e63]; exact i2l_i _
  have b65 : BdL w62 (-2147483648) (2147483647) := (by have h1 := ((ib_full a1)).1; have h2 := ((ib_full a1)).2; exact ⟨by omega, by omega⟩)
  refine lv_lconst (v := 0) hx hb dX12_end_7 (by decide) ?_
  refine lv_aload_n hx hb dX12_end_8 rfl (lv_at hl 0 rfl) ?_
  refine xget E hQ 0 (by decide) c61 rfl 6 (by decide) q1474 rfl dX12_end_9 ?_
  refine lv_i2l hx hb dX12_end_12 rfl ?_
  refine lv_topl (fun w66 e67 => ?_)
  have t68 : w66.toInt = v32.toInt := by rw [e67]; exact i2l_i _
  have b69 : BdL w66 (0) (1200) := (by have h1 := (b33).1; have h2 := (b33).2; exact ⟨by omega, by omega⟩)
  have q70 : (0 : Int64).toInt = 0 := by decide
  refine xcSi E hs hQ hml hl.1 (gX12_in l g ad hD S60 hI w62 0 w66) mX12_in q1591 rfl ⟨(Nat.le_of_ble_eq_true rfl), (Nat.le_of_ble_eq_true rfl)⟩ ⟨(Nat.le_of_ble_eq_true rfl), (Nat.le_of_ble_eq_true rfl)⟩ (Nat.le_of_ble_eq_true rfl) rfl dX12_end_13 (fun r71 S71 H locs hp71 hQ => ?_)
  obtain ⟨rfl, b71, g71_0, u71_0⟩ := hp71
  refine lv_if_ne (tgt := 21) hx hb dX12_end_16 (by decide) (fun k72 => ?_) (fun k72 => ?_)
  · have h73 := ib_ne k72
    have b74 : Bd r71 (1) (1) := rf_nlo b71 (by decide : Bd 0 (0) (0)) h73
    have g75 := g71_0.resolve_left (by omega)
    clear g71_0
    have b76 : BdL w62 (0) (1200) := ⟨by omega, by omega⟩
    have b77 : Bd a1 (0) (1200) := ⟨by omega, by omega⟩
    refine lv_aload_n hx hb dX12_end_21 rfl (lv_at hl 0 rfl) ?_
    refine lv_iload_n hx hb dX12_end_22 rfl (lv_at hl 1 rfl) ?_
    refine xputi E hs hQ 0 (by decide) c61 rfl 6 (by decide) q1474 rfl rfl (Nat.le_of_ble_eq_true rfl) dX12_end_23 (fun H locs S78 eS78 hQ => ?_)
    have hI := invM_up_0 hI eS78 ⟨0, a1, v34, v36, v38, v39, w40, v41, v43, v44, v45, v46, v48, v50, v52, v54, v56, v57, v58, rfl, b77, b35, b37, b42, b47, b49, b51, b53, b55⟩
    have c79 : S78 0 = .inr (12, [.int 0, .ref (ad 1), .ref (ad 2), .ref (ad 3), .ref (ad 4), .ref (ad 5), .int a1, .int v34, .int v36, .int v38, .int v39, .long w40, .int v41, .int v43, .int v44, .int v45, .ref (ad 6), .ref (ad 7), .ref (ad 8), .ref (ad 9), .ref (ad 10), .ref (ad 11), .ref (ad 12), .ref (ad 13), .ref (ad 14), .ref (ad 15), .int v46, .int v48, .ref (ad 16), .int v50, .int v52, .int v54, .int v56, .int v57, .ref (ad 17), .ref (ad 18), .int v58, .ref (ad 19)]) := up_at eS78 rfl
    refine lv_iload_n hx hb dX12_end_26 rfl (lv_at hl 1 rfl) ?_
    exact xri E hr hlk hQ (⟨hI, (up_o (up_o o_refl eS60 (by decide)) eS78 (by decide)), (ib_wk b77 (by decide) (by decide))⟩) dX12_end_27
  · have h80 := ib_eq k72
    have b81 : Bd r71 (0) (0) := ⟨(b71).1, ((rf_eq b71 (by decide : Bd 0 (0) (0)) h80).1).2⟩
    clear g71_0
    refine lv_iconst (v := (-1)) hx hb dX12_end_19 (by decide) ?_
    exact xri E hr hlk hQ (⟨hI, (up_o o_refl eS60 (by decide)), (ib_wk (by decide : Bd (-1) (-1) (-1)) (by decide) (by decide))⟩) dX12_end_20
set_option maxHeartbeats 4000000 in
set_option maxRecDepth 100000 in
theorem gX12_pushes_0 (l : Launch) (g : GG) (ad : Nat → Nat) (hD : Dj ad 20) (S : SS) (hI : InvM g ad S) (a1 : Int32) (a2 : Int32) (hq1 : 0 ≤ 12 * elm (S 7) 1 + (-1) * elm (S 7) 0) (hq2 : 0 ≤ 12 * elm (S 7) 3 + (-1) * elm (S 7) 0) (hq3 : 0 ≤ 8 * elm (S 7) 0 + (-1) * elm (S 7) 6) (hq4 : 0 ≤ 3 * elm (S 7) 0 + (-1) * elm (S 7) 8) (hq5 : 0 ≤ 40000 * elm (S 7) 0 + (-1) * elm (S 6) 0) : Met l yX12_pushes (wG (.code yX12_pushes cX12_pushes 3 (some .int))) (Rm 5) (XPre g ad 20 S [.ref (ad 0), .int a1, .int a2]) (va_Qi (fun r S' => InvM g ad S' ∧ (∀ j, j ∉ ([0, 16] : List Nat) → S' j = S j) ∧ Bd r (-2) (100000)) (QB g ad 20) (FA ad 20)) 0 0 (FA ad 20) := by
  refine xmet cX12_pushes "EbbWreckModel" (by decide) rfl (Nat.le_of_ble_eq_true rfl) (fun p e s m below meth c E hr hlk hml hQ ls hl => ?_)
  have hx := E.1
  have hb := E.2.1
  have hs : Sp ad 20 (FA ad 20) := Sp.fa hD
  have hl : lv_has ls 3 [(0, .ref (ad 0)), (1, .int a1), (2, .int a2)] := hl
  obtain ⟨f1, c2, b3⟩ := invM_7 hI
  obtain ⟨v4, ee5⟩ : ∃ z : Int32, f1 1 = z := ⟨_, rfl⟩
  have b6 : Bd v4 (0) (12) := (by rw [← ee5]; exact b3.2.1 1 (by decide))
  obtain ⟨v7, ee8⟩ : ∃ z : Int32, f1 0 = z := ⟨_, rfl⟩
  have b9 : Bd v7 (0) (12) := (by rw [← ee8]; exact b3.1 0 (by decide))
  obtain ⟨v10, ee11⟩ : ∃ z : Int32, f1 3 = z := ⟨_, rfl⟩
  have b12 : Bd v10 (0) (12) := (by rw [← ee11]; exact b3.2.2.2.1 3 (by decide))
  obtain ⟨v13, ee14⟩ : ∃ z : Int32, f1 6 = z := ⟨_, rfl⟩
  have b15 : Bd v13 (0) (8) := (by rw [← ee14]; exact b3.2.2.2.2.1 6 (by decide))
  obtain ⟨v16, ee17⟩ : ∃ z : Int32, f1 8 = z := ⟨_, rfl⟩
  have b18 : Bd v16 (0) (3) := (by rw [← ee17]; exact b3.2.2.2.2.2.2.1 8 (by decide))
  obtain ⟨f19, c20, b21⟩ := invM_6 hI
  obtain ⟨v22, ee23⟩ : ∃ z : Int32, f19 0 = z := ⟨_, rfl⟩
  have b24 : Bd v22 (0) (40000) := (by rw [← ee23]; exact b21 0)
  have q25 : elm (S 7) 1 = v4.toInt := (elm_of c2 1).trans (congrArg Int32.toInt (ee5))
  have q26 : elm (S 7) 0 = v7.toInt := (elm_of c2 0).trans (congrArg Int32.toInt (ee8))
  have q27 : elm (S 7) 3 = v10.toInt := (elm_of c2 3).trans (congrArg Int32.toInt (ee11))
  have q28 : elm (S 7) 6 = v13.toInt := (elm_of c2 6).trans (congrArg Int32.toInt (ee14))
  have q29 : elm (S 7) 8 = v16.toInt := (elm_of c2 8).trans (congrArg Int32.toInt (ee17))
  have q30 : elm (S 6) 0 = v22.toInt := (elm_of c20 0).trans (congrArg Int32.toInt (ee23))
  refine lv_aload_n hx hb dX12_pushes_0 rfl (lv_at hl 0 rfl) ?_
  refine lv_iconst (v := 0) hx hb dX12_pushes_1 (by decide) ?_
  obtain ⟨v31, v32, v34, v36, v38, v39, w40, v41, v43, v44, v45, v46, v48, v50, v52, v54, v56, v57, v58, c59, b33, b35, b37, b42, b47, b49, b51, b53, b55⟩ := invM_0 hI
  have c59 : S 0 = .inr (12, [.int v31, .ref (ad 1), .ref (ad 2), .ref (ad 3), .ref (ad 4), .ref (ad 5), .int v32, .int v34, .int v36, .int v38, .int v39, .long w40, .int v41, .int v43, .int v44, .int v45, .ref (ad 6), .ref (ad 7), .ref (ad 8), .ref (ad 9), .ref (ad 10), .ref (ad 11), .ref (ad 12), .ref (ad 13), .ref (ad 14), .ref (ad 15), .int v46, .int v48, .ref (ad 16), .int v50, .int v52, .int v54, .int v56, .int v57, .ref (ad 17), .ref (ad 18), .int v58, .ref (ad 19)]) := c59
  refine xputi E hs hQ 0 (by decide) c59 rfl 0 (by decide) q1468 rfl rfl (Nat.le_of_ble_eq_true rfl) dX12_pushes_2 (fun H locs S60 eS60 hQ => ?_)
  have hI := invM_up_0 hI eS60 ⟨0, v32, v34, v36, v38, v39, w40, v41, v43, v44, v45, v46, v48, v50, v52, v54, v56, v57, v58, rfl, b33, b35, b37, b42, b47, b49, b51, b53, b55⟩
  have c61 : S60 0 = .inr (12, [.int 0, .ref (ad 1), .ref (ad 2), .ref (ad 3), .ref (ad 4), .ref (ad 5), .int v32, .int v34, .int v36, .int v38, .int v39, .long w40, .int v41, .int v43, .int v44, .int v45, .ref (ad 6), .ref (ad 7), .ref (ad 8), .ref (ad 9), .ref (ad 10), .ref (ad 11), .ref (ad 12), .ref (ad 13), .ref (ad 14), .ref (ad 15), .int v46, .int v48, .ref (ad 16), .int v50, .int v52, .int v54, .int v56, .int v57, .ref (ad 17), .ref (ad 18), .int v58, .ref (ad 19)]) := up_at eS60 rfl
  refine lv_aload_n hx hb dX12_pushes_5 rfl (lv_at hl 0 rfl) ?_
  refine lv_iload_n hx hb dX12_pushes_6 rfl (lv_at hl 1 rfl) ?_
  refine lv_iload_n hx hb dX12_pushes_7 rfl (lv_at hl 2 rfl) ?_
  have c62 : S60 6 = .inl (g.2 0, 5, .inl f19) := (up_ne eS60 (by decide) c20)
  have c63 : S60 7 = .inl (g.2 0, 50, .inl f1) := (up_ne eS60 (by decide) c2)
  refine xcVi E hs hQ hml hl.1 0 (gX12_isPush_0 l g ad hD S60 hI a1 a2) mX12_isPush q1922 (by decide) c61 rfl rfl ⟨(Nat.le_of_ble_eq_true rfl), (Nat.le_of_ble_eq_true rfl)⟩ ⟨(Nat.le_of_ble_eq_true rfl), (Nat.le_of_ble_eq_true rfl)⟩ (Nat.le_of_ble_eq_true rfl) rfl dX12_pushes_8 (fun r64 S64 H locs hp64 hQ _ => ?_)
  obtain ⟨rfl, b64, g64_0⟩ := hp64
  have q65 : elm (S60 6) 0 = v22.toInt := (elm_of c62 0).trans (congrArg Int32.toInt (ee23))
  have q66 : elm (S60 7) 6 = v13.toInt := (elm_of c63 6).trans (congrArg Int32.toInt (ee14))
  refine lv_if_ne (tgt := 17) hx hb dX12_pushes_11 (by decide) (fun k67 => ?_) (fun k67 => ?_)
  · have h68 := ib_ne k67
    have b69 : Bd r64 (1) (1) := rf_nlo b64 (by decide : Bd 0 (0) (0)) h68
    have g70 := g64_0.resolve_left (by omega)
    clear g64_0
    have b71 : Bd v22 (1) (40000) := ⟨by omega, (b24).2⟩
    have b72 : Bd a1 (0) (7) := ⟨by omega, by omega⟩
    have b73 : Bd v13 (1) (8) := ⟨by omega, (b15).2⟩
    refine lv_aload_n hx hb dX12_pushes_17 rfl (lv_at hl 0 rfl) ?_
    refine lv_iload_n hx hb dX12_pushes_18 rfl (lv_at hl 2 rfl) ?_
    have q74 : elm (S60 7) 0 = v7.toInt := (elm_of c63 0).trans (congrArg Int32.toInt (ee8))
    have q75 : elm (S60 7) 1 = v4.toInt := (elm_of c63 1).trans (congrArg Int32.toInt (ee5))
    refine xcVv E hs hQ hml hl.1 0 (gX12_laysPushes_0 l g ad hD S60 hI a2 (by omega) (by omega)) mX12_laysPushes q1926 (by decide) c61 rfl rfl ⟨(Nat.le_of_ble_eq_true rfl), (Nat.le_of_ble_eq_true rfl)⟩ ⟨(Nat.le_of_ble_eq_true rfl), (Nat.le_of_ble_eq_true rfl)⟩ (Nat.le_of_ble_eq_true rfl) rfl dX12_pushes_19 (fun S76 H locs hp76 hQ _ => ?_)
    obtain ⟨hI, o76⟩ := hp76
    refine lv_aload_n hx hb dX12_pushes_22 rfl (lv_at hl 0 rfl) ?_
    have c77 : S76 0 = .inr (12, [.int 0, .ref (ad 1), .ref (ad 2), .ref (ad 3), .ref (ad 4), .ref (ad 5), .int v32, .int v34, .int v36, .int v38, .int v39, .long w40, .int v41, .int v43, .int v44, .int v45, .ref (ad 6), .ref (ad 7), .ref (ad 8), .ref (ad 9), .ref (ad 10), .ref (ad 11), .ref (ad 12), .ref (ad 13), .ref (ad 14), .ref (ad 15), .int v46, .int v48, .ref (ad 16), .int v50, .int v52, .int v54, .int v56, .int v57, .ref (ad 17), .ref (ad 18), .int v58, .ref (ad 19)]) := ((o76 0 (by decide)).trans c61)
    refine xget E hQ 0 (by decide) c77 rfl 28 (by decide) q1496 rfl dX12_pushes_23 ?_
    refine lv_aload_n hx hb dX12_pushes_26 rfl (lv_at hl 0 rfl) ?_
    refine lv_iload_n hx hb dX12_pushes_27 rfl (lv_at hl 1 rfl) ?_
    refine xcVi E hs hQ hml hl.1 0 (gX12_first_0 l g ad hD S76 hI a1 b72) mX12_first q1934 (by decide) c77 rfl rfl ⟨(Nat.le_of_ble_eq_true rfl), (Nat.le_of_ble_eq_true rfl)⟩ ⟨(Nat.le_of_ble_eq_true rfl), (Nat.le_of_ble_eq_true rfl)⟩ (Nat.le_of_ble_eq_true rfl) rfl dX12_pushes_28 (fun r78 S78 H locs hp78 hQ _ => ?_)
    obtain ⟨rfl, b78⟩ := hp78
    obtain ⟨f79, c80, b81⟩ := invM_16 hI
    refine xiald E hQ 16 (by decide) c80 (ib_in b78 (by decide) (by decide)) dX12_pushes_31 ?_
    refine lv_topi (fun z82 e83 => ?_)
    have b84 : Bd z82 (0) (100000) := (by rw [e83]; exact b81 _)
    refine lv_ldc (v := 100000) hx hb E.2.2.1 (E.2.2.2.1 _ q1648) dX12_pushes_32 ?_
    refine lv_icmp_lt (tgt := 41) hx hb dX12_pushes_34 (by decide) (fun k85 => ?_) (fun k85 => ?_)
    · have h86 := ib_lt k85
      have b87 : Bd z82 (0) (99999) := ⟨(b84).1, ((rf_lt b84 (by decide : Bd 100000 (100000) (100000)) h86).1).2⟩
      refine lv_aload_n hx hb dX12_pushes_41 rfl (lv_at hl 0 rfl) ?_
      refine xget E hQ 0 (by decide) c77 rfl 28 (by decide) q1496 rfl dX12_pushes_42 ?_
      refine lv_aload_n hx hb dX12_pushes_45 rfl (lv_at hl 0 rfl) ?_
      refine lv_iload_n hx hb dX12_pushes_46 rfl (lv_at hl 1 rfl) ?_
      refine xcVi E hs hQ hml hl.1 0 (gX12_first_0 l g ad hD S76 hI a1 b72) mX12_first q1934 (by decide) c77 rfl rfl ⟨(Nat.le_of_ble_eq_true rfl), (Nat.le_of_ble_eq_true rfl)⟩ ⟨(Nat.le_of_ble_eq_true rfl), (Nat.le_of_ble_eq_true rfl)⟩ (Nat.le_of_ble_eq_true rfl) rfl dX12_pushes_47 (fun r88 S88 H locs hp88 hQ _ => ?_)
      obtain ⟨rfl, b88⟩ := hp88
      refine xiald E hQ 16 (by decide) c80 (ib_in b88 (by decide) (by decide)) dX12_pushes_50 ?_
      refine lv_topi (fun z89 e90 => ?_)
      have b91 : Bd z89 (0) (100000) := (by rw [e90]; exact b81 _)
      exact xri E hr hlk hQ (⟨hI, (o_trans (up_o o_refl eS60 (by decide)) o76 (by decide)), (ib_wk b91 (by decide) (by decide))⟩) dX12_pushes_51
    · have h92 := ib_nlt k85
      have b93 : Bd z82 (100000) (100000) := ⟨((rf_le (by decide : Bd 100000 (100000) (100000)) b84 h92).2).1, (b84).2⟩
      refine lv_iconst (v := (-1)) hx hb dX12_pushes_37 (by decide) ?_
      refine lv_goto (tgt := 51) hx hb dX12_pushes_38 (by decide) ?_
      exact xri E hr hlk hQ (⟨hI, (o_trans (up_o o_refl eS60 (by decide)) o76 (by decide)), (ib_wk (by decide : Bd (-1) (-1) (-1)) (by decide) (by decide))⟩) dX12_pushes_51
  · have h94 := ib_eq k67
    have b95 : Bd r64 (0) (0) := ⟨(b64).1, ((rf_eq b64 (by decide : Bd 0 (0) (0)) h94).1).2⟩
    clear g64_0
    refine lv_bipush (v := (-2)) hx hb dX12_pushes_14 (by decide) ?_
    exact xri E hr hlk hQ (⟨hI, (up_o o_refl eS60 (by decide)), (ib_wk (by decide : Bd (-2) (-2) (-2)) (by decide) (by decide))⟩) dX12_pushes_16
set_option maxHeartbeats 4000000 in
set_option maxRecDepth 100000 in
theorem gX12_soonest_0 (l : Launch) (g : GG) (ad : Nat → Nat) (hD : Dj ad 20) (S : SS) (hI : InvM g ad S) (a1 : Int32) (a2 : Int32) (hq1 : 0 ≤ 12 * elm (S 7) 1 + (-1) * elm (S 7) 0) (hq2 : 0 ≤ 12 * elm (S 7) 3 + (-1) * elm (S 7) 0) (hq3 : 0 ≤ 8 * elm (S 7) 0 + (-1) * elm (S 7) 6) (hq4 : 0 ≤ 3 * elm (S 7) 0 + (-1) * elm (S 7) 8) (hq5 : 0 ≤ 40000 * elm (S 7) 0 + (-1) * elm (S 6) 0) : Met l yX12_soonest (wG (.code yX12_soonest cX12_soonest 9 (some .int))) (Rm 3) (XPre g ad 20 S [.ref (ad 0), .int a1, .int a2]) (va_Qi (fun r S' => InvM g ad S' ∧ (∀ j, j ∉ ([0] : List Nat) → S' j = S j) ∧ Bd r (-2) (100)) (QB g ad 20) (FA ad 20)) 0 0 (FA ad 20) := by
  refine xmet cX12_soonest "EbbWreckModel" (by decide) rfl (Nat.le_of_ble_eq_true rfl) (fun p e s m below meth c E hr hlk hml hQ ls hl => ?_)
  have hx := E.1
  have hb := E.2.1
  have hs : Sp ad 20 (FA ad 20) := Sp.fa hD
  have hl : lv_has ls 9 [(0, .ref (ad 0)), (1, .int a1), (2, .int a2)] := hl
  obtain ⟨f1, c2, b3⟩ := invM_7 hI
  obtain ⟨v4, ee5⟩ : ∃ z : Int32, f1 1 = z := ⟨_, rfl⟩
  have b6 : Bd v4 (0) (12) := (by rw [← ee5]; exact b3.2.1 1 (by decide))
  obtain ⟨v7, ee8⟩ : ∃ z : Int32, f1 0 = z := ⟨_, rfl⟩
  have b9 : Bd v7 (0) (12) := (by rw [← ee8]; exact b3.1 0 (by decide))
  obtain ⟨v10, ee11⟩ : ∃ z : Int32, f1 3 = z := ⟨_, rfl⟩
  have b12 : Bd v10 (0) (12) := (by rw [← ee11]; exact b3.2.2.2.1 3 (by decide))
  obtain ⟨v13, ee14⟩ : ∃ z : Int32, f1 6 = z := ⟨_, rfl⟩
  have b15 : Bd v13 (0) (8) := (by rw [← ee14]; exact b3.2.2.2.2.1 6 (by decide))
  obtain ⟨v16, ee17⟩ : ∃ z : Int32, f1 8 = z := ⟨_, rfl⟩
  have b18 : Bd v16 (0) (3) := (by rw [← ee17]; exact b3.2.2.2.2.2.2.1 8 (by decide))
  obtain ⟨f19, c20, b21⟩ := invM_6 hI
  obtain ⟨v22, ee23⟩ : ∃ z : Int32, f19 0 = z := ⟨_, rfl⟩
  have b24 : Bd v22 (0) (40000) := (by rw [← ee23]; exact b21 0)
  have q25 : elm (S 7) 1 = v4.toInt := (elm_of c2 1).trans (congrArg Int32.toInt (ee5))
  have q26 : elm (S 7) 0 = v7.toInt := (elm_of c2 0).trans (congrArg Int32.toInt (ee8))
  have q27 : elm (S 7) 3 = v10.toInt := (elm_of c2 3).trans (congrArg Int32.toInt (ee11))
  have q28 : elm (S 7) 6 = v13.toInt := (elm_of c2 6).trans (congrArg Int32.toInt (ee14))
  have q29 : elm (S 7) 8 = v16.toInt := (elm_of c2 8).trans (congrArg Int32.toInt (ee17))
  have q30 : elm (S 6) 0 = v22.toInt := (elm_of c20 0).trans (congrArg Int32.toInt (ee23))
  refine lv_aload_n hx hb dX12_soonest_0 rfl (lv_at hl 0 rfl) ?_
  refine lv_iconst (v := 0) hx hb dX12_soonest_1 (by decide) ?_
  obtain ⟨v31, v32, v34, v36, v38, v39, w40, v41, v43, v44, v45, v46, v48, v50, v52, v54, v56, v57, v58, c59, b33, b35, b37, b42, b47, b49, b51, b53, b55⟩ := invM_0 hI
  have c59 : S 0 = .inr (12, [.int v31, .ref (ad 1), .ref (ad 2), .ref (ad 3), .ref (ad 4), .ref (ad 5), .int v32, .int v34, .int v36, .int v38, .int v39, .long w40, .int v41, .int v43, .int v44, .int v45, .ref (ad 6), .ref (ad 7), .ref (ad 8), .ref (ad 9), .ref (ad 10), .ref (ad 11), .ref (ad 12), .ref (ad 13), .ref (ad 14), .ref (ad 15), .int v46, .int v48, .ref (ad 16), .int v50, .int v52, .int v54, .int v56, .int v57, .ref (ad 17), .ref (ad 18), .int v58, .ref (ad 19)]) := c59
  refine xputi E hs hQ 0 (by decide) c59 rfl 0 (by decide) q1468 rfl rfl (Nat.le_of_ble_eq_true rfl) dX12_soonest_2 (fun H locs S60 eS60 hQ => ?_)
  have hI := invM_up_0 hI eS60 ⟨0, v32, v34, v36, v38, v39, w40, v41, v43, v44, v45, v46, v48, v50, v52, v54, v56, v57, v58, rfl, b33, b35, b37, b42, b47, b49, b51, b53, b55⟩
  have c61 : S60 0 = .inr (12, [.int 0, .ref (ad 1), .ref (ad 2), .ref (ad 3), .ref (ad 4), .ref (ad 5), .int v32, .int v34, .int v36, .int v38, .int v39, .long w40, .int v41, .int v43, .int v44, .int v45, .ref (ad 6), .ref (ad 7), .ref (ad 8), .ref (ad 9), .ref (ad 10), .ref (ad 11), .ref (ad 12), .ref (ad 13), .ref (ad 14), .ref (ad 15), .int v46, .int v48, .ref (ad 16), .int v50, .int v52, .int v54, .int v56, .int v57, .ref (ad 17), .ref (ad 18), .int v58, .ref (ad 19)]) := up_at eS60 rfl
  refine lv_aload_n hx hb dX12_soonest_5 rfl (lv_at hl 0 rfl) ?_
  refine lv_iload_n hx hb dX12_soonest_6 rfl (lv_at hl 1 rfl) ?_
  refine lv_iload_n hx hb dX12_soonest_7 rfl (lv_at hl 2 rfl) ?_
  have c62 : S60 6 = .inl (g.2 0, 5, .inl f19) := (up_ne eS60 (by decide) c20)
  have c63 : S60 7 = .inl (g.2 0, 50, .inl f1) := (up_ne eS60 (by decide) c2)
  refine xcVi E hs hQ hml hl.1 0 (gX12_isPush_0 l g ad hD S60 hI a1 a2) mX12_isPush q1922 (by decide) c61 rfl rfl ⟨(Nat.le_of_ble_eq_true rfl), (Nat.le_of_ble_eq_true rfl)⟩ ⟨(Nat.le_of_ble_eq_true rfl), (Nat.le_of_ble_eq_true rfl)⟩ (Nat.le_of_ble_eq_true rfl) rfl dX12_soonest_8 (fun r64 S64 H locs hp64 hQ _ => ?_)
  obtain ⟨rfl, b64, g64_0⟩ := hp64
  have q65 : elm (S60 6) 0 = v22.toInt := (elm_of c62 0).trans (congrArg Int32.toInt (ee23))
  have q66 : elm (S60 7) 6 = v13.toInt := (elm_of c63 6).trans (congrArg Int32.toInt (ee14))
  refine lv_if_ne (tgt := 17) hx hb dX12_soonest_11 (by decide) (fun k67 => ?_) (fun k67 => ?_)
  · have h68 := ib_ne k67
    have b69 : Bd r64 (1) (1) := rf_nlo b64 (by decide : Bd 0 (0) (0)) h68
    have g70 := g64_0.resolve_left (by omega)
    clear g64_0
    have b71 : Bd v22 (1) (40000) := ⟨by omega, (b24).2⟩
    have b72 : Bd a1 (0) (7) := ⟨by omega, by omega⟩
    have b73 : Bd v13 (1) (8) := ⟨by omega, (b15).2⟩
    refine lv_iconst (v := 1) hx hb dX12_soonest_17 (by decide) ?_
    refine lv_aload_n hx hb dX12_soonest_18 rfl (lv_at hl 0 rfl) ?_
    refine xget E hQ 0 (by decide) c61 rfl 19 (by decide) q1487 rfl dX12_soonest_19 ?_
    refine lv_iconst (v := 3) hx hb dX12_soonest_22 (by decide) ?_
    refine lv_iload_n hx hb dX12_soonest_23 rfl (lv_at hl 1 rfl) ?_
    refine lv_imul hx hb dX12_soonest_24 ?_
    refine lv_topi (fun z74 e75 => ?_)
    have t76 := ib_cmul (q := 3) e75 (by decide) (by decide) b72 (by decide) (by decide)
    have b77 : Bd z74 (0) (21) := ib_mulb t76 (by decide) b72
    refine lv_iconst (v := 1) hx hb dX12_soonest_25 (by decide) ?_
    refine lv_iadd hx hb dX12_soonest_26 ?_
    refine lv_topi (fun z78 e79 => ?_)
    have t80 := ib_add e79 b77 (by decide : Bd 1 (1) (1)) (by decide) (by decide)
    have b81 : Bd z78 (1) (22) := ib_addb t80 b77 (by decide : Bd 1 (1) (1))
    have t80 : z78.toInt = z74.toInt + 1 := fold_add t80 rfl (by decide)
    obtain ⟨f82, c83, b84⟩ := invM_9 hI
    refine xiald E hQ 9 (by decide) c83 (ib_in b81 (by decide) (by decide)) dX12_soonest_27 ?_
    refine lv_topi (fun z85 e86 => ?_)
    have b87 : Bd z85 (0) (11) := (by rw [e86]; exact b84.1 _ (by rw [clampN b81]; omega))
    refine lv_ishl hx hb dX12_soonest_28 ?_
    refine lv_topi (fun z88 e89 => ?_)
    refine lv_istore_n (lv' := [(3, .int z88), (0, .ref (ad 0)), (1, .int a1), (2, .int a2)]) hx hb dX12_soonest_29 rfl hl (by decide) rfl (fun ls hl => ?_)
    refine lv_aload_n hx hb dX12_soonest_30 rfl (lv_at hl 1 rfl) ?_
    refine xget E hQ 0 (by decide) c61 rfl 19 (by decide) q1487 rfl dX12_soonest_31 ?_
    refine lv_iconst (v := 3) hx hb dX12_soonest_34 (by decide) ?_
    refine lv_iload_n hx hb dX12_soonest_35 rfl (lv_at hl 2 rfl) ?_
    refine lv_imul hx hb dX12_soonest_36 ?_
    refine lv_topi (fun z90 e91 => ?_)
    have t92 := ib_cmul (q := 3) e91 (by decide) (by decide) b72 (by decide) (by decide)
    have b93 : Bd z90 (0) (21) := ib_mulb t92 (by decide) b72
    refine lv_iconst (v := 2) hx hb dX12_soonest_37 (by decide) ?_
    refine lv_iadd hx hb dX12_soonest_38 ?_
    refine lv_topi (fun z94 e95 => ?_)
    have t96 := ib_add e95 b93 (by decide : Bd 2 (2) (2)) (by decide) (by decide)
    have b97 : Bd z94 (2) (23) := ib_addb t96 b93 (by decide : Bd 2 (2) (2))
    have t96 : z94.toInt = z90.toInt + 2 := fold_add t96 rfl (by decide)
    refine xiald E hQ 9 (by decide) c83 (ib_in b97 (by decide) (by decide)) dX12_soonest_39 ?_
    refine lv_topi (fun z98 e99 => ?_)
    have b100 : Bd z98 (0) (99) := (by rw [e99]; exact b84.2 _ (by rw [clampN b97]; omega))
    refine lv_istore (lv' := [(4, .int z98), (3, .int z88), (0, .ref (ad 0)), (1, .int a1), (2, .int a2)]) hx hb dX12_soonest_40 hl (by decide) rfl (fun ls hl => ?_)
    have loop42 : ∀ (n : Nat) (H : Heap) (locs : List Loc) (ls : Array Slot) (x42_3 : Int32) (x42_4 : Int32), Bd x42_4 (0) (100) → (-1) * x42_4.toInt + 100 < ((n : Nat) : Int) → Hp g ad 20 S60 (FA ad 20) s.heap H locs → lv_has ls 9 [(4, .int x42_4), (3, .int x42_3), (0, .ref (ad 0)), (1, .int a1), (2, .int a2)] → W p l e (Rm 3) s m [.ref (ad 0), .int a1, .int a2].toArray below meth c H locs 0 0 (MQ below (va_Qi (fun r S' => InvM g ad S' ∧ (∀ j, j ∉ ([0] : List Nat) → S' j = S j) ∧ Bd r (-2) (100)) (QB g ad 20) (FA ad 20)) [.ref (ad 0), .int a1, .int a2].toArray s 0 0 (FA ad 20)) (F0 m 42 ls []) := by
      intro n
      induction n with
      | zero => intro H locs ls x42_3 x42_4 Bx42_4 hn42_ hQ hl; exfalso; have := (Bx42_4).2; omega
      | succ n42_ ih42 =>
        intro H locs ls x42_3 x42_4 Bx42_4 hn42_ hQ hl
        refine lv_iload hx hb dX12_soonest_42 (lv_at hl 0 rfl) ?_
        refine lv_bipush (v := 100) hx hb dX12_soonest_44 (by decide) ?_
        refine lv_icmp_ge (tgt := 169) hx hb dX12_soonest_46 (by decide) (fun k101 => ?_) (fun k101 => ?_)
        · have h102 := ib_le k101
          have b103 : Bd x42_4 (100) (100) := ⟨((rf_le (by decide : Bd 100 (100) (100)) Bx42_4 h102).2).1, (Bx42_4).2⟩
          refine lv_iconst (v := (-1)) hx hb dX12_soonest_169 (by decide) ?_
          exact xri E hr hlk hQ (⟨hI, (up_o o_refl eS60 (by decide)), (ib_wk (by decide : Bd (-1) (-1) (-1)) (by decide) (by decide))⟩) dX12_soonest_170
        · have h104 := ib_nle k101
          have b105 : Bd x42_4 (0) (99) := ⟨(Bx42_4).1, ((rf_lt Bx42_4 (by decide : Bd 100 (100) (100)) h104).1).2⟩
          refine lv_iconst (v := 0) hx hb dX12_soonest_49 (by decide) ?_
          refine lv_istore (lv' := [(5, .int 0), (4, .int x42_4), (3, .int x42_3), (0, .ref (ad 0)), (1, .int a1), (2, .int a2)]) hx hb dX12_soonest_50 hl (by decide) rfl (fun ls hl => ?_)
          refine lv_iconst (v := 0) hx hb dX12_soonest_52 (by decide) ?_
          refine lv_istore (lv' := [(6, .int 0), (5, .int 0), (4, .int x42_4), (3, .int x42_3), (0, .ref (ad 0)), (1, .int a1), (2, .int a2)]) hx hb dX12_soonest_53 hl (by decide) rfl (fun ls hl => ?_)
          have loop55 : ∀ (n : Nat) (H : Heap) (locs : List Loc) (ls : Array Slot) (x55_5 : Int32) (x55_6 : Int32), Bd x55_6 (0) (12) → (-1) * x55_6.toInt + 12 < ((n : Nat) : Int) → Hp g ad 20 S60 (FA ad 20) s.heap H locs → lv_has ls 9 [(6, .int x55_6), (5, .int x55_5), (4, .int x42_4), (3, .int x42_3), (0, .ref (ad 0)), (1, .int a1), (2, .int a2)] → W p l e (Rm 3) s m [.ref (ad 0), .int a1, .int a2].toArray below meth c H locs 0 0 (MQ below (va_Qi (fun r S' => InvM g ad S' ∧ (∀ j, j ∉ ([0] : List Nat) → S' j = S j) ∧ Bd r (-2) (100)) (QB g ad 20) (FA ad 20)) [.ref (ad 0), .int a1, .int a2].toArray s 0 0 (FA ad 20)) (F0 m 55 ls []) := by
            intro n
            induction n with
            | zero => intro H locs ls x55_5 x55_6 Bx55_6 hn55_ hQ hl; exfalso; have := (Bx55_6).2; omega
            | succ n55_ ih55 =>
              intro H locs ls x55_5 x55_6 Bx55_6 hn55_ hQ hl
              refine lv_iload hx hb dX12_soonest_55 (lv_at hl 0 rfl) ?_
              refine lv_aload_n hx hb dX12_soonest_57 rfl (lv_at hl 4 rfl) ?_
              refine xget E hQ 0 (by decide) c61 rfl 17 (by decide) q1485 rfl dX12_soonest_58 ?_
              refine lv_iconst (v := 0) hx hb dX12_soonest_61 (by decide) ?_
              refine xiald E hQ 7 (by decide) c63 (vp_in_lit 0 50 (by decide)) dX12_soonest_62 ?_
              refine sb_at (P := fun z => W _ _ _ _ _ _ _ _ _ _ _ _ _ _ _ (F0 _ _ _ (.int z :: _))) (show f1 (0 : Int32).toNatClampNeg = v7 from ee8) ?_
              refine lv_icmp_ge (tgt := 160) hx hb dX12_soonest_63 (by decide) (fun k106 => ?_) (fun k106 => ?_)
              · have h107 := ib_le k106
                refine lv_iload hx hb dX12_soonest_160 (lv_at hl 1 rfl) ?_
                refine lv_istore_n (lv' := [(3, .int x55_5), (6, .int x55_6), (5, .int x55_5), (4, .int x42_4), (0, .ref (ad 0)), (1, .int a1), (2, .int a2)]) hx hb dX12_soonest_162 rfl hl (by decide) rfl (fun ls hl => ?_)
                obtain ⟨z108, e109⟩ : ∃ z : Int32, z = x42_4 + 1 := ⟨_, rfl⟩
                have t110 := ib_add e109 b105 (by decide : Bd 1 (1) (1)) (by decide) (by decide)
                have b111 : Bd z108 (1) (100) := ib_addb t110 b105 (by decide : Bd 1 (1) (1))
                have t110 : z108.toInt = x42_4.toInt + 1 := fold_add t110 rfl (by decide)
                refine lv_iinc (v := z108) (lv' := [(4, .int z108), (3, .int x55_5), (6, .int x55_6), (5, .int x55_5), (0, .ref (ad 0)), (1, .int a1), (2, .int a2)]) hx hb dX12_soonest_163 hl (k := 3) rfl (by rw [e109]; rfl) (by decide) rfl (fun ls hl => ?_)
                refine lv_goto (tgt := 42) hx hb dX12_soonest_166 (by decide) ?_
                exact ih42 _ _ _ x55_5 z108 (ib_wk b111 (by decide) (by decide)) (by omega) hQ (lv_sub hl [0, 1, 4, 5, 6] rfl)
              · have h112 := ib_nle k106
                have b113 : Bd x55_6 (0) (11) := ⟨(Bx55_6).1, ((rf_lt Bx55_6 b9 h112).1).2⟩
                have b114 : Bd v7 (1) (12) := ⟨((rf_lt Bx55_6 b9 h112).2).1, (b9).2⟩
                refine lv_iconst (v := 0) hx hb dX12_soonest_66 (by decide) ?_
                refine lv_istore (lv' := [(7, .int 0), (6, .int x55_6), (5, .int x55_5), (4, .int x42_4), (3, .int x42_3), (0, .ref (ad 0)), (1, .int a1), (2, .int a2)]) hx hb dX12_soonest_67 hl (by decide) rfl (fun ls hl => ?_)
                have loop69 : ∀ (n : Nat) (H : Heap) (locs : List Loc) (ls : Array Slot) (x69_5 : Int32) (x69_7 : Int32), Bd x69_7 (0) (3) → (-1) * x69_7.toInt + 3 < ((n : Nat) : Int) → Hp g ad 20 S60 (FA ad 20) s.heap H locs → lv_has ls 9 [(7, .int x69_7), (6, .int x55_6), (5, .int x69_5), (4, .int x42_4), (3, .int x42_3), (0, .ref (ad 0)), (1, .int a1), (2, .int a2)] → W p l e (Rm 3) s m [.ref (ad 0), .int a1, .int a2].toArray below meth c H locs 0 0 (MQ below (va_Qi (fun r S' => InvM g ad S' ∧ (∀ j, j ∉ ([0] : List Nat) → S' j = S j) ∧ Bd r (-2) (100)) (QB g ad 20) (FA ad 20)) [.ref (ad 0), .int a1, .int a2].toArray s 0 0 (FA ad 20)) (F0 m 69 ls []) := by
                  intro n
                  induction n with
                  | zero => intro H locs ls x69_5 x69_7 Bx69_7 hn69_ hQ hl; exfalso; have := (Bx69_7).2; omega
                  | succ n69_ ih69 =>
                    intro H locs ls x69_5 x69_7 Bx69_7 hn69_ hQ hl
                    refine lv_iload hx hb dX12_soonest_69 (lv_at hl 0 rfl) ?_
                    refine lv_iconst (v := 3) hx hb dX12_soonest_71 (by decide) ?_
                    refine lv_icmp_ge (tgt := 154) hx hb dX12_soonest_72 (by decide) (fun k115 => ?_) (fun k115 => ?_)
                    · have h116 := ib_le k115
                      have b117 : Bd x69_7 (3) (3) := ⟨((rf_le (by decide : Bd 3 (3) (3)) Bx69_7 h116).2).1, (Bx69_7).2⟩
                      obtain ⟨z118, e119⟩ : ∃ z : Int32, z = x55_6 + 1 := ⟨_, rfl⟩
                      have t120 := ib_add e119 b113 (by decide : Bd 1 (1) (1)) (by decide) (by decide)
                      have b121 : Bd z118 (1) (12) := ib_addb t120 b113 (by decide : Bd 1 (1) (1))
                      have t120 : z118.toInt = x55_6.toInt + 1 := fold_add t120 rfl (by decide)
                      refine lv_iinc (v := z118) (lv' := [(6, .int z118), (7, .int x69_7), (5, .int x69_5), (4, .int x42_4), (3, .int x42_3), (0, .ref (ad 0)), (1, .int a1), (2, .int a2)]) hx hb dX12_soonest_154 hl (k := 1) rfl (by rw [e119]; rfl) (by decide) rfl (fun ls hl => ?_)
                      refine lv_goto (tgt := 55) hx hb dX12_soonest_157 (by decide) ?_
                      exact ih55 _ _ _ x69_5 z118 (ib_wk b121 (by decide) (by decide)) (by omega) hQ (lv_sub hl [0, 2, 3, 4, 5, 6, 7] rfl)
                    · have h122 := ib_nle k115
                      have b123 : Bd x69_7 (0) (2) := ⟨(Bx69_7).1, ((rf_lt Bx69_7 (by decide : Bd 3 (3) (3)) h122).1).2⟩
                      refine lv_iload_n hx hb dX12_soonest_75 rfl (lv_at hl 4 rfl) ?_
                      refine lv_iload hx hb dX12_soonest_76 (lv_at hl 1 rfl) ?_
                      refine xcSi E hs hQ hml hl.1 (gX12_isBit l g ad hD S60 hI x42_3 x55_6) mX12_isBit q1759 rfl ⟨(Nat.le_of_ble_eq_true rfl), (Nat.le_of_ble_eq_true rfl)⟩ ⟨(Nat.le_of_ble_eq_true rfl), (Nat.le_of_ble_eq_true rfl)⟩ (Nat.le_of_ble_eq_true rfl) rfl dX12_soonest_78 (fun r124 S124 H locs hp124 hQ => ?_)
                      obtain ⟨rfl, b124, fg124⟩ := hp124
                      refine lv_if_ne (tgt := 87) hx hb dX12_soonest_81 (by decide) (fun k125 => ?_) (fun k125 => ?_)
                      · have h126 := ib_ne k125
                        have b127 : Bd r124 (1) (1) := rf_nlo b124 (by decide : Bd 0 (0) (0)) h126
                        refine lv_aload_n hx hb dX12_soonest_87 rfl (lv_at hl 5 rfl) ?_
                        refine lv_aload_n hx hb dX12_soonest_88 rfl (lv_at hl 5 rfl) ?_
                        refine lv_iload hx hb dX12_soonest_89 (lv_at hl 1 rfl) ?_
                        refine lv_iload hx hb dX12_soonest_91 (lv_at hl 0 rfl) ?_
                        have q128 : elm (S60 7) 0 = v7.toInt := (elm_of c63 0).trans (congrArg Int32.toInt (ee8))
                        refine xcVi E hs hQ hml hl.1 0 (gX12_shoved_0 l g ad hD S60 hI x55_6 x69_7 b113 (by omega)) mX12_shoved q1838 (by decide) c61 rfl rfl ⟨(Nat.le_of_ble_eq_true rfl), (Nat.le_of_ble_eq_true rfl)⟩ ⟨(Nat.le_of_ble_eq_true rfl), (Nat.le_of_ble_eq_true rfl)⟩ (Nat.le_of_ble_eq_true rfl) rfl dX12_soonest_93 (fun r129 S129 H locs hp129 hQ _ => ?_)
                        obtain ⟨rfl, b129, fg129⟩ := hp129
                        refine lv_iload hx hb dX12_soonest_96 (lv_at hl 3 rfl) ?_
                        have q130 : elm (S60 7) 1 = v4.toInt := (elm_of c63 1).trans (congrArg Int32.toInt (ee5))
                        refine xcVi E hs hQ hml hl.1 0 (gX12_on_0 l g ad hD S60 hI r129 x42_4 b129 (by omega) (by omega)) mX12_on q1804 (by decide) c61 rfl rfl ⟨(Nat.le_of_ble_eq_true rfl), (Nat.le_of_ble_eq_true rfl)⟩ ⟨(Nat.le_of_ble_eq_true rfl), (Nat.le_of_ble_eq_true rfl)⟩ (Nat.le_of_ble_eq_true rfl) rfl dX12_soonest_98 (fun r131 S131 H locs hp131 hQ _ => ?_)
                        obtain ⟨rfl, b131, g131_0, fg131⟩ := hp131
                        refine lv_istore (lv' := [(8, .int r131), (7, .int x69_7), (6, .int x55_6), (5, .int x69_5), (4, .int x42_4), (3, .int x42_3), (0, .ref (ad 0)), (1, .int a1), (2, .int a2)]) hx hb dX12_soonest_101 hl (by decide) rfl (fun ls hl => ?_)
                        refine lv_aload_n hx hb dX12_soonest_103 rfl (lv_at hl 6 rfl) ?_
                        refine lv_iload hx hb dX12_soonest_104 (lv_at hl 0 rfl) ?_
                        refine xcVi E hs hQ hml hl.1 0 (gX12_isBeach_0 l g ad hD S60 hI r131) mX12_isBeach q1755 (by decide) c61 rfl rfl ⟨(Nat.le_of_ble_eq_true rfl), (Nat.le_of_ble_eq_true rfl)⟩ ⟨(Nat.le_of_ble_eq_true rfl), (Nat.le_of_ble_eq_true rfl)⟩ (Nat.le_of_ble_eq_true rfl) rfl dX12_soonest_106 (fun r132 S132 H locs hp132 hQ _ => ?_)
                        obtain ⟨rfl, b132, fg132⟩ := hp132
                        refine lv_if_ne (tgt := 124) hx hb dX12_soonest_109 (by decide) (fun k133 => ?_) (fun k133 => ?_)
                        · have h134 := ib_ne k133
                          have b135 : Bd r132 (1) (1) := rf_nlo b132 (by decide : Bd 0 (0) (0)) h134
                          refine lv_aload_n hx hb dX12_soonest_124 rfl (lv_at hl 6 rfl) ?_
                          refine lv_iload hx hb dX12_soonest_125 (lv_at hl 0 rfl) ?_
                          refine lv_aload_n hx hb dX12_soonest_127 rfl (lv_at hl 6 rfl) ?_
                          refine lv_iload hx hb dX12_soonest_128 (lv_at hl 4 rfl) ?_
                          refine lv_iconst (v := 1) hx hb dX12_soonest_130 (by decide) ?_
                          refine lv_iadd hx hb dX12_soonest_131 ?_
                          refine lv_topi (fun z136 e137 => ?_)
                          have t138 := ib_add e137 b105 (by decide : Bd 1 (1) (1)) (by decide) (by decide)
                          have b139 : Bd z136 (1) (100) := ib_addb t138 b105 (by decide : Bd 1 (1) (1))
                          have t138 : z136.toInt = x42_4.toInt + 1 := fold_add t138 rfl (by decide)
                          refine xcVi E hs hQ hml hl.1 0 (gX12_phaseOf_0 l g ad hD S60 hI z136 (by omega)) mX12_phaseOf q1787 (by decide) c61 rfl rfl ⟨(Nat.le_of_ble_eq_true rfl), (Nat.le_of_ble_eq_true rfl)⟩ ⟨(Nat.le_of_ble_eq_true rfl), (Nat.le_of_ble_eq_true rfl)⟩ (Nat.le_of_ble_eq_true rfl) rfl dX12_soonest_132 (fun r140 S140 H locs hp140 hQ _ => ?_)
                          obtain ⟨rfl, b140, fg140⟩ := hp140
                          refine lv_iconst (v := (-1)) hx hb dX12_soonest_135 (by decide) ?_
                          refine xcVi E hs hQ hml hl.1 0 (gX12_partyOf_0 l g ad hD S60 hI r131 r140 (-1)) mX12_partyOf q1862 (by decide) c61 rfl rfl ⟨(Nat.le_of_ble_eq_true rfl), (Nat.le_of_ble_eq_true rfl)⟩ ⟨(Nat.le_of_ble_eq_true rfl), (Nat.le_of_ble_eq_true rfl)⟩ (Nat.le_of_ble_eq_true rfl) rfl dX12_soonest_136 (fun r141 S141 H locs hp141 hQ _ => ?_)
                          obtain ⟨rfl, fg141⟩ := hp141
                          refine lv_iload_n hx hb dX12_soonest_139 rfl (lv_at hl 8 rfl) ?_
                          refine lv_icmp_ne (tgt := 148) hx hb dX12_soonest_140 (by decide) (fun k142 => ?_) (fun k142 => ?_)
                          · have h143 := ib_ne k142
                            obtain ⟨z144, e145⟩ : ∃ z : Int32, z = x69_7 + 1 := ⟨_, rfl⟩
                            have t146 := ib_add e145 b123 (by decide : Bd 1 (1) (1)) (by decide) (by decide)
                            have b147 : Bd z144 (1) (3) := ib_addb t146 b123 (by decide : Bd 1 (1) (1))
                            have t146 : z144.toInt = x69_7.toInt + 1 := fold_add t146 rfl (by decide)
                            refine lv_iinc (v := z144) (lv' := [(7, .int z144), (8, .int r131), (6, .int x55_6), (5, .int x69_5), (4, .int x42_4), (3, .int x42_3), (0, .ref (ad 0)), (1, .int a1), (2, .int a2)]) hx hb dX12_soonest_148 hl (k := 1) rfl (by rw [e145]; rfl) (by decide) rfl (fun ls hl => ?_)
                            refine lv_goto (tgt := 69) hx hb dX12_soonest_151 (by decide) ?_
                            exact ih69 _ _ _ x69_5 z144 (ib_wk b147 (by decide) (by decide)) (by omega) hQ (lv_sub hl [0, 2, 3, 4, 5, 6, 7, 8] rfl)
                          · have h148 := ib_eq k142
                            refine lv_iload hx hb dX12_soonest_143 (lv_at hl 4 rfl) ?_
                            refine lv_iconst (v := 1) hx hb dX12_soonest_145 (by decide) ?_
                            refine lv_iadd hx hb dX12_soonest_146 ?_
                            refine lv_topi (fun z149 e150 => ?_)
                            have t151 := ib_add e150 b105 (by decide : Bd 1 (1) (1)) (by decide) (by decide)
                            have b152 : Bd z149 (1) (100) := ib_addb t151 b105 (by decide : Bd 1 (1) (1))
                            have t151 : z149.toInt = x42_4.toInt + 1 := fold_add t151 rfl (by decide)
                            exact xri E hr hlk hQ (⟨hI, (up_o o_refl eS60 (by decide)), (ib_wk b152 (by decide) (by decide))⟩) dX12_soonest_147
                        · have h153 := ib_eq k133
                          have b154 : Bd r132 (0) (0) := ⟨(b132).1, ((rf_eq b132 (by decide : Bd 0 (0) (0)) h153).1).2⟩
                          refine lv_iload hx hb dX12_soonest_112 (lv_at hl 3 rfl) ?_
                          refine lv_iconst (v := 1) hx hb dX12_soonest_114 (by decide) ?_
                          refine lv_iload hx hb dX12_soonest_115 (lv_at hl 0 rfl) ?_
                          refine lv_ishl hx hb dX12_soonest_117 ?_
                          refine lv_topi (fun z155 e156 => ?_)
                          refine lv_ior hx hb dX12_soonest_118 ?_
                          refine lv_topi (fun z157 e158 => ?_)
                          refine lv_istore (lv' := [(5, .int z157), (8, .int r131), (7, .int x69_7), (6, .int x55_6), (4, .int x42_4), (3, .int x42_3), (0, .ref (ad 0)), (1, .int a1), (2, .int a2)]) hx hb dX12_soonest_119 hl (by decide) rfl (fun ls hl => ?_)
                          refine lv_goto (tgt := 148) hx hb dX12_soonest_121 (by decide) ?_
                          obtain ⟨z159, e160⟩ : ∃ z : Int32, z = x69_7 + 1 := ⟨_, rfl⟩
                          have t161 := ib_add e160 b123 (by decide : Bd 1 (1) (1)) (by decide) (by decide)
                          have b162 : Bd z159 (1) (3) := ib_addb t161 b123 (by decide : Bd 1 (1) (1))
                          have t161 : z159.toInt = x69_7.toInt + 1 := fold_add t161 rfl (by decide)
                          refine lv_iinc (v := z159) (lv' := [(7, .int z159), (5, .int z157), (8, .int r131), (6, .int x55_6), (4, .int x42_4), (3, .int x42_3), (0, .ref (ad 0)), (1, .int a1), (2, .int a2)]) hx hb dX12_soonest_148 hl (k := 2) rfl (by rw [e160]; rfl) (by decide) rfl (fun ls hl => ?_)
                          refine lv_goto (tgt := 69) hx hb dX12_soonest_151 (by decide) ?_
                          exact ih69 _ _ _ z157 z159 (ib_wk b162 (by decide) (by decide)) (by omega) hQ (lv_sub hl [0, 3, 1, 4, 5, 6, 7, 8] rfl)
                      · have h163 := ib_eq k125
                        have b164 : Bd r124 (0) (0) := ⟨(b124).1, ((rf_eq b124 (by decide : Bd 0 (0) (0)) h163).1).2⟩
                        refine lv_goto (tgt := 148) hx hb dX12_soonest_84 (by decide) ?_
                        obtain ⟨z165, e166⟩ : ∃ z : Int32, z = x69_7 + 1 := ⟨_, rfl⟩
                        have t167 := ib_add e166 b123 (by decide : Bd 1 (1) (1)) (by decide) (by decide)
                        have b168 : Bd z165 (1) (3) := ib_addb t167 b123 (by decide : Bd 1 (1) (1))
                        have t167 : z165.toInt = x69_7.toInt + 1 := fold_add t167 rfl (by decide)
                        refine lv_iinc (v := z165) (lv' := [(7, .int z165), (6, .int x55_6), (5, .int x69_5), (4, .int x42_4), (3, .int x42_3), (0, .ref (ad 0)), (1, .int a1), (2, .int a2)]) hx hb dX12_soonest_148 hl (k := 0) rfl (by rw [e166]; rfl) (by decide) rfl (fun ls hl => ?_)
                        refine lv_goto (tgt := 69) hx hb dX12_soonest_151 (by decide) ?_
                        exact ih69 _ _ _ x69_5 z165 (ib_wk b168 (by decide) (by decide)) (by omega) hQ (lv_sub hl [0, 1, 2, 3, 4, 5, 6, 7] rfl)
                obtain ⟨n69, hn69⟩ := fu_n (3)
                exact loop69 n69 _ _ _ x55_5 0 (ib_wk (by decide : Bd 0 (0) (0)) (by decide) (by decide)) (by have : (0 : Int32).toInt = 0 := (by decide); omega) hQ (lv_sub hl [0, 1, 2, 3, 4, 5, 6, 7] rfl)
          obtain ⟨n55, hn55⟩ := fu_n (12)
          exact loop55 n55 _ _ _ 0 0 (ib_wk (by decide : Bd 0 (0) (0)) (by decide) (by decide)) (by have : (0 : Int32).toInt = 0 := (by decide); omega) hQ (lv_sub hl [0, 1, 2, 3, 4, 5, 6] rfl)
    obtain ⟨n42, hn42⟩ := fu_n ((-1) * z98.toInt + 100)
    exact loop42 n42 _ _ _ z88 z98 (ib_wk b100 (by decide) (by decide)) (by omega) hQ (lv_sub hl [0, 1, 2, 3, 4] rfl)
  · have h169 := ib_eq k67
    have b170 : Bd r64 (0) (0) := ⟨(b64).1, ((rf_eq b64 (by decide : Bd 0 (0) (0)) h169).1).2⟩
    clear g64_0
    refine lv_bipush (v := (-2)) hx hb dX12_soonest_14 (by decide) ?_
    exact xri E hr hlk hQ (⟨hI, (up_o o_refl eS60 (by decide)), (ib_wk (by decide : Bd (-2) (-2) (-2)) (by decide) (by decide))⟩) dX12_soonest_16
set_option maxHeartbeats 4000000 in
set_option maxRecDepth 100000 in
theorem gX12_ward_0 (l : Launch) (g : GG) (ad : Nat → Nat) (hD : Dj ad 20) (S : SS) (hI : InvM g ad S) (a1 : Int32) (a2 : Int32) (hq1 : 0 ≤ 12 * elm (S 7) 1 + (-1) * elm (S 7) 0) (hq2 : 0 ≤ 12 * elm (S 7) 3 + (-1) * elm (S 7) 0) (hq3 : 0 ≤ 8 * elm (S 7) 0 + (-1) * elm (S 7) 6) (hq4 : 0 ≤ 3 * elm (S 7) 0 + (-1) * elm (S 7) 8) (hq5 : 0 ≤ 40000 * elm (S 7) 0 + (-1) * elm (S 6) 0) : Met l yX12_ward (wG (.code yX12_ward cX12_ward 7 (some .int))) (Rm 4) (XPre g ad 20 S [.ref (ad 0), .int a1, .int a2]) (va_Qi (fun r S' => InvM g ad S' ∧ (∀ j, j ∉ ([0, 16] : List Nat) → S' j = S j) ∧ Bd r (-2) (100000)) (QB g ad 20) (FA ad 20)) 0 0 (FA ad 20) := by
  refine xmet cX12_ward "EbbWreckModel" (by decide) rfl (Nat.le_of_ble_eq_true rfl) (fun p e s m below meth c E hr hlk hml hQ ls hl => ?_)
  have hx := E.1
  have hb := E.2.1
  have hs : Sp ad 20 (FA ad 20) := Sp.fa hD
  have hl : lv_has ls 7 [(0, .ref (ad 0)), (1, .int a1), (2, .int a2)] := hl
  obtain ⟨f1, c2, b3⟩ := invM_7 hI
  obtain ⟨v4, ee5⟩ : ∃ z : Int32, f1 1 = z := ⟨_, rfl⟩
  have b6 : Bd v4 (0) (12) := (by rw [← ee5]; exact b3.2.1 1 (by decide))
  obtain ⟨v7, ee8⟩ : ∃ z : Int32, f1 0 = z := ⟨_, rfl⟩
  have b9 : Bd v7 (0) (12) := (by rw [← ee8]; exact b3.1 0 (by decide))
  obtain ⟨v10, ee11⟩ : ∃ z : Int32, f1 3 = z := ⟨_, rfl⟩
  have b12 : Bd v10 (0) (12) := (by rw [← ee11]; exact b3.2.2.2.1 3 (by decide))
  obtain ⟨v13, ee14⟩ : ∃ z : Int32, f1 6 = z := ⟨_, rfl⟩
  have b15 : Bd v13 (0) (8) := (by rw [← ee14]; exact b3.2.2.2.2.1 6 (by decide))
  obtain ⟨v16, ee17⟩ : ∃ z : Int32, f1 8 = z := ⟨_, rfl⟩
  have b18 : Bd v16 (0) (3) := (by rw [← ee17]; exact b3.2.2.2.2.2.2.1 8 (by decide))
  obtain ⟨f19, c20, b21⟩ := invM_6 hI
  obtain ⟨v22, ee23⟩ : ∃ z : Int32, f19 0 = z := ⟨_, rfl⟩
  have b24 : Bd v22 (0) (40000) := (by rw [← ee23]; exact b21 0)
  have q25 : elm (S 7) 1 = v4.toInt := (elm_of c2 1).trans (congrArg Int32.toInt (ee5))
  have q26 : elm (S 7) 0 = v7.toInt := (elm_of c2 0).trans (congrArg Int32.toInt (ee8))
  have q27 : elm (S 7) 3 = v10.toInt := (elm_of c2 3).trans (congrArg Int32.toInt (ee11))
  have q28 : elm (S 7) 6 = v13.toInt := (elm_of c2 6).trans (congrArg Int32.toInt (ee14))
  have q29 : elm (S 7) 8 = v16.toInt := (elm_of c2 8).trans (congrArg Int32.toInt (ee17))
  have q30 : elm (S 6) 0 = v22.toInt := (elm_of c20 0).trans (congrArg Int32.toInt (ee23))
  refine lv_aload_n hx hb dX12_ward_0 rfl (lv_at hl 0 rfl) ?_
  refine lv_iconst (v := 0) hx hb dX12_ward_1 (by decide) ?_
  obtain ⟨v31, v32, v34, v36, v38, v39, w40, v41, v43, v44, v45, v46, v48, v50, v52, v54, v56, v57, v58, c59, b33, b35, b37, b42, b47, b49, b51, b53, b55⟩ := invM_0 hI
  have c59 : S 0 = .inr (12, [.int v31, .ref (ad 1), .ref (ad 2), .ref (ad 3), .ref (ad 4), .ref (ad 5), .int v32, .int v34, .int v36, .int v38, .int v39, .long w40, .int v41, .int v43, .int v44, .int v45, .ref (ad 6), .ref (ad 7), .ref (ad 8), .ref (ad 9), .ref (ad 10), .ref (ad 11), .ref (ad 12), .ref (ad 13), .ref (ad 14), .ref (ad 15), .int v46, .int v48, .ref (ad 16), .int v50, .int v52, .int v54, .int v56, .int v57, .ref (ad 17), .ref (ad 18), .int v58, .ref (ad 19)]) := c59
  refine xputi E hs hQ 0 (by decide) c59 rfl 0 (by decide) q1468 rfl rfl (Nat.le_of_ble_eq_true rfl) dX12_ward_2 (fun H locs S60 eS60 hQ => ?_)
  have hI := invM_up_0 hI eS60 ⟨0, v32, v34, v36, v38, v39, w40, v41, v43, v44, v45, v46, v48, v50, v52, v54, v56, v57, v58, rfl, b33, b35, b37, b42, b47, b49, b51, b53, b55⟩
  have c61 : S60 0 = .inr (12, [.int 0, .ref (ad 1), .ref (ad 2), .ref (ad 3), .ref (ad 4), .ref (ad 5), .int v32, .int v34, .int v36, .int v38, .int v39, .long w40, .int v41, .int v43, .int v44, .int v45, .ref (ad 6), .ref (ad 7), .ref (ad 8), .ref (ad 9), .ref (ad 10), .ref (ad 11), .ref (ad 12), .ref (ad 13), .ref (ad 14), .ref (ad 15), .int v46, .int v48, .ref (ad 16), .int v50, .int v52, .int v54, .int v56, .int v57, .ref (ad 17), .ref (ad 18), .int v58, .ref (ad 19)]) := up_at eS60 rfl
  refine lv_aload_n hx hb dX12_ward_5 rfl (lv_at hl 0 rfl) ?_
  refine lv_iload_n hx hb dX12_ward_6 rfl (lv_at hl 1 rfl) ?_
  refine lv_iload_n hx hb dX12_ward_7 rfl (lv_at hl 2 rfl) ?_
  have c62 : S60 6 = .inl (g.2 0, 5, .inl f19) := (up_ne eS60 (by decide) c20)
  have c63 : S60 7 = .inl (g.2 0, 50, .inl f1) := (up_ne eS60 (by decide) c2)
  refine xcVi E hs hQ hml hl.1 0 (gX12_isPush_0 l g ad hD S60 hI a1 a2) mX12_isPush q1922 (by decide) c61 rfl rfl ⟨(Nat.le_of_ble_eq_true rfl), (Nat.le_of_ble_eq_true rfl)⟩ ⟨(Nat.le_of_ble_eq_true rfl), (Nat.le_of_ble_eq_true rfl)⟩ (Nat.le_of_ble_eq_true rfl) rfl dX12_ward_8 (fun r64 S64 H locs hp64 hQ _ => ?_)
  obtain ⟨rfl, b64, g64_0⟩ := hp64
  have q65 : elm (S60 6) 0 = v22.toInt := (elm_of c62 0).trans (congrArg Int32.toInt (ee23))
  have q66 : elm (S60 7) 6 = v13.toInt := (elm_of c63 6).trans (congrArg Int32.toInt (ee14))
  refine lv_if_ne (tgt := 17) hx hb dX12_ward_11 (by decide) (fun k67 => ?_) (fun k67 => ?_)
  · have h68 := ib_ne k67
    have b69 : Bd r64 (1) (1) := rf_nlo b64 (by decide : Bd 0 (0) (0)) h68
    have g70 := g64_0.resolve_left (by omega)
    clear g64_0
    have b71 : Bd v22 (1) (40000) := ⟨by omega, (b24).2⟩
    have b72 : Bd a1 (0) (7) := ⟨by omega, by omega⟩
    have b73 : Bd v13 (1) (8) := ⟨by omega, (b15).2⟩
    refine lv_iconst (v := 0) hx hb dX12_ward_17 (by decide) ?_
    refine lv_istore_n (lv' := [(3, .int 0), (0, .ref (ad 0)), (1, .int a1), (2, .int a2)]) hx hb dX12_ward_18 rfl hl (by decide) rfl (fun ls hl => ?_)
    have loop19 : ∀ (n : Nat) (S_19 : SS) (H : Heap) (locs : List Loc) (ls : Array Slot) (x19_3 : Int32), Bd x19_3 (0) (12) → (-1) * x19_3.toInt + 12 < ((n : Nat) : Int) → InvM g ad S_19 → (∀ j, j ∉ ([16] : List Nat) → S_19 j = S60 j) → Hp g ad 20 S_19 (FA ad 20) s.heap H locs → lv_has ls 7 [(3, .int x19_3), (0, .ref (ad 0)), (1, .int a1), (2, .int a2)] → W p l e (Rm 4) s m [.ref (ad 0), .int a1, .int a2].toArray below meth c H locs 0 0 (MQ below (va_Qi (fun r S' => InvM g ad S' ∧ (∀ j, j ∉ ([0, 16] : List Nat) → S' j = S j) ∧ Bd r (-2) (100000)) (QB g ad 20) (FA ad 20)) [.ref (ad 0), .int a1, .int a2].toArray s 0 0 (FA ad 20)) (F0 m 19 ls []) := by
      intro n
      induction n with
      | zero => intro S_19 H locs ls x19_3 Bx19_3 hn19_ hI hf19 hQ hl; exfalso; have := (Bx19_3).2; omega
      | succ n19_ ih19 =>
        intro S_19 H locs ls x19_3 Bx19_3 hn19_ hI hf19 hQ hl
        refine lv_iload_n hx hb dX12_ward_19 rfl (lv_at hl 0 rfl) ?_
        refine lv_aload_n hx hb dX12_ward_20 rfl (lv_at hl 1 rfl) ?_
        have c74 : S_19 0 = .inr (12, [.int 0, .ref (ad 1), .ref (ad 2), .ref (ad 3), .ref (ad 4), .ref (ad 5), .int v32, .int v34, .int v36, .int v38, .int v39, .long w40, .int v41, .int v43, .int v44, .int v45, .ref (ad 6), .ref (ad 7), .ref (ad 8), .ref (ad 9), .ref (ad 10), .ref (ad 11), .ref (ad 12), .ref (ad 13), .ref (ad 14), .ref (ad 15), .int v46, .int v48, .ref (ad 16), .int v50, .int v52, .int v54, .int v56, .int v57, .ref (ad 17), .ref (ad 18), .int v58, .ref (ad 19)]) := ((hf19 0 (by decide)).trans c61)
        refine xget E hQ 0 (by decide) c74 rfl 17 (by decide) q1485 rfl dX12_ward_21 ?_
        refine lv_iconst (v := 0) hx hb dX12_ward_24 (by decide) ?_
        have c75 : S_19 7 = .inl (g.2 0, 50, .inl f1) := ((hf19 7 (by decide)).trans c63)
        refine xiald E hQ 7 (by decide) c75 (vp_in_lit 0 50 (by decide)) dX12_ward_25 ?_
        refine sb_at (P := fun z => W _ _ _ _ _ _ _ _ _ _ _ _ _ _ _ (F0 _ _ _ (.int z :: _))) (show f1 (0 : Int32).toNatClampNeg = v7 from ee8) ?_
        refine lv_icmp_ge (tgt := 46) hx hb dX12_ward_26 (by decide) (fun k76 => ?_) (fun k76 => ?_)
        · have h77 := ib_le k76
          refine lv_bipush (v := 99) hx hb dX12_ward_46 (by decide) ?_
          refine lv_istore_n (lv' := [(3, .int 99), (0, .ref (ad 0)), (1, .int a1), (2, .int a2)]) hx hb dX12_ward_48 rfl hl (by decide) rfl (fun ls hl => ?_)
          have loop49 : ∀ (n : Nat) (S_49 : SS) (H : Heap) (locs : List Loc) (ls : Array Slot) (x49_3 : Int32), Bd x49_3 (-1) (99) → x49_3.toInt + 1 < ((n : Nat) : Int) → InvM g ad S_49 → (∀ j, j ∉ ([16] : List Nat) → S_49 j = S_19 j) → Hp g ad 20 S_49 (FA ad 20) s.heap H locs → lv_has ls 7 [(3, .int x49_3), (0, .ref (ad 0)), (1, .int a1), (2, .int a2)] → W p l e (Rm 4) s m [.ref (ad 0), .int a1, .int a2].toArray below meth c H locs 0 0 (MQ below (va_Qi (fun r S' => InvM g ad S' ∧ (∀ j, j ∉ ([0, 16] : List Nat) → S' j = S j) ∧ Bd r (-2) (100000)) (QB g ad 20) (FA ad 20)) [.ref (ad 0), .int a1, .int a2].toArray s 0 0 (FA ad 20)) (F0 m 49 ls []) := by
            intro n
            induction n with
            | zero => intro S_49 H locs ls x49_3 Bx49_3 hn49_ hI hf49 hQ hl; exfalso; have := (Bx49_3).1; omega
            | succ n49_ ih49 =>
              intro S_49 H locs ls x49_3 Bx49_3 hn49_ hI hf49 hQ hl
              refine lv_iload_n hx hb dX12_ward_49 rfl (lv_at hl 0 rfl) ?_
              refine lv_if_lt (tgt := 139) hx hb dX12_ward_50 (by decide) (fun k78 => ?_) (fun k78 => ?_)
              · have h79 := ib_lt k78
                have b80 : Bd x49_3 (-1) (-1) := ⟨(Bx49_3).1, ((rf_lt Bx49_3 (by decide : Bd 0 (0) (0)) h79).1).2⟩
                refine lv_aload_n hx hb dX12_ward_139 rfl (lv_at hl 1 rfl) ?_
                have c81 : S_49 0 = .inr (12, [.int 0, .ref (ad 1), .ref (ad 2), .ref (ad 3), .ref (ad 4), .ref (ad 5), .int v32, .int v34, .int v36, .int v38, .int v39, .long w40, .int v41, .int v43, .int v44, .int v45, .ref (ad 6), .ref (ad 7), .ref (ad 8), .ref (ad 9), .ref (ad 10), .ref (ad 11), .ref (ad 12), .ref (ad 13), .ref (ad 14), .ref (ad 15), .int v46, .int v48, .ref (ad 16), .int v50, .int v52, .int v54, .int v56, .int v57, .ref (ad 17), .ref (ad 18), .int v58, .ref (ad 19)]) := ((hf49 0 (by decide)).trans c74)
                refine xget E hQ 0 (by decide) c81 rfl 28 (by decide) q1496 rfl dX12_ward_140 ?_
                refine lv_aload_n hx hb dX12_ward_143 rfl (lv_at hl 1 rfl) ?_
                refine lv_iload_n hx hb dX12_ward_144 rfl (lv_at hl 2 rfl) ?_
                refine xcVi E hs hQ hml hl.1 0 (gX12_first_0 l g ad hD S_49 hI a1 b72) mX12_first q1934 (by decide) c81 rfl rfl ⟨(Nat.le_of_ble_eq_true rfl), (Nat.le_of_ble_eq_true rfl)⟩ ⟨(Nat.le_of_ble_eq_true rfl), (Nat.le_of_ble_eq_true rfl)⟩ (Nat.le_of_ble_eq_true rfl) rfl dX12_ward_145 (fun r82 S82 H locs hp82 hQ _ => ?_)
                obtain ⟨rfl, b82⟩ := hp82
                obtain ⟨f83, c84, b85⟩ := invM_16 hI
                refine xiald E hQ 16 (by decide) c84 (ib_in b82 (by decide) (by decide)) dX12_ward_148 ?_
                refine lv_topi (fun z86 e87 => ?_)
                have b88 : Bd z86 (0) (100000) := (by rw [e87]; exact b85 _)
                refine lv_ldc (v := 100000) hx hb E.2.2.1 (E.2.2.2.1 _ q1648) dX12_ward_149 ?_
                refine lv_icmp_lt (tgt := 158) hx hb dX12_ward_151 (by decide) (fun k89 => ?_) (fun k89 => ?_)
                · have h90 := ib_lt k89
                  have b91 : Bd z86 (0) (99999) := ⟨(b88).1, ((rf_lt b88 (by decide : Bd 100000 (100000) (100000)) h90).1).2⟩
                  refine lv_aload_n hx hb dX12_ward_158 rfl (lv_at hl 1 rfl) ?_
                  refine xget E hQ 0 (by decide) c81 rfl 28 (by decide) q1496 rfl dX12_ward_159 ?_
                  refine lv_aload_n hx hb dX12_ward_162 rfl (lv_at hl 1 rfl) ?_
                  refine lv_iload_n hx hb dX12_ward_163 rfl (lv_at hl 2 rfl) ?_
                  refine xcVi E hs hQ hml hl.1 0 (gX12_first_0 l g ad hD S_49 hI a1 b72) mX12_first q1934 (by decide) c81 rfl rfl ⟨(Nat.le_of_ble_eq_true rfl), (Nat.le_of_ble_eq_true rfl)⟩ ⟨(Nat.le_of_ble_eq_true rfl), (Nat.le_of_ble_eq_true rfl)⟩ (Nat.le_of_ble_eq_true rfl) rfl dX12_ward_164 (fun r92 S92 H locs hp92 hQ _ => ?_)
                  obtain ⟨rfl, b92⟩ := hp92
                  refine xiald E hQ 16 (by decide) c84 (ib_in b92 (by decide) (by decide)) dX12_ward_167 ?_
                  refine lv_topi (fun z93 e94 => ?_)
                  have b95 : Bd z93 (0) (100000) := (by rw [e94]; exact b85 _)
                  exact xri E hr hlk hQ (⟨hI, (o_trans (o_trans (up_o o_refl eS60 (by decide)) hf19 (by decide)) hf49 (by decide)), (ib_wk b95 (by decide) (by decide))⟩) dX12_ward_168
                · have h96 := ib_nlt k89
                  have b97 : Bd z86 (100000) (100000) := ⟨((rf_le (by decide : Bd 100000 (100000) (100000)) b88 h96).2).1, (b88).2⟩
                  refine lv_iconst (v := (-1)) hx hb dX12_ward_154 (by decide) ?_
                  refine lv_goto (tgt := 168) hx hb dX12_ward_155 (by decide) ?_
                  exact xri E hr hlk hQ (⟨hI, (o_trans (o_trans (up_o o_refl eS60 (by decide)) hf19 (by decide)) hf49 (by decide)), (ib_wk (by decide : Bd (-1) (-1) (-1)) (by decide) (by decide))⟩) dX12_ward_168
              · have h98 := ib_nlt k78
                have b99 : Bd x49_3 (0) (99) := ⟨((rf_le (by decide : Bd 0 (0) (0)) Bx49_3 h98).2).1, (Bx49_3).2⟩
                refine lv_iconst (v := 0) hx hb dX12_ward_53 (by decide) ?_
                refine lv_istore (lv' := [(4, .int 0), (3, .int x49_3), (0, .ref (ad 0)), (1, .int a1), (2, .int a2)]) hx hb dX12_ward_54 hl (by decide) rfl (fun ls hl => ?_)
                have loop56 : ∀ (n : Nat) (S_56 : SS) (H : Heap) (locs : List Loc) (ls : Array Slot) (x56_4 : Int32), Bd x56_4 (0) (12) → (-1) * x56_4.toInt + 12 < ((n : Nat) : Int) → InvM g ad S_56 → (∀ j, j ∉ ([16] : List Nat) → S_56 j = S_49 j) → Hp g ad 20 S_56 (FA ad 20) s.heap H locs → lv_has ls 7 [(4, .int x56_4), (3, .int x49_3), (0, .ref (ad 0)), (1, .int a1), (2, .int a2)] → W p l e (Rm 4) s m [.ref (ad 0), .int a1, .int a2].toArray below meth c H locs 0 0 (MQ below (va_Qi (fun r S' => InvM g ad S' ∧ (∀ j, j ∉ ([0, 16] : List Nat) → S' j = S j) ∧ Bd r (-2) (100000)) (QB g ad 20) (FA ad 20)) [.ref (ad 0), .int a1, .int a2].toArray s 0 0 (FA ad 20)) (F0 m 56 ls []) := by
                  intro n
                  induction n with
                  | zero => intro S_56 H locs ls x56_4 Bx56_4 hn56_ hI hf56 hQ hl; exfalso; have := (Bx56_4).2; omega
                  | succ n56_ ih56 =>
                    intro S_56 H locs ls x56_4 Bx56_4 hn56_ hI hf56 hQ hl
                    refine lv_iload hx hb dX12_ward_56 (lv_at hl 0 rfl) ?_
                    refine lv_aload_n hx hb dX12_ward_58 rfl (lv_at hl 2 rfl) ?_
                    have c100 : S_56 0 = .inr (12, [.int 0, .ref (ad 1), .ref (ad 2), .ref (ad 3), .ref (ad 4), .ref (ad 5), .int v32, .int v34, .int v36, .int v38, .int v39, .long w40, .int v41, .int v43, .int v44, .int v45, .ref (ad 6), .ref (ad 7), .ref (ad 8), .ref (ad 9), .ref (ad 10), .ref (ad 11), .ref (ad 12), .ref (ad 13), .ref (ad 14), .ref (ad 15), .int v46, .int v48, .ref (ad 16), .int v50, .int v52, .int v54, .int v56, .int v57, .ref (ad 17), .ref (ad 18), .int v58, .ref (ad 19)]) := ((hf56 0 (by decide)).trans ((hf49 0 (by decide)).trans c74))
                    refine xget E hQ 0 (by decide) c100 rfl 17 (by decide) q1485 rfl dX12_ward_59 ?_
                    refine lv_iconst (v := 0) hx hb dX12_ward_62 (by decide) ?_
                    have c101 : S_56 7 = .inl (g.2 0, 50, .inl f1) := ((hf56 7 (by decide)).trans ((hf49 7 (by decide)).trans c75))
                    refine xiald E hQ 7 (by decide) c101 (vp_in_lit 0 50 (by decide)) dX12_ward_63 ?_
                    refine sb_at (P := fun z => W _ _ _ _ _ _ _ _ _ _ _ _ _ _ _ (F0 _ _ _ (.int z :: _))) (show f1 (0 : Int32).toNatClampNeg = v7 from ee8) ?_
                    refine lv_icmp_ge (tgt := 133) hx hb dX12_ward_64 (by decide) (fun k102 => ?_) (fun k102 => ?_)
                    · have h103 := ib_le k102
                      obtain ⟨z104, e105⟩ : ∃ z : Int32, z = x49_3 + (-1) := ⟨_, rfl⟩
                      have t106 := ib_add e105 b99 (by decide : Bd (-1) (-1) (-1)) (by decide) (by decide)
                      have b107 : Bd z104 (-1) (98) := ib_addb t106 b99 (by decide : Bd (-1) (-1) (-1))
                      have t106 : z104.toInt = x49_3.toInt + (-1) := fold_add t106 rfl (by decide)
                      refine lv_iinc (v := z104) (lv' := [(3, .int z104), (4, .int x56_4), (0, .ref (ad 0)), (1, .int a1), (2, .int a2)]) hx hb dX12_ward_133 hl (k := 1) rfl (by rw [e105]; rfl) (by decide) rfl (fun ls hl => ?_)
                      refine lv_goto (tgt := 49) hx hb dX12_ward_136 (by decide) ?_
                      exact ih49 _ _ _ _ z104 (ib_wk b107 (by decide) (by decide)) (by omega) hI (o_trans hf49 hf56 (by decide)) hQ (lv_sub hl [0, 2, 3, 4] rfl)
                    · have h108 := ib_nle k102
                      have b109 : Bd x56_4 (0) (11) := ⟨(Bx56_4).1, ((rf_lt Bx56_4 b9 h108).1).2⟩
                      have b110 : Bd v7 (1) (12) := ⟨((rf_lt Bx56_4 b9 h108).2).1, (b9).2⟩
                      refine lv_ldc (v := 100000) hx hb E.2.2.1 (E.2.2.2.1 _ q1648) dX12_ward_67 ?_
                      refine lv_istore (lv' := [(5, .int 100000), (4, .int x56_4), (3, .int x49_3), (0, .ref (ad 0)), (1, .int a1), (2, .int a2)]) hx hb dX12_ward_69 hl (by decide) rfl (fun ls hl => ?_)
                      refine lv_iconst (v := 0) hx hb dX12_ward_71 (by decide) ?_
                      refine lv_istore (lv' := [(6, .int 0), (5, .int 100000), (4, .int x56_4), (3, .int x49_3), (0, .ref (ad 0)), (1, .int a1), (2, .int a2)]) hx hb dX12_ward_72 hl (by decide) rfl (fun ls hl => ?_)
                      have loop74 : ∀ (n : Nat) (H : Heap) (locs : List Loc) (ls : Array Slot) (x74_5 : Int32) (x74_6 : Int32), Bd x74_5 (0) (100000) → Bd x74_6 (0) (3) → (-1) * x74_6.toInt + 3 < ((n : Nat) : Int) → Hp g ad 20 S_56 (FA ad 20) s.heap H locs → lv_has ls 7 [(6, .int x74_6), (5, .int x74_5), (4, .int x56_4), (3, .int x49_3), (0, .ref (ad 0)), (1, .int a1), (2, .int a2)] → W p l e (Rm 4) s m [.ref (ad 0), .int a1, .int a2].toArray below meth c H locs 0 0 (MQ below (va_Qi (fun r S' => InvM g ad S' ∧ (∀ j, j ∉ ([0, 16] : List Nat) → S' j = S j) ∧ Bd r (-2) (100000)) (QB g ad 20) (FA ad 20)) [.ref (ad 0), .int a1, .int a2].toArray s 0 0 (FA ad 20)) (F0 m 74 ls []) := by
                        intro n
                        induction n with
                        | zero => intro H locs ls x74_5 x74_6 Bx74_5 Bx74_6 hn74_ hQ hl; exfalso; have := (Bx74_6).2; omega
                        | succ n74_ ih74 =>
                          intro H locs ls x74_5 x74_6 Bx74_5 Bx74_6 hn74_ hQ hl
                          refine lv_iload hx hb dX12_ward_74 (lv_at hl 0 rfl) ?_
                          refine lv_iconst (v := 3) hx hb dX12_ward_76 (by decide) ?_
                          refine lv_icmp_ge (tgt := 113) hx hb dX12_ward_77 (by decide) (fun k111 => ?_) (fun k111 => ?_)
                          · have h112 := ib_le k111
                            have b113 : Bd x74_6 (3) (3) := ⟨((rf_le (by decide : Bd 3 (3) (3)) Bx74_6 h112).2).1, (Bx74_6).2⟩
                            refine lv_aload_n hx hb dX12_ward_113 rfl (lv_at hl 4 rfl) ?_
                            refine xget E hQ 0 (by decide) c100 rfl 28 (by decide) q1496 rfl dX12_ward_114 ?_
                            refine lv_bipush (v := 12) hx hb dX12_ward_117 (by decide) ?_
                            refine lv_iload_n hx hb dX12_ward_119 rfl (lv_at hl 3 rfl) ?_
                            refine lv_imul hx hb dX12_ward_120 ?_
                            refine lv_topi (fun z114 e115 => ?_)
                            have t116 := ib_cmul (q := 12) e115 (by decide) (by decide) b99 (by decide) (by decide)
                            have b117 : Bd z114 (0) (1188) := ib_mulb t116 (by decide) b99
                            refine lv_iload hx hb dX12_ward_121 (lv_at hl 2 rfl) ?_
                            refine lv_iadd hx hb dX12_ward_123 ?_
                            refine lv_topi (fun z118 e119 => ?_)
                            have t120 := ib_add e119 b117 b109 (by decide) (by decide)
                            have b121 : Bd z118 (0) (1199) := ib_addb t120 b117 b109
                            refine lv_iload hx hb dX12_ward_124 (lv_at hl 1 rfl) ?_
                            obtain ⟨f122, c123, b124⟩ := invM_16 hI
                            refine xiast E hs hQ 16 (by decide) c123 (ib_in b121 (by decide) (by decide)) dX12_ward_126 (fun H locs S125 eS125 hQ => ?_)
                            have hI := invM_up_16 hI eS125 ⟨_, rfl, upd_b b124 Bx74_5⟩
                            have b127 : ∀ j, Bd ((upd f122 (z118 : Int32).toNatClampNeg x74_5) j) (0) (100000) := upd_b b124 Bx74_5
                            have c126 : S125 16 = .inl (g.2 0, 1212, .inl (upd f122 (z118 : Int32).toNatClampNeg x74_5)) := up_at eS125 rfl
                            obtain ⟨z128, e129⟩ : ∃ z : Int32, z = x56_4 + 1 := ⟨_, rfl⟩
                            have t130 := ib_add e129 b109 (by decide : Bd 1 (1) (1)) (by decide) (by decide)
                            have b131 : Bd z128 (1) (12) := ib_addb t130 b109 (by decide : Bd 1 (1) (1))
                            have t130 : z128.toInt = x56_4.toInt + 1 := fold_add t130 rfl (by decide)
                            refine lv_iinc (v := z128) (lv' := [(4, .int z128), (6, .int x74_6), (5, .int x74_5), (3, .int x49_3), (0, .ref (ad 0)), (1, .int a1), (2, .int a2)]) hx hb dX12_ward_127 hl (k := 2) rfl (by rw [e129]; rfl) (by decide) rfl (fun ls hl => ?_)
                            refine lv_goto (tgt := 56) hx hb dX12_ward_130 (by decide) ?_
                            exact ih56 _ _ _ _ z128 (ib_wk b131 (by decide) (by decide)) (by omega) hI (up_o hf56 eS125 (by decide)) hQ (lv_sub hl [0, 3, 4, 5, 6] rfl)
                          · have h132 := ib_nle k111
                            have b133 : Bd x74_6 (0) (2) := ⟨(Bx74_6).1, ((rf_lt Bx74_6 (by decide : Bd 3 (3) (3)) h132).1).2⟩
                            refine lv_aload_n hx hb dX12_ward_80 rfl (lv_at hl 4 rfl) ?_
                            refine lv_iload_n hx hb dX12_ward_81 rfl (lv_at hl 3 rfl) ?_
                            refine lv_iload hx hb dX12_ward_82 (lv_at hl 2 rfl) ?_
                            refine lv_iload hx hb dX12_ward_84 (lv_at hl 0 rfl) ?_
                            refine lv_iload_n hx hb dX12_ward_86 rfl (lv_at hl 6 rfl) ?_
                            have q134 : elm (S_56 7) 0 = v7.toInt := (elm_of c101 0).trans (congrArg Int32.toInt (ee8))
                            have q135 : elm (S_56 7) 1 = v4.toInt := (elm_of c101 1).trans (congrArg Int32.toInt (ee5))
                            refine xcVi E hs hQ hml hl.1 0 (gX12_wardBy_0 l g ad hD S_56 hI x49_3 x56_4 x74_6 a2 b99 b109 (by omega) (by omega)) mX12_wardBy q1958 (by decide) c100 rfl rfl ⟨(Nat.le_of_ble_eq_true rfl), (Nat.le_of_ble_eq_true rfl)⟩ ⟨(Nat.le_of_ble_eq_true rfl), (Nat.le_of_ble_eq_true rfl)⟩ (Nat.le_of_ble_eq_true rfl) rfl dX12_ward_87 (fun r136 S136 H locs hp136 hQ _ => ?_)
                            obtain ⟨rfl, b136, fg136⟩ := hp136
                            refine lv_iload hx hb dX12_ward_90 (lv_at hl 1 rfl) ?_
                            refine lv_icmp_ge (tgt := 107) hx hb dX12_ward_92 (by decide) (fun k137 => ?_) (fun k137 => ?_)
                            · have h138 := ib_le k137
                              obtain ⟨z139, e140⟩ : ∃ z : Int32, z = x74_6 + 1 := ⟨_, rfl⟩
                              have t141 := ib_add e140 b133 (by decide : Bd 1 (1) (1)) (by decide) (by decide)
                              have b142 : Bd z139 (1) (3) := ib_addb t141 b133 (by decide : Bd 1 (1) (1))
                              have t141 : z139.toInt = x74_6.toInt + 1 := fold_add t141 rfl (by decide)
                              refine lv_iinc (v := z139) (lv' := [(6, .int z139), (5, .int x74_5), (4, .int x56_4), (3, .int x49_3), (0, .ref (ad 0)), (1, .int a1), (2, .int a2)]) hx hb dX12_ward_107 hl (k := 0) rfl (by rw [e140]; rfl) (by decide) rfl (fun ls hl => ?_)
                              refine lv_goto (tgt := 74) hx hb dX12_ward_110 (by decide) ?_
                              exact ih74 _ _ _ x74_5 z139 Bx74_5 (ib_wk b142 (by decide) (by decide)) (by omega) hQ (lv_sub hl [0, 1, 2, 3, 4, 5, 6] rfl)
                            · have h143 := ib_nle k137
                              have b144 : Bd r136 (0) (99999) := ⟨(b136).1, ((rf_lt b136 Bx74_5 h143).1).2⟩
                              have b145 : Bd x74_5 (1) (100000) := ⟨((rf_lt b136 Bx74_5 h143).2).1, (Bx74_5).2⟩
                              refine lv_aload_n hx hb dX12_ward_95 rfl (lv_at hl 4 rfl) ?_
                              refine lv_iload_n hx hb dX12_ward_96 rfl (lv_at hl 3 rfl) ?_
                              refine lv_iload hx hb dX12_ward_97 (lv_at hl 2 rfl) ?_
                              refine lv_iload hx hb dX12_ward_99 (lv_at hl 0 rfl) ?_
                              refine lv_iload_n hx hb dX12_ward_101 rfl (lv_at hl 6 rfl) ?_
                              refine xcVi E hs hQ hml hl.1 0 (gX12_wardBy_0 l g ad hD S_56 hI x49_3 x56_4 x74_6 a2 b99 b109 (by omega) (by omega)) mX12_wardBy q1958 (by decide) c100 rfl rfl ⟨(Nat.le_of_ble_eq_true rfl), (Nat.le_of_ble_eq_true rfl)⟩ ⟨(Nat.le_of_ble_eq_true rfl), (Nat.le_of_ble_eq_true rfl)⟩ (Nat.le_of_ble_eq_true rfl) rfl dX12_ward_102 (fun r146 S146 H locs hp146 hQ _ => ?_)
                              obtain ⟨rfl, b146, fg146⟩ := hp146
                              have t147 : r146.toInt = r136.toInt := by rw [fg146, fg136]
                              have b148 : Bd r146 (0) (99999) := ⟨(b146).1, by omega⟩
                              refine lv_istore (lv' := [(5, .int r146), (6, .int x74_6), (4, .int x56_4), (3, .int x49_3), (0, .ref (ad 0)), (1, .int a1), (2, .int a2)]) hx hb dX12_ward_105 hl (by decide) rfl (fun ls hl => ?_)
                              obtain ⟨z149, e150⟩ : ∃ z : Int32, z = x74_6 + 1 := ⟨_, rfl⟩
                              have t151 := ib_add e150 b133 (by decide : Bd 1 (1) (1)) (by decide) (by decide)
                              have b152 : Bd z149 (1) (3) := ib_addb t151 b133 (by decide : Bd 1 (1) (1))
                              have t151 : z149.toInt = x74_6.toInt + 1 := fold_add t151 rfl (by decide)
                              refine lv_iinc (v := z149) (lv' := [(6, .int z149), (5, .int r146), (4, .int x56_4), (3, .int x49_3), (0, .ref (ad 0)), (1, .int a1), (2, .int a2)]) hx hb dX12_ward_107 hl (k := 1) rfl (by rw [e150]; rfl) (by decide) rfl (fun ls hl => ?_)
                              refine lv_goto (tgt := 74) hx hb dX12_ward_110 (by decide) ?_
                              exact ih74 _ _ _ r146 z149 (ib_wk b148 (by decide) (by decide)) (ib_wk b152 (by decide) (by decide)) (by omega) hQ (lv_sub hl [0, 1, 2, 3, 4, 5, 6] rfl)
                      obtain ⟨n74, hn74⟩ := fu_n (3)
                      exact loop74 n74 _ _ _ 100000 0 (ib_wk (by decide : Bd 100000 (100000) (100000)) (by decide) (by decide)) (ib_wk (by decide : Bd 0 (0) (0)) (by decide) (by decide)) (by have : (100000 : Int32).toInt = 100000 := (by decide); have : (0 : Int32).toInt = 0 := (by decide); omega) hQ (lv_sub hl [0, 1, 2, 3, 4, 5, 6] rfl)
                obtain ⟨n56, hn56⟩ := fu_n (12)
                exact loop56 n56 _ _ _ _ 0 (ib_wk (by decide : Bd 0 (0) (0)) (by decide) (by decide)) (by have : (0 : Int32).toInt = 0 := (by decide); omega) hI o_refl hQ (lv_sub hl [0, 1, 2, 3, 4] rfl)
          obtain ⟨n49, hn49⟩ := fu_n (100)
          exact loop49 n49 _ _ _ _ 99 (ib_wk (by decide : Bd 99 (99) (99)) (by decide) (by decide)) (by have : (99 : Int32).toInt = 99 := (by decide); omega) hI o_refl hQ (lv_sub hl [0, 1, 2, 3] rfl)
        · have h153 := ib_nle k76
          have b154 : Bd x19_3 (0) (11) := ⟨(Bx19_3).1, ((rf_lt Bx19_3 b9 h153).1).2⟩
          have b155 : Bd v7 (1) (12) := ⟨((rf_lt Bx19_3 b9 h153).2).1, (b9).2⟩
          refine lv_aload_n hx hb dX12_ward_29 rfl (lv_at hl 1 rfl) ?_
          refine xget E hQ 0 (by decide) c74 rfl 28 (by decide) q1496 rfl dX12_ward_30 ?_
          refine lv_sipush (v := 1200) hx hb dX12_ward_33 (by decide) ?_
          refine lv_iload_n hx hb dX12_ward_36 rfl (lv_at hl 0 rfl) ?_
          refine lv_iadd hx hb dX12_ward_37 ?_
          refine lv_topi (fun z156 e157 => ?_)
          have t158 := ib_add e157 (by decide : Bd 1200 (1200) (1200)) b154 (by decide) (by decide)
          have b159 : Bd z156 (1200) (1211) := ib_addb t158 (by decide : Bd 1200 (1200) (1200)) b154
          have t158 : z156.toInt = 1200 + x19_3.toInt := fold_add t158 (by decide) rfl
          refine lv_iconst (v := 0) hx hb dX12_ward_38 (by decide) ?_
          obtain ⟨f160, c161, b162⟩ := invM_16 hI
          refine xiast E hs hQ 16 (by decide) c161 (ib_in b159 (by decide) (by decide)) dX12_ward_39 (fun H locs S163 eS163 hQ => ?_)
          have hI := invM_up_16 hI eS163 ⟨_, rfl, upd_b b162 (ib_wk (by decide : Bd 0 (0) (0)) (by decide) (by decide))⟩
          have b165 : ∀ j, Bd ((upd f160 (z156 : Int32).toNatClampNeg 0) j) (0) (100000) := upd_b b162 (ib_wk (by decide : Bd 0 (0) (0)) (by decide) (by decide))
          have c164 : S163 16 = .inl (g.2 0, 1212, .inl (upd f160 (z156 : Int32).toNatClampNeg 0)) := up_at eS163 rfl
          obtain ⟨z166, e167⟩ : ∃ z : Int32, z = x19_3 + 1 := ⟨_, rfl⟩
          have t168 := ib_add e167 b154 (by decide : Bd 1 (1) (1)) (by decide) (by decide)
          have b169 : Bd z166 (1) (12) := ib_addb t168 b154 (by decide : Bd 1 (1) (1))
          have t168 : z166.toInt = x19_3.toInt + 1 := fold_add t168 rfl (by decide)
          refine lv_iinc (v := z166) (lv' := [(3, .int z166), (0, .ref (ad 0)), (1, .int a1), (2, .int a2)]) hx hb dX12_ward_40 hl (k := 0) rfl (by rw [e167]; rfl) (by decide) rfl (fun ls hl => ?_)
          refine lv_goto (tgt := 19) hx hb dX12_ward_43 (by decide) ?_
          exact ih19 _ _ _ _ z166 (ib_wk b169 (by decide) (by decide)) (by omega) hI (up_o hf19 eS163 (by decide)) hQ (lv_sub hl [0, 1, 2, 3] rfl)
    obtain ⟨n19, hn19⟩ := fu_n (12)
    exact loop19 n19 _ _ _ _ 0 (ib_wk (by decide : Bd 0 (0) (0)) (by decide) (by decide)) (by have : (0 : Int32).toInt = 0 := (by decide); omega) hI o_refl hQ (lv_sub hl [0, 1, 2, 3] rfl)
  · have h170 := ib_eq k67
    have b171 : Bd r64 (0) (0) := ⟨(b64).1, ((rf_eq b64 (by decide : Bd 0 (0) (0)) h170).1).2⟩
    clear g64_0
    refine lv_bipush (v := (-2)) hx hb dX12_ward_14 (by decide) ?_
    exact xri E hr hlk hQ (⟨hI, (up_o o_refl eS60 (by decide)), (ib_wk (by decide : Bd (-2) (-2) (-2)) (by decide) (by decide))⟩) dX12_ward_16
set_option maxHeartbeats 4000000 in
set_option maxRecDepth 100000 in
theorem gX12_all_0 (l : Launch) (g : GG) (ad : Nat → Nat) (hD : Dj ad 20) (S : SS) (hI : InvM g ad S) (a1 : Int32) (hq1 : 0 ≤ 12 * elm (S 7) 1 + (-1) * elm (S 7) 0) (hq2 : 0 ≤ 12 * elm (S 7) 3 + (-1) * elm (S 7) 0) (hq3 : 0 ≤ 8 * elm (S 7) 0 + (-1) * elm (S 7) 6) (hq4 : 0 ≤ 3 * elm (S 7) 0 + (-1) * elm (S 7) 8) (hq5 : 0 ≤ 40000 * elm (S 7) 0 + (-1) * elm (S 6) 0) : Met l yX12_all (wG (.code yX12_all cX12_all 4 (some .int))) (Rm 5) (XPre g ad 20 S [.ref (ad 0), .int a1]) (va_Qi (fun _ S' => InvM g ad S' ∧ (∀ j, j ∉ ([0, 16] : List Nat) → S' j = S j)) (QB g ad 20) (FA ad 20)) 0 0 (FA ad 20) := by
  refine xmet cX12_all "EbbWreckModel" (by decide) rfl (Nat.le_of_ble_eq_true rfl) (fun p e s m below meth c E hr hlk hml hQ ls hl => ?_)
  have hx := E.1
  have hb := E.2.1
  have hs : Sp ad 20 (FA ad 20) := Sp.fa hD
  have hl : lv_has ls 4 [(0, .ref (ad 0)), (1, .int a1)] := hl
  obtain ⟨f1, c2, b3⟩ := invM_7 hI
  obtain ⟨v4, ee5⟩ : ∃ z : Int32, f1 1 = z := ⟨_, rfl⟩
  have b6 : Bd v4 (0) (12) := (by rw [← ee5]; exact b3.2.1 1 (by decide))
  obtain ⟨v7, ee8⟩ : ∃ z : Int32, f1 0 = z := ⟨_, rfl⟩
  have b9 : Bd v7 (0) (12) := (by rw [← ee8]; exact b3.1 0 (by decide))
  obtain ⟨v10, ee11⟩ : ∃ z : Int32, f1 3 = z := ⟨_, rfl⟩
  have b12 : Bd v10 (0) (12) := (by rw [← ee11]; exact b3.2.2.2.1 3 (by decide))
  obtain ⟨v13, ee14⟩ : ∃ z : Int32, f1 6 = z := ⟨_, rfl⟩
  have b15 : Bd v13 (0) (8) := (by rw [← ee14]; exact b3.2.2.2.2.1 6 (by decide))
  obtain ⟨v16, ee17⟩ : ∃ z : Int32, f1 8 = z := ⟨_, rfl⟩
  have b18 : Bd v16 (0) (3) := (by rw [← ee17]; exact b3.2.2.2.2.2.2.1 8 (by decide))
  obtain ⟨f19, c20, b21⟩ := invM_6 hI
  obtain ⟨v22, ee23⟩ : ∃ z : Int32, f19 0 = z := ⟨_, rfl⟩
  have b24 : Bd v22 (0) (40000) := (by rw [← ee23]; exact b21 0)
  have q25 : elm (S 7) 1 = v4.toInt := (elm_of c2 1).trans (congrArg Int32.toInt (ee5))
  have q26 : elm (S 7) 0 = v7.toInt := (elm_of c2 0).trans (congrArg Int32.toInt (ee8))
  have q27 : elm (S 7) 3 = v10.toInt := (elm_of c2 3).trans (congrArg Int32.toInt (ee11))
  have q28 : elm (S 7) 6 = v13.toInt := (elm_of c2 6).trans (congrArg Int32.toInt (ee14))
  have q29 : elm (S 7) 8 = v16.toInt := (elm_of c2 8).trans (congrArg Int32.toInt (ee17))
  have q30 : elm (S 6) 0 = v22.toInt := (elm_of c20 0).trans (congrArg Int32.toInt (ee23))
  refine lv_aload_n hx hb dX12_all_0 rfl (lv_at hl 0 rfl) ?_
  refine lv_iconst (v := 0) hx hb dX12_all_1 (by decide) ?_
  obtain ⟨v31, v32, v34, v36, v38, v39, w40, v41, v43, v44, v45, v46, v48, v50, v52, v54, v56, v57, v58, c59, b33, b35, b37, b42, b47, b49, b51, b53, b55⟩ := invM_0 hI
  have c59 : S 0 = .inr (12, [.int v31, .ref (ad 1), .ref (ad 2), .ref (ad 3), .ref (ad 4), .ref (ad 5), .int v32, .int v34, .int v36, .int v38, .int v39, .long w40, .int v41, .int v43, .int v44, .int v45, .ref (ad 6), .ref (ad 7), .ref (ad 8), .ref (ad 9), .ref (ad 10), .ref (ad 11), .ref (ad 12), .ref (ad 13), .ref (ad 14), .ref (ad 15), .int v46, .int v48, .ref (ad 16), .int v50, .int v52, .int v54, .int v56, .int v57, .ref (ad 17), .ref (ad 18), .int v58, .ref (ad 19)]) := c59
  refine xputi E hs hQ 0 (by decide) c59 rfl 0 (by decide) q1468 rfl rfl (Nat.le_of_ble_eq_true rfl) dX12_all_2 (fun H locs S60 eS60 hQ => ?_)
  have hI := invM_up_0 hI eS60 ⟨0, v32, v34, v36, v38, v39, w40, v41, v43, v44, v45, v46, v48, v50, v52, v54, v56, v57, v58, rfl, b33, b35, b37, b42, b47, b49, b51, b53, b55⟩
  have c61 : S60 0 = .inr (12, [.int 0, .ref (ad 1), .ref (ad 2), .ref (ad 3), .ref (ad 4), .ref (ad 5), .int v32, .int v34, .int v36, .int v38, .int v39, .long w40, .int v41, .int v43, .int v44, .int v45, .ref (ad 6), .ref (ad 7), .ref (ad 8), .ref (ad 9), .ref (ad 10), .ref (ad 11), .ref (ad 12), .ref (ad 13), .ref (ad 14), .ref (ad 15), .int v46, .int v48, .ref (ad 16), .int v50, .int v52, .int v54, .int v56, .int v57, .ref (ad 17), .ref (ad 18), .int v58, .ref (ad 19)]) := up_at eS60 rfl
  refine lv_aload_n hx hb dX12_all_5 rfl (lv_at hl 0 rfl) ?_
  refine lv_iload_n hx hb dX12_all_6 rfl (lv_at hl 1 rfl) ?_
  have c62 : S60 6 = .inl (g.2 0, 5, .inl f19) := (up_ne eS60 (by decide) c20)
  refine xcVi E hs hQ hml hl.1 0 (gX12_isParty_0 l g ad hD S60 hI a1) mX12_isParty q1874 (by decide) c61 rfl rfl ⟨(Nat.le_of_ble_eq_true rfl), (Nat.le_of_ble_eq_true rfl)⟩ ⟨(Nat.le_of_ble_eq_true rfl), (Nat.le_of_ble_eq_true rfl)⟩ (Nat.le_of_ble_eq_true rfl) rfl dX12_all_7 (fun r63 S63 H locs hp63 hQ _ => ?_)
  obtain ⟨rfl, b63, g63_0⟩ := hp63
  have q64 : elm (S60 6) 0 = v22.toInt := (elm_of c62 0).trans (congrArg Int32.toInt (ee23))
  refine lv_if_ne (tgt := 16) hx hb dX12_all_10 (by decide) (fun k65 => ?_) (fun k65 => ?_)
  · have h66 := ib_ne k65
    have b67 : Bd r63 (1) (1) := rf_nlo b63 (by decide : Bd 0 (0) (0)) h66
    have g68 := g63_0.resolve_left (by omega)
    clear g63_0
    have b69 : Bd v22 (1) (40000) := ⟨by omega, (b24).2⟩
    have b70 : Bd a1 (0) (5) := ⟨by omega, by omega⟩
    refine lv_aload_n hx hb dX12_all_16 rfl (lv_at hl 0 rfl) ?_
    refine lv_iload_n hx hb dX12_all_17 rfl (lv_at hl 1 rfl) ?_
    have c71 : S60 7 = .inl (g.2 0, 50, .inl f1) := (up_ne eS60 (by decide) c2)
    have q72 : elm (S60 7) 0 = v7.toInt := (elm_of c71 0).trans (congrArg Int32.toInt (ee8))
    have q73 : elm (S60 7) 1 = v4.toInt := (elm_of c71 1).trans (congrArg Int32.toInt (ee5))
    refine xcVv E hs hQ hml hl.1 0 (gX12_laysPushes_0 l g ad hD S60 hI a1 (by omega) (by omega)) mX12_laysPushes q1926 (by decide) c61 rfl rfl ⟨(Nat.le_of_ble_eq_true rfl), (Nat.le_of_ble_eq_true rfl)⟩ ⟨(Nat.le_of_ble_eq_true rfl), (Nat.le_of_ble_eq_true rfl)⟩ (Nat.le_of_ble_eq_true rfl) rfl dX12_all_18 (fun S74 H locs hp74 hQ _ => ?_)
    obtain ⟨hI, o74⟩ := hp74
    refine lv_iconst (v := 0) hx hb dX12_all_21 (by decide) ?_
    refine lv_istore_n (lv' := [(2, .int 0), (0, .ref (ad 0)), (1, .int a1)]) hx hb dX12_all_22 rfl hl (by decide) rfl (fun ls hl => ?_)
    refine lv_iconst (v := 0) hx hb dX12_all_23 (by decide) ?_
    refine lv_istore_n (lv' := [(3, .int 0), (2, .int 0), (0, .ref (ad 0)), (1, .int a1)]) hx hb dX12_all_24 rfl hl (by decide) rfl (fun ls hl => ?_)
    have loop25 : ∀ (n : Nat) (H : Heap) (locs : List Loc) (ls : Array Slot) (x25_2 : Int32) (x25_3 : Int32), Bd x25_3 (0) (8) → (-1) * x25_3.toInt + 8 < ((n : Nat) : Int) → Hp g ad 20 S74 (FA ad 20) s.heap H locs → lv_has ls 4 [(3, .int x25_3), (2, .int x25_2), (0, .ref (ad 0)), (1, .int a1)] → W p l e (Rm 5) s m [.ref (ad 0), .int a1].toArray below meth c H locs 0 0 (MQ below (va_Qi (fun _ S' => InvM g ad S' ∧ (∀ j, j ∉ ([0, 16] : List Nat) → S' j = S j)) (QB g ad 20) (FA ad 20)) [.ref (ad 0), .int a1].toArray s 0 0 (FA ad 20)) (F0 m 25 ls []) := by
      intro n
      induction n with
      | zero => intro H locs ls x25_2 x25_3 Bx25_3 hn25_ hQ hl; exfalso; have := (Bx25_3).2; omega
      | succ n25_ ih25 =>
        intro H locs ls x25_2 x25_3 Bx25_3 hn25_ hQ hl
        refine lv_iload_n hx hb dX12_all_25 rfl (lv_at hl 0 rfl) ?_
        refine lv_aload_n hx hb dX12_all_26 rfl (lv_at hl 2 rfl) ?_
        have c75 : S74 0 = .inr (12, [.int 0, .ref (ad 1), .ref (ad 2), .ref (ad 3), .ref (ad 4), .ref (ad 5), .int v32, .int v34, .int v36, .int v38, .int v39, .long w40, .int v41, .int v43, .int v44, .int v45, .ref (ad 6), .ref (ad 7), .ref (ad 8), .ref (ad 9), .ref (ad 10), .ref (ad 11), .ref (ad 12), .ref (ad 13), .ref (ad 14), .ref (ad 15), .int v46, .int v48, .ref (ad 16), .int v50, .int v52, .int v54, .int v56, .int v57, .ref (ad 17), .ref (ad 18), .int v58, .ref (ad 19)]) := ((o74 0 (by decide)).trans c61)
        refine xget E hQ 0 (by decide) c75 rfl 17 (by decide) q1485 rfl dX12_all_27 ?_
        refine lv_bipush (v := 6) hx hb dX12_all_30 (by decide) ?_
        have c76 : S74 7 = .inl (g.2 0, 50, .inl f1) := ((o74 7 (by decide)).trans c71)
        refine xiald E hQ 7 (by decide) c76 (vp_in_lit 6 50 (by decide)) dX12_all_32 ?_
        refine sb_at (P := fun z => W _ _ _ _ _ _ _ _ _ _ _ _ _ _ _ (F0 _ _ _ (.int z :: _))) (show f1 (6 : Int32).toNatClampNeg = v13 from ee14) ?_
        refine lv_icmp_ge (tgt := 72) hx hb dX12_all_33 (by decide) (fun k77 => ?_) (fun k77 => ?_)
        · have h78 := ib_le k77
          refine lv_iload_n hx hb dX12_all_72 rfl (lv_at hl 1 rfl) ?_
          exact xri E hr hlk hQ (⟨hI, (o_trans (up_o o_refl eS60 (by decide)) o74 (by decide))⟩) dX12_all_73
        · have h79 := ib_nle k77
          have b80 : Bd x25_3 (0) (7) := ⟨(Bx25_3).1, ((rf_lt Bx25_3 b15 h79).1).2⟩
          have b81 : Bd v13 (1) (8) := ⟨((rf_lt Bx25_3 b15 h79).2).1, (b15).2⟩
          refine lv_aload_n hx hb dX12_all_36 rfl (lv_at hl 2 rfl) ?_
          refine xget E hQ 0 (by decide) c75 rfl 28 (by decide) q1496 rfl dX12_all_37 ?_
          refine lv_aload_n hx hb dX12_all_40 rfl (lv_at hl 2 rfl) ?_
          refine lv_iload_n hx hb dX12_all_41 rfl (lv_at hl 0 rfl) ?_
          refine xcVi E hs hQ hml hl.1 0 (gX12_first_0 l g ad hD S74 hI x25_3 b80) mX12_first q1934 (by decide) c75 rfl rfl ⟨(Nat.le_of_ble_eq_true rfl), (Nat.le_of_ble_eq_true rfl)⟩ ⟨(Nat.le_of_ble_eq_true rfl), (Nat.le_of_ble_eq_true rfl)⟩ (Nat.le_of_ble_eq_true rfl) rfl dX12_all_42 (fun r82 S82 H locs hp82 hQ _ => ?_)
          obtain ⟨rfl, b82⟩ := hp82
          obtain ⟨f83, c84, b85⟩ := invM_16 hI
          refine xiald E hQ 16 (by decide) c84 (ib_in b82 (by decide) (by decide)) dX12_all_45 ?_
          refine lv_topi (fun z86 e87 => ?_)
          have b88 : Bd z86 (0) (100000) := (by rw [e87]; exact b85 _)
          refine lv_ldc (v := 100000) hx hb E.2.2.1 (E.2.2.2.1 _ q1648) dX12_all_46 ?_
          refine lv_icmp_lt (tgt := 53) hx hb dX12_all_48 (by decide) (fun k89 => ?_) (fun k89 => ?_)
          · have h90 := ib_lt k89
            have b91 : Bd z86 (0) (99999) := ⟨(b88).1, ((rf_lt b88 (by decide : Bd 100000 (100000) (100000)) h90).1).2⟩
            refine lv_iload_n hx hb dX12_all_53 rfl (lv_at hl 1 rfl) ?_
            refine lv_aload_n hx hb dX12_all_54 rfl (lv_at hl 2 rfl) ?_
            refine xget E hQ 0 (by decide) c75 rfl 28 (by decide) q1496 rfl dX12_all_55 ?_
            refine lv_aload_n hx hb dX12_all_58 rfl (lv_at hl 2 rfl) ?_
            refine lv_iload_n hx hb dX12_all_59 rfl (lv_at hl 0 rfl) ?_
            refine xcVi E hs hQ hml hl.1 0 (gX12_first_0 l g ad hD S74 hI x25_3 b80) mX12_first q1934 (by decide) c75 rfl rfl ⟨(Nat.le_of_ble_eq_true rfl), (Nat.le_of_ble_eq_true rfl)⟩ ⟨(Nat.le_of_ble_eq_true rfl), (Nat.le_of_ble_eq_true rfl)⟩ (Nat.le_of_ble_eq_true rfl) rfl dX12_all_60 (fun r92 S92 H locs hp92 hQ _ => ?_)
            obtain ⟨rfl, b92⟩ := hp92
            refine xiald E hQ 16 (by decide) c84 (ib_in b92 (by decide) (by decide)) dX12_all_63 ?_
            refine lv_topi (fun z93 e94 => ?_)
            have b95 : Bd z93 (0) (100000) := (by rw [e94]; exact b85 _)
            refine lv_iadd hx hb dX12_all_64 ?_
            refine lv_topi (fun z96 e97 => ?_)
            refine lv_istore_n (lv' := [(2, .int z96), (3, .int x25_3), (0, .ref (ad 0)), (1, .int a1)]) hx hb dX12_all_65 rfl hl (by decide) rfl (fun ls hl => ?_)
            obtain ⟨z98, e99⟩ : ∃ z : Int32, z = x25_3 + 1 := ⟨_, rfl⟩
            have t100 := ib_add e99 b80 (by decide : Bd 1 (1) (1)) (by decide) (by decide)
            have b101 : Bd z98 (1) (8) := ib_addb t100 b80 (by decide : Bd 1 (1) (1))
            have t100 : z98.toInt = x25_3.toInt + 1 := fold_add t100 rfl (by decide)
            refine lv_iinc (v := z98) (lv' := [(3, .int z98), (2, .int z96), (0, .ref (ad 0)), (1, .int a1)]) hx hb dX12_all_66 hl (k := 1) rfl (by rw [e99]; rfl) (by decide) rfl (fun ls hl => ?_)
            refine lv_goto (tgt := 25) hx hb dX12_all_69 (by decide) ?_
            exact ih25 _ _ _ z96 z98 (ib_wk b101 (by decide) (by decide)) (by omega) hQ (lv_sub hl [0, 1, 2, 3] rfl)
          · have h102 := ib_nlt k89
            have b103 : Bd z86 (100000) (100000) := ⟨((rf_le (by decide : Bd 100000 (100000) (100000)) b88 h102).2).1, (b88).2⟩
            refine lv_iconst (v := (-1)) hx hb dX12_all_51 (by decide) ?_
            exact xri E hr hlk hQ (⟨hI, (o_trans (up_o o_refl eS60 (by decide)) o74 (by decide))⟩) dX12_all_52
    obtain ⟨n25, hn25⟩ := fu_n (8)
    exact loop25 n25 _ _ _ 0 0 (ib_wk (by decide : Bd 0 (0) (0)) (by decide) (by decide)) (by have : (0 : Int32).toInt = 0 := (by decide); omega) hQ (lv_sub hl [0, 1, 2, 3] rfl)
  · have h104 := ib_eq k65
    have b105 : Bd r63 (0) (0) := ⟨(b63).1, ((rf_eq b63 (by decide : Bd 0 (0) (0)) h104).1).2⟩
    clear g63_0
    refine lv_bipush (v := (-2)) hx hb dX12_all_13 (by decide) ?_
    exact xri E hr hlk hQ (⟨hI, (up_o o_refl eS60 (by decide))⟩) dX12_all_15
set_option maxHeartbeats 4000000 in
set_option maxRecDepth 100000 in
theorem gX12_next__0 (l : Launch) (g : GG) (ad : Nat → Nat) (hD : Dj ad 20) (S : SS) (hI : InvM g ad S) (a1 : Int32) (a2 : Int32) (hq1 : 0 ≤ 12 * elm (S 7) 1 + (-1) * elm (S 7) 0) (hq2 : 0 ≤ 12 * elm (S 7) 3 + (-1) * elm (S 7) 0) (hq3 : 0 ≤ 8 * elm (S 7) 0 + (-1) * elm (S 7) 6) (hq4 : 0 ≤ 3 * elm (S 7) 0 + (-1) * elm (S 7) 8) (hq5 : 0 ≤ 40000 * elm (S 7) 0 + (-1) * elm (S 6) 0) : Met l yX12_next_ (wG (.code yX12_next_ cX12_next_ 4 (some .int))) (Rm 2) (XPre g ad 20 S [.ref (ad 0), .int a1, .int a2]) (va_Qi (fun _ S' => InvM g ad S' ∧ (∀ j, j ∉ ([0] : List Nat) → S' j = S j)) (QB g ad 20) (FA ad 20)) 0 0 (FA ad 20) := by
  refine xmet cX12_next_ "EbbWreckModel" (by decide) rfl (Nat.le_of_ble_eq_true rfl) (fun p e s m below meth c E hr hlk hml hQ ls hl => ?_)
  have hx := E.1
  have hb := E.2.1
  have hs : Sp ad 20 (FA ad 20) := Sp.fa hD
  have hl : lv_has ls 4 [(0, .ref (ad 0)), (1, .int a1), (2, .int a2)] := hl
  obtain ⟨f1, c2, b3⟩ := invM_7 hI
  obtain ⟨v4, ee5⟩ : ∃ z : Int32, f1 1 = z := ⟨_, rfl⟩
  have b6 : Bd v4 (0) (12) := (by rw [← ee5]; exact b3.2.1 1 (by decide))
  obtain ⟨v7, ee8⟩ : ∃ z : Int32, f1 0 = z := ⟨_, rfl⟩
  have b9 : Bd v7 (0) (12) := (by rw [← ee8]; exact b3.1 0 (by decide))
  obtain ⟨v10, ee11⟩ : ∃ z : Int32, f1 3 = z := ⟨_, rfl⟩
  have b12 : Bd v10 (0) (12) := (by rw [← ee11]; exact b3.2.2.2.1 3 (by decide))
  obtain ⟨v13, ee14⟩ : ∃ z : Int32, f1 6 = z := ⟨_, rfl⟩
  have b15 : Bd v13 (0) (8) := (by rw [← ee14]; exact b3.2.2.2.2.1 6 (by decide))
  obtain ⟨v16, ee17⟩ : ∃ z : Int32, f1 8 = z := ⟨_, rfl⟩
  have b18 : Bd v16 (0) (3) := (by rw [← ee17]; exact b3.2.2.2.2.2.2.1 8 (by decide))
  obtain ⟨f19, c20, b21⟩ := invM_6 hI
  obtain ⟨v22, ee23⟩ : ∃ z : Int32, f19 0 = z := ⟨_, rfl⟩
  have b24 : Bd v22 (0) (40000) := (by rw [← ee23]; exact b21 0)
  have q25 : elm (S 7) 1 = v4.toInt := (elm_of c2 1).trans (congrArg Int32.toInt (ee5))
  have q26 : elm (S 7) 0 = v7.toInt := (elm_of c2 0).trans (congrArg Int32.toInt (ee8))
  have q27 : elm (S 7) 3 = v10.toInt := (elm_of c2 3).trans (congrArg Int32.toInt (ee11))
  have q28 : elm (S 7) 6 = v13.toInt := (elm_of c2 6).trans (congrArg Int32.toInt (ee14))
  have q29 : elm (S 7) 8 = v16.toInt := (elm_of c2 8).trans (congrArg Int32.toInt (ee17))
  have q30 : elm (S 6) 0 = v22.toInt := (elm_of c20 0).trans (congrArg Int32.toInt (ee23))
  refine lv_aload_n hx hb dX12_next__0 rfl (lv_at hl 0 rfl) ?_
  refine lv_iconst (v := 0) hx hb dX12_next__1 (by decide) ?_
  obtain ⟨v31, v32, v34, v36, v38, v39, w40, v41, v43, v44, v45, v46, v48, v50, v52, v54, v56, v57, v58, c59, b33, b35, b37, b42, b47, b49, b51, b53, b55⟩ := invM_0 hI
  have c59 : S 0 = .inr (12, [.int v31, .ref (ad 1), .ref (ad 2), .ref (ad 3), .ref (ad 4), .ref (ad 5), .int v32, .int v34, .int v36, .int v38, .int v39, .long w40, .int v41, .int v43, .int v44, .int v45, .ref (ad 6), .ref (ad 7), .ref (ad 8), .ref (ad 9), .ref (ad 10), .ref (ad 11), .ref (ad 12), .ref (ad 13), .ref (ad 14), .ref (ad 15), .int v46, .int v48, .ref (ad 16), .int v50, .int v52, .int v54, .int v56, .int v57, .ref (ad 17), .ref (ad 18), .int v58, .ref (ad 19)]) := c59
  refine xputi E hs hQ 0 (by decide) c59 rfl 0 (by decide) q1468 rfl rfl (Nat.le_of_ble_eq_true rfl) dX12_next__2 (fun H locs S60 eS60 hQ => ?_)
  have hI := invM_up_0 hI eS60 ⟨0, v32, v34, v36, v38, v39, w40, v41, v43, v44, v45, v46, v48, v50, v52, v54, v56, v57, v58, rfl, b33, b35, b37, b42, b47, b49, b51, b53, b55⟩
  have c61 : S60 0 = .inr (12, [.int 0, .ref (ad 1), .ref (ad 2), .ref (ad 3), .ref (ad 4), .ref (ad 5), .int v32, .int v34, .int v36, .int v38, .int v39, .long w40, .int v41, .int v43, .int v44, .int v45, .ref (ad 6), .ref (ad 7), .ref (ad 8), .ref (ad 9), .ref (ad 10), .ref (ad 11), .ref (ad 12), .ref (ad 13), .ref (ad 14), .ref (ad 15), .int v46, .int v48, .ref (ad 16), .int v50, .int v52, .int v54, .int v56, .int v57, .ref (ad 17), .ref (ad 18), .int v58, .ref (ad 19)]) := up_at eS60 rfl
  refine lv_aload_n hx hb dX12_next__5 rfl (lv_at hl 0 rfl) ?_
  have c62 : S60 6 = .inl (g.2 0, 5, .inl f19) := (up_ne eS60 (by decide) c20)
  refine xcVi E hs hQ hml hl.1 0 (gX12_isShore_0 l g ad hD S60 hI ) mX12_isShore q1782 (by decide) c61 rfl rfl ⟨(Nat.le_of_ble_eq_true rfl), (Nat.le_of_ble_eq_true rfl)⟩ ⟨(Nat.le_of_ble_eq_true rfl), (Nat.le_of_ble_eq_true rfl)⟩ (Nat.le_of_ble_eq_true rfl) rfl dX12_next__6 (fun r63 S63 H locs hp63 hQ _ => ?_)
  obtain ⟨rfl, b63, g63_0⟩ := hp63
  have q64 : elm (S60 6) 0 = v22.toInt := (elm_of c62 0).trans (congrArg Int32.toInt (ee23))
  refine lv_if_eq (tgt := 36) hx hb dX12_next__9 (by decide) (fun k65 => ?_) (fun k65 => ?_)
  · have h66 := ib_eq k65
    have b67 : Bd r63 (0) (0) := ⟨(b63).1, ((rf_eq b63 (by decide : Bd 0 (0) (0)) h66).1).2⟩
    clear g63_0
    refine lv_bipush (v := (-2)) hx hb dX12_next__36 (by decide) ?_
    exact xri E hr hlk hQ (⟨hI, (up_o o_refl eS60 (by decide))⟩) dX12_next__38
  · have h68 := ib_ne k65
    have b69 : Bd r63 (1) (1) := rf_nlo b63 (by decide : Bd 0 (0) (0)) h68
    have g70 := g63_0.resolve_left (by omega)
    clear g63_0
    have b71 : Bd v22 (1) (40000) := ⟨by omega, (b24).2⟩
    refine lv_iload_n hx hb dX12_next__12 rfl (lv_at hl 1 rfl) ?_
    refine lv_i2l hx hb dX12_next__13 rfl ?_
    refine lv_topl (fun w72 e73 => ?_)
    have t74 : w72.toInt = a1.toInt := by rw [e73]; exact i2l_i _
    have b75 : BdL w72 (-2147483648) (2147483647) := (by have h1 := ((ib_full a1)).1; have h2 := ((ib_full a1)).2; exact ⟨by omega, by omega⟩)
    refine lv_lconst (v := 0) hx hb dX12_next__14 (by decide) ?_
    refine lv_ldc2 (v := 1000000000) hx hb E.2.2.1 (E.2.2.2.1 _ q1799) dX12_next__15 ?_
    have q76 : (0 : Int64).toInt = 0 := by decide
    have q77 : (1000000000 : Int64).toInt = 1000000000 := by decide
    refine xcSi E hs hQ hml hl.1 (gX12_in l g ad hD S60 hI w72 0 1000000000) mX12_in q1591 rfl ⟨(Nat.le_of_ble_eq_true rfl), (Nat.le_of_ble_eq_true rfl)⟩ ⟨(Nat.le_of_ble_eq_true rfl), (Nat.le_of_ble_eq_true rfl)⟩ (Nat.le_of_ble_eq_true rfl) rfl dX12_next__18 (fun r78 S78 H locs hp78 hQ => ?_)
    obtain ⟨rfl, b78, g78_0, u78_0⟩ := hp78
    refine lv_if_eq (tgt := 36) hx hb dX12_next__21 (by decide) (fun k79 => ?_) (fun k79 => ?_)
    · have h80 := ib_eq k79
      have b81 : Bd r78 (0) (0) := ⟨(b78).1, ((rf_eq b78 (by decide : Bd 0 (0) (0)) h80).1).2⟩
      clear g78_0
      refine lv_bipush (v := (-2)) hx hb dX12_next__36 (by decide) ?_
      exact xri E hr hlk hQ (⟨hI, (up_o o_refl eS60 (by decide))⟩) dX12_next__38
    · have h82 := ib_ne k79
      have b83 : Bd r78 (1) (1) := rf_nlo b78 (by decide : Bd 0 (0) (0)) h82
      have g84 := g78_0.resolve_left (by omega)
      clear g78_0
      have b85 : BdL w72 (0) (1000000000) := ⟨by omega, by omega⟩
      have b86 : Bd a1 (0) (1000000000) := ⟨by omega, by omega⟩
      refine lv_iload_n hx hb dX12_next__24 rfl (lv_at hl 2 rfl) ?_
      refine lv_i2l hx hb dX12_next__25 rfl ?_
      refine lv_topl (fun w87 e88 => ?_)
      have t89 : w87.toInt = a2.toInt := by rw [e88]; exact i2l_i _
      have b90 : BdL w87 (-2147483648) (2147483647) := (by have h1 := ((ib_full a2)).1; have h2 := ((ib_full a2)).2; exact ⟨by omega, by omega⟩)
      refine lv_lconst (v := 0) hx hb dX12_next__26 (by decide) ?_
      refine lv_ldc2 (v := 2) hx hb E.2.2.1 (E.2.2.2.1 _ q1754) dX12_next__27 ?_
      have q91 : (2 : Int64).toInt = 2 := by decide
      refine xcSi E hs hQ hml hl.1 (gX12_in l g ad hD S60 hI w87 0 2) mX12_in q1591 rfl ⟨(Nat.le_of_ble_eq_true rfl), (Nat.le_of_ble_eq_true rfl)⟩ ⟨(Nat.le_of_ble_eq_true rfl), (Nat.le_of_ble_eq_true rfl)⟩ (Nat.le_of_ble_eq_true rfl) rfl dX12_next__30 (fun r92 S92 H locs hp92 hQ => ?_)
      obtain ⟨rfl, b92, g92_0, u92_0⟩ := hp92
      refine lv_if_ne (tgt := 39) hx hb dX12_next__33 (by decide) (fun k93 => ?_) (fun k93 => ?_)
      · have h94 := ib_ne k93
        have b95 : Bd r92 (1) (1) := rf_nlo b92 (by decide : Bd 0 (0) (0)) h94
        have g96 := g92_0.resolve_left (by omega)
        clear g92_0
        have b97 : BdL w87 (0) (2) := ⟨by omega, by omega⟩
        have b98 : Bd a2 (0) (2) := ⟨by omega, by omega⟩
        refine lv_iconst (v := 0) hx hb dX12_next__39 (by decide) ?_
        refine lv_istore_n (lv' := [(3, .int 0), (0, .ref (ad 0)), (1, .int a1), (2, .int a2)]) hx hb dX12_next__40 rfl hl (by decide) rfl (fun ls hl => ?_)
        have loop41 : ∀ (n : Nat) (H : Heap) (locs : List Loc) (ls : Array Slot) (x41_3 : Int32), Bd x41_3 (0) (36) → (-1) * x41_3.toInt + 36 < ((n : Nat) : Int) → Hp g ad 20 S60 (FA ad 20) s.heap H locs → lv_has ls 4 [(3, .int x41_3), (0, .ref (ad 0)), (1, .int a1), (2, .int a2)] → W p l e (Rm 2) s m [.ref (ad 0), .int a1, .int a2].toArray below meth c H locs 0 0 (MQ below (va_Qi (fun _ S' => InvM g ad S' ∧ (∀ j, j ∉ ([0] : List Nat) → S' j = S j)) (QB g ad 20) (FA ad 20)) [.ref (ad 0), .int a1, .int a2].toArray s 0 0 (FA ad 20)) (F0 m 41 ls []) := by
          intro n
          induction n with
          | zero => intro H locs ls x41_3 Bx41_3 hn41_ hQ hl; exfalso; have := (Bx41_3).2; omega
          | succ n41_ ih41 =>
            intro H locs ls x41_3 Bx41_3 hn41_ hQ hl
            refine lv_iload_n hx hb dX12_next__41 rfl (lv_at hl 0 rfl) ?_
            refine lv_aload_n hx hb dX12_next__42 rfl (lv_at hl 1 rfl) ?_
            have c99 : S60 7 = .inl (g.2 0, 50, .inl f1) := (up_ne eS60 (by decide) c2)
            obtain ⟨v100, ee101⟩ : ∃ z : Int32, f1 2 = z := ⟨_, rfl⟩
            have b102 : Bd v100 (0) (6) := (by rw [← ee101]; exact b3.2.2.1 2 (by decide))
            refine xcVi E hs hQ hml hl.1 0 (gX12_round_0 l g ad hD S60 hI ) mX12_round q1791 (by decide) c61 rfl rfl ⟨(Nat.le_of_ble_eq_true rfl), (Nat.le_of_ble_eq_true rfl)⟩ ⟨(Nat.le_of_ble_eq_true rfl), (Nat.le_of_ble_eq_true rfl)⟩ (Nat.le_of_ble_eq_true rfl) rfl dX12_next__43 (fun r103 S103 H locs hp103 hQ _ => ?_)
            obtain ⟨rfl, b103, g103_0, fg103⟩ := hp103
            have q104 : elm (S60 7) 1 = v4.toInt := (elm_of c99 1).trans (congrArg Int32.toInt (ee5))
            have q105 : elm (S60 7) 2 = v100.toInt := (elm_of c99 2).trans (congrArg Int32.toInt (ee101))
            have q106 : elm (S60 7) 3 = v10.toInt := (elm_of c99 3).trans (congrArg Int32.toInt (ee11))
            have b107 : Bd r103 (1) (36) := ⟨by omega, (b103).2⟩
            have b108 : Bd v10 (1) (12) := ⟨by omega, (b12).2⟩
            have b109 : Bd v4 (1) (12) := ⟨by omega, (b6).2⟩
            refine lv_icmp_ge (tgt := 70) hx hb dX12_next__46 (by decide) (fun k110 => ?_) (fun k110 => ?_)
            · have h111 := ib_le k110
              have b112 : Bd x41_3 (1) (36) := ⟨((rf_le b107 Bx41_3 h111).2).1, (Bx41_3).2⟩
              refine lv_iconst (v := (-1)) hx hb dX12_next__70 (by decide) ?_
              exact xri E hr hlk hQ (⟨hI, (up_o o_refl eS60 (by decide))⟩) dX12_next__71
            · have h113 := ib_nle k110
              have b114 : Bd x41_3 (0) (35) := ⟨(Bx41_3).1, ((rf_lt Bx41_3 b107 h113).1).2⟩
              refine lv_aload_n hx hb dX12_next__49 rfl (lv_at hl 1 rfl) ?_
              refine lv_iload_n hx hb dX12_next__50 rfl (lv_at hl 2 rfl) ?_
              refine lv_iload_n hx hb dX12_next__51 rfl (lv_at hl 0 rfl) ?_
              refine lv_iadd hx hb dX12_next__52 ?_
              refine lv_topi (fun z115 e116 => ?_)
              have t117 := ib_add e116 b86 b114 (by decide) (by decide)
              have b118 : Bd z115 (0) (1000000035) := ib_addb t117 b86 b114
              refine xcVi E hs hQ hml hl.1 0 (gX12_phaseOf_0 l g ad hD S60 hI z115 (by omega)) mX12_phaseOf q1787 (by decide) c61 rfl rfl ⟨(Nat.le_of_ble_eq_true rfl), (Nat.le_of_ble_eq_true rfl)⟩ ⟨(Nat.le_of_ble_eq_true rfl), (Nat.le_of_ble_eq_true rfl)⟩ (Nat.le_of_ble_eq_true rfl) rfl dX12_next__53 (fun r119 S119 H locs hp119 hQ _ => ?_)
              obtain ⟨rfl, b119, fg119⟩ := hp119
              refine lv_iload_n hx hb dX12_next__56 rfl (lv_at hl 3 rfl) ?_
              refine lv_icmp_ne (tgt := 64) hx hb dX12_next__57 (by decide) (fun k120 => ?_) (fun k120 => ?_)
              · have h121 := ib_ne k120
                obtain ⟨z122, e123⟩ : ∃ z : Int32, z = x41_3 + 1 := ⟨_, rfl⟩
                have t124 := ib_add e123 b114 (by decide : Bd 1 (1) (1)) (by decide) (by decide)
                have b125 : Bd z122 (1) (36) := ib_addb t124 b114 (by decide : Bd 1 (1) (1))
                have t124 : z122.toInt = x41_3.toInt + 1 := fold_add t124 rfl (by decide)
                refine lv_iinc (v := z122) (lv' := [(3, .int z122), (0, .ref (ad 0)), (1, .int a1), (2, .int a2)]) hx hb dX12_next__64 hl (k := 0) rfl (by rw [e123]; rfl) (by decide) rfl (fun ls hl => ?_)
                refine lv_goto (tgt := 41) hx hb dX12_next__67 (by decide) ?_
                exact ih41 _ _ _ z122 (ib_wk b125 (by decide) (by decide)) (by omega) hQ (lv_sub hl [0, 1, 2, 3] rfl)
              · have h126 := ib_eq k120
                refine lv_iload_n hx hb dX12_next__60 rfl (lv_at hl 2 rfl) ?_
                refine lv_iload_n hx hb dX12_next__61 rfl (lv_at hl 0 rfl) ?_
                refine lv_iadd hx hb dX12_next__62 ?_
                refine lv_topi (fun z127 e128 => ?_)
                have t129 := ib_add e128 b86 b114 (by decide) (by decide)
                have b130 : Bd z127 (0) (1000000035) := ib_addb t129 b86 b114
                exact xri E hr hlk hQ (⟨hI, (up_o o_refl eS60 (by decide))⟩) dX12_next__63
        obtain ⟨n41, hn41⟩ := fu_n (36)
        exact loop41 n41 _ _ _ 0 (ib_wk (by decide : Bd 0 (0) (0)) (by decide) (by decide)) (by have : (0 : Int32).toInt = 0 := (by decide); omega) hQ (lv_sub hl [0, 1, 2, 3] rfl)
      · have h131 := ib_eq k93
        have b132 : Bd r92 (0) (0) := ⟨(b92).1, ((rf_eq b92 (by decide : Bd 0 (0) (0)) h131).1).2⟩
        clear g92_0
        refine lv_bipush (v := (-2)) hx hb dX12_next__36 (by decide) ?_
        exact xri E hr hlk hQ (⟨hI, (up_o o_refl eS60 (by decide))⟩) dX12_next__38
set_option maxHeartbeats 4000000 in
set_option maxRecDepth 100000 in
theorem gX12_sitter_0 (l : Launch) (g : GG) (ad : Nat → Nat) (hD : Dj ad 20) (S : SS) (hI : InvM g ad S) (a1 : Int32) (hq1 : 0 ≤ 12 * elm (S 7) 1 + (-1) * elm (S 7) 0) (hq2 : 0 ≤ 12 * elm (S 7) 3 + (-1) * elm (S 7) 0) (hq3 : 0 ≤ 8 * elm (S 7) 0 + (-1) * elm (S 7) 6) (hq4 : 0 ≤ 3 * elm (S 7) 0 + (-1) * elm (S 7) 8) (hq5 : 0 ≤ 40000 * elm (S 7) 0 + (-1) * elm (S 6) 0) (hAT : ATp (S 7) (S 12) 0) : Met l yX12_sitter (wG (.code yX12_sitter cX12_sitter 2 (some .int))) (Rm 2) (XPre g ad 20 S [.ref (ad 0), .int a1]) (va_Qi (fun r S' => InvM g ad S' ∧ (∀ j, j ∉ ([0, 14, 15] : List Nat) → S' j = S j) ∧ Bd r (-2) (11)) (QB g ad 20) (FA ad 20)) 0 0 (FA ad 20) := by
  refine xmet cX12_sitter "EbbWreckModel" (by decide) rfl (Nat.le_of_ble_eq_true rfl) (fun p e s m below meth c E hr hlk hml hQ ls hl => ?_)
  have hx := E.1
  have hb := E.2.1
  have hs : Sp ad 20 (FA ad 20) := Sp.fa hD
  have hl : lv_has ls 2 [(0, .ref (ad 0)), (1, .int a1)] := hl
  obtain ⟨f1, c2, b3⟩ := invM_7 hI
  obtain ⟨v4, ee5⟩ : ∃ z : Int32, f1 1 = z := ⟨_, rfl⟩
  have b6 : Bd v4 (0) (12) := (by rw [← ee5]; exact b3.2.1 1 (by decide))
  obtain ⟨v7, ee8⟩ : ∃ z : Int32, f1 0 = z := ⟨_, rfl⟩
  have b9 : Bd v7 (0) (12) := (by rw [← ee8]; exact b3.1 0 (by decide))
  obtain ⟨v10, ee11⟩ : ∃ z : Int32, f1 3 = z := ⟨_, rfl⟩
  have b12 : Bd v10 (0) (12) := (by rw [← ee11]; exact b3.2.2.2.1 3 (by decide))
  obtain ⟨v13, ee14⟩ : ∃ z : Int32, f1 6 = z := ⟨_, rfl⟩
  have b15 : Bd v13 (0) (8) := (by rw [← ee14]; exact b3.2.2.2.2.1 6 (by decide))
  obtain ⟨v16, ee17⟩ : ∃ z : Int32, f1 8 = z := ⟨_, rfl⟩
  have b18 : Bd v16 (0) (3) := (by rw [← ee17]; exact b3.2.2.2.2.2.2.1 8 (by decide))
  obtain ⟨f19, c20, b21⟩ := invM_6 hI
  obtain ⟨v22, ee23⟩ : ∃ z : Int32, f19 0 = z := ⟨_, rfl⟩
  have b24 : Bd v22 (0) (40000) := (by rw [← ee23]; exact b21 0)
  have q25 : elm (S 7) 1 = v4.toInt := (elm_of c2 1).trans (congrArg Int32.toInt (ee5))
  have q26 : elm (S 7) 0 = v7.toInt := (elm_of c2 0).trans (congrArg Int32.toInt (ee8))
  have q27 : elm (S 7) 3 = v10.toInt := (elm_of c2 3).trans (congrArg Int32.toInt (ee11))
  have q28 : elm (S 7) 6 = v13.toInt := (elm_of c2 6).trans (congrArg Int32.toInt (ee14))
  have q29 : elm (S 7) 8 = v16.toInt := (elm_of c2 8).trans (congrArg Int32.toInt (ee17))
  have q30 : elm (S 6) 0 = v22.toInt := (elm_of c20 0).trans (congrArg Int32.toInt (ee23))
  refine lv_aload_n hx hb dX12_sitter_0 rfl (lv_at hl 0 rfl) ?_
  refine lv_iconst (v := 0) hx hb dX12_sitter_1 (by decide) ?_
  obtain ⟨v31, v32, v34, v36, v38, v39, w40, v41, v43, v44, v45, v46, v48, v50, v52, v54, v56, v57, v58, c59, b33, b35, b37, b42, b47, b49, b51, b53, b55⟩ := invM_0 hI
  have c59 : S 0 = .inr (12, [.int v31, .ref (ad 1), .ref (ad 2), .ref (ad 3), .ref (ad 4), .ref (ad 5), .int v32, .int v34, .int v36, .int v38, .int v39, .long w40, .int v41, .int v43, .int v44, .int v45, .ref (ad 6), .ref (ad 7), .ref (ad 8), .ref (ad 9), .ref (ad 10), .ref (ad 11), .ref (ad 12), .ref (ad 13), .ref (ad 14), .ref (ad 15), .int v46, .int v48, .ref (ad 16), .int v50, .int v52, .int v54, .int v56, .int v57, .ref (ad 17), .ref (ad 18), .int v58, .ref (ad 19)]) := c59
  refine xputi E hs hQ 0 (by decide) c59 rfl 0 (by decide) q1468 rfl rfl (Nat.le_of_ble_eq_true rfl) dX12_sitter_2 (fun H locs S60 eS60 hQ => ?_)
  have hI := invM_up_0 hI eS60 ⟨0, v32, v34, v36, v38, v39, w40, v41, v43, v44, v45, v46, v48, v50, v52, v54, v56, v57, v58, rfl, b33, b35, b37, b42, b47, b49, b51, b53, b55⟩
  have c61 : S60 0 = .inr (12, [.int 0, .ref (ad 1), .ref (ad 2), .ref (ad 3), .ref (ad 4), .ref (ad 5), .int v32, .int v34, .int v36, .int v38, .int v39, .long w40, .int v41, .int v43, .int v44, .int v45, .ref (ad 6), .ref (ad 7), .ref (ad 8), .ref (ad 9), .ref (ad 10), .ref (ad 11), .ref (ad 12), .ref (ad 13), .ref (ad 14), .ref (ad 15), .int v46, .int v48, .ref (ad 16), .int v50, .int v52, .int v54, .int v56, .int v57, .ref (ad 17), .ref (ad 18), .int v58, .ref (ad 19)]) := up_at eS60 rfl
  refine lv_aload_n hx hb dX12_sitter_5 rfl (lv_at hl 0 rfl) ?_
  refine lv_iload_n hx hb dX12_sitter_6 rfl (lv_at hl 1 rfl) ?_
  have c62 : S60 7 = .inl (g.2 0, 50, .inl f1) := (up_ne eS60 (by decide) c2)
  refine xcVi E hs hQ hml hl.1 0 (gX12_isSitter_0 l g ad hD S60 hI a1) mX12_isSitter q1816 (by decide) c61 rfl rfl ⟨(Nat.le_of_ble_eq_true rfl), (Nat.le_of_ble_eq_true rfl)⟩ ⟨(Nat.le_of_ble_eq_true rfl), (Nat.le_of_ble_eq_true rfl)⟩ (Nat.le_of_ble_eq_true rfl) rfl dX12_sitter_7 (fun r63 S63 H locs hp63 hQ _ => ?_)
  obtain ⟨rfl, b63, g63_0⟩ := hp63
  have q64 : elm (S60 7) 8 = v16.toInt := (elm_of c62 8).trans (congrArg Int32.toInt (ee17))
  refine lv_if_ne (tgt := 16) hx hb dX12_sitter_10 (by decide) (fun k65 => ?_) (fun k65 => ?_)
  · have h66 := ib_ne k65
    have b67 : Bd r63 (1) (1) := rf_nlo b63 (by decide : Bd 0 (0) (0)) h66
    have g68 := g63_0.resolve_left (by omega)
    clear g63_0
    have b69 : Bd a1 (0) (2) := ⟨by omega, by omega⟩
    have b70 : Bd v16 (1) (3) := ⟨by omega, (b18).2⟩
    refine lv_aload_n hx hb dX12_sitter_16 rfl (lv_at hl 0 rfl) ?_
    refine xcVv E hs hQ hml hl.1 0 (gX12_lays_0 l g ad hD S60 hI (at_tr hAT (up_eq (j := 7) eS60 (by decide)) (up_eq (j := 12) eS60 (by decide)))) mX12_lays q1820 (by decide) c61 rfl rfl ⟨(Nat.le_of_ble_eq_true rfl), (Nat.le_of_ble_eq_true rfl)⟩ ⟨(Nat.le_of_ble_eq_true rfl), (Nat.le_of_ble_eq_true rfl)⟩ (Nat.le_of_ble_eq_true rfl) rfl dX12_sitter_17 (fun S71 H locs hp71 hQ _ => ?_)
    obtain ⟨hI, o71⟩ := hp71
    refine lv_aload_n hx hb dX12_sitter_20 rfl (lv_at hl 0 rfl) ?_
    have c72 : S71 0 = .inr (12, [.int 0, .ref (ad 1), .ref (ad 2), .ref (ad 3), .ref (ad 4), .ref (ad 5), .int v32, .int v34, .int v36, .int v38, .int v39, .long w40, .int v41, .int v43, .int v44, .int v45, .ref (ad 6), .ref (ad 7), .ref (ad 8), .ref (ad 9), .ref (ad 10), .ref (ad 11), .ref (ad 12), .ref (ad 13), .ref (ad 14), .ref (ad 15), .int v46, .int v48, .ref (ad 16), .int v50, .int v52, .int v54, .int v56, .int v57, .ref (ad 17), .ref (ad 18), .int v58, .ref (ad 19)]) := ((o71 0 (by decide)).trans c61)
    refine xget E hQ 0 (by decide) c72 rfl 24 (by decide) q1492 rfl dX12_sitter_21 ?_
    refine lv_iload_n hx hb dX12_sitter_24 rfl (lv_at hl 1 rfl) ?_
    obtain ⟨f73, c74, b75⟩ := invM_14 hI
    refine xiald E hQ 14 (by decide) c74 (ib_in b69 (by decide) (by decide)) dX12_sitter_25 ?_
    refine lv_topi (fun z76 e77 => ?_)
    have b78 : Bd z76 (0) (11) := (by rw [e77]; exact b75 _)
    exact xri E hr hlk hQ (⟨hI, (o_trans (up_o o_refl eS60 (by decide)) o71 (by decide)), (ib_wk b78 (by decide) (by decide))⟩) dX12_sitter_26
  · have h79 := ib_eq k65
    have b80 : Bd r63 (0) (0) := ⟨(b63).1, ((rf_eq b63 (by decide : Bd 0 (0) (0)) h79).1).2⟩
    clear g63_0
    refine lv_bipush (v := (-2)) hx hb dX12_sitter_13 (by decide) ?_
    exact xri E hr hlk hQ (⟨hI, (up_o o_refl eS60 (by decide)), (ib_wk (by decide : Bd (-2) (-2) (-2)) (by decide) (by decide))⟩) dX12_sitter_15
set_option maxHeartbeats 4000000 in
set_option maxRecDepth 100000 in
theorem gX12_at_0 (l : Launch) (g : GG) (ad : Nat → Nat) (hD : Dj ad 20) (S : SS) (hI : InvM g ad S) (a1 : Int32) (a2 : Int32) (hq1 : 0 ≤ 12 * elm (S 7) 1 + (-1) * elm (S 7) 0) (hq2 : 0 ≤ 12 * elm (S 7) 3 + (-1) * elm (S 7) 0) (hq3 : 0 ≤ 8 * elm (S 7) 0 + (-1) * elm (S 7) 6) (hq4 : 0 ≤ 3 * elm (S 7) 0 + (-1) * elm (S 7) 8) (hq5 : 0 ≤ 40000 * elm (S 7) 0 + (-1) * elm (S 6) 0) (hAT : ATp (S 7) (S 12) 0) : Met l yX12_at (wG (.code yX12_at cX12_at 3 (some .int))) (Rm 4) (XPre g ad 20 S [.ref (ad 0), .int a1, .int a2]) (va_Qi (fun r S' => InvM g ad S' ∧ (∀ j, j ∉ ([0, 14, 15] : List Nat) → S' j = S j) ∧ Bd r (-2) (11)) (QB g ad 20) (FA ad 20)) 0 0 (FA ad 20) := by
  refine xmet cX12_at "EbbWreckModel" (by decide) rfl (Nat.le_of_ble_eq_true rfl) (fun p e s m below meth c E hr hlk hml hQ ls hl => ?_)
  have hx := E.1
  have hb := E.2.1
  have hs : Sp ad 20 (FA ad 20) := Sp.fa hD
  have hl : lv_has ls 3 [(0, .ref (ad 0)), (1, .int a1), (2, .int a2)] := hl
  obtain ⟨f1, c2, b3⟩ := invM_7 hI
  obtain ⟨v4, ee5⟩ : ∃ z : Int32, f1 1 = z := ⟨_, rfl⟩
  have b6 : Bd v4 (0) (12) := (by rw [← ee5]; exact b3.2.1 1 (by decide))
  obtain ⟨v7, ee8⟩ : ∃ z : Int32, f1 0 = z := ⟨_, rfl⟩
  have b9 : Bd v7 (0) (12) := (by rw [← ee8]; exact b3.1 0 (by decide))
  obtain ⟨v10, ee11⟩ : ∃ z : Int32, f1 3 = z := ⟨_, rfl⟩
  have b12 : Bd v10 (0) (12) := (by rw [← ee11]; exact b3.2.2.2.1 3 (by decide))
  obtain ⟨v13, ee14⟩ : ∃ z : Int32, f1 6 = z := ⟨_, rfl⟩
  have b15 : Bd v13 (0) (8) := (by rw [← ee14]; exact b3.2.2.2.2.1 6 (by decide))
  obtain ⟨v16, ee17⟩ : ∃ z : Int32, f1 8 = z := ⟨_, rfl⟩
  have b18 : Bd v16 (0) (3) := (by rw [← ee17]; exact b3.2.2.2.2.2.2.1 8 (by decide))
  obtain ⟨f19, c20, b21⟩ := invM_6 hI
  obtain ⟨v22, ee23⟩ : ∃ z : Int32, f19 0 = z := ⟨_, rfl⟩
  have b24 : Bd v22 (0) (40000) := (by rw [← ee23]; exact b21 0)
  have q25 : elm (S 7) 1 = v4.toInt := (elm_of c2 1).trans (congrArg Int32.toInt (ee5))
  have q26 : elm (S 7) 0 = v7.toInt := (elm_of c2 0).trans (congrArg Int32.toInt (ee8))
  have q27 : elm (S 7) 3 = v10.toInt := (elm_of c2 3).trans (congrArg Int32.toInt (ee11))
  have q28 : elm (S 7) 6 = v13.toInt := (elm_of c2 6).trans (congrArg Int32.toInt (ee14))
  have q29 : elm (S 7) 8 = v16.toInt := (elm_of c2 8).trans (congrArg Int32.toInt (ee17))
  have q30 : elm (S 6) 0 = v22.toInt := (elm_of c20 0).trans (congrArg Int32.toInt (ee23))
  refine lv_aload_n hx hb dX12_at_0 rfl (lv_at hl 0 rfl) ?_
  refine lv_iconst (v := 0) hx hb dX12_at_1 (by decide) ?_
  obtain ⟨v31, v32, v34, v36, v38, v39, w40, v41, v43, v44, v45, v46, v48, v50, v52, v54, v56, v57, v58, c59, b33, b35, b37, b42, b47, b49, b51, b53, b55⟩ := invM_0 hI
  have c59 : S 0 = .inr (12, [.int v31, .ref (ad 1), .ref (ad 2), .ref (ad 3), .ref (ad 4), .ref (ad 5), .int v32, .int v34, .int v36, .int v38, .int v39, .long w40, .int v41, .int v43, .int v44, .int v45, .ref (ad 6), .ref (ad 7), .ref (ad 8), .ref (ad 9), .ref (ad 10), .ref (ad 11), .ref (ad 12), .ref (ad 13), .ref (ad 14), .ref (ad 15), .int v46, .int v48, .ref (ad 16), .int v50, .int v52, .int v54, .int v56, .int v57, .ref (ad 17), .ref (ad 18), .int v58, .ref (ad 19)]) := c59
  refine xputi E hs hQ 0 (by decide) c59 rfl 0 (by decide) q1468 rfl rfl (Nat.le_of_ble_eq_true rfl) dX12_at_2 (fun H locs S60 eS60 hQ => ?_)
  have hI := invM_up_0 hI eS60 ⟨0, v32, v34, v36, v38, v39, w40, v41, v43, v44, v45, v46, v48, v50, v52, v54, v56, v57, v58, rfl, b33, b35, b37, b42, b47, b49, b51, b53, b55⟩
  have c61 : S60 0 = .inr (12, [.int 0, .ref (ad 1), .ref (ad 2), .ref (ad 3), .ref (ad 4), .ref (ad 5), .int v32, .int v34, .int v36, .int v38, .int v39, .long w40, .int v41, .int v43, .int v44, .int v45, .ref (ad 6), .ref (ad 7), .ref (ad 8), .ref (ad 9), .ref (ad 10), .ref (ad 11), .ref (ad 12), .ref (ad 13), .ref (ad 14), .ref (ad 15), .int v46, .int v48, .ref (ad 16), .int v50, .int v52, .int v54, .int v56, .int v57, .ref (ad 17), .ref (ad 18), .int v58, .ref (ad 19)]) := up_at eS60 rfl
  refine lv_aload_n hx hb dX12_at_5 rfl (lv_at hl 0 rfl) ?_
  refine lv_iload_n hx hb dX12_at_6 rfl (lv_at hl 1 rfl) ?_
  have c62 : S60 7 = .inl (g.2 0, 50, .inl f1) := (up_ne eS60 (by decide) c2)
  refine xcVi E hs hQ hml hl.1 0 (gX12_isThing_0 l g ad hD S60 hI a1) mX12_isThing q1766 (by decide) c61 rfl rfl ⟨(Nat.le_of_ble_eq_true rfl), (Nat.le_of_ble_eq_true rfl)⟩ ⟨(Nat.le_of_ble_eq_true rfl), (Nat.le_of_ble_eq_true rfl)⟩ (Nat.le_of_ble_eq_true rfl) rfl dX12_at_7 (fun r63 S63 H locs hp63 hQ _ => ?_)
  obtain ⟨rfl, b63, g63_0⟩ := hp63
  have q64 : elm (S60 7) 6 = v13.toInt := (elm_of c62 6).trans (congrArg Int32.toInt (ee14))
  refine lv_if_eq (tgt := 25) hx hb dX12_at_10 (by decide) (fun k65 => ?_) (fun k65 => ?_)
  · have h66 := ib_eq k65
    have b67 : Bd r63 (0) (0) := ⟨(b63).1, ((rf_eq b63 (by decide : Bd 0 (0) (0)) h66).1).2⟩
    clear g63_0
    refine lv_bipush (v := (-2)) hx hb dX12_at_25 (by decide) ?_
    exact xri E hr hlk hQ (⟨hI, (up_o o_refl eS60 (by decide)), (ib_wk (by decide : Bd (-2) (-2) (-2)) (by decide) (by decide))⟩) dX12_at_27
  · have h68 := ib_ne k65
    have b69 : Bd r63 (1) (1) := rf_nlo b63 (by decide : Bd 0 (0) (0)) h68
    have g70 := g63_0.resolve_left (by omega)
    clear g63_0
    have b71 : Bd a1 (0) (7) := ⟨by omega, by omega⟩
    have b72 : Bd v13 (1) (8) := ⟨by omega, (b15).2⟩
    refine lv_iload_n hx hb dX12_at_13 rfl (lv_at hl 2 rfl) ?_
    refine lv_i2l hx hb dX12_at_14 rfl ?_
    refine lv_topl (fun w73 e74 => ?_)
    have t75 : w73.toInt = a2.toInt := by rw [e74]; exact i2l_i _
    have b76 : BdL w73 (-2147483648) (2147483647) := (by have h1 := ((ib_full a2)).1; have h2 := ((ib_full a2)).2; exact ⟨by omega, by omega⟩)
    refine lv_lconst (v := 0) hx hb dX12_at_15 (by decide) ?_
    refine lv_ldc2 (v := 400) hx hb E.2.2.1 (E.2.2.2.1 _ q1828) dX12_at_16 ?_
    have q77 : (0 : Int64).toInt = 0 := by decide
    have q78 : (400 : Int64).toInt = 400 := by decide
    refine xcSi E hs hQ hml hl.1 (gX12_in l g ad hD S60 hI w73 0 400) mX12_in q1591 rfl ⟨(Nat.le_of_ble_eq_true rfl), (Nat.le_of_ble_eq_true rfl)⟩ ⟨(Nat.le_of_ble_eq_true rfl), (Nat.le_of_ble_eq_true rfl)⟩ (Nat.le_of_ble_eq_true rfl) rfl dX12_at_19 (fun r79 S79 H locs hp79 hQ => ?_)
    obtain ⟨rfl, b79, g79_0, u79_0⟩ := hp79
    refine lv_if_ne (tgt := 28) hx hb dX12_at_22 (by decide) (fun k80 => ?_) (fun k80 => ?_)
    · have h81 := ib_ne k80
      have b82 : Bd r79 (1) (1) := rf_nlo b79 (by decide : Bd 0 (0) (0)) h81
      have g83 := g79_0.resolve_left (by omega)
      clear g79_0
      have b84 : BdL w73 (0) (400) := ⟨by omega, by omega⟩
      have b85 : Bd a2 (0) (400) := ⟨by omega, by omega⟩
      refine lv_aload_n hx hb dX12_at_28 rfl (lv_at hl 0 rfl) ?_
      refine xcVv E hs hQ hml hl.1 0 (gX12_lays_0 l g ad hD S60 hI (at_tr hAT (up_eq (j := 7) eS60 (by decide)) (up_eq (j := 12) eS60 (by decide)))) mX12_lays q1820 (by decide) c61 rfl rfl ⟨(Nat.le_of_ble_eq_true rfl), (Nat.le_of_ble_eq_true rfl)⟩ ⟨(Nat.le_of_ble_eq_true rfl), (Nat.le_of_ble_eq_true rfl)⟩ (Nat.le_of_ble_eq_true rfl) rfl dX12_at_29 (fun S86 H locs hp86 hQ _ => ?_)
      obtain ⟨hI, o86⟩ := hp86
      refine lv_iload_n hx hb dX12_at_32 rfl (lv_at hl 2 rfl) ?_
      refine lv_aload_n hx hb dX12_at_33 rfl (lv_at hl 0 rfl) ?_
      have c87 : S86 0 = .inr (12, [.int 0, .ref (ad 1), .ref (ad 2), .ref (ad 3), .ref (ad 4), .ref (ad 5), .int v32, .int v34, .int v36, .int v38, .int v39, .long w40, .int v41, .int v43, .int v44, .int v45, .ref (ad 6), .ref (ad 7), .ref (ad 8), .ref (ad 9), .ref (ad 10), .ref (ad 11), .ref (ad 12), .ref (ad 13), .ref (ad 14), .ref (ad 15), .int v46, .int v48, .ref (ad 16), .int v50, .int v52, .int v54, .int v56, .int v57, .ref (ad 17), .ref (ad 18), .int v58, .ref (ad 19)]) := ((o86 0 (by decide)).trans c61)
      refine xget E hQ 0 (by decide) c87 rfl 19 (by decide) q1487 rfl dX12_at_34 ?_
      refine lv_iconst (v := 3) hx hb dX12_at_37 (by decide) ?_
      refine lv_iload_n hx hb dX12_at_38 rfl (lv_at hl 1 rfl) ?_
      refine lv_imul hx hb dX12_at_39 ?_
      refine lv_topi (fun z88 e89 => ?_)
      have t90 := ib_cmul (q := 3) e89 (by decide) (by decide) b71 (by decide) (by decide)
      have b91 : Bd z88 (0) (21) := ib_mulb t90 (by decide) b71
      refine lv_iconst (v := 2) hx hb dX12_at_40 (by decide) ?_
      refine lv_iadd hx hb dX12_at_41 ?_
      refine lv_topi (fun z92 e93 => ?_)
      have t94 := ib_add e93 b91 (by decide : Bd 2 (2) (2)) (by decide) (by decide)
      have b95 : Bd z92 (2) (23) := ib_addb t94 b91 (by decide : Bd 2 (2) (2))
      have t94 : z92.toInt = z88.toInt + 2 := fold_add t94 rfl (by decide)
      obtain ⟨f96, c97, b98⟩ := invM_9 hI
      refine xiald E hQ 9 (by decide) c97 (ib_in b95 (by decide) (by decide)) dX12_at_42 ?_
      refine lv_topi (fun z99 e100 => ?_)
      have b101 : Bd z99 (0) (99) := (by rw [e100]; exact b98.2 _ (by rw [clampN b95]; omega))
      refine lv_icmp_ge (tgt := 48) hx hb dX12_at_43 (by decide) (fun k102 => ?_) (fun k102 => ?_)
      · have h103 := ib_le k102
        refine lv_aload_n hx hb dX12_at_48 rfl (lv_at hl 0 rfl) ?_
        refine lv_iload_n hx hb dX12_at_49 rfl (lv_at hl 1 rfl) ?_
        refine lv_iload_n hx hb dX12_at_50 rfl (lv_at hl 2 rfl) ?_
        refine lv_ldc2 (v := (-1)) hx hb E.2.2.1 (E.2.2.2.1 _ q1645) dX12_at_51 ?_
        have c104 : S86 7 = .inl (g.2 0, 50, .inl f1) := ((o86 7 (by decide)).trans c62)
        have q105 : elm (S86 7) 0 = v7.toInt := (elm_of c104 0).trans (congrArg Int32.toInt (ee8))
        have q106 : elm (S86 7) 1 = v4.toInt := (elm_of c104 1).trans (congrArg Int32.toInt (ee5))
        refine xcVv E hs hQ hml hl.1 0 (gX12_goes_0 l g ad hD S86 hI a1 a2 (-1) b71 b85 (by omega) (by omega)) mX12_goes q1829 (by decide) c87 rfl rfl ⟨(Nat.le_of_ble_eq_true rfl), (Nat.le_of_ble_eq_true rfl)⟩ ⟨(Nat.le_of_ble_eq_true rfl), (Nat.le_of_ble_eq_true rfl)⟩ (Nat.le_of_ble_eq_true rfl) rfl dX12_at_54 (fun S107 H locs hp107 hQ _ => ?_)
        obtain ⟨hI, o107⟩ := hp107
        refine lv_aload_n hx hb dX12_at_57 rfl (lv_at hl 0 rfl) ?_
        obtain ⟨v108, v109, v111, v113, v115, v116, w117, v118, v120, v121, v122, v123, v125, v127, v129, v131, v133, v134, v135, c136, b110, b112, b114, b119, b124, b126, b128, b130, b132⟩ := invM_0 hI
        have c136 : S107 0 = .inr (12, [.int v108, .ref (ad 1), .ref (ad 2), .ref (ad 3), .ref (ad 4), .ref (ad 5), .int v109, .int v111, .int v113, .int v115, .int v116, .long w117, .int v118, .int v120, .int v121, .int v122, .ref (ad 6), .ref (ad 7), .ref (ad 8), .ref (ad 9), .ref (ad 10), .ref (ad 11), .ref (ad 12), .ref (ad 13), .ref (ad 14), .ref (ad 15), .int v123, .int v125, .ref (ad 16), .int v127, .int v129, .int v131, .int v133, .int v134, .ref (ad 17), .ref (ad 18), .int v135, .ref (ad 19)]) := c136
        refine xget E hQ 0 (by decide) c136 rfl 26 (by decide) q1494 rfl dX12_at_58 ?_
        exact xri E hr hlk hQ (⟨hI, (o_trans (o_trans (up_o o_refl eS60 (by decide)) o86 (by decide)) o107 (by decide)), (ib_wk b124 (by decide) (by decide))⟩) dX12_at_61
      · have h137 := ib_nle k102
        have b138 : Bd a2 (0) (98) := ⟨(b85).1, ((rf_lt b85 b101 h137).1).2⟩
        have b139 : Bd z99 (1) (99) := ⟨((rf_lt b85 b101 h137).2).1, (b101).2⟩
        refine lv_iconst (v := (-1)) hx hb dX12_at_46 (by decide) ?_
        exact xri E hr hlk hQ (⟨hI, (o_trans (up_o o_refl eS60 (by decide)) o86 (by decide)), (ib_wk (by decide : Bd (-1) (-1) (-1)) (by decide) (by decide))⟩) dX12_at_47
    · have h140 := ib_eq k80
      have b141 : Bd r79 (0) (0) := ⟨(b79).1, ((rf_eq b79 (by decide : Bd 0 (0) (0)) h140).1).2⟩
      clear g79_0
      refine lv_bipush (v := (-2)) hx hb dX12_at_25 (by decide) ?_
      exact xri E hr hlk hQ (⟨hI, (up_o o_refl eS60 (by decide)), (ib_wk (by decide : Bd (-2) (-2) (-2)) (by decide) (by decide))⟩) dX12_at_27
set_option maxHeartbeats 4000000 in
set_option maxRecDepth 100000 in
theorem gX12_comes_0 (l : Launch) (g : GG) (ad : Nat → Nat) (hD : Dj ad 20) (S : SS) (hI : InvM g ad S) (a1 : Int32) (hq1 : 0 ≤ 12 * elm (S 7) 1 + (-1) * elm (S 7) 0) (hq2 : 0 ≤ 12 * elm (S 7) 3 + (-1) * elm (S 7) 0) (hq3 : 0 ≤ 8 * elm (S 7) 0 + (-1) * elm (S 7) 6) (hq4 : 0 ≤ 3 * elm (S 7) 0 + (-1) * elm (S 7) 8) (hq5 : 0 ≤ 40000 * elm (S 7) 0 + (-1) * elm (S 6) 0) (hAT : ATp (S 7) (S 12) 0) : Met l yX12_comes (wG (.code yX12_comes cX12_comes 2 (some .int))) (Rm 5) (XPre g ad 20 S [.ref (ad 0), .int a1]) (va_Qi (fun r S' => InvM g ad S' ∧ (∀ j, j ∉ ([0, 14, 15] : List Nat) → S' j = S j) ∧ Bd r (-2) (400)) (QB g ad 20) (FA ad 20)) 0 0 (FA ad 20) := by
  refine xmet cX12_comes "EbbWreckModel" (by decide) rfl (Nat.le_of_ble_eq_true rfl) (fun p e s m below meth c E hr hlk hml hQ ls hl => ?_)
  have hx := E.1
  have hb := E.2.1
  have hs : Sp ad 20 (FA ad 20) := Sp.fa hD
  have hl : lv_has ls 2 [(0, .ref (ad 0)), (1, .int a1)] := hl
  obtain ⟨f1, c2, b3⟩ := invM_7 hI
  obtain ⟨v4, ee5⟩ : ∃ z : Int32, f1 1 = z := ⟨_, rfl⟩
  have b6 : Bd v4 (0) (12) := (by rw [← ee5]; exact b3.2.1 1 (by decide))
  obtain ⟨v7, ee8⟩ : ∃ z : Int32, f1 0 = z := ⟨_, rfl⟩
  have b9 : Bd v7 (0) (12) := (by rw [← ee8]; exact b3.1 0 (by decide))
  obtain ⟨v10, ee11⟩ : ∃ z : Int32, f1 3 = z := ⟨_, rfl⟩
  have b12 : Bd v10 (0) (12) := (by rw [← ee11]; exact b3.2.2.2.1 3 (by decide))
  obtain ⟨v13, ee14⟩ : ∃ z : Int32, f1 6 = z := ⟨_, rfl⟩
  have b15 : Bd v13 (0) (8) := (by rw [← ee14]; exact b3.2.2.2.2.1 6 (by decide))
  obtain ⟨v16, ee17⟩ : ∃ z : Int32, f1 8 = z := ⟨_, rfl⟩
  have b18 : Bd v16 (0) (3) := (by rw [← ee17]; exact b3.2.2.2.2.2.2.1 8 (by decide))
  obtain ⟨f19, c20, b21⟩ := invM_6 hI
  obtain ⟨v22, ee23⟩ : ∃ z : Int32, f19 0 = z := ⟨_, rfl⟩
  have b24 : Bd v22 (0) (40000) := (by rw [← ee23]; exact b21 0)
  have q25 : elm (S 7) 1 = v4.toInt := (elm_of c2 1).trans (congrArg Int32.toInt (ee5))
  have q26 : elm (S 7) 0 = v7.toInt := (elm_of c2 0).trans (congrArg Int32.toInt (ee8))
  have q27 : elm (S 7) 3 = v10.toInt := (elm_of c2 3).trans (congrArg Int32.toInt (ee11))
  have q28 : elm (S 7) 6 = v13.toInt := (elm_of c2 6).trans (congrArg Int32.toInt (ee14))
  have q29 : elm (S 7) 8 = v16.toInt := (elm_of c2 8).trans (congrArg Int32.toInt (ee17))
  have q30 : elm (S 6) 0 = v22.toInt := (elm_of c20 0).trans (congrArg Int32.toInt (ee23))
  refine lv_aload_n hx hb dX12_comes_0 rfl (lv_at hl 0 rfl) ?_
  refine lv_iconst (v := 0) hx hb dX12_comes_1 (by decide) ?_
  obtain ⟨v31, v32, v34, v36, v38, v39, w40, v41, v43, v44, v45, v46, v48, v50, v52, v54, v56, v57, v58, c59, b33, b35, b37, b42, b47, b49, b51, b53, b55⟩ := invM_0 hI
  have c59 : S 0 = .inr (12, [.int v31, .ref (ad 1), .ref (ad 2), .ref (ad 3), .ref (ad 4), .ref (ad 5), .int v32, .int v34, .int v36, .int v38, .int v39, .long w40, .int v41, .int v43, .int v44, .int v45, .ref (ad 6), .ref (ad 7), .ref (ad 8), .ref (ad 9), .ref (ad 10), .ref (ad 11), .ref (ad 12), .ref (ad 13), .ref (ad 14), .ref (ad 15), .int v46, .int v48, .ref (ad 16), .int v50, .int v52, .int v54, .int v56, .int v57, .ref (ad 17), .ref (ad 18), .int v58, .ref (ad 19)]) := c59
  refine xputi E hs hQ 0 (by decide) c59 rfl 0 (by decide) q1468 rfl rfl (Nat.le_of_ble_eq_true rfl) dX12_comes_2 (fun H locs S60 eS60 hQ => ?_)
  have hI := invM_up_0 hI eS60 ⟨0, v32, v34, v36, v38, v39, w40, v41, v43, v44, v45, v46, v48, v50, v52, v54, v56, v57, v58, rfl, b33, b35, b37, b42, b47, b49, b51, b53, b55⟩
  have c61 : S60 0 = .inr (12, [.int 0, .ref (ad 1), .ref (ad 2), .ref (ad 3), .ref (ad 4), .ref (ad 5), .int v32, .int v34, .int v36, .int v38, .int v39, .long w40, .int v41, .int v43, .int v44, .int v45, .ref (ad 6), .ref (ad 7), .ref (ad 8), .ref (ad 9), .ref (ad 10), .ref (ad 11), .ref (ad 12), .ref (ad 13), .ref (ad 14), .ref (ad 15), .int v46, .int v48, .ref (ad 16), .int v50, .int v52, .int v54, .int v56, .int v57, .ref (ad 17), .ref (ad 18), .int v58, .ref (ad 19)]) := up_at eS60 rfl
  refine lv_aload_n hx hb dX12_comes_5 rfl (lv_at hl 0 rfl) ?_
  refine lv_iload_n hx hb dX12_comes_6 rfl (lv_at hl 1 rfl) ?_
  have c62 : S60 7 = .inl (g.2 0, 50, .inl f1) := (up_ne eS60 (by decide) c2)
  refine xcVi E hs hQ hml hl.1 0 (gX12_isThing_0 l g ad hD S60 hI a1) mX12_isThing q1766 (by decide) c61 rfl rfl ⟨(Nat.le_of_ble_eq_true rfl), (Nat.le_of_ble_eq_true rfl)⟩ ⟨(Nat.le_of_ble_eq_true rfl), (Nat.le_of_ble_eq_true rfl)⟩ (Nat.le_of_ble_eq_true rfl) rfl dX12_comes_7 (fun r63 S63 H locs hp63 hQ _ => ?_)
  obtain ⟨rfl, b63, g63_0⟩ := hp63
  have q64 : elm (S60 7) 6 = v13.toInt := (elm_of c62 6).trans (congrArg Int32.toInt (ee14))
  refine lv_if_ne (tgt := 16) hx hb dX12_comes_10 (by decide) (fun k65 => ?_) (fun k65 => ?_)
  · have h66 := ib_ne k65
    have b67 : Bd r63 (1) (1) := rf_nlo b63 (by decide : Bd 0 (0) (0)) h66
    have g68 := g63_0.resolve_left (by omega)
    clear g63_0
    have b69 : Bd a1 (0) (7) := ⟨by omega, by omega⟩
    have b70 : Bd v13 (1) (8) := ⟨by omega, (b15).2⟩
    refine lv_aload_n hx hb dX12_comes_16 rfl (lv_at hl 0 rfl) ?_
    refine xcVv E hs hQ hml hl.1 0 (gX12_lays_0 l g ad hD S60 hI (at_tr hAT (up_eq (j := 7) eS60 (by decide)) (up_eq (j := 12) eS60 (by decide)))) mX12_lays q1820 (by decide) c61 rfl rfl ⟨(Nat.le_of_ble_eq_true rfl), (Nat.le_of_ble_eq_true rfl)⟩ ⟨(Nat.le_of_ble_eq_true rfl), (Nat.le_of_ble_eq_true rfl)⟩ (Nat.le_of_ble_eq_true rfl) rfl dX12_comes_17 (fun S71 H locs hp71 hQ _ => ?_)
    obtain ⟨hI, o71⟩ := hp71
    refine lv_aload_n hx hb dX12_comes_20 rfl (lv_at hl 0 rfl) ?_
    refine lv_iload_n hx hb dX12_comes_21 rfl (lv_at hl 1 rfl) ?_
    have c72 : S71 7 = .inl (g.2 0, 50, .inl f1) := ((o71 7 (by decide)).trans c62)
    have q73 : elm (S71 7) 0 = v7.toInt := (elm_of c72 0).trans (congrArg Int32.toInt (ee8))
    have q74 : elm (S71 7) 1 = v4.toInt := (elm_of c72 1).trans (congrArg Int32.toInt (ee5))
    have c76 : S71 0 = .inr (12, [.int 0, .ref (ad 1), .ref (ad 2), .ref (ad 3), .ref (ad 4), .ref (ad 5), .int v32, .int v34, .int v36, .int v38, .int v39, .long w40, .int v41, .int v43, .int v44, .int v45, .ref (ad 6), .ref (ad 7), .ref (ad 8), .ref (ad 9), .ref (ad 10), .ref (ad 11), .ref (ad 12), .ref (ad 13), .ref (ad 14), .ref (ad 15), .int v46, .int v48, .ref (ad 16), .int v50, .int v52, .int v54, .int v56, .int v57, .ref (ad 17), .ref (ad 18), .int v58, .ref (ad 19)]) := ((o71 0 (by decide)).trans c61)
    refine xcVv E hs hQ hml hl.1 0 (gX12_comesUp_0 l g ad hD S71 hI a1 b69 (by omega) (by omega)) mX12_comesUp q1846 (by decide) c76 rfl rfl ⟨(Nat.le_of_ble_eq_true rfl), (Nat.le_of_ble_eq_true rfl)⟩ ⟨(Nat.le_of_ble_eq_true rfl), (Nat.le_of_ble_eq_true rfl)⟩ (Nat.le_of_ble_eq_true rfl) rfl dX12_comes_22 (fun S75 H locs hp75 hQ _ => ?_)
    obtain ⟨hI, o75⟩ := hp75
    refine lv_aload_n hx hb dX12_comes_25 rfl (lv_at hl 0 rfl) ?_
    obtain ⟨v77, v78, v80, v82, v84, v85, w86, v87, v89, v90, v91, v92, v94, v96, v98, v100, v102, v103, v104, c105, b79, b81, b83, b88, b93, b95, b97, b99, b101⟩ := invM_0 hI
    have c105 : S75 0 = .inr (12, [.int v77, .ref (ad 1), .ref (ad 2), .ref (ad 3), .ref (ad 4), .ref (ad 5), .int v78, .int v80, .int v82, .int v84, .int v85, .long w86, .int v87, .int v89, .int v90, .int v91, .ref (ad 6), .ref (ad 7), .ref (ad 8), .ref (ad 9), .ref (ad 10), .ref (ad 11), .ref (ad 12), .ref (ad 13), .ref (ad 14), .ref (ad 15), .int v92, .int v94, .ref (ad 16), .int v96, .int v98, .int v100, .int v102, .int v103, .ref (ad 17), .ref (ad 18), .int v104, .ref (ad 19)]) := c105
    refine xget E hQ 0 (by decide) c105 rfl 27 (by decide) q1495 rfl dX12_comes_26 ?_
    exact xri E hr hlk hQ (⟨hI, (o_trans (o_trans (up_o o_refl eS60 (by decide)) o71 (by decide)) o75 (by decide)), (ib_wk b95 (by decide) (by decide))⟩) dX12_comes_29
  · have h106 := ib_eq k65
    have b107 : Bd r63 (0) (0) := ⟨(b63).1, ((rf_eq b63 (by decide : Bd 0 (0) (0)) h106).1).2⟩
    clear g63_0
    refine lv_bipush (v := (-2)) hx hb dX12_comes_13 (by decide) ?_
    exact xri E hr hlk hQ (⟨hI, (up_o o_refl eS60 (by decide)), (ib_wk (by decide : Bd (-2) (-2) (-2)) (by decide) (by decide))⟩) dX12_comes_15
set_option maxHeartbeats 4000000 in
set_option maxRecDepth 100000 in
theorem gX12_beach_0 (l : Launch) (g : GG) (ad : Nat → Nat) (hD : Dj ad 20) (S : SS) (hI : InvM g ad S) (a1 : Int32) (hq1 : 0 ≤ 12 * elm (S 7) 1 + (-1) * elm (S 7) 0) (hq2 : 0 ≤ 12 * elm (S 7) 3 + (-1) * elm (S 7) 0) (hq3 : 0 ≤ 8 * elm (S 7) 0 + (-1) * elm (S 7) 6) (hq4 : 0 ≤ 3 * elm (S 7) 0 + (-1) * elm (S 7) 8) (hq5 : 0 ≤ 40000 * elm (S 7) 0 + (-1) * elm (S 6) 0) (hAT : ATp (S 7) (S 12) 0) : Met l yX12_beach (wG (.code yX12_beach cX12_beach 2 (some .int))) (Rm 5) (XPre g ad 20 S [.ref (ad 0), .int a1]) (va_Qi (fun r S' => InvM g ad S' ∧ (∀ j, j ∉ ([0, 14, 15] : List Nat) → S' j = S j) ∧ Bd r (-2) (11)) (QB g ad 20) (FA ad 20)) 0 0 (FA ad 20) := by
  refine xmet cX12_beach "EbbWreckModel" (by decide) rfl (Nat.le_of_ble_eq_true rfl) (fun p e s m below meth c E hr hlk hml hQ ls hl => ?_)
  have hx := E.1
  have hb := E.2.1
  have hs : Sp ad 20 (FA ad 20) := Sp.fa hD
  have hl : lv_has ls 2 [(0, .ref (ad 0)), (1, .int a1)] := hl
  obtain ⟨f1, c2, b3⟩ := invM_7 hI
  obtain ⟨v4, ee5⟩ : ∃ z : Int32, f1 1 = z := ⟨_, rfl⟩
  have b6 : Bd v4 (0) (12) := (by rw [← ee5]; exact b3.2.1 1 (by decide))
  obtain ⟨v7, ee8⟩ : ∃ z : Int32, f1 0 = z := ⟨_, rfl⟩
  have b9 : Bd v7 (0) (12) := (by rw [← ee8]; exact b3.1 0 (by decide))
  obtain ⟨v10, ee11⟩ : ∃ z : Int32, f1 3 = z := ⟨_, rfl⟩
  have b12 : Bd v10 (0) (12) := (by rw [← ee11]; exact b3.2.2.2.1 3 (by decide))
  obtain ⟨v13, ee14⟩ : ∃ z : Int32, f1 6 = z := ⟨_, rfl⟩
  have b15 : Bd v13 (0) (8) := (by rw [← ee14]; exact b3.2.2.2.2.1 6 (by decide))
  obtain ⟨v16, ee17⟩ : ∃ z : Int32, f1 8 = z := ⟨_, rfl⟩
  have b18 : Bd v16 (0) (3) := (by rw [← ee17]; exact b3.2.2.2.2.2.2.1 8 (by decide))
  obtain ⟨f19, c20, b21⟩ := invM_6 hI
  obtain ⟨v22, ee23⟩ : ∃ z : Int32, f19 0 = z := ⟨_, rfl⟩
  have b24 : Bd v22 (0) (40000) := (by rw [← ee23]; exact b21 0)
  have q25 : elm (S 7) 1 = v4.toInt := (elm_of c2 1).trans (congrArg Int32.toInt (ee5))
  have q26 : elm (S 7) 0 = v7.toInt := (elm_of c2 0).trans (congrArg Int32.toInt (ee8))
  have q27 : elm (S 7) 3 = v10.toInt := (elm_of c2 3).trans (congrArg Int32.toInt (ee11))
  have q28 : elm (S 7) 6 = v13.toInt := (elm_of c2 6).trans (congrArg Int32.toInt (ee14))
  have q29 : elm (S 7) 8 = v16.toInt := (elm_of c2 8).trans (congrArg Int32.toInt (ee17))
  have q30 : elm (S 6) 0 = v22.toInt := (elm_of c20 0).trans (congrArg Int32.toInt (ee23))
  refine lv_aload_n hx hb dX12_beach_0 rfl (lv_at hl 0 rfl) ?_
  refine lv_iconst (v := 0) hx hb dX12_beach_1 (by decide) ?_
  obtain ⟨v31, v32, v34, v36, v38, v39, w40, v41, v43, v44, v45, v46, v48, v50, v52, v54, v56, v57, v58, c59, b33, b35, b37, b42, b47, b49, b51, b53, b55⟩ := invM_0 hI
  have c59 : S 0 = .inr (12, [.int v31, .ref (ad 1), .ref (ad 2), .ref (ad 3), .ref (ad 4), .ref (ad 5), .int v32, .int v34, .int v36, .int v38, .int v39, .long w40, .int v41, .int v43, .int v44, .int v45, .ref (ad 6), .ref (ad 7), .ref (ad 8), .ref (ad 9), .ref (ad 10), .ref (ad 11), .ref (ad 12), .ref (ad 13), .ref (ad 14), .ref (ad 15), .int v46, .int v48, .ref (ad 16), .int v50, .int v52, .int v54, .int v56, .int v57, .ref (ad 17), .ref (ad 18), .int v58, .ref (ad 19)]) := c59
  refine xputi E hs hQ 0 (by decide) c59 rfl 0 (by decide) q1468 rfl rfl (Nat.le_of_ble_eq_true rfl) dX12_beach_2 (fun H locs S60 eS60 hQ => ?_)
  have hI := invM_up_0 hI eS60 ⟨0, v32, v34, v36, v38, v39, w40, v41, v43, v44, v45, v46, v48, v50, v52, v54, v56, v57, v58, rfl, b33, b35, b37, b42, b47, b49, b51, b53, b55⟩
  have c61 : S60 0 = .inr (12, [.int 0, .ref (ad 1), .ref (ad 2), .ref (ad 3), .ref (ad 4), .ref (ad 5), .int v32, .int v34, .int v36, .int v38, .int v39, .long w40, .int v41, .int v43, .int v44, .int v45, .ref (ad 6), .ref (ad 7), .ref (ad 8), .ref (ad 9), .ref (ad 10), .ref (ad 11), .ref (ad 12), .ref (ad 13), .ref (ad 14), .ref (ad 15), .int v46, .int v48, .ref (ad 16), .int v50, .int v52, .int v54, .int v56, .int v57, .ref (ad 17), .ref (ad 18), .int v58, .ref (ad 19)]) := up_at eS60 rfl
  refine lv_aload_n hx hb dX12_beach_5 rfl (lv_at hl 0 rfl) ?_
  refine lv_iload_n hx hb dX12_beach_6 rfl (lv_at hl 1 rfl) ?_
  have c62 : S60 7 = .inl (g.2 0, 50, .inl f1) := (up_ne eS60 (by decide) c2)
  refine xcVi E hs hQ hml hl.1 0 (gX12_isThing_0 l g ad hD S60 hI a1) mX12_isThing q1766 (by decide) c61 rfl rfl ⟨(Nat.le_of_ble_eq_true rfl), (Nat.le_of_ble_eq_true rfl)⟩ ⟨(Nat.le_of_ble_eq_true rfl), (Nat.le_of_ble_eq_true rfl)⟩ (Nat.le_of_ble_eq_true rfl) rfl dX12_beach_7 (fun r63 S63 H locs hp63 hQ _ => ?_)
  obtain ⟨rfl, b63, g63_0⟩ := hp63
  have q64 : elm (S60 7) 6 = v13.toInt := (elm_of c62 6).trans (congrArg Int32.toInt (ee14))
  refine lv_if_ne (tgt := 16) hx hb dX12_beach_10 (by decide) (fun k65 => ?_) (fun k65 => ?_)
  · have h66 := ib_ne k65
    have b67 : Bd r63 (1) (1) := rf_nlo b63 (by decide : Bd 0 (0) (0)) h66
    have g68 := g63_0.resolve_left (by omega)
    clear g63_0
    have b69 : Bd a1 (0) (7) := ⟨by omega, by omega⟩
    have b70 : Bd v13 (1) (8) := ⟨by omega, (b15).2⟩
    refine lv_aload_n hx hb dX12_beach_16 rfl (lv_at hl 0 rfl) ?_
    refine xcVv E hs hQ hml hl.1 0 (gX12_lays_0 l g ad hD S60 hI (at_tr hAT (up_eq (j := 7) eS60 (by decide)) (up_eq (j := 12) eS60 (by decide)))) mX12_lays q1820 (by decide) c61 rfl rfl ⟨(Nat.le_of_ble_eq_true rfl), (Nat.le_of_ble_eq_true rfl)⟩ ⟨(Nat.le_of_ble_eq_true rfl), (Nat.le_of_ble_eq_true rfl)⟩ (Nat.le_of_ble_eq_true rfl) rfl dX12_beach_17 (fun S71 H locs hp71 hQ _ => ?_)
    obtain ⟨hI, o71⟩ := hp71
    refine lv_aload_n hx hb dX12_beach_20 rfl (lv_at hl 0 rfl) ?_
    refine lv_iload_n hx hb dX12_beach_21 rfl (lv_at hl 1 rfl) ?_
    have c72 : S71 7 = .inl (g.2 0, 50, .inl f1) := ((o71 7 (by decide)).trans c62)
    have q73 : elm (S71 7) 0 = v7.toInt := (elm_of c72 0).trans (congrArg Int32.toInt (ee8))
    have q74 : elm (S71 7) 1 = v4.toInt := (elm_of c72 1).trans (congrArg Int32.toInt (ee5))
    have c76 : S71 0 = .inr (12, [.int 0, .ref (ad 1), .ref (ad 2), .ref (ad 3), .ref (ad 4), .ref (ad 5), .int v32, .int v34, .int v36, .int v38, .int v39, .long w40, .int v41, .int v43, .int v44, .int v45, .ref (ad 6), .ref (ad 7), .ref (ad 8), .ref (ad 9), .ref (ad 10), .ref (ad 11), .ref (ad 12), .ref (ad 13), .ref (ad 14), .ref (ad 15), .int v46, .int v48, .ref (ad 16), .int v50, .int v52, .int v54, .int v56, .int v57, .ref (ad 17), .ref (ad 18), .int v58, .ref (ad 19)]) := ((o71 0 (by decide)).trans c61)
    refine xcVv E hs hQ hml hl.1 0 (gX12_comesUp_0 l g ad hD S71 hI a1 b69 (by omega) (by omega)) mX12_comesUp q1846 (by decide) c76 rfl rfl ⟨(Nat.le_of_ble_eq_true rfl), (Nat.le_of_ble_eq_true rfl)⟩ ⟨(Nat.le_of_ble_eq_true rfl), (Nat.le_of_ble_eq_true rfl)⟩ (Nat.le_of_ble_eq_true rfl) rfl dX12_beach_22 (fun S75 H locs hp75 hQ _ => ?_)
    obtain ⟨hI, o75⟩ := hp75
    refine lv_aload_n hx hb dX12_beach_25 rfl (lv_at hl 0 rfl) ?_
    obtain ⟨v77, v78, v80, v82, v84, v85, w86, v87, v89, v90, v91, v92, v94, v96, v98, v100, v102, v103, v104, c105, b79, b81, b83, b88, b93, b95, b97, b99, b101⟩ := invM_0 hI
    have c105 : S75 0 = .inr (12, [.int v77, .ref (ad 1), .ref (ad 2), .ref (ad 3), .ref (ad 4), .ref (ad 5), .int v78, .int v80, .int v82, .int v84, .int v85, .long w86, .int v87, .int v89, .int v90, .int v91, .ref (ad 6), .ref (ad 7), .ref (ad 8), .ref (ad 9), .ref (ad 10), .ref (ad 11), .ref (ad 12), .ref (ad 13), .ref (ad 14), .ref (ad 15), .int v92, .int v94, .ref (ad 16), .int v96, .int v98, .int v100, .int v102, .int v103, .ref (ad 17), .ref (ad 18), .int v104, .ref (ad 19)]) := c105
    refine xget E hQ 0 (by decide) c105 rfl 27 (by decide) q1495 rfl dX12_beach_26 ?_
    refine lv_iconst (v := (-1)) hx hb dX12_beach_29 (by decide) ?_
    refine lv_icmp_ne (tgt := 37) hx hb dX12_beach_30 (by decide) (fun k106 => ?_) (fun k106 => ?_)
    · have h107 := ib_ne k106
      have b108 : Bd v94 (0) (400) := rf_nlo b95 (by decide : Bd (-1) (-1) (-1)) h107
      refine lv_aload_n hx hb dX12_beach_37 rfl (lv_at hl 0 rfl) ?_
      refine xget E hQ 0 (by decide) c105 rfl 26 (by decide) q1494 rfl dX12_beach_38 ?_
      exact xri E hr hlk hQ (⟨hI, (o_trans (o_trans (up_o o_refl eS60 (by decide)) o71 (by decide)) o75 (by decide)), (ib_wk b93 (by decide) (by decide))⟩) dX12_beach_41
    · have h109 := ib_eq k106
      have b110 : Bd v94 (-1) (-1) := ⟨(b95).1, ((rf_eq b95 (by decide : Bd (-1) (-1) (-1)) h109).1).2⟩
      refine lv_iconst (v := (-1)) hx hb dX12_beach_33 (by decide) ?_
      refine lv_goto (tgt := 41) hx hb dX12_beach_34 (by decide) ?_
      exact xri E hr hlk hQ (⟨hI, (o_trans (o_trans (up_o o_refl eS60 (by decide)) o71 (by decide)) o75 (by decide)), (ib_wk (by decide : Bd (-1) (-1) (-1)) (by decide) (by decide))⟩) dX12_beach_41
  · have h111 := ib_eq k65
    have b112 : Bd r63 (0) (0) := ⟨(b63).1, ((rf_eq b63 (by decide : Bd 0 (0) (0)) h111).1).2⟩
    clear g63_0
    refine lv_bipush (v := (-2)) hx hb dX12_beach_13 (by decide) ?_
    exact xri E hr hlk hQ (⟨hI, (up_o o_refl eS60 (by decide)), (ib_wk (by decide : Bd (-2) (-2) (-2)) (by decide) (by decide))⟩) dX12_beach_15
set_option maxHeartbeats 4000000 in
set_option maxRecDepth 100000 in
theorem gX12_whose_0 (l : Launch) (g : GG) (ad : Nat → Nat) (hD : Dj ad 20) (S : SS) (hI : InvM g ad S) (a1 : Int32) (hq1 : 0 ≤ 12 * elm (S 7) 1 + (-1) * elm (S 7) 0) (hq2 : 0 ≤ 12 * elm (S 7) 3 + (-1) * elm (S 7) 0) (hq3 : 0 ≤ 8 * elm (S 7) 0 + (-1) * elm (S 7) 6) (hq4 : 0 ≤ 3 * elm (S 7) 0 + (-1) * elm (S 7) 8) (hq5 : 0 ≤ 40000 * elm (S 7) 0 + (-1) * elm (S 6) 0) (hAT : ATp (S 7) (S 12) 0) : Met l yX12_whose (wG (.code yX12_whose cX12_whose 2 (some .int))) (Rm 5) (XPre g ad 20 S [.ref (ad 0), .int a1]) (va_Qi (fun _ S' => InvM g ad S' ∧ (∀ j, j ∉ ([0, 14, 15] : List Nat) → S' j = S j)) (QB g ad 20) (FA ad 20)) 0 0 (FA ad 20) := by
  refine xmet cX12_whose "EbbWreckModel" (by decide) rfl (Nat.le_of_ble_eq_true rfl) (fun p e s m below meth c E hr hlk hml hQ ls hl => ?_)
  have hx := E.1
  have hb := E.2.1
  have hs : Sp ad 20 (FA ad 20) := Sp.fa hD
  have hl : lv_has ls 2 [(0, .ref (ad 0)), (1, .int a1)] := hl
  obtain ⟨f1, c2, b3⟩ := invM_7 hI
  obtain ⟨v4, ee5⟩ : ∃ z : Int32, f1 1 = z := ⟨_, rfl⟩
  have b6 : Bd v4 (0) (12) := (by rw [← ee5]; exact b3.2.1 1 (by decide))
  obtain ⟨v7, ee8⟩ : ∃ z : Int32, f1 0 = z := ⟨_, rfl⟩
  have b9 : Bd v7 (0) (12) := (by rw [← ee8]; exact b3.1 0 (by decide))
  obtain ⟨v10, ee11⟩ : ∃ z : Int32, f1 3 = z := ⟨_, rfl⟩
  have b12 : Bd v10 (0) (12) := (by rw [← ee11]; exact b3.2.2.2.1 3 (by decide))
  obtain ⟨v13, ee14⟩ : ∃ z : Int32, f1 6 = z := ⟨_, rfl⟩
  have b15 : Bd v13 (0) (8) := (by rw [← ee14]; exact b3.2.2.2.2.1 6 (by decide))
  obtain ⟨v16, ee17⟩ : ∃ z : Int32, f1 8 = z := ⟨_, rfl⟩
  have b18 : Bd v16 (0) (3) := (by rw [← ee17]; exact b3.2.2.2.2.2.2.1 8 (by decide))
  obtain ⟨f19, c20, b21⟩ := invM_6 hI
  obtain ⟨v22, ee23⟩ : ∃ z : Int32, f19 0 = z := ⟨_, rfl⟩
  have b24 : Bd v22 (0) (40000) := (by rw [← ee23]; exact b21 0)
  have q25 : elm (S 7) 1 = v4.toInt := (elm_of c2 1).trans (congrArg Int32.toInt (ee5))
  have q26 : elm (S 7) 0 = v7.toInt := (elm_of c2 0).trans (congrArg Int32.toInt (ee8))
  have q27 : elm (S 7) 3 = v10.toInt := (elm_of c2 3).trans (congrArg Int32.toInt (ee11))
  have q28 : elm (S 7) 6 = v13.toInt := (elm_of c2 6).trans (congrArg Int32.toInt (ee14))
  have q29 : elm (S 7) 8 = v16.toInt := (elm_of c2 8).trans (congrArg Int32.toInt (ee17))
  have q30 : elm (S 6) 0 = v22.toInt := (elm_of c20 0).trans (congrArg Int32.toInt (ee23))
  refine lv_aload_n hx hb dX12_whose_0 rfl (lv_at hl 0 rfl) ?_
  refine lv_iconst (v := 0) hx hb dX12_whose_1 (by decide) ?_
  obtain ⟨v31, v32, v34, v36, v38, v39, w40, v41, v43, v44, v45, v46, v48, v50, v52, v54, v56, v57, v58, c59, b33, b35, b37, b42, b47, b49, b51, b53, b55⟩ := invM_0 hI
  have c59 : S 0 = .inr (12, [.int v31, .ref (ad 1), .ref (ad 2), .ref (ad 3), .ref (ad 4), .ref (ad 5), .int v32, .int v34, .int v36, .int v38, .int v39, .long w40, .int v41, .int v43, .int v44, .int v45, .ref (ad 6), .ref (ad 7), .ref (ad 8), .ref (ad 9), .ref (ad 10), .ref (ad 11), .ref (ad 12), .ref (ad 13), .ref (ad 14), .ref (ad 15), .int v46, .int v48, .ref (ad 16), .int v50, .int v52, .int v54, .int v56, .int v57, .ref (ad 17), .ref (ad 18), .int v58, .ref (ad 19)]) := c59
  refine xputi E hs hQ 0 (by decide) c59 rfl 0 (by decide) q1468 rfl rfl (Nat.le_of_ble_eq_true rfl) dX12_whose_2 (fun H locs S60 eS60 hQ => ?_)
  have hI := invM_up_0 hI eS60 ⟨0, v32, v34, v36, v38, v39, w40, v41, v43, v44, v45, v46, v48, v50, v52, v54, v56, v57, v58, rfl, b33, b35, b37, b42, b47, b49, b51, b53, b55⟩
  have c61 : S60 0 = .inr (12, [.int 0, .ref (ad 1), .ref (ad 2), .ref (ad 3), .ref (ad 4), .ref (ad 5), .int v32, .int v34, .int v36, .int v38, .int v39, .long w40, .int v41, .int v43, .int v44, .int v45, .ref (ad 6), .ref (ad 7), .ref (ad 8), .ref (ad 9), .ref (ad 10), .ref (ad 11), .ref (ad 12), .ref (ad 13), .ref (ad 14), .ref (ad 15), .int v46, .int v48, .ref (ad 16), .int v50, .int v52, .int v54, .int v56, .int v57, .ref (ad 17), .ref (ad 18), .int v58, .ref (ad 19)]) := up_at eS60 rfl
  refine lv_aload_n hx hb dX12_whose_5 rfl (lv_at hl 0 rfl) ?_
  refine lv_iload_n hx hb dX12_whose_6 rfl (lv_at hl 1 rfl) ?_
  have c62 : S60 7 = .inl (g.2 0, 50, .inl f1) := (up_ne eS60 (by decide) c2)
  refine xcVi E hs hQ hml hl.1 0 (gX12_isThing_0 l g ad hD S60 hI a1) mX12_isThing q1766 (by decide) c61 rfl rfl ⟨(Nat.le_of_ble_eq_true rfl), (Nat.le_of_ble_eq_true rfl)⟩ ⟨(Nat.le_of_ble_eq_true rfl), (Nat.le_of_ble_eq_true rfl)⟩ (Nat.le_of_ble_eq_true rfl) rfl dX12_whose_7 (fun r63 S63 H locs hp63 hQ _ => ?_)
  obtain ⟨rfl, b63, g63_0⟩ := hp63
  have q64 : elm (S60 7) 6 = v13.toInt := (elm_of c62 6).trans (congrArg Int32.toInt (ee14))
  refine lv_if_ne (tgt := 16) hx hb dX12_whose_10 (by decide) (fun k65 => ?_) (fun k65 => ?_)
  · have h66 := ib_ne k65
    have b67 : Bd r63 (1) (1) := rf_nlo b63 (by decide : Bd 0 (0) (0)) h66
    have g68 := g63_0.resolve_left (by omega)
    clear g63_0
    have b69 : Bd a1 (0) (7) := ⟨by omega, by omega⟩
    have b70 : Bd v13 (1) (8) := ⟨by omega, (b15).2⟩
    refine lv_aload_n hx hb dX12_whose_16 rfl (lv_at hl 0 rfl) ?_
    refine xcVv E hs hQ hml hl.1 0 (gX12_lays_0 l g ad hD S60 hI (at_tr hAT (up_eq (j := 7) eS60 (by decide)) (up_eq (j := 12) eS60 (by decide)))) mX12_lays q1820 (by decide) c61 rfl rfl ⟨(Nat.le_of_ble_eq_true rfl), (Nat.le_of_ble_eq_true rfl)⟩ ⟨(Nat.le_of_ble_eq_true rfl), (Nat.le_of_ble_eq_true rfl)⟩ (Nat.le_of_ble_eq_true rfl) rfl dX12_whose_17 (fun S71 H locs hp71 hQ _ => ?_)
    obtain ⟨hI, o71⟩ := hp71
    refine lv_aload_n hx hb dX12_whose_20 rfl (lv_at hl 0 rfl) ?_
    refine lv_iload_n hx hb dX12_whose_21 rfl (lv_at hl 1 rfl) ?_
    have c72 : S71 7 = .inl (g.2 0, 50, .inl f1) := ((o71 7 (by decide)).trans c62)
    have q73 : elm (S71 7) 0 = v7.toInt := (elm_of c72 0).trans (congrArg Int32.toInt (ee8))
    have q74 : elm (S71 7) 1 = v4.toInt := (elm_of c72 1).trans (congrArg Int32.toInt (ee5))
    have c76 : S71 0 = .inr (12, [.int 0, .ref (ad 1), .ref (ad 2), .ref (ad 3), .ref (ad 4), .ref (ad 5), .int v32, .int v34, .int v36, .int v38, .int v39, .long w40, .int v41, .int v43, .int v44, .int v45, .ref (ad 6), .ref (ad 7), .ref (ad 8), .ref (ad 9), .ref (ad 10), .ref (ad 11), .ref (ad 12), .ref (ad 13), .ref (ad 14), .ref (ad 15), .int v46, .int v48, .ref (ad 16), .int v50, .int v52, .int v54, .int v56, .int v57, .ref (ad 17), .ref (ad 18), .int v58, .ref (ad 19)]) := ((o71 0 (by decide)).trans c61)
    refine xcVv E hs hQ hml hl.1 0 (gX12_comesUp_0 l g ad hD S71 hI a1 b69 (by omega) (by omega)) mX12_comesUp q1846 (by decide) c76 rfl rfl ⟨(Nat.le_of_ble_eq_true rfl), (Nat.le_of_ble_eq_true rfl)⟩ ⟨(Nat.le_of_ble_eq_true rfl), (Nat.le_of_ble_eq_true rfl)⟩ (Nat.le_of_ble_eq_true rfl) rfl dX12_whose_22 (fun S75 H locs hp75 hQ _ => ?_)
    obtain ⟨hI, o75⟩ := hp75
    refine lv_aload_n hx hb dX12_whose_25 rfl (lv_at hl 0 rfl) ?_
    refine lv_iconst (v := (-1)) hx hb dX12_whose_26 (by decide) ?_
    refine lv_iconst (v := 0) hx hb dX12_whose_27 (by decide) ?_
    have c77 : S75 7 = .inl (g.2 0, 50, .inl f1) := ((o75 7 (by decide)).trans c72)
    have q78 : elm (S75 7) 1 = v4.toInt := (elm_of c77 1).trans (congrArg Int32.toInt (ee5))
    obtain ⟨v80, v81, v83, v85, v87, v88, w89, v90, v92, v93, v94, v95, v97, v99, v101, v103, v105, v106, v107, c108, b82, b84, b86, b91, b96, b98, b100, b102, b104⟩ := invM_0 hI
    have c108 : S75 0 = .inr (12, [.int v80, .ref (ad 1), .ref (ad 2), .ref (ad 3), .ref (ad 4), .ref (ad 5), .int v81, .int v83, .int v85, .int v87, .int v88, .long w89, .int v90, .int v92, .int v93, .int v94, .ref (ad 6), .ref (ad 7), .ref (ad 8), .ref (ad 9), .ref (ad 10), .ref (ad 11), .ref (ad 12), .ref (ad 13), .ref (ad 14), .ref (ad 15), .int v95, .int v97, .ref (ad 16), .int v99, .int v101, .int v103, .int v105, .int v106, .ref (ad 17), .ref (ad 18), .int v107, .ref (ad 19)]) := c108
    refine xcVi E hs hQ hml hl.1 0 (gX12_whoseNow_0 l g ad hD S75 hI (-1) 0 (by omega)) mX12_whoseNow q1858 (by decide) c108 rfl rfl ⟨(Nat.le_of_ble_eq_true rfl), (Nat.le_of_ble_eq_true rfl)⟩ ⟨(Nat.le_of_ble_eq_true rfl), (Nat.le_of_ble_eq_true rfl)⟩ (Nat.le_of_ble_eq_true rfl) rfl dX12_whose_28 (fun r79 S79 H locs hp79 hQ _ => ?_)
    subst hp79
    exact xri E hr hlk hQ (⟨hI, (o_trans (o_trans (up_o o_refl eS60 (by decide)) o71 (by decide)) o75 (by decide))⟩) dX12_whose_31
  · have h109 := ib_eq k65
    have b110 : Bd r63 (0) (0) := ⟨(b63).1, ((rf_eq b63 (by decide : Bd 0 (0) (0)) h109).1).2⟩
    clear g63_0
    refine lv_bipush (v := (-2)) hx hb dX12_whose_13 (by decide) ?_
    exact xri E hr hlk hQ (⟨hI, (up_o o_refl eS60 (by decide))⟩) dX12_whose_15
set_option maxHeartbeats 4000000 in
set_option maxRecDepth 100000 in
theorem gX12_has_0 (l : Launch) (g : GG) (ad : Nat → Nat) (hD : Dj ad 20) (S : SS) (hI : InvM g ad S) (a1 : Int32) (hq1 : 0 ≤ 12 * elm (S 7) 1 + (-1) * elm (S 7) 0) (hq2 : 0 ≤ 12 * elm (S 7) 3 + (-1) * elm (S 7) 0) (hq3 : 0 ≤ 8 * elm (S 7) 0 + (-1) * elm (S 7) 6) (hq4 : 0 ≤ 3 * elm (S 7) 0 + (-1) * elm (S 7) 8) (hq5 : 0 ≤ 40000 * elm (S 7) 0 + (-1) * elm (S 6) 0) (hAT : ATp (S 7) (S 12) 0) : Met l yX12_has (wG (.code yX12_has cX12_has 2 (some .int))) (Rm 6) (XPre g ad 20 S [.ref (ad 0), .int a1]) (va_Qi (fun _ S' => InvM g ad S' ∧ (∀ j, j ∉ ([0, 14, 15] : List Nat) → S' j = S j)) (QB g ad 20) (FA ad 20)) 0 0 (FA ad 20) := by
  refine xmet cX12_has "EbbWreckModel" (by decide) rfl (Nat.le_of_ble_eq_true rfl) (fun p e s m below meth c E hr hlk hml hQ ls hl => ?_)
  have hx := E.1
  have hb := E.2.1
  have hs : Sp ad 20 (FA ad 20) := Sp.fa hD
  have hl : lv_has ls 2 [(0, .ref (ad 0)), (1, .int a1)] := hl
  obtain ⟨f1, c2, b3⟩ := invM_7 hI
  obtain ⟨v4, ee5⟩ : ∃ z : Int32, f1 1 = z := ⟨_, rfl⟩
  have b6 : Bd v4 (0) (12) := (by rw [← ee5]; exact b3.2.1 1 (by decide))
  obtain ⟨v7, ee8⟩ : ∃ z : Int32, f1 0 = z := ⟨_, rfl⟩
  have b9 : Bd v7 (0) (12) := (by rw [← ee8]; exact b3.1 0 (by decide))
  obtain ⟨v10, ee11⟩ : ∃ z : Int32, f1 3 = z := ⟨_, rfl⟩
  have b12 : Bd v10 (0) (12) := (by rw [← ee11]; exact b3.2.2.2.1 3 (by decide))
  obtain ⟨v13, ee14⟩ : ∃ z : Int32, f1 6 = z := ⟨_, rfl⟩
  have b15 : Bd v13 (0) (8) := (by rw [← ee14]; exact b3.2.2.2.2.1 6 (by decide))
  obtain ⟨v16, ee17⟩ : ∃ z : Int32, f1 8 = z := ⟨_, rfl⟩
  have b18 : Bd v16 (0) (3) := (by rw [← ee17]; exact b3.2.2.2.2.2.2.1 8 (by decide))
  obtain ⟨f19, c20, b21⟩ := invM_6 hI
  obtain ⟨v22, ee23⟩ : ∃ z : Int32, f19 0 = z := ⟨_, rfl⟩
  have b24 : Bd v22 (0) (40000) := (by rw [← ee23]; exact b21 0)
  have q25 : elm (S 7) 1 = v4.toInt := (elm_of c2 1).trans (congrArg Int32.toInt (ee5))
  have q26 : elm (S 7) 0 = v7.toInt := (elm_of c2 0).trans (congrArg Int32.toInt (ee8))
  have q27 : elm (S 7) 3 = v10.toInt := (elm_of c2 3).trans (congrArg Int32.toInt (ee11))
  have q28 : elm (S 7) 6 = v13.toInt := (elm_of c2 6).trans (congrArg Int32.toInt (ee14))
  have q29 : elm (S 7) 8 = v16.toInt := (elm_of c2 8).trans (congrArg Int32.toInt (ee17))
  have q30 : elm (S 6) 0 = v22.toInt := (elm_of c20 0).trans (congrArg Int32.toInt (ee23))
  refine lv_aload_n hx hb dX12_has_0 rfl (lv_at hl 0 rfl) ?_
  refine lv_iconst (v := 0) hx hb dX12_has_1 (by decide) ?_
  obtain ⟨v31, v32, v34, v36, v38, v39, w40, v41, v43, v44, v45, v46, v48, v50, v52, v54, v56, v57, v58, c59, b33, b35, b37, b42, b47, b49, b51, b53, b55⟩ := invM_0 hI
  have c59 : S 0 = .inr (12, [.int v31, .ref (ad 1), .ref (ad 2), .ref (ad 3), .ref (ad 4), .ref (ad 5), .int v32, .int v34, .int v36, .int v38, .int v39, .long w40, .int v41, .int v43, .int v44, .int v45, .ref (ad 6), .ref (ad 7), .ref (ad 8), .ref (ad 9), .ref (ad 10), .ref (ad 11), .ref (ad 12), .ref (ad 13), .ref (ad 14), .ref (ad 15), .int v46, .int v48, .ref (ad 16), .int v50, .int v52, .int v54, .int v56, .int v57, .ref (ad 17), .ref (ad 18), .int v58, .ref (ad 19)]) := c59
  refine xputi E hs hQ 0 (by decide) c59 rfl 0 (by decide) q1468 rfl rfl (Nat.le_of_ble_eq_true rfl) dX12_has_2 (fun H locs S60 eS60 hQ => ?_)
  have hI := invM_up_0 hI eS60 ⟨0, v32, v34, v36, v38, v39, w40, v41, v43, v44, v45, v46, v48, v50, v52, v54, v56, v57, v58, rfl, b33, b35, b37, b42, b47, b49, b51, b53, b55⟩
  have c61 : S60 0 = .inr (12, [.int 0, .ref (ad 1), .ref (ad 2), .ref (ad 3), .ref (ad 4), .ref (ad 5), .int v32, .int v34, .int v36, .int v38, .int v39, .long w40, .int v41, .int v43, .int v44, .int v45, .ref (ad 6), .ref (ad 7), .ref (ad 8), .ref (ad 9), .ref (ad 10), .ref (ad 11), .ref (ad 12), .ref (ad 13), .ref (ad 14), .ref (ad 15), .int v46, .int v48, .ref (ad 16), .int v50, .int v52, .int v54, .int v56, .int v57, .ref (ad 17), .ref (ad 18), .int v58, .ref (ad 19)]) := up_at eS60 rfl
  refine lv_aload_n hx hb dX12_has_5 rfl (lv_at hl 0 rfl) ?_
  refine lv_iload_n hx hb dX12_has_6 rfl (lv_at hl 1 rfl) ?_
  have c62 : S60 6 = .inl (g.2 0, 5, .inl f19) := (up_ne eS60 (by decide) c20)
  refine xcVi E hs hQ hml hl.1 0 (gX12_isParty_0 l g ad hD S60 hI a1) mX12_isParty q1874 (by decide) c61 rfl rfl ⟨(Nat.le_of_ble_eq_true rfl), (Nat.le_of_ble_eq_true rfl)⟩ ⟨(Nat.le_of_ble_eq_true rfl), (Nat.le_of_ble_eq_true rfl)⟩ (Nat.le_of_ble_eq_true rfl) rfl dX12_has_7 (fun r63 S63 H locs hp63 hQ _ => ?_)
  obtain ⟨rfl, b63, g63_0⟩ := hp63
  have q64 : elm (S60 6) 0 = v22.toInt := (elm_of c62 0).trans (congrArg Int32.toInt (ee23))
  refine lv_if_ne (tgt := 16) hx hb dX12_has_10 (by decide) (fun k65 => ?_) (fun k65 => ?_)
  · have h66 := ib_ne k65
    have b67 : Bd r63 (1) (1) := rf_nlo b63 (by decide : Bd 0 (0) (0)) h66
    have g68 := g63_0.resolve_left (by omega)
    clear g63_0
    have b69 : Bd v22 (1) (40000) := ⟨by omega, (b24).2⟩
    have b70 : Bd a1 (0) (5) := ⟨by omega, by omega⟩
    refine lv_aload_n hx hb dX12_has_16 rfl (lv_at hl 0 rfl) ?_
    refine xcVv E hs hQ hml hl.1 0 (gX12_lays_0 l g ad hD S60 hI (at_tr hAT (up_eq (j := 7) eS60 (by decide)) (up_eq (j := 12) eS60 (by decide)))) mX12_lays q1820 (by decide) c61 rfl rfl ⟨(Nat.le_of_ble_eq_true rfl), (Nat.le_of_ble_eq_true rfl)⟩ ⟨(Nat.le_of_ble_eq_true rfl), (Nat.le_of_ble_eq_true rfl)⟩ (Nat.le_of_ble_eq_true rfl) rfl dX12_has_17 (fun S71 H locs hp71 hQ _ => ?_)
    obtain ⟨hI, o71⟩ := hp71
    refine lv_aload_n hx hb dX12_has_20 rfl (lv_at hl 0 rfl) ?_
    refine lv_iload_n hx hb dX12_has_21 rfl (lv_at hl 1 rfl) ?_
    refine lv_iconst (v := (-1)) hx hb dX12_has_22 (by decide) ?_
    refine lv_iconst (v := 0) hx hb dX12_has_23 (by decide) ?_
    have c72 : S71 7 = .inl (g.2 0, 50, .inl f1) := ((o71 7 (by decide)).trans (up_ne eS60 (by decide) c2))
    have q73 : elm (S71 7) 0 = v7.toInt := (elm_of c72 0).trans (congrArg Int32.toInt (ee8))
    have q74 : elm (S71 7) 1 = v4.toInt := (elm_of c72 1).trans (congrArg Int32.toInt (ee5))
    have c76 : S71 0 = .inr (12, [.int 0, .ref (ad 1), .ref (ad 2), .ref (ad 3), .ref (ad 4), .ref (ad 5), .int v32, .int v34, .int v36, .int v38, .int v39, .long w40, .int v41, .int v43, .int v44, .int v45, .ref (ad 6), .ref (ad 7), .ref (ad 8), .ref (ad 9), .ref (ad 10), .ref (ad 11), .ref (ad 12), .ref (ad 13), .ref (ad 14), .ref (ad 15), .int v46, .int v48, .ref (ad 16), .int v50, .int v52, .int v54, .int v56, .int v57, .ref (ad 17), .ref (ad 18), .int v58, .ref (ad 19)]) := ((o71 0 (by decide)).trans c61)
    refine xcVi E hs hQ hml hl.1 0 (gX12_hasOf_0 l g ad hD S71 hI a1 (-1) 0 (by omega) (by omega)) mX12_hasOf q1879 (by decide) c76 rfl rfl ⟨(Nat.le_of_ble_eq_true rfl), (Nat.le_of_ble_eq_true rfl)⟩ ⟨(Nat.le_of_ble_eq_true rfl), (Nat.le_of_ble_eq_true rfl)⟩ (Nat.le_of_ble_eq_true rfl) rfl dX12_has_24 (fun r75 S75 H locs hp75 hQ _ => ?_)
    obtain ⟨hI, o75⟩ := hp75
    exact xri E hr hlk hQ (⟨hI, (o_trans (o_trans (up_o o_refl eS60 (by decide)) o71 (by decide)) o75 (by decide))⟩) dX12_has_27
  · have h77 := ib_eq k65
    have b78 : Bd r63 (0) (0) := ⟨(b63).1, ((rf_eq b63 (by decide : Bd 0 (0) (0)) h77).1).2⟩
    clear g63_0
    refine lv_bipush (v := (-2)) hx hb dX12_has_13 (by decide) ?_
    exact xri E hr hlk hQ (⟨hI, (up_o o_refl eS60 (by decide))⟩) dX12_has_15
set_option maxHeartbeats 4000000 in
set_option maxRecDepth 100000 in
theorem gX12_line__0 (l : Launch) (g : GG) (ad : Nat → Nat) (hD : Dj ad 20) (S : SS) (hI : InvM g ad S) (a1 : Int32) (hq1 : 0 ≤ 12 * elm (S 7) 1 + (-1) * elm (S 7) 0) (hq2 : 0 ≤ 12 * elm (S 7) 3 + (-1) * elm (S 7) 0) (hq3 : 0 ≤ 8 * elm (S 7) 0 + (-1) * elm (S 7) 6) (hq4 : 0 ≤ 3 * elm (S 7) 0 + (-1) * elm (S 7) 8) (hq5 : 0 ≤ 40000 * elm (S 7) 0 + (-1) * elm (S 6) 0) (hAT : ATp (S 7) (S 12) 0) : Met l yX12_line_ (wG (.code yX12_line_ cX12_line_ 4 (some .int))) (Rm 5) (XPre g ad 20 S [.ref (ad 0), .int a1]) (va_Qi (fun _ S' => InvM g ad S' ∧ (∀ j, j ∉ ([0, 14, 15] : List Nat) → S' j = S j)) (QB g ad 20) (FA ad 20)) 0 0 (FA ad 20) := by
  refine xmet cX12_line_ "EbbWreckModel" (by decide) rfl (Nat.le_of_ble_eq_true rfl) (fun p e s m below meth c E hr hlk hml hQ ls hl => ?_)
  have hx := E.1
  have hb := E.2.1
  have hs : Sp ad 20 (FA ad 20) := Sp.fa hD
  have hl : lv_has ls 4 [(0, .ref (ad 0)), (1, .int a1)] := hl
  obtain ⟨f1, c2, b3⟩ := invM_7 hI
  obtain ⟨v4, ee5⟩ : ∃ z : Int32, f1 1 = z := ⟨_, rfl⟩
  have b6 : Bd v4 (0) (12) := (by rw [← ee5]; exact b3.2.1 1 (by decide))
  obtain ⟨v7, ee8⟩ : ∃ z : Int32, f1 0 = z := ⟨_, rfl⟩
  have b9 : Bd v7 (0) (12) := (by rw [← ee8]; exact b3.1 0 (by decide))
  obtain ⟨v10, ee11⟩ : ∃ z : Int32, f1 3 = z := ⟨_, rfl⟩
  have b12 : Bd v10 (0) (12) := (by rw [← ee11]; exact b3.2.2.2.1 3 (by decide))
  obtain ⟨v13, ee14⟩ : ∃ z : Int32, f1 6 = z := ⟨_, rfl⟩
  have b15 : Bd v13 (0) (8) := (by rw [← ee14]; exact b3.2.2.2.2.1 6 (by decide))
  obtain ⟨v16, ee17⟩ : ∃ z : Int32, f1 8 = z := ⟨_, rfl⟩
  have b18 : Bd v16 (0) (3) := (by rw [← ee17]; exact b3.2.2.2.2.2.2.1 8 (by decide))
  obtain ⟨f19, c20, b21⟩ := invM_6 hI
  obtain ⟨v22, ee23⟩ : ∃ z : Int32, f19 0 = z := ⟨_, rfl⟩
  have b24 : Bd v22 (0) (40000) := (by rw [← ee23]; exact b21 0)
  have q25 : elm (S 7) 1 = v4.toInt := (elm_of c2 1).trans (congrArg Int32.toInt (ee5))
  have q26 : elm (S 7) 0 = v7.toInt := (elm_of c2 0).trans (congrArg Int32.toInt (ee8))
  have q27 : elm (S 7) 3 = v10.toInt := (elm_of c2 3).trans (congrArg Int32.toInt (ee11))
  have q28 : elm (S 7) 6 = v13.toInt := (elm_of c2 6).trans (congrArg Int32.toInt (ee14))
  have q29 : elm (S 7) 8 = v16.toInt := (elm_of c2 8).trans (congrArg Int32.toInt (ee17))
  have q30 : elm (S 6) 0 = v22.toInt := (elm_of c20 0).trans (congrArg Int32.toInt (ee23))
  refine lv_aload_n hx hb dX12_line__0 rfl (lv_at hl 0 rfl) ?_
  refine lv_iconst (v := 0) hx hb dX12_line__1 (by decide) ?_
  obtain ⟨v31, v32, v34, v36, v38, v39, w40, v41, v43, v44, v45, v46, v48, v50, v52, v54, v56, v57, v58, c59, b33, b35, b37, b42, b47, b49, b51, b53, b55⟩ := invM_0 hI
  have c59 : S 0 = .inr (12, [.int v31, .ref (ad 1), .ref (ad 2), .ref (ad 3), .ref (ad 4), .ref (ad 5), .int v32, .int v34, .int v36, .int v38, .int v39, .long w40, .int v41, .int v43, .int v44, .int v45, .ref (ad 6), .ref (ad 7), .ref (ad 8), .ref (ad 9), .ref (ad 10), .ref (ad 11), .ref (ad 12), .ref (ad 13), .ref (ad 14), .ref (ad 15), .int v46, .int v48, .ref (ad 16), .int v50, .int v52, .int v54, .int v56, .int v57, .ref (ad 17), .ref (ad 18), .int v58, .ref (ad 19)]) := c59
  refine xputi E hs hQ 0 (by decide) c59 rfl 0 (by decide) q1468 rfl rfl (Nat.le_of_ble_eq_true rfl) dX12_line__2 (fun H locs S60 eS60 hQ => ?_)
  have hI := invM_up_0 hI eS60 ⟨0, v32, v34, v36, v38, v39, w40, v41, v43, v44, v45, v46, v48, v50, v52, v54, v56, v57, v58, rfl, b33, b35, b37, b42, b47, b49, b51, b53, b55⟩
  have c61 : S60 0 = .inr (12, [.int 0, .ref (ad 1), .ref (ad 2), .ref (ad 3), .ref (ad 4), .ref (ad 5), .int v32, .int v34, .int v36, .int v38, .int v39, .long w40, .int v41, .int v43, .int v44, .int v45, .ref (ad 6), .ref (ad 7), .ref (ad 8), .ref (ad 9), .ref (ad 10), .ref (ad 11), .ref (ad 12), .ref (ad 13), .ref (ad 14), .ref (ad 15), .int v46, .int v48, .ref (ad 16), .int v50, .int v52, .int v54, .int v56, .int v57, .ref (ad 17), .ref (ad 18), .int v58, .ref (ad 19)]) := up_at eS60 rfl
  refine lv_aload_n hx hb dX12_line__5 rfl (lv_at hl 0 rfl) ?_
  refine lv_iload_n hx hb dX12_line__6 rfl (lv_at hl 1 rfl) ?_
  refine lv_i2l hx hb dX12_line__7 rfl ?_
  refine lv_topl (fun w62 e63 => ?_)
  have t64 : w62.toInt = a1.toInt := by rw [e63]; exact i2l_i _
  have b65 : BdL w62 (-2147483648) (2147483647) := (by have h1 := ((ib_full a1)).1; have h2 := ((ib_full a1)).2; exact ⟨by omega, by omega⟩)
  have c66 : S60 7 = .inl (g.2 0, 50, .inl f1) := (up_ne eS60 (by decide) c2)
  refine xcVi E hs hQ hml hl.1 0 (gX12_isCell_0 l g ad hD S60 hI w62) mX12_isCell q1750 (by decide) c61 rfl rfl ⟨(Nat.le_of_ble_eq_true rfl), (Nat.le_of_ble_eq_true rfl)⟩ ⟨(Nat.le_of_ble_eq_true rfl), (Nat.le_of_ble_eq_true rfl)⟩ (Nat.le_of_ble_eq_true rfl) rfl dX12_line__8 (fun r67 S67 H locs hp67 hQ _ => ?_)
  obtain ⟨rfl, b67, g67_0⟩ := hp67
  have q68 : elm (S60 7) 0 = v7.toInt := (elm_of c66 0).trans (congrArg Int32.toInt (ee8))
  refine lv_if_ne (tgt := 17) hx hb dX12_line__11 (by decide) (fun k69 => ?_) (fun k69 => ?_)
  · have h70 := ib_ne k69
    have b71 : Bd r67 (1) (1) := rf_nlo b67 (by decide : Bd 0 (0) (0)) h70
    have g72 := g67_0.resolve_left (by omega)
    clear g67_0
    have b73 : BdL w62 (0) (11) := ⟨by omega, by omega⟩
    have b74 : Bd v7 (1) (12) := ⟨by omega, (b9).2⟩
    have b75 : Bd a1 (0) (11) := ⟨by omega, by omega⟩
    refine lv_aload_n hx hb dX12_line__17 rfl (lv_at hl 0 rfl) ?_
    refine xcVv E hs hQ hml hl.1 0 (gX12_lays_0 l g ad hD S60 hI (at_tr hAT (up_eq (j := 7) eS60 (by decide)) (up_eq (j := 12) eS60 (by decide)))) mX12_lays q1820 (by decide) c61 rfl rfl ⟨(Nat.le_of_ble_eq_true rfl), (Nat.le_of_ble_eq_true rfl)⟩ ⟨(Nat.le_of_ble_eq_true rfl), (Nat.le_of_ble_eq_true rfl)⟩ (Nat.le_of_ble_eq_true rfl) rfl dX12_line__18 (fun S76 H locs hp76 hQ _ => ?_)
    obtain ⟨hI, o76⟩ := hp76
    refine lv_iconst (v := 0) hx hb dX12_line__21 (by decide) ?_
    refine lv_istore_n (lv' := [(2, .int 0), (0, .ref (ad 0)), (1, .int a1)]) hx hb dX12_line__22 rfl hl (by decide) rfl (fun ls hl => ?_)
    refine lv_iconst (v := 0) hx hb dX12_line__23 (by decide) ?_
    refine lv_istore_n (lv' := [(3, .int 0), (2, .int 0), (0, .ref (ad 0)), (1, .int a1)]) hx hb dX12_line__24 rfl hl (by decide) rfl (fun ls hl => ?_)
    have c77 : S76 0 = .inr (12, [.int 0, .ref (ad 1), .ref (ad 2), .ref (ad 3), .ref (ad 4), .ref (ad 5), .int v32, .int v34, .int v36, .int v38, .int v39, .long w40, .int v41, .int v43, .int v44, .int v45, .ref (ad 6), .ref (ad 7), .ref (ad 8), .ref (ad 9), .ref (ad 10), .ref (ad 11), .ref (ad 12), .ref (ad 13), .ref (ad 14), .ref (ad 15), .int v46, .int v48, .ref (ad 16), .int v50, .int v52, .int v54, .int v56, .int v57, .ref (ad 17), .ref (ad 18), .int v58, .ref (ad 19)]) := ((o76 0 (by decide)).trans c61)
    have loop25 : ∀ (n : Nat) (S_25 : SS) (H : Heap) (locs : List Loc) (ls : Array Slot) (x25_2 : Int32) (x25_3 : Int32) (y25_0_0 : Int32) (y25_0_6 : Int32) (y25_0_7 : Int32) (y25_0_8 : Int32) (y25_0_9 : Int32) (y25_0_10 : Int32) (wy25_0_11 : Int64) (y25_0_12 : Int32) (y25_0_13 : Int32) (y25_0_14 : Int32) (y25_0_15 : Int32) (y25_0_26 : Int32) (y25_0_27 : Int32) (y25_0_29 : Int32) (y25_0_30 : Int32) (y25_0_31 : Int32) (y25_0_32 : Int32) (y25_0_33 : Int32) (y25_0_36 : Int32), Bd x25_3 (0) (8) → Bd y25_0_6 (0) (1200) → Bd y25_0_7 (0) (1200) → Bd y25_0_8 (0) (4) → Bd y25_0_12 (0) (3) → Bd y25_0_26 (0) (11) → Bd y25_0_27 (-1) (400) → Bd y25_0_29 (0) (2) → Bd y25_0_30 (0) (11) → Bd y25_0_31 (-1) (468) → (-1) * x25_3.toInt + 8 < ((n : Nat) : Int) → InvM g ad S_25 → (∀ j, j ∉ ([0] : List Nat) → S_25 j = S76 j) → S_25 0 = .inr (12, [.int y25_0_0, .ref (ad 1), .ref (ad 2), .ref (ad 3), .ref (ad 4), .ref (ad 5), .int y25_0_6, .int y25_0_7, .int y25_0_8, .int y25_0_9, .int y25_0_10, .long wy25_0_11, .int y25_0_12, .int y25_0_13, .int y25_0_14, .int y25_0_15, .ref (ad 6), .ref (ad 7), .ref (ad 8), .ref (ad 9), .ref (ad 10), .ref (ad 11), .ref (ad 12), .ref (ad 13), .ref (ad 14), .ref (ad 15), .int y25_0_26, .int y25_0_27, .ref (ad 16), .int y25_0_29, .int y25_0_30, .int y25_0_31, .int y25_0_32, .int y25_0_33, .ref (ad 17), .ref (ad 18), .int y25_0_36, .ref (ad 19)]) → Hp g ad 20 S_25 (FA ad 20) s.heap H locs → lv_has ls 4 [(3, .int x25_3), (2, .int x25_2), (0, .ref (ad 0)), (1, .int a1)] → W p l e (Rm 5) s m [.ref (ad 0), .int a1].toArray below meth c H locs 0 0 (MQ below (va_Qi (fun _ S' => InvM g ad S' ∧ (∀ j, j ∉ ([0, 14, 15] : List Nat) → S' j = S j)) (QB g ad 20) (FA ad 20)) [.ref (ad 0), .int a1].toArray s 0 0 (FA ad 20)) (F0 m 25 ls []) := by
      intro n
      induction n with
      | zero => intro S_25 H locs ls x25_2 x25_3 y25_0_0 y25_0_6 y25_0_7 y25_0_8 y25_0_9 y25_0_10 wy25_0_11 y25_0_12 y25_0_13 y25_0_14 y25_0_15 y25_0_26 y25_0_27 y25_0_29 y25_0_30 y25_0_31 y25_0_32 y25_0_33 y25_0_36 Bx25_3 By25_0_6 By25_0_7 By25_0_8 By25_0_12 By25_0_26 By25_0_27 By25_0_29 By25_0_30 By25_0_31 hn25_ hI hf25 cl25_0 hQ hl; exfalso; have := (Bx25_3).2; omega
      | succ n25_ ih25 =>
        intro S_25 H locs ls x25_2 x25_3 y25_0_0 y25_0_6 y25_0_7 y25_0_8 y25_0_9 y25_0_10 wy25_0_11 y25_0_12 y25_0_13 y25_0_14 y25_0_15 y25_0_26 y25_0_27 y25_0_29 y25_0_30 y25_0_31 y25_0_32 y25_0_33 y25_0_36 Bx25_3 By25_0_6 By25_0_7 By25_0_8 By25_0_12 By25_0_26 By25_0_27 By25_0_29 By25_0_30 By25_0_31 hn25_ hI hf25 cl25_0 hQ hl
        refine lv_iload_n hx hb dX12_line__25 rfl (lv_at hl 0 rfl) ?_
        refine lv_aload_n hx hb dX12_line__26 rfl (lv_at hl 2 rfl) ?_
        refine xget E hQ 0 (by decide) cl25_0 rfl 17 (by decide) q1485 rfl dX12_line__27 ?_
        refine lv_bipush (v := 6) hx hb dX12_line__30 (by decide) ?_
        have c78 : S_25 7 = .inl (g.2 0, 50, .inl f1) := ((hf25 7 (by decide)).trans ((o76 7 (by decide)).trans c66))
        refine xiald E hQ 7 (by decide) c78 (vp_in_lit 6 50 (by decide)) dX12_line__32 ?_
        refine sb_at (P := fun z => W _ _ _ _ _ _ _ _ _ _ _ _ _ _ _ (F0 _ _ _ (.int z :: _))) (show f1 (6 : Int32).toNatClampNeg = v13 from ee14) ?_
        refine lv_icmp_ge (tgt := 73) hx hb dX12_line__33 (by decide) (fun k79 => ?_) (fun k79 => ?_)
        · have h80 := ib_le k79
          refine lv_iload_n hx hb dX12_line__73 rfl (lv_at hl 1 rfl) ?_
          exact xri E hr hlk hQ (⟨hI, (o_trans (o_trans (up_o o_refl eS60 (by decide)) o76 (by decide)) hf25 (by decide))⟩) dX12_line__74
        · have h81 := ib_nle k79
          have b82 : Bd x25_3 (0) (7) := ⟨(Bx25_3).1, ((rf_lt Bx25_3 b15 h81).1).2⟩
          have b83 : Bd v13 (1) (8) := ⟨((rf_lt Bx25_3 b15 h81).2).1, (b15).2⟩
          refine lv_aload_n hx hb dX12_line__36 rfl (lv_at hl 2 rfl) ?_
          refine lv_iload_n hx hb dX12_line__37 rfl (lv_at hl 0 rfl) ?_
          have q84 : elm (S_25 7) 0 = v7.toInt := (elm_of c78 0).trans (congrArg Int32.toInt (ee8))
          have q85 : elm (S_25 7) 1 = v4.toInt := (elm_of c78 1).trans (congrArg Int32.toInt (ee5))
          refine xcVv E hs hQ hml hl.1 0 (gX12_comesUp_0 l g ad hD S_25 hI x25_3 b82 (by omega) (by omega)) mX12_comesUp q1846 (by decide) cl25_0 rfl rfl ⟨(Nat.le_of_ble_eq_true rfl), (Nat.le_of_ble_eq_true rfl)⟩ ⟨(Nat.le_of_ble_eq_true rfl), (Nat.le_of_ble_eq_true rfl)⟩ (Nat.le_of_ble_eq_true rfl) rfl dX12_line__38 (fun S86 H locs hp86 hQ _ => ?_)
          obtain ⟨hI, o86⟩ := hp86
          refine lv_iload_n hx hb dX12_line__41 rfl (lv_at hl 1 rfl) ?_
          refine lv_aload_n hx hb dX12_line__42 rfl (lv_at hl 2 rfl) ?_
          obtain ⟨v87, v88, v90, v92, v94, v95, w96, v97, v99, v100, v101, v102, v104, v106, v108, v110, v112, v113, v114, c115, b89, b91, b93, b98, b103, b105, b107, b109, b111⟩ := invM_0 hI
          have c115 : S86 0 = .inr (12, [.int v87, .ref (ad 1), .ref (ad 2), .ref (ad 3), .ref (ad 4), .ref (ad 5), .int v88, .int v90, .int v92, .int v94, .int v95, .long w96, .int v97, .int v99, .int v100, .int v101, .ref (ad 6), .ref (ad 7), .ref (ad 8), .ref (ad 9), .ref (ad 10), .ref (ad 11), .ref (ad 12), .ref (ad 13), .ref (ad 14), .ref (ad 15), .int v102, .int v104, .ref (ad 16), .int v106, .int v108, .int v110, .int v112, .int v113, .ref (ad 17), .ref (ad 18), .int v114, .ref (ad 19)]) := c115
          refine xget E hQ 0 (by decide) c115 rfl 27 (by decide) q1495 rfl dX12_line__43 ?_
          refine lv_iconst (v := (-1)) hx hb dX12_line__46 (by decide) ?_
          refine lv_icmp_eq (tgt := 64) hx hb dX12_line__47 (by decide) (fun k116 => ?_) (fun k116 => ?_)
          · have h117 := ib_eq k116
            have b118 : Bd v104 (-1) (-1) := ⟨(b105).1, ((rf_eq b105 (by decide : Bd (-1) (-1) (-1)) h117).1).2⟩
            refine lv_iconst (v := 0) hx hb dX12_line__64 (by decide) ?_
            refine lv_ior hx hb dX12_line__65 ?_
            refine lv_topi (fun z119 e120 => ?_)
            refine lv_istore_n (lv' := [(2, .int z119), (3, .int x25_3), (0, .ref (ad 0)), (1, .int a1)]) hx hb dX12_line__66 rfl hl (by decide) rfl (fun ls hl => ?_)
            obtain ⟨z121, e122⟩ : ∃ z : Int32, z = x25_3 + 1 := ⟨_, rfl⟩
            have t123 := ib_add e122 b82 (by decide : Bd 1 (1) (1)) (by decide) (by decide)
            have b124 : Bd z121 (1) (8) := ib_addb t123 b82 (by decide : Bd 1 (1) (1))
            have t123 : z121.toInt = x25_3.toInt + 1 := fold_add t123 rfl (by decide)
            refine lv_iinc (v := z121) (lv' := [(3, .int z121), (2, .int z119), (0, .ref (ad 0)), (1, .int a1)]) hx hb dX12_line__67 hl (k := 1) rfl (by rw [e122]; rfl) (by decide) rfl (fun ls hl => ?_)
            refine lv_goto (tgt := 25) hx hb dX12_line__70 (by decide) ?_
            exact ih25 _ _ _ _ z119 z121 v87 v88 v90 v92 v94 v95 w96 v97 v99 v100 v101 v102 v104 v106 v108 v110 v112 v113 v114 (ib_wk b124 (by decide) (by decide)) b89 b91 b93 b98 b103 (ib_wk b118 (by decide) (by decide)) b107 b109 b111 (by omega) hI (o_trans hf25 o86 (by decide)) c115 hQ (lv_sub hl [0, 1, 2, 3] rfl)
          · have h125 := ib_ne k116
            have b126 : Bd v104 (0) (400) := rf_nlo b105 (by decide : Bd (-1) (-1) (-1)) h125
            refine lv_aload_n hx hb dX12_line__50 rfl (lv_at hl 2 rfl) ?_
            refine xget E hQ 0 (by decide) c115 rfl 26 (by decide) q1494 rfl dX12_line__51 ?_
            refine lv_iload_n hx hb dX12_line__54 rfl (lv_at hl 3 rfl) ?_
            refine lv_icmp_ne (tgt := 64) hx hb dX12_line__55 (by decide) (fun k127 => ?_) (fun k127 => ?_)
            · have h128 := ib_ne k127
              refine lv_iconst (v := 0) hx hb dX12_line__64 (by decide) ?_
              refine lv_ior hx hb dX12_line__65 ?_
              refine lv_topi (fun z129 e130 => ?_)
              refine lv_istore_n (lv' := [(2, .int z129), (3, .int x25_3), (0, .ref (ad 0)), (1, .int a1)]) hx hb dX12_line__66 rfl hl (by decide) rfl (fun ls hl => ?_)
              obtain ⟨z131, e132⟩ : ∃ z : Int32, z = x25_3 + 1 := ⟨_, rfl⟩
              have t133 := ib_add e132 b82 (by decide : Bd 1 (1) (1)) (by decide) (by decide)
              have b134 : Bd z131 (1) (8) := ib_addb t133 b82 (by decide : Bd 1 (1) (1))
              have t133 : z131.toInt = x25_3.toInt + 1 := fold_add t133 rfl (by decide)
              refine lv_iinc (v := z131) (lv' := [(3, .int z131), (2, .int z129), (0, .ref (ad 0)), (1, .int a1)]) hx hb dX12_line__67 hl (k := 1) rfl (by rw [e132]; rfl) (by decide) rfl (fun ls hl => ?_)
              refine lv_goto (tgt := 25) hx hb dX12_line__70 (by decide) ?_
              exact ih25 _ _ _ _ z129 z131 v87 v88 v90 v92 v94 v95 w96 v97 v99 v100 v101 v102 v104 v106 v108 v110 v112 v113 v114 (ib_wk b134 (by decide) (by decide)) b89 b91 b93 b98 b103 (ib_wk b126 (by decide) (by decide)) b107 b109 b111 (by omega) hI (o_trans hf25 o86 (by decide)) c115 hQ (lv_sub hl [0, 1, 2, 3] rfl)
            · have h135 := ib_eq k127
              refine lv_iconst (v := 1) hx hb dX12_line__58 (by decide) ?_
              refine lv_iload_n hx hb dX12_line__59 rfl (lv_at hl 0 rfl) ?_
              refine lv_ishl hx hb dX12_line__60 ?_
              refine lv_topi (fun z136 e137 => ?_)
              refine lv_goto (tgt := 65) hx hb dX12_line__61 (by decide) ?_
              refine lv_ior hx hb dX12_line__65 ?_
              refine lv_topi (fun z138 e139 => ?_)
              refine lv_istore_n (lv' := [(2, .int z138), (3, .int x25_3), (0, .ref (ad 0)), (1, .int a1)]) hx hb dX12_line__66 rfl hl (by decide) rfl (fun ls hl => ?_)
              obtain ⟨z140, e141⟩ : ∃ z : Int32, z = x25_3 + 1 := ⟨_, rfl⟩
              have t142 := ib_add e141 b82 (by decide : Bd 1 (1) (1)) (by decide) (by decide)
              have b143 : Bd z140 (1) (8) := ib_addb t142 b82 (by decide : Bd 1 (1) (1))
              have t142 : z140.toInt = x25_3.toInt + 1 := fold_add t142 rfl (by decide)
              refine lv_iinc (v := z140) (lv' := [(3, .int z140), (2, .int z138), (0, .ref (ad 0)), (1, .int a1)]) hx hb dX12_line__67 hl (k := 1) rfl (by rw [e141]; rfl) (by decide) rfl (fun ls hl => ?_)
              refine lv_goto (tgt := 25) hx hb dX12_line__70 (by decide) ?_
              exact ih25 _ _ _ _ z138 z140 v87 v88 v90 v92 v94 v95 w96 v97 v99 v100 v101 v102 v104 v106 v108 v110 v112 v113 v114 (ib_wk b143 (by decide) (by decide)) b89 b91 b93 b98 b103 (ib_wk b126 (by decide) (by decide)) b107 b109 b111 (by omega) hI (o_trans hf25 o86 (by decide)) c115 hQ (lv_sub hl [0, 1, 2, 3] rfl)
    obtain ⟨n25, hn25⟩ := fu_n (8)
    exact loop25 n25 _ _ _ _ 0 0 0 v32 v34 v36 v38 v39 w40 v41 v43 v44 v45 v46 v48 v50 v52 v54 v56 v57 v58 (ib_wk (by decide : Bd 0 (0) (0)) (by decide) (by decide)) b33 b35 b37 b42 b47 b49 b51 b53 b55 (by have : (0 : Int32).toInt = 0 := (by decide); omega) hI o_refl c77 hQ (lv_sub hl [0, 1, 2, 3] rfl)
  · have h144 := ib_eq k69
    have b145 : Bd r67 (0) (0) := ⟨(b67).1, ((rf_eq b67 (by decide : Bd 0 (0) (0)) h144).1).2⟩
    clear g67_0
    refine lv_bipush (v := (-2)) hx hb dX12_line__14 (by decide) ?_
    exact xri E hr hlk hQ (⟨hI, (up_o o_refl eS60 (by decide))⟩) dX12_line__16
set_option maxHeartbeats 4000000 in
set_option maxRecDepth 100000 in
theorem gX12_argued_0 (l : Launch) (g : GG) (ad : Nat → Nat) (hD : Dj ad 20) (S : SS) (hI : InvM g ad S) (hq1 : 0 ≤ 12 * elm (S 7) 1 + (-1) * elm (S 7) 0) (hq2 : 0 ≤ 12 * elm (S 7) 3 + (-1) * elm (S 7) 0) (hq3 : 0 ≤ 8 * elm (S 7) 0 + (-1) * elm (S 7) 6) (hq4 : 0 ≤ 3 * elm (S 7) 0 + (-1) * elm (S 7) 8) (hq5 : 0 ≤ 40000 * elm (S 7) 0 + (-1) * elm (S 6) 0) (hAT : ATp (S 7) (S 12) 0) : Met l yX12_argued (wG (.code yX12_argued cX12_argued 5 (some .int))) (Rm 5) (XPre g ad 20 S [.ref (ad 0)]) (va_Qi (fun _ S' => InvM g ad S' ∧ (∀ j, j ∉ ([0, 14, 15] : List Nat) → S' j = S j)) (QB g ad 20) (FA ad 20)) 0 0 (FA ad 20) := by
  refine xmet cX12_argued "EbbWreckModel" (by decide) rfl (Nat.le_of_ble_eq_true rfl) (fun p e s m below meth c E hr hlk hml hQ ls hl => ?_)
  have hx := E.1
  have hb := E.2.1
  have hs : Sp ad 20 (FA ad 20) := Sp.fa hD
  have hl : lv_has ls 5 [(0, .ref (ad 0))] := hl
  obtain ⟨f1, c2, b3⟩ := invM_7 hI
  obtain ⟨v4, ee5⟩ : ∃ z : Int32, f1 1 = z := ⟨_, rfl⟩
  have b6 : Bd v4 (0) (12) := (by rw [← ee5]; exact b3.2.1 1 (by decide))
  obtain ⟨v7, ee8⟩ : ∃ z : Int32, f1 0 = z := ⟨_, rfl⟩
  have b9 : Bd v7 (0) (12) := (by rw [← ee8]; exact b3.1 0 (by decide))
  obtain ⟨v10, ee11⟩ : ∃ z : Int32, f1 3 = z := ⟨_, rfl⟩
  have b12 : Bd v10 (0) (12) := (by rw [← ee11]; exact b3.2.2.2.1 3 (by decide))
  obtain ⟨v13, ee14⟩ : ∃ z : Int32, f1 6 = z := ⟨_, rfl⟩
  have b15 : Bd v13 (0) (8) := (by rw [← ee14]; exact b3.2.2.2.2.1 6 (by decide))
  obtain ⟨v16, ee17⟩ : ∃ z : Int32, f1 8 = z := ⟨_, rfl⟩
  have b18 : Bd v16 (0) (3) := (by rw [← ee17]; exact b3.2.2.2.2.2.2.1 8 (by decide))
  obtain ⟨f19, c20, b21⟩ := invM_6 hI
  obtain ⟨v22, ee23⟩ : ∃ z : Int32, f19 0 = z := ⟨_, rfl⟩
  have b24 : Bd v22 (0) (40000) := (by rw [← ee23]; exact b21 0)
  have q25 : elm (S 7) 1 = v4.toInt := (elm_of c2 1).trans (congrArg Int32.toInt (ee5))
  have q26 : elm (S 7) 0 = v7.toInt := (elm_of c2 0).trans (congrArg Int32.toInt (ee8))
  have q27 : elm (S 7) 3 = v10.toInt := (elm_of c2 3).trans (congrArg Int32.toInt (ee11))
  have q28 : elm (S 7) 6 = v13.toInt := (elm_of c2 6).trans (congrArg Int32.toInt (ee14))
  have q29 : elm (S 7) 8 = v16.toInt := (elm_of c2 8).trans (congrArg Int32.toInt (ee17))
  have q30 : elm (S 6) 0 = v22.toInt := (elm_of c20 0).trans (congrArg Int32.toInt (ee23))
  refine lv_aload_n hx hb dX12_argued_0 rfl (lv_at hl 0 rfl) ?_
  refine lv_iconst (v := 0) hx hb dX12_argued_1 (by decide) ?_
  obtain ⟨v31, v32, v34, v36, v38, v39, w40, v41, v43, v44, v45, v46, v48, v50, v52, v54, v56, v57, v58, c59, b33, b35, b37, b42, b47, b49, b51, b53, b55⟩ := invM_0 hI
  have c59 : S 0 = .inr (12, [.int v31, .ref (ad 1), .ref (ad 2), .ref (ad 3), .ref (ad 4), .ref (ad 5), .int v32, .int v34, .int v36, .int v38, .int v39, .long w40, .int v41, .int v43, .int v44, .int v45, .ref (ad 6), .ref (ad 7), .ref (ad 8), .ref (ad 9), .ref (ad 10), .ref (ad 11), .ref (ad 12), .ref (ad 13), .ref (ad 14), .ref (ad 15), .int v46, .int v48, .ref (ad 16), .int v50, .int v52, .int v54, .int v56, .int v57, .ref (ad 17), .ref (ad 18), .int v58, .ref (ad 19)]) := c59
  refine xputi E hs hQ 0 (by decide) c59 rfl 0 (by decide) q1468 rfl rfl (Nat.le_of_ble_eq_true rfl) dX12_argued_2 (fun H locs S60 eS60 hQ => ?_)
  have hI := invM_up_0 hI eS60 ⟨0, v32, v34, v36, v38, v39, w40, v41, v43, v44, v45, v46, v48, v50, v52, v54, v56, v57, v58, rfl, b33, b35, b37, b42, b47, b49, b51, b53, b55⟩
  have c61 : S60 0 = .inr (12, [.int 0, .ref (ad 1), .ref (ad 2), .ref (ad 3), .ref (ad 4), .ref (ad 5), .int v32, .int v34, .int v36, .int v38, .int v39, .long w40, .int v41, .int v43, .int v44, .int v45, .ref (ad 6), .ref (ad 7), .ref (ad 8), .ref (ad 9), .ref (ad 10), .ref (ad 11), .ref (ad 12), .ref (ad 13), .ref (ad 14), .ref (ad 15), .int v46, .int v48, .ref (ad 16), .int v50, .int v52, .int v54, .int v56, .int v57, .ref (ad 17), .ref (ad 18), .int v58, .ref (ad 19)]) := up_at eS60 rfl
  refine lv_aload_n hx hb dX12_argued_5 rfl (lv_at hl 0 rfl) ?_
  have c62 : S60 6 = .inl (g.2 0, 5, .inl f19) := (up_ne eS60 (by decide) c20)
  refine xcVi E hs hQ hml hl.1 0 (gX12_isShore_0 l g ad hD S60 hI ) mX12_isShore q1782 (by decide) c61 rfl rfl ⟨(Nat.le_of_ble_eq_true rfl), (Nat.le_of_ble_eq_true rfl)⟩ ⟨(Nat.le_of_ble_eq_true rfl), (Nat.le_of_ble_eq_true rfl)⟩ (Nat.le_of_ble_eq_true rfl) rfl dX12_argued_6 (fun r63 S63 H locs hp63 hQ _ => ?_)
  obtain ⟨rfl, b63, g63_0⟩ := hp63
  have q64 : elm (S60 6) 0 = v22.toInt := (elm_of c62 0).trans (congrArg Int32.toInt (ee23))
  refine lv_if_ne (tgt := 15) hx hb dX12_argued_9 (by decide) (fun k65 => ?_) (fun k65 => ?_)
  · have h66 := ib_ne k65
    have b67 : Bd r63 (1) (1) := rf_nlo b63 (by decide : Bd 0 (0) (0)) h66
    have g68 := g63_0.resolve_left (by omega)
    clear g63_0
    have b69 : Bd v22 (1) (40000) := ⟨by omega, (b24).2⟩
    refine lv_aload_n hx hb dX12_argued_15 rfl (lv_at hl 0 rfl) ?_
    refine xcVv E hs hQ hml hl.1 0 (gX12_lays_0 l g ad hD S60 hI (at_tr hAT (up_eq (j := 7) eS60 (by decide)) (up_eq (j := 12) eS60 (by decide)))) mX12_lays q1820 (by decide) c61 rfl rfl ⟨(Nat.le_of_ble_eq_true rfl), (Nat.le_of_ble_eq_true rfl)⟩ ⟨(Nat.le_of_ble_eq_true rfl), (Nat.le_of_ble_eq_true rfl)⟩ (Nat.le_of_ble_eq_true rfl) rfl dX12_argued_16 (fun S70 H locs hp70 hQ _ => ?_)
    obtain ⟨hI, o70⟩ := hp70
    refine lv_iconst (v := 0) hx hb dX12_argued_19 (by decide) ?_
    refine lv_istore_n (lv' := [(1, .int 0), (0, .ref (ad 0))]) hx hb dX12_argued_20 rfl hl (by decide) rfl (fun ls hl => ?_)
    refine lv_iconst (v := 0) hx hb dX12_argued_21 (by decide) ?_
    refine lv_istore_n (lv' := [(2, .int 0), (1, .int 0), (0, .ref (ad 0))]) hx hb dX12_argued_22 rfl hl (by decide) rfl (fun ls hl => ?_)
    have c71 : S70 0 = .inr (12, [.int 0, .ref (ad 1), .ref (ad 2), .ref (ad 3), .ref (ad 4), .ref (ad 5), .int v32, .int v34, .int v36, .int v38, .int v39, .long w40, .int v41, .int v43, .int v44, .int v45, .ref (ad 6), .ref (ad 7), .ref (ad 8), .ref (ad 9), .ref (ad 10), .ref (ad 11), .ref (ad 12), .ref (ad 13), .ref (ad 14), .ref (ad 15), .int v46, .int v48, .ref (ad 16), .int v50, .int v52, .int v54, .int v56, .int v57, .ref (ad 17), .ref (ad 18), .int v58, .ref (ad 19)]) := ((o70 0 (by decide)).trans c61)
    have loop23 : ∀ (n : Nat) (S_23 : SS) (H : Heap) (locs : List Loc) (ls : Array Slot) (x23_1 : Int32) (x23_2 : Int32) (y23_0_0 : Int32) (y23_0_6 : Int32) (y23_0_7 : Int32) (y23_0_8 : Int32) (y23_0_9 : Int32) (y23_0_10 : Int32) (wy23_0_11 : Int64) (y23_0_12 : Int32) (y23_0_13 : Int32) (y23_0_14 : Int32) (y23_0_15 : Int32) (y23_0_26 : Int32) (y23_0_27 : Int32) (y23_0_29 : Int32) (y23_0_30 : Int32) (y23_0_31 : Int32) (y23_0_32 : Int32) (y23_0_33 : Int32) (y23_0_36 : Int32), Bd x23_2 (0) (8) → Bd y23_0_6 (0) (1200) → Bd y23_0_7 (0) (1200) → Bd y23_0_8 (0) (4) → Bd y23_0_12 (0) (3) → Bd y23_0_26 (0) (11) → Bd y23_0_27 (-1) (400) → Bd y23_0_29 (0) (2) → Bd y23_0_30 (0) (11) → Bd y23_0_31 (-1) (468) → (-1) * x23_2.toInt + 8 < ((n : Nat) : Int) → InvM g ad S_23 → (∀ j, j ∉ ([0] : List Nat) → S_23 j = S70 j) → S_23 0 = .inr (12, [.int y23_0_0, .ref (ad 1), .ref (ad 2), .ref (ad 3), .ref (ad 4), .ref (ad 5), .int y23_0_6, .int y23_0_7, .int y23_0_8, .int y23_0_9, .int y23_0_10, .long wy23_0_11, .int y23_0_12, .int y23_0_13, .int y23_0_14, .int y23_0_15, .ref (ad 6), .ref (ad 7), .ref (ad 8), .ref (ad 9), .ref (ad 10), .ref (ad 11), .ref (ad 12), .ref (ad 13), .ref (ad 14), .ref (ad 15), .int y23_0_26, .int y23_0_27, .ref (ad 16), .int y23_0_29, .int y23_0_30, .int y23_0_31, .int y23_0_32, .int y23_0_33, .ref (ad 17), .ref (ad 18), .int y23_0_36, .ref (ad 19)]) → Hp g ad 20 S_23 (FA ad 20) s.heap H locs → lv_has ls 5 [(2, .int x23_2), (1, .int x23_1), (0, .ref (ad 0))] → W p l e (Rm 5) s m [.ref (ad 0)].toArray below meth c H locs 0 0 (MQ below (va_Qi (fun _ S' => InvM g ad S' ∧ (∀ j, j ∉ ([0, 14, 15] : List Nat) → S' j = S j)) (QB g ad 20) (FA ad 20)) [.ref (ad 0)].toArray s 0 0 (FA ad 20)) (F0 m 23 ls []) := by
      intro n
      induction n with
      | zero => intro S_23 H locs ls x23_1 x23_2 y23_0_0 y23_0_6 y23_0_7 y23_0_8 y23_0_9 y23_0_10 wy23_0_11 y23_0_12 y23_0_13 y23_0_14 y23_0_15 y23_0_26 y23_0_27 y23_0_29 y23_0_30 y23_0_31 y23_0_32 y23_0_33 y23_0_36 Bx23_2 By23_0_6 By23_0_7 By23_0_8 By23_0_12 By23_0_26 By23_0_27 By23_0_29 By23_0_30 By23_0_31 hn23_ hI hf23 cl23_0 hQ hl; exfalso; have := (Bx23_2).2; omega
      | succ n23_ ih23 =>
        intro S_23 H locs ls x23_1 x23_2 y23_0_0 y23_0_6 y23_0_7 y23_0_8 y23_0_9 y23_0_10 wy23_0_11 y23_0_12 y23_0_13 y23_0_14 y23_0_15 y23_0_26 y23_0_27 y23_0_29 y23_0_30 y23_0_31 y23_0_32 y23_0_33 y23_0_36 Bx23_2 By23_0_6 By23_0_7 By23_0_8 By23_0_12 By23_0_26 By23_0_27 By23_0_29 By23_0_30 By23_0_31 hn23_ hI hf23 cl23_0 hQ hl
        refine lv_iload_n hx hb dX12_argued_23 rfl (lv_at hl 0 rfl) ?_
        refine lv_aload_n hx hb dX12_argued_24 rfl (lv_at hl 2 rfl) ?_
        refine xget E hQ 0 (by decide) cl23_0 rfl 17 (by decide) q1485 rfl dX12_argued_25 ?_
        refine lv_bipush (v := 6) hx hb dX12_argued_28 (by decide) ?_
        have c72 : S_23 7 = .inl (g.2 0, 50, .inl f1) := ((hf23 7 (by decide)).trans ((o70 7 (by decide)).trans (up_ne eS60 (by decide) c2)))
        refine xiald E hQ 7 (by decide) c72 (vp_in_lit 6 50 (by decide)) dX12_argued_30 ?_
        refine sb_at (P := fun z => W _ _ _ _ _ _ _ _ _ _ _ _ _ _ _ (F0 _ _ _ (.int z :: _))) (show f1 (6 : Int32).toNatClampNeg = v13 from ee14) ?_
        refine lv_icmp_ge (tgt := 138) hx hb dX12_argued_31 (by decide) (fun k73 => ?_) (fun k73 => ?_)
        · have h74 := ib_le k73
          refine lv_iload_n hx hb dX12_argued_138 rfl (lv_at hl 1 rfl) ?_
          exact xri E hr hlk hQ (⟨hI, (o_trans (o_trans (up_o o_refl eS60 (by decide)) o70 (by decide)) hf23 (by decide))⟩) dX12_argued_139
        · have h75 := ib_nle k73
          have b76 : Bd x23_2 (0) (7) := ⟨(Bx23_2).1, ((rf_lt Bx23_2 b15 h75).1).2⟩
          have b77 : Bd v13 (1) (8) := ⟨((rf_lt Bx23_2 b15 h75).2).1, (b15).2⟩
          refine lv_aload_n hx hb dX12_argued_34 rfl (lv_at hl 2 rfl) ?_
          refine lv_iload_n hx hb dX12_argued_35 rfl (lv_at hl 0 rfl) ?_
          have q78 : elm (S_23 7) 0 = v7.toInt := (elm_of c72 0).trans (congrArg Int32.toInt (ee8))
          have q79 : elm (S_23 7) 1 = v4.toInt := (elm_of c72 1).trans (congrArg Int32.toInt (ee5))
          refine xcVv E hs hQ hml hl.1 0 (gX12_comesUp_0 l g ad hD S_23 hI x23_2 b76 (by omega) (by omega)) mX12_comesUp q1846 (by decide) cl23_0 rfl rfl ⟨(Nat.le_of_ble_eq_true rfl), (Nat.le_of_ble_eq_true rfl)⟩ ⟨(Nat.le_of_ble_eq_true rfl), (Nat.le_of_ble_eq_true rfl)⟩ (Nat.le_of_ble_eq_true rfl) rfl dX12_argued_36 (fun S80 H locs hp80 hQ _ => ?_)
          obtain ⟨hI, o80⟩ := hp80
          refine lv_aload_n hx hb dX12_argued_39 rfl (lv_at hl 2 rfl) ?_
          obtain ⟨v81, v82, v84, v86, v88, v89, w90, v91, v93, v94, v95, v96, v98, v100, v102, v104, v106, v107, v108, c109, b83, b85, b87, b92, b97, b99, b101, b103, b105⟩ := invM_0 hI
          have c109 : S80 0 = .inr (12, [.int v81, .ref (ad 1), .ref (ad 2), .ref (ad 3), .ref (ad 4), .ref (ad 5), .int v82, .int v84, .int v86, .int v88, .int v89, .long w90, .int v91, .int v93, .int v94, .int v95, .ref (ad 6), .ref (ad 7), .ref (ad 8), .ref (ad 9), .ref (ad 10), .ref (ad 11), .ref (ad 12), .ref (ad 13), .ref (ad 14), .ref (ad 15), .int v96, .int v98, .ref (ad 16), .int v100, .int v102, .int v104, .int v106, .int v107, .ref (ad 17), .ref (ad 18), .int v108, .ref (ad 19)]) := c109
          refine xget E hQ 0 (by decide) c109 rfl 27 (by decide) q1495 rfl dX12_argued_40 ?_
          refine lv_iconst (v := (-1)) hx hb dX12_argued_43 (by decide) ?_
          refine lv_icmp_ne (tgt := 50) hx hb dX12_argued_44 (by decide) (fun k110 => ?_) (fun k110 => ?_)
          · have h111 := ib_ne k110
            have b112 : Bd v98 (0) (400) := rf_nlo b99 (by decide : Bd (-1) (-1) (-1)) h111
            refine lv_iconst (v := 0) hx hb dX12_argued_50 (by decide) ?_
            refine lv_istore_n (lv' := [(3, .int 0), (2, .int x23_2), (1, .int x23_1), (0, .ref (ad 0))]) hx hb dX12_argued_51 rfl hl (by decide) rfl (fun ls hl => ?_)
            refine lv_iconst (v := 0) hx hb dX12_argued_52 (by decide) ?_
            refine lv_istore (lv' := [(4, .int 0), (3, .int 0), (2, .int x23_2), (1, .int x23_1), (0, .ref (ad 0))]) hx hb dX12_argued_53 hl (by decide) rfl (fun ls hl => ?_)
            have loop55 : ∀ (n : Nat) (H : Heap) (locs : List Loc) (ls : Array Slot) (x55_3 : Int32) (x55_4 : Int32), Bd x55_4 (0) (6) → (-1) * x55_4.toInt + 6 < ((n : Nat) : Int) → Hp g ad 20 S80 (FA ad 20) s.heap H locs → lv_has ls 5 [(4, .int x55_4), (3, .int x55_3), (2, .int x23_2), (1, .int x23_1), (0, .ref (ad 0))] → W p l e (Rm 5) s m [.ref (ad 0)].toArray below meth c H locs 0 0 (MQ below (va_Qi (fun _ S' => InvM g ad S' ∧ (∀ j, j ∉ ([0, 14, 15] : List Nat) → S' j = S j)) (QB g ad 20) (FA ad 20)) [.ref (ad 0)].toArray s 0 0 (FA ad 20)) (F0 m 55 ls []) := by
              intro n
              induction n with
              | zero => intro H locs ls x55_3 x55_4 Bx55_4 hn55_ hQ hl; exfalso; have := (Bx55_4).2; omega
              | succ n55_ ih55 =>
                intro H locs ls x55_3 x55_4 Bx55_4 hn55_ hQ hl
                refine lv_iload hx hb dX12_argued_55 (lv_at hl 0 rfl) ?_
                refine lv_aload_n hx hb dX12_argued_57 rfl (lv_at hl 4 rfl) ?_
                refine xget E hQ 0 (by decide) c109 rfl 17 (by decide) q1485 rfl dX12_argued_58 ?_
                refine lv_bipush (v := 7) hx hb dX12_argued_61 (by decide) ?_
                have c113 : S80 7 = .inl (g.2 0, 50, .inl f1) := ((o80 7 (by decide)).trans c72)
                refine xiald E hQ 7 (by decide) c113 (vp_in_lit 7 50 (by decide)) dX12_argued_63 ?_
                obtain ⟨v114, ee115⟩ : ∃ z : Int32, f1 7 = z := ⟨_, rfl⟩
                have b116 : Bd v114 (0) (6) := (by rw [← ee115]; exact b3.2.2.2.2.2.1 7 (by decide))
                refine sb_at (P := fun z => W _ _ _ _ _ _ _ _ _ _ _ _ _ _ _ (F0 _ _ _ (.int z :: _))) (show f1 (7 : Int32).toNatClampNeg = v114 from ee115) ?_
                refine lv_icmp_ge (tgt := 114) hx hb dX12_argued_64 (by decide) (fun k117 => ?_) (fun k117 => ?_)
                · have h118 := ib_le k117
                  refine lv_iload_n hx hb dX12_argued_114 rfl (lv_at hl 3 rfl) ?_
                  refine lv_iload_n hx hb dX12_argued_115 rfl (lv_at hl 1 rfl) ?_
                  refine xcSi E hs hQ hml hl.1 (gX12_sizeOf l g ad hD S80 hI x55_3) mX12_sizeOf q1895 rfl ⟨(Nat.le_of_ble_eq_true rfl), (Nat.le_of_ble_eq_true rfl)⟩ ⟨(Nat.le_of_ble_eq_true rfl), (Nat.le_of_ble_eq_true rfl)⟩ (Nat.le_of_ble_eq_true rfl) rfl dX12_argued_116 (fun r119 S119 H locs hp119 hQ => ?_)
                  subst hp119
                  refine lv_iconst (v := 1) hx hb dX12_argued_119 (by decide) ?_
                  refine lv_icmp_le (tgt := 129) hx hb dX12_argued_120 (by decide) (fun k120 => ?_) (fun k120 => ?_)
                  · have h121 := ib_le k120
                    have b122 : Bd r119 (-2147483648) (1) := ⟨((ib_full r119)).1, ((rf_le (ib_full r119) (by decide : Bd 1 (1) (1)) h121).1).2⟩
                    refine lv_iconst (v := 0) hx hb dX12_argued_129 (by decide) ?_
                    refine lv_ior hx hb dX12_argued_130 ?_
                    refine lv_topi (fun z123 e124 => ?_)
                    refine lv_istore_n (lv' := [(1, .int z123), (4, .int x55_4), (3, .int x55_3), (2, .int x23_2), (0, .ref (ad 0))]) hx hb dX12_argued_131 rfl hl (by decide) rfl (fun ls hl => ?_)
                    obtain ⟨z125, e126⟩ : ∃ z : Int32, z = x23_2 + 1 := ⟨_, rfl⟩
                    have t127 := ib_add e126 b76 (by decide : Bd 1 (1) (1)) (by decide) (by decide)
                    have b128 : Bd z125 (1) (8) := ib_addb t127 b76 (by decide : Bd 1 (1) (1))
                    have t127 : z125.toInt = x23_2.toInt + 1 := fold_add t127 rfl (by decide)
                    refine lv_iinc (v := z125) (lv' := [(2, .int z125), (1, .int z123), (4, .int x55_4), (3, .int x55_3), (0, .ref (ad 0))]) hx hb dX12_argued_132 hl (k := 3) rfl (by rw [e126]; rfl) (by decide) rfl (fun ls hl => ?_)
                    refine lv_goto (tgt := 23) hx hb dX12_argued_135 (by decide) ?_
                    exact ih23 _ _ _ _ z123 z125 v81 v82 v84 v86 v88 v89 w90 v91 v93 v94 v95 v96 v98 v100 v102 v104 v106 v107 v108 (ib_wk b128 (by decide) (by decide)) b83 b85 b87 b92 b97 (ib_wk b112 (by decide) (by decide)) b101 b103 b105 (by omega) hI (o_trans hf23 o80 (by decide)) c109 hQ (lv_sub hl [0, 1, 4] rfl)
                  · have h129 := ib_nle k120
                    have b130 : Bd r119 (2) (2147483647) := ⟨((rf_lt (by decide : Bd 1 (1) (1)) (ib_full r119) h129).2).1, ((ib_full r119)).2⟩
                    refine lv_iconst (v := 1) hx hb dX12_argued_123 (by decide) ?_
                    refine lv_iload_n hx hb dX12_argued_124 rfl (lv_at hl 2 rfl) ?_
                    refine lv_ishl hx hb dX12_argued_125 ?_
                    refine lv_topi (fun z131 e132 => ?_)
                    refine lv_goto (tgt := 130) hx hb dX12_argued_126 (by decide) ?_
                    refine lv_ior hx hb dX12_argued_130 ?_
                    refine lv_topi (fun z133 e134 => ?_)
                    refine lv_istore_n (lv' := [(1, .int z133), (4, .int x55_4), (3, .int x55_3), (2, .int x23_2), (0, .ref (ad 0))]) hx hb dX12_argued_131 rfl hl (by decide) rfl (fun ls hl => ?_)
                    obtain ⟨z135, e136⟩ : ∃ z : Int32, z = x23_2 + 1 := ⟨_, rfl⟩
                    have t137 := ib_add e136 b76 (by decide : Bd 1 (1) (1)) (by decide) (by decide)
                    have b138 : Bd z135 (1) (8) := ib_addb t137 b76 (by decide : Bd 1 (1) (1))
                    have t137 : z135.toInt = x23_2.toInt + 1 := fold_add t137 rfl (by decide)
                    refine lv_iinc (v := z135) (lv' := [(2, .int z135), (1, .int z133), (4, .int x55_4), (3, .int x55_3), (0, .ref (ad 0))]) hx hb dX12_argued_132 hl (k := 3) rfl (by rw [e136]; rfl) (by decide) rfl (fun ls hl => ?_)
                    refine lv_goto (tgt := 23) hx hb dX12_argued_135 (by decide) ?_
                    exact ih23 _ _ _ _ z133 z135 v81 v82 v84 v86 v88 v89 w90 v91 v93 v94 v95 v96 v98 v100 v102 v104 v106 v107 v108 (ib_wk b138 (by decide) (by decide)) b83 b85 b87 b92 b97 (ib_wk b112 (by decide) (by decide)) b101 b103 b105 (by omega) hI (o_trans hf23 o80 (by decide)) c109 hQ (lv_sub hl [0, 1, 4] rfl)
                · have h139 := ib_nle k117
                  have b140 : Bd x55_4 (0) (5) := ⟨(Bx55_4).1, ((rf_lt Bx55_4 b116 h139).1).2⟩
                  have b141 : Bd v114 (1) (6) := ⟨((rf_lt Bx55_4 b116 h139).2).1, (b116).2⟩
                  refine lv_iload_n hx hb dX12_argued_67 rfl (lv_at hl 1 rfl) ?_
                  refine lv_aload_n hx hb dX12_argued_68 rfl (lv_at hl 4 rfl) ?_
                  refine lv_iload hx hb dX12_argued_69 (lv_at hl 0 rfl) ?_
                  refine lv_aload_n hx hb dX12_argued_71 rfl (lv_at hl 4 rfl) ?_
                  refine xget E hQ 0 (by decide) c109 rfl 26 (by decide) q1494 rfl dX12_argued_72 ?_
                  refine lv_aload_n hx hb dX12_argued_75 rfl (lv_at hl 4 rfl) ?_
                  refine lv_aload_n hx hb dX12_argued_76 rfl (lv_at hl 4 rfl) ?_
                  refine xget E hQ 0 (by decide) c109 rfl 27 (by decide) q1495 rfl dX12_argued_77 ?_
                  have q142 : elm (S80 7) 1 = v4.toInt := (elm_of c113 1).trans (congrArg Int32.toInt (ee5))
                  refine xcVi E hs hQ hml hl.1 0 (gX12_phaseOf_0 l g ad hD S80 hI v98 (by omega)) mX12_phaseOf q1787 (by decide) c109 rfl rfl ⟨(Nat.le_of_ble_eq_true rfl), (Nat.le_of_ble_eq_true rfl)⟩ ⟨(Nat.le_of_ble_eq_true rfl), (Nat.le_of_ble_eq_true rfl)⟩ (Nat.le_of_ble_eq_true rfl) rfl dX12_argued_80 (fun r143 S143 H locs hp143 hQ _ => ?_)
                  obtain ⟨rfl, b143, fg143⟩ := hp143
                  refine xcVi E hs hQ hml hl.1 0 (gX12_stands_0 l g ad hD S80 hI x55_4 v96 r143 b140) mX12_stands q1866 (by decide) c109 rfl rfl ⟨(Nat.le_of_ble_eq_true rfl), (Nat.le_of_ble_eq_true rfl)⟩ ⟨(Nat.le_of_ble_eq_true rfl), (Nat.le_of_ble_eq_true rfl)⟩ (Nat.le_of_ble_eq_true rfl) rfl dX12_argued_83 (fun r144 S144 H locs hp144 hQ _ => ?_)
                  obtain ⟨rfl, b144, fg144⟩ := hp144
                  refine lv_if_eq (tgt := 105) hx hb dX12_argued_86 (by decide) (fun k145 => ?_) (fun k145 => ?_)
                  · have h146 := ib_eq k145
                    have b147 : Bd r144 (0) (0) := ⟨(b144).1, ((rf_eq b144 (by decide : Bd 0 (0) (0)) h146).1).2⟩
                    refine lv_iconst (v := 0) hx hb dX12_argued_105 (by decide) ?_
                    refine lv_ior hx hb dX12_argued_106 ?_
                    refine lv_topi (fun z148 e149 => ?_)
                    refine lv_istore_n (lv' := [(3, .int z148), (4, .int x55_4), (2, .int x23_2), (1, .int x23_1), (0, .ref (ad 0))]) hx hb dX12_argued_107 rfl hl (by decide) rfl (fun ls hl => ?_)
                    obtain ⟨z150, e151⟩ : ∃ z : Int32, z = x55_4 + 1 := ⟨_, rfl⟩
                    have t152 := ib_add e151 b140 (by decide : Bd 1 (1) (1)) (by decide) (by decide)
                    have b153 : Bd z150 (1) (6) := ib_addb t152 b140 (by decide : Bd 1 (1) (1))
                    have t152 : z150.toInt = x55_4.toInt + 1 := fold_add t152 rfl (by decide)
                    refine lv_iinc (v := z150) (lv' := [(4, .int z150), (3, .int z148), (2, .int x23_2), (1, .int x23_1), (0, .ref (ad 0))]) hx hb dX12_argued_108 hl (k := 1) rfl (by rw [e151]; rfl) (by decide) rfl (fun ls hl => ?_)
                    refine lv_goto (tgt := 55) hx hb dX12_argued_111 (by decide) ?_
                    exact ih55 _ _ _ z148 z150 (ib_wk b153 (by decide) (by decide)) (by omega) hQ (lv_sub hl [0, 1, 2, 3, 4] rfl)
                  · have h154 := ib_ne k145
                    have b155 : Bd r144 (1) (1) := rf_nlo b144 (by decide : Bd 0 (0) (0)) h154
                    refine lv_iconst (v := 1) hx hb dX12_argued_89 (by decide) ?_
                    refine lv_aload_n hx hb dX12_argued_90 rfl (lv_at hl 4 rfl) ?_
                    refine xget E hQ 0 (by decide) c109 rfl 20 (by decide) q1488 rfl dX12_argued_91 ?_
                    refine lv_iconst (v := 4) hx hb dX12_argued_94 (by decide) ?_
                    refine lv_iload hx hb dX12_argued_95 (lv_at hl 0 rfl) ?_
                    refine lv_imul hx hb dX12_argued_97 ?_
                    refine lv_topi (fun z156 e157 => ?_)
                    have t158 := ib_cmul (q := 4) e157 (by decide) (by decide) b140 (by decide) (by decide)
                    have b159 : Bd z156 (0) (20) := ib_mulb t158 (by decide) b140
                    refine lv_iconst (v := 3) hx hb dX12_argued_98 (by decide) ?_
                    refine lv_iadd hx hb dX12_argued_99 ?_
                    refine lv_topi (fun z160 e161 => ?_)
                    have t162 := ib_add e161 b159 (by decide : Bd 3 (3) (3)) (by decide) (by decide)
                    have b163 : Bd z160 (3) (23) := ib_addb t162 b159 (by decide : Bd 3 (3) (3))
                    have t162 : z160.toInt = z156.toInt + 3 := fold_add t162 rfl (by decide)
                    obtain ⟨f164, c165⟩ := invM_10 hI
                    refine xiald E hQ 10 (by decide) c165 (ib_in b163 (by decide) (by decide)) dX12_argued_100 ?_
                    refine lv_topi (fun z167 e168 => ?_)
                    refine lv_ishl hx hb dX12_argued_101 ?_
                    refine lv_topi (fun z169 e170 => ?_)
                    refine lv_goto (tgt := 106) hx hb dX12_argued_102 (by decide) ?_
                    refine lv_ior hx hb dX12_argued_106 ?_
                    refine lv_topi (fun z171 e172 => ?_)
                    refine lv_istore_n (lv' := [(3, .int z171), (4, .int x55_4), (2, .int x23_2), (1, .int x23_1), (0, .ref (ad 0))]) hx hb dX12_argued_107 rfl hl (by decide) rfl (fun ls hl => ?_)
                    obtain ⟨z173, e174⟩ : ∃ z : Int32, z = x55_4 + 1 := ⟨_, rfl⟩
                    have t175 := ib_add e174 b140 (by decide : Bd 1 (1) (1)) (by decide) (by decide)
                    have b176 : Bd z173 (1) (6) := ib_addb t175 b140 (by decide : Bd 1 (1) (1))
                    have t175 : z173.toInt = x55_4.toInt + 1 := fold_add t175 rfl (by decide)
                    refine lv_iinc (v := z173) (lv' := [(4, .int z173), (3, .int z171), (2, .int x23_2), (1, .int x23_1), (0, .ref (ad 0))]) hx hb dX12_argued_108 hl (k := 1) rfl (by rw [e174]; rfl) (by decide) rfl (fun ls hl => ?_)
                    refine lv_goto (tgt := 55) hx hb dX12_argued_111 (by decide) ?_
                    exact ih55 _ _ _ z171 z173 (ib_wk b176 (by decide) (by decide)) (by omega) hQ (lv_sub hl [0, 1, 2, 3, 4] rfl)
            obtain ⟨n55, hn55⟩ := fu_n (6)
            exact loop55 n55 _ _ _ 0 0 (ib_wk (by decide : Bd 0 (0) (0)) (by decide) (by decide)) (by have : (0 : Int32).toInt = 0 := (by decide); omega) hQ (lv_sub hl [0, 1, 2, 3, 4] rfl)
          · have h177 := ib_eq k110
            have b178 : Bd v98 (-1) (-1) := ⟨(b99).1, ((rf_eq b99 (by decide : Bd (-1) (-1) (-1)) h177).1).2⟩
            refine lv_goto (tgt := 132) hx hb dX12_argued_47 (by decide) ?_
            obtain ⟨z179, e180⟩ : ∃ z : Int32, z = x23_2 + 1 := ⟨_, rfl⟩
            have t181 := ib_add e180 b76 (by decide : Bd 1 (1) (1)) (by decide) (by decide)
            have b182 : Bd z179 (1) (8) := ib_addb t181 b76 (by decide : Bd 1 (1) (1))
            have t181 : z179.toInt = x23_2.toInt + 1 := fold_add t181 rfl (by decide)
            refine lv_iinc (v := z179) (lv' := [(2, .int z179), (1, .int x23_1), (0, .ref (ad 0))]) hx hb dX12_argued_132 hl (k := 0) rfl (by rw [e180]; rfl) (by decide) rfl (fun ls hl => ?_)
            refine lv_goto (tgt := 23) hx hb dX12_argued_135 (by decide) ?_
            exact ih23 _ _ _ _ x23_1 z179 v81 v82 v84 v86 v88 v89 w90 v91 v93 v94 v95 v96 v98 v100 v102 v104 v106 v107 v108 (ib_wk b182 (by decide) (by decide)) b83 b85 b87 b92 b97 (ib_wk b178 (by decide) (by decide)) b101 b103 b105 (by omega) hI (o_trans hf23 o80 (by decide)) c109 hQ (lv_sub hl [0, 1, 2] rfl)
    obtain ⟨n23, hn23⟩ := fu_n (8)
    exact loop23 n23 _ _ _ _ 0 0 0 v32 v34 v36 v38 v39 w40 v41 v43 v44 v45 v46 v48 v50 v52 v54 v56 v57 v58 (ib_wk (by decide : Bd 0 (0) (0)) (by decide) (by decide)) b33 b35 b37 b42 b47 b49 b51 b53 b55 (by have : (0 : Int32).toInt = 0 := (by decide); omega) hI o_refl c71 hQ (lv_sub hl [0, 1, 2] rfl)
  · have h183 := ib_eq k65
    have b184 : Bd r63 (0) (0) := ⟨(b63).1, ((rf_eq b63 (by decide : Bd 0 (0) (0)) h183).1).2⟩
    clear g63_0
    refine lv_bipush (v := (-2)) hx hb dX12_argued_12 (by decide) ?_
    exact xri E hr hlk hQ (⟨hI, (up_o o_refl eS60 (by decide))⟩) dX12_argued_14
set_option maxHeartbeats 4000000 in
set_option maxRecDepth 100000 in
theorem gX12_without_0 (l : Launch) (g : GG) (ad : Nat → Nat) (hD : Dj ad 20) (S : SS) (hI : InvM g ad S) (a1 : Int32) (a2 : Int32) (hq1 : 0 ≤ 12 * elm (S 7) 1 + (-1) * elm (S 7) 0) (hq2 : 0 ≤ 12 * elm (S 7) 3 + (-1) * elm (S 7) 0) (hq3 : 0 ≤ 8 * elm (S 7) 0 + (-1) * elm (S 7) 6) (hq4 : 0 ≤ 3 * elm (S 7) 0 + (-1) * elm (S 7) 8) (hq5 : 0 ≤ 40000 * elm (S 7) 0 + (-1) * elm (S 6) 0) (hAT : ATp (S 7) (S 12) 0) : Met l yX12_without (wG (.code yX12_without cX12_without 3 (some .int))) (Rm 6) (XPre g ad 20 S [.ref (ad 0), .int a1, .int a2]) (va_Qi (fun _ S' => InvM g ad S' ∧ (∀ j, j ∉ ([0, 14, 15] : List Nat) → S' j = S j)) (QB g ad 20) (FA ad 20)) 0 0 (FA ad 20) := by
  refine xmet cX12_without "EbbWreckModel" (by decide) rfl (Nat.le_of_ble_eq_true rfl) (fun p e s m below meth c E hr hlk hml hQ ls hl => ?_)
  have hx := E.1
  have hb := E.2.1
  have hs : Sp ad 20 (FA ad 20) := Sp.fa hD
  have hl : lv_has ls 3 [(0, .ref (ad 0)), (1, .int a1), (2, .int a2)] := hl
  obtain ⟨f1, c2, b3⟩ := invM_7 hI
  obtain ⟨v4, ee5⟩ : ∃ z : Int32, f1 1 = z := ⟨_, rfl⟩
  have b6 : Bd v4 (0) (12) := (by rw [← ee5]; exact b3.2.1 1 (by decide))
  obtain ⟨v7, ee8⟩ : ∃ z : Int32, f1 0 = z := ⟨_, rfl⟩
  have b9 : Bd v7 (0) (12) := (by rw [← ee8]; exact b3.1 0 (by decide))
  obtain ⟨v10, ee11⟩ : ∃ z : Int32, f1 3 = z := ⟨_, rfl⟩
  have b12 : Bd v10 (0) (12) := (by rw [← ee11]; exact b3.2.2.2.1 3 (by decide))
  obtain ⟨v13, ee14⟩ : ∃ z : Int32, f1 6 = z := ⟨_, rfl⟩
  have b15 : Bd v13 (0) (8) := (by rw [← ee14]; exact b3.2.2.2.2.1 6 (by decide))
  obtain ⟨v16, ee17⟩ : ∃ z : Int32, f1 8 = z := ⟨_, rfl⟩
  have b18 : Bd v16 (0) (3) := (by rw [← ee17]; exact b3.2.2.2.2.2.2.1 8 (by decide))
  obtain ⟨f19, c20, b21⟩ := invM_6 hI
  obtain ⟨v22, ee23⟩ : ∃ z : Int32, f19 0 = z := ⟨_, rfl⟩
  have b24 : Bd v22 (0) (40000) := (by rw [← ee23]; exact b21 0)
  have q25 : elm (S 7) 1 = v4.toInt := (elm_of c2 1).trans (congrArg Int32.toInt (ee5))
  have q26 : elm (S 7) 0 = v7.toInt := (elm_of c2 0).trans (congrArg Int32.toInt (ee8))
  have q27 : elm (S 7) 3 = v10.toInt := (elm_of c2 3).trans (congrArg Int32.toInt (ee11))
  have q28 : elm (S 7) 6 = v13.toInt := (elm_of c2 6).trans (congrArg Int32.toInt (ee14))
  have q29 : elm (S 7) 8 = v16.toInt := (elm_of c2 8).trans (congrArg Int32.toInt (ee17))
  have q30 : elm (S 6) 0 = v22.toInt := (elm_of c20 0).trans (congrArg Int32.toInt (ee23))
  refine lv_aload_n hx hb dX12_without_0 rfl (lv_at hl 0 rfl) ?_
  refine lv_iconst (v := 0) hx hb dX12_without_1 (by decide) ?_
  obtain ⟨v31, v32, v34, v36, v38, v39, w40, v41, v43, v44, v45, v46, v48, v50, v52, v54, v56, v57, v58, c59, b33, b35, b37, b42, b47, b49, b51, b53, b55⟩ := invM_0 hI
  have c59 : S 0 = .inr (12, [.int v31, .ref (ad 1), .ref (ad 2), .ref (ad 3), .ref (ad 4), .ref (ad 5), .int v32, .int v34, .int v36, .int v38, .int v39, .long w40, .int v41, .int v43, .int v44, .int v45, .ref (ad 6), .ref (ad 7), .ref (ad 8), .ref (ad 9), .ref (ad 10), .ref (ad 11), .ref (ad 12), .ref (ad 13), .ref (ad 14), .ref (ad 15), .int v46, .int v48, .ref (ad 16), .int v50, .int v52, .int v54, .int v56, .int v57, .ref (ad 17), .ref (ad 18), .int v58, .ref (ad 19)]) := c59
  refine xputi E hs hQ 0 (by decide) c59 rfl 0 (by decide) q1468 rfl rfl (Nat.le_of_ble_eq_true rfl) dX12_without_2 (fun H locs S60 eS60 hQ => ?_)
  have hI := invM_up_0 hI eS60 ⟨0, v32, v34, v36, v38, v39, w40, v41, v43, v44, v45, v46, v48, v50, v52, v54, v56, v57, v58, rfl, b33, b35, b37, b42, b47, b49, b51, b53, b55⟩
  have c61 : S60 0 = .inr (12, [.int 0, .ref (ad 1), .ref (ad 2), .ref (ad 3), .ref (ad 4), .ref (ad 5), .int v32, .int v34, .int v36, .int v38, .int v39, .long w40, .int v41, .int v43, .int v44, .int v45, .ref (ad 6), .ref (ad 7), .ref (ad 8), .ref (ad 9), .ref (ad 10), .ref (ad 11), .ref (ad 12), .ref (ad 13), .ref (ad 14), .ref (ad 15), .int v46, .int v48, .ref (ad 16), .int v50, .int v52, .int v54, .int v56, .int v57, .ref (ad 17), .ref (ad 18), .int v58, .ref (ad 19)]) := up_at eS60 rfl
  refine lv_aload_n hx hb dX12_without_5 rfl (lv_at hl 0 rfl) ?_
  refine lv_iload_n hx hb dX12_without_6 rfl (lv_at hl 1 rfl) ?_
  have c62 : S60 7 = .inl (g.2 0, 50, .inl f1) := (up_ne eS60 (by decide) c2)
  obtain ⟨v63, ee64⟩ : ∃ z : Int32, f1 7 = z := ⟨_, rfl⟩
  have b65 : Bd v63 (0) (6) := (by rw [← ee64]; exact b3.2.2.2.2.2.1 7 (by decide))
  refine xcVi E hs hQ hml hl.1 0 (gX12_isRule_0 l g ad hD S60 hI a1) mX12_isRule q1774 (by decide) c61 rfl rfl ⟨(Nat.le_of_ble_eq_true rfl), (Nat.le_of_ble_eq_true rfl)⟩ ⟨(Nat.le_of_ble_eq_true rfl), (Nat.le_of_ble_eq_true rfl)⟩ (Nat.le_of_ble_eq_true rfl) rfl dX12_without_7 (fun r66 S66 H locs hp66 hQ _ => ?_)
  obtain ⟨rfl, b66, g66_0⟩ := hp66
  have q67 : elm (S60 7) 7 = v63.toInt := (elm_of c62 7).trans (congrArg Int32.toInt (ee64))
  refine lv_if_eq (tgt := 21) hx hb dX12_without_10 (by decide) (fun k68 => ?_) (fun k68 => ?_)
  · have h69 := ib_eq k68
    have b70 : Bd r66 (0) (0) := ⟨(b66).1, ((rf_eq b66 (by decide : Bd 0 (0) (0)) h69).1).2⟩
    clear g66_0
    refine lv_bipush (v := (-2)) hx hb dX12_without_21 (by decide) ?_
    exact xri E hr hlk hQ (⟨hI, (up_o o_refl eS60 (by decide))⟩) dX12_without_23
  · have h71 := ib_ne k68
    have b72 : Bd r66 (1) (1) := rf_nlo b66 (by decide : Bd 0 (0) (0)) h71
    have g73 := g66_0.resolve_left (by omega)
    clear g66_0
    have b74 : Bd a1 (0) (5) := ⟨by omega, by omega⟩
    have b75 : Bd v63 (1) (6) := ⟨by omega, (b65).2⟩
    refine lv_aload_n hx hb dX12_without_13 rfl (lv_at hl 0 rfl) ?_
    refine lv_iload_n hx hb dX12_without_14 rfl (lv_at hl 2 rfl) ?_
    have c76 : S60 6 = .inl (g.2 0, 5, .inl f19) := (up_ne eS60 (by decide) c20)
    refine xcVi E hs hQ hml hl.1 0 (gX12_isParty_0 l g ad hD S60 hI a2) mX12_isParty q1874 (by decide) c61 rfl rfl ⟨(Nat.le_of_ble_eq_true rfl), (Nat.le_of_ble_eq_true rfl)⟩ ⟨(Nat.le_of_ble_eq_true rfl), (Nat.le_of_ble_eq_true rfl)⟩ (Nat.le_of_ble_eq_true rfl) rfl dX12_without_15 (fun r77 S77 H locs hp77 hQ _ => ?_)
    obtain ⟨rfl, b77, g77_0⟩ := hp77
    have q78 : elm (S60 6) 0 = v22.toInt := (elm_of c76 0).trans (congrArg Int32.toInt (ee23))
    refine lv_if_ne (tgt := 24) hx hb dX12_without_18 (by decide) (fun k79 => ?_) (fun k79 => ?_)
    · have h80 := ib_ne k79
      have b81 : Bd r77 (1) (1) := rf_nlo b77 (by decide : Bd 0 (0) (0)) h80
      have g82 := g77_0.resolve_left (by omega)
      clear g77_0
      have b83 : Bd v22 (1) (40000) := ⟨by omega, (b24).2⟩
      have b84 : Bd a2 (0) (5) := ⟨by omega, by omega⟩
      refine lv_aload_n hx hb dX12_without_24 rfl (lv_at hl 0 rfl) ?_
      refine xcVv E hs hQ hml hl.1 0 (gX12_lays_0 l g ad hD S60 hI (at_tr hAT (up_eq (j := 7) eS60 (by decide)) (up_eq (j := 12) eS60 (by decide)))) mX12_lays q1820 (by decide) c61 rfl rfl ⟨(Nat.le_of_ble_eq_true rfl), (Nat.le_of_ble_eq_true rfl)⟩ ⟨(Nat.le_of_ble_eq_true rfl), (Nat.le_of_ble_eq_true rfl)⟩ (Nat.le_of_ble_eq_true rfl) rfl dX12_without_25 (fun S85 H locs hp85 hQ _ => ?_)
      obtain ⟨hI, o85⟩ := hp85
      refine lv_aload_n hx hb dX12_without_28 rfl (lv_at hl 0 rfl) ?_
      refine lv_iload_n hx hb dX12_without_29 rfl (lv_at hl 2 rfl) ?_
      refine lv_iload_n hx hb dX12_without_30 rfl (lv_at hl 1 rfl) ?_
      refine lv_iconst (v := 0) hx hb dX12_without_31 (by decide) ?_
      have c86 : S85 7 = .inl (g.2 0, 50, .inl f1) := ((o85 7 (by decide)).trans c62)
      have q87 : elm (S85 7) 0 = v7.toInt := (elm_of c86 0).trans (congrArg Int32.toInt (ee8))
      have q88 : elm (S85 7) 1 = v4.toInt := (elm_of c86 1).trans (congrArg Int32.toInt (ee5))
      have c90 : S85 0 = .inr (12, [.int 0, .ref (ad 1), .ref (ad 2), .ref (ad 3), .ref (ad 4), .ref (ad 5), .int v32, .int v34, .int v36, .int v38, .int v39, .long w40, .int v41, .int v43, .int v44, .int v45, .ref (ad 6), .ref (ad 7), .ref (ad 8), .ref (ad 9), .ref (ad 10), .ref (ad 11), .ref (ad 12), .ref (ad 13), .ref (ad 14), .ref (ad 15), .int v46, .int v48, .ref (ad 16), .int v50, .int v52, .int v54, .int v56, .int v57, .ref (ad 17), .ref (ad 18), .int v58, .ref (ad 19)]) := ((o85 0 (by decide)).trans c61)
      refine xcVi E hs hQ hml hl.1 0 (gX12_hasOf_0 l g ad hD S85 hI a2 a1 0 (by omega) (by omega)) mX12_hasOf q1879 (by decide) c90 rfl rfl ⟨(Nat.le_of_ble_eq_true rfl), (Nat.le_of_ble_eq_true rfl)⟩ ⟨(Nat.le_of_ble_eq_true rfl), (Nat.le_of_ble_eq_true rfl)⟩ (Nat.le_of_ble_eq_true rfl) rfl dX12_without_32 (fun r89 S89 H locs hp89 hQ _ => ?_)
      obtain ⟨hI, o89⟩ := hp89
      exact xri E hr hlk hQ (⟨hI, (o_trans (o_trans (up_o o_refl eS60 (by decide)) o85 (by decide)) o89 (by decide))⟩) dX12_without_35
    · have h91 := ib_eq k79
      have b92 : Bd r77 (0) (0) := ⟨(b77).1, ((rf_eq b77 (by decide : Bd 0 (0) (0)) h91).1).2⟩
      clear g77_0
      refine lv_bipush (v := (-2)) hx hb dX12_without_21 (by decide) ?_
      exact xri E hr hlk hQ (⟨hI, (up_o o_refl eS60 (by decide))⟩) dX12_without_23
set_option maxHeartbeats 4000000 in
set_option maxRecDepth 100000 in
theorem gX12_strike_0 (l : Launch) (g : GG) (ad : Nat → Nat) (hD : Dj ad 20) (S : SS) (hI : InvM g ad S) (a1 : Int32) (hq1 : 0 ≤ 12 * elm (S 7) 1 + (-1) * elm (S 7) 0) (hq2 : 0 ≤ 12 * elm (S 7) 3 + (-1) * elm (S 7) 0) (hq3 : 0 ≤ 8 * elm (S 7) 0 + (-1) * elm (S 7) 6) (hq4 : 0 ≤ 3 * elm (S 7) 0 + (-1) * elm (S 7) 8) (hq5 : 0 ≤ 40000 * elm (S 7) 0 + (-1) * elm (S 6) 0) (hAT : ATp (S 7) (S 12) 0) : Met l yX12_strike (wG (.code yX12_strike cX12_strike 6 (some .int))) (Rm 6) (XPre g ad 20 S [.ref (ad 0), .int a1]) (va_Qi (fun r S' => InvM g ad S' ∧ (∀ j, j ∉ ([0, 14, 15] : List Nat) → S' j = S j) ∧ Bd r (-2) (5)) (QB g ad 20) (FA ad 20)) 0 0 (FA ad 20) := by
  refine xmet cX12_strike "EbbWreckModel" (by decide) rfl (Nat.le_of_ble_eq_true rfl) (fun p e s m below meth c E hr hlk hml hQ ls hl => ?_)
  have hx := E.1
  have hb := E.2.1
  have hs : Sp ad 20 (FA ad 20) := Sp.fa hD
  have hl : lv_has ls 6 [(0, .ref (ad 0)), (1, .int a1)] := hl
  obtain ⟨f1, c2, b3⟩ := invM_7 hI
  obtain ⟨v4, ee5⟩ : ∃ z : Int32, f1 1 = z := ⟨_, rfl⟩
  have b6 : Bd v4 (0) (12) := (by rw [← ee5]; exact b3.2.1 1 (by decide))
  obtain ⟨v7, ee8⟩ : ∃ z : Int32, f1 0 = z := ⟨_, rfl⟩
  have b9 : Bd v7 (0) (12) := (by rw [← ee8]; exact b3.1 0 (by decide))
  obtain ⟨v10, ee11⟩ : ∃ z : Int32, f1 3 = z := ⟨_, rfl⟩
  have b12 : Bd v10 (0) (12) := (by rw [← ee11]; exact b3.2.2.2.1 3 (by decide))
  obtain ⟨v13, ee14⟩ : ∃ z : Int32, f1 6 = z := ⟨_, rfl⟩
  have b15 : Bd v13 (0) (8) := (by rw [← ee14]; exact b3.2.2.2.2.1 6 (by decide))
  obtain ⟨v16, ee17⟩ : ∃ z : Int32, f1 8 = z := ⟨_, rfl⟩
  have b18 : Bd v16 (0) (3) := (by rw [← ee17]; exact b3.2.2.2.2.2.2.1 8 (by decide))
  obtain ⟨f19, c20, b21⟩ := invM_6 hI
  obtain ⟨v22, ee23⟩ : ∃ z : Int32, f19 0 = z := ⟨_, rfl⟩
  have b24 : Bd v22 (0) (40000) := (by rw [← ee23]; exact b21 0)
  have q25 : elm (S 7) 1 = v4.toInt := (elm_of c2 1).trans (congrArg Int32.toInt (ee5))
  have q26 : elm (S 7) 0 = v7.toInt := (elm_of c2 0).trans (congrArg Int32.toInt (ee8))
  have q27 : elm (S 7) 3 = v10.toInt := (elm_of c2 3).trans (congrArg Int32.toInt (ee11))
  have q28 : elm (S 7) 6 = v13.toInt := (elm_of c2 6).trans (congrArg Int32.toInt (ee14))
  have q29 : elm (S 7) 8 = v16.toInt := (elm_of c2 8).trans (congrArg Int32.toInt (ee17))
  have q30 : elm (S 6) 0 = v22.toInt := (elm_of c20 0).trans (congrArg Int32.toInt (ee23))
  refine lv_aload_n hx hb dX12_strike_0 rfl (lv_at hl 0 rfl) ?_
  refine lv_iconst (v := 0) hx hb dX12_strike_1 (by decide) ?_
  obtain ⟨v31, v32, v34, v36, v38, v39, w40, v41, v43, v44, v45, v46, v48, v50, v52, v54, v56, v57, v58, c59, b33, b35, b37, b42, b47, b49, b51, b53, b55⟩ := invM_0 hI
  have c59 : S 0 = .inr (12, [.int v31, .ref (ad 1), .ref (ad 2), .ref (ad 3), .ref (ad 4), .ref (ad 5), .int v32, .int v34, .int v36, .int v38, .int v39, .long w40, .int v41, .int v43, .int v44, .int v45, .ref (ad 6), .ref (ad 7), .ref (ad 8), .ref (ad 9), .ref (ad 10), .ref (ad 11), .ref (ad 12), .ref (ad 13), .ref (ad 14), .ref (ad 15), .int v46, .int v48, .ref (ad 16), .int v50, .int v52, .int v54, .int v56, .int v57, .ref (ad 17), .ref (ad 18), .int v58, .ref (ad 19)]) := c59
  refine xputi E hs hQ 0 (by decide) c59 rfl 0 (by decide) q1468 rfl rfl (Nat.le_of_ble_eq_true rfl) dX12_strike_2 (fun H locs S60 eS60 hQ => ?_)
  have hI := invM_up_0 hI eS60 ⟨0, v32, v34, v36, v38, v39, w40, v41, v43, v44, v45, v46, v48, v50, v52, v54, v56, v57, v58, rfl, b33, b35, b37, b42, b47, b49, b51, b53, b55⟩
  have c61 : S60 0 = .inr (12, [.int 0, .ref (ad 1), .ref (ad 2), .ref (ad 3), .ref (ad 4), .ref (ad 5), .int v32, .int v34, .int v36, .int v38, .int v39, .long w40, .int v41, .int v43, .int v44, .int v45, .ref (ad 6), .ref (ad 7), .ref (ad 8), .ref (ad 9), .ref (ad 10), .ref (ad 11), .ref (ad 12), .ref (ad 13), .ref (ad 14), .ref (ad 15), .int v46, .int v48, .ref (ad 16), .int v50, .int v52, .int v54, .int v56, .int v57, .ref (ad 17), .ref (ad 18), .int v58, .ref (ad 19)]) := up_at eS60 rfl
  refine lv_aload_n hx hb dX12_strike_5 rfl (lv_at hl 0 rfl) ?_
  refine lv_iload_n hx hb dX12_strike_6 rfl (lv_at hl 1 rfl) ?_
  have c62 : S60 6 = .inl (g.2 0, 5, .inl f19) := (up_ne eS60 (by decide) c20)
  refine xcVi E hs hQ hml hl.1 0 (gX12_isParty_0 l g ad hD S60 hI a1) mX12_isParty q1874 (by decide) c61 rfl rfl ⟨(Nat.le_of_ble_eq_true rfl), (Nat.le_of_ble_eq_true rfl)⟩ ⟨(Nat.le_of_ble_eq_true rfl), (Nat.le_of_ble_eq_true rfl)⟩ (Nat.le_of_ble_eq_true rfl) rfl dX12_strike_7 (fun r63 S63 H locs hp63 hQ _ => ?_)
  obtain ⟨rfl, b63, g63_0⟩ := hp63
  have q64 : elm (S60 6) 0 = v22.toInt := (elm_of c62 0).trans (congrArg Int32.toInt (ee23))
  refine lv_if_ne (tgt := 16) hx hb dX12_strike_10 (by decide) (fun k65 => ?_) (fun k65 => ?_)
  · have h66 := ib_ne k65
    have b67 : Bd r63 (1) (1) := rf_nlo b63 (by decide : Bd 0 (0) (0)) h66
    have g68 := g63_0.resolve_left (by omega)
    clear g63_0
    have b69 : Bd v22 (1) (40000) := ⟨by omega, (b24).2⟩
    have b70 : Bd a1 (0) (5) := ⟨by omega, by omega⟩
    refine lv_aload_n hx hb dX12_strike_16 rfl (lv_at hl 0 rfl) ?_
    refine xcVv E hs hQ hml hl.1 0 (gX12_lays_0 l g ad hD S60 hI (at_tr hAT (up_eq (j := 7) eS60 (by decide)) (up_eq (j := 12) eS60 (by decide)))) mX12_lays q1820 (by decide) c61 rfl rfl ⟨(Nat.le_of_ble_eq_true rfl), (Nat.le_of_ble_eq_true rfl)⟩ ⟨(Nat.le_of_ble_eq_true rfl), (Nat.le_of_ble_eq_true rfl)⟩ (Nat.le_of_ble_eq_true rfl) rfl dX12_strike_17 (fun S71 H locs hp71 hQ _ => ?_)
    obtain ⟨hI, o71⟩ := hp71
    refine lv_iconst (v := (-1)) hx hb dX12_strike_20 (by decide) ?_
    refine lv_istore_n (lv' := [(2, .int (-1)), (0, .ref (ad 0)), (1, .int a1)]) hx hb dX12_strike_21 rfl hl (by decide) rfl (fun ls hl => ?_)
    refine lv_aload_n hx hb dX12_strike_22 rfl (lv_at hl 1 rfl) ?_
    refine lv_iload_n hx hb dX12_strike_23 rfl (lv_at hl 2 rfl) ?_
    refine lv_iconst (v := (-1)) hx hb dX12_strike_24 (by decide) ?_
    refine lv_iconst (v := 0) hx hb dX12_strike_25 (by decide) ?_
    have c72 : S71 7 = .inl (g.2 0, 50, .inl f1) := ((o71 7 (by decide)).trans (up_ne eS60 (by decide) c2))
    have q73 : elm (S71 7) 0 = v7.toInt := (elm_of c72 0).trans (congrArg Int32.toInt (ee8))
    have q74 : elm (S71 7) 1 = v4.toInt := (elm_of c72 1).trans (congrArg Int32.toInt (ee5))
    have c76 : S71 0 = .inr (12, [.int 0, .ref (ad 1), .ref (ad 2), .ref (ad 3), .ref (ad 4), .ref (ad 5), .int v32, .int v34, .int v36, .int v38, .int v39, .long w40, .int v41, .int v43, .int v44, .int v45, .ref (ad 6), .ref (ad 7), .ref (ad 8), .ref (ad 9), .ref (ad 10), .ref (ad 11), .ref (ad 12), .ref (ad 13), .ref (ad 14), .ref (ad 15), .int v46, .int v48, .ref (ad 16), .int v50, .int v52, .int v54, .int v56, .int v57, .ref (ad 17), .ref (ad 18), .int v58, .ref (ad 19)]) := ((o71 0 (by decide)).trans c61)
    refine xcVi E hs hQ hml hl.1 0 (gX12_hasOf_0 l g ad hD S71 hI a1 (-1) 0 (by omega) (by omega)) mX12_hasOf q1879 (by decide) c76 rfl rfl ⟨(Nat.le_of_ble_eq_true rfl), (Nat.le_of_ble_eq_true rfl)⟩ ⟨(Nat.le_of_ble_eq_true rfl), (Nat.le_of_ble_eq_true rfl)⟩ (Nat.le_of_ble_eq_true rfl) rfl dX12_strike_26 (fun r75 S75 H locs hp75 hQ _ => ?_)
    obtain ⟨hI, o75⟩ := hp75
    refine lv_istore_n (lv' := [(3, .int r75), (2, .int (-1)), (0, .ref (ad 0)), (1, .int a1)]) hx hb dX12_strike_29 rfl hl (by decide) rfl (fun ls hl => ?_)
    refine lv_iconst (v := 0) hx hb dX12_strike_30 (by decide) ?_
    refine lv_istore (lv' := [(4, .int 0), (3, .int r75), (2, .int (-1)), (0, .ref (ad 0)), (1, .int a1)]) hx hb dX12_strike_31 hl (by decide) rfl (fun ls hl => ?_)
    obtain ⟨v77, v78, v80, v82, v84, v85, w86, v87, v89, v90, v91, v92, v94, v96, v98, v100, v102, v103, v104, c105, b79, b81, b83, b88, b93, b95, b97, b99, b101⟩ := invM_0 hI
    have c105 : S75 0 = .inr (12, [.int v77, .ref (ad 1), .ref (ad 2), .ref (ad 3), .ref (ad 4), .ref (ad 5), .int v78, .int v80, .int v82, .int v84, .int v85, .long w86, .int v87, .int v89, .int v90, .int v91, .ref (ad 6), .ref (ad 7), .ref (ad 8), .ref (ad 9), .ref (ad 10), .ref (ad 11), .ref (ad 12), .ref (ad 13), .ref (ad 14), .ref (ad 15), .int v92, .int v94, .ref (ad 16), .int v96, .int v98, .int v100, .int v102, .int v103, .ref (ad 17), .ref (ad 18), .int v104, .ref (ad 19)]) := c105
    have loop33 : ∀ (n : Nat) (S_33 : SS) (H : Heap) (locs : List Loc) (ls : Array Slot) (x33_2 : Int32) (x33_3 : Int32) (x33_4 : Int32) (y33_0_0 : Int32) (y33_0_6 : Int32) (y33_0_7 : Int32) (y33_0_8 : Int32) (y33_0_9 : Int32) (y33_0_10 : Int32) (wy33_0_11 : Int64) (y33_0_12 : Int32) (y33_0_13 : Int32) (y33_0_14 : Int32) (y33_0_15 : Int32) (y33_0_26 : Int32) (y33_0_27 : Int32) (y33_0_29 : Int32) (y33_0_30 : Int32) (y33_0_31 : Int32) (y33_0_32 : Int32) (y33_0_33 : Int32) (y33_0_36 : Int32), Bd x33_2 (-1) (5) → Bd x33_4 (0) (6) → Bd y33_0_6 (0) (1200) → Bd y33_0_7 (0) (1200) → Bd y33_0_8 (0) (4) → Bd y33_0_12 (0) (3) → Bd y33_0_26 (0) (11) → Bd y33_0_27 (-1) (400) → Bd y33_0_29 (0) (2) → Bd y33_0_30 (0) (11) → Bd y33_0_31 (-1) (468) → (-1) * x33_4.toInt + 6 < ((n : Nat) : Int) → InvM g ad S_33 → (∀ j, j ∉ ([0] : List Nat) → S_33 j = S75 j) → S_33 0 = .inr (12, [.int y33_0_0, .ref (ad 1), .ref (ad 2), .ref (ad 3), .ref (ad 4), .ref (ad 5), .int y33_0_6, .int y33_0_7, .int y33_0_8, .int y33_0_9, .int y33_0_10, .long wy33_0_11, .int y33_0_12, .int y33_0_13, .int y33_0_14, .int y33_0_15, .ref (ad 6), .ref (ad 7), .ref (ad 8), .ref (ad 9), .ref (ad 10), .ref (ad 11), .ref (ad 12), .ref (ad 13), .ref (ad 14), .ref (ad 15), .int y33_0_26, .int y33_0_27, .ref (ad 16), .int y33_0_29, .int y33_0_30, .int y33_0_31, .int y33_0_32, .int y33_0_33, .ref (ad 17), .ref (ad 18), .int y33_0_36, .ref (ad 19)]) → Hp g ad 20 S_33 (FA ad 20) s.heap H locs → lv_has ls 6 [(4, .int x33_4), (3, .int x33_3), (2, .int x33_2), (0, .ref (ad 0)), (1, .int a1)] → W p l e (Rm 6) s m [.ref (ad 0), .int a1].toArray below meth c H locs 0 0 (MQ below (va_Qi (fun r S' => InvM g ad S' ∧ (∀ j, j ∉ ([0, 14, 15] : List Nat) → S' j = S j) ∧ Bd r (-2) (5)) (QB g ad 20) (FA ad 20)) [.ref (ad 0), .int a1].toArray s 0 0 (FA ad 20)) (F0 m 33 ls []) := by
      intro n
      induction n with
      | zero => intro S_33 H locs ls x33_2 x33_3 x33_4 y33_0_0 y33_0_6 y33_0_7 y33_0_8 y33_0_9 y33_0_10 wy33_0_11 y33_0_12 y33_0_13 y33_0_14 y33_0_15 y33_0_26 y33_0_27 y33_0_29 y33_0_30 y33_0_31 y33_0_32 y33_0_33 y33_0_36 Bx33_2 Bx33_4 By33_0_6 By33_0_7 By33_0_8 By33_0_12 By33_0_26 By33_0_27 By33_0_29 By33_0_30 By33_0_31 hn33_ hI hf33 cl33_0 hQ hl; exfalso; have := (Bx33_4).2; omega
      | succ n33_ ih33 =>
        intro S_33 H locs ls x33_2 x33_3 x33_4 y33_0_0 y33_0_6 y33_0_7 y33_0_8 y33_0_9 y33_0_10 wy33_0_11 y33_0_12 y33_0_13 y33_0_14 y33_0_15 y33_0_26 y33_0_27 y33_0_29 y33_0_30 y33_0_31 y33_0_32 y33_0_33 y33_0_36 Bx33_2 Bx33_4 By33_0_6 By33_0_7 By33_0_8 By33_0_12 By33_0_26 By33_0_27 By33_0_29 By33_0_30 By33_0_31 hn33_ hI hf33 cl33_0 hQ hl
        refine lv_iload hx hb dX12_strike_33 (lv_at hl 0 rfl) ?_
        refine lv_aload_n hx hb dX12_strike_35 rfl (lv_at hl 3 rfl) ?_
        refine xget E hQ 0 (by decide) cl33_0 rfl 17 (by decide) q1485 rfl dX12_strike_36 ?_
        refine lv_bipush (v := 7) hx hb dX12_strike_39 (by decide) ?_
        have c106 : S_33 7 = .inl (g.2 0, 50, .inl f1) := ((hf33 7 (by decide)).trans ((o75 7 (by decide)).trans c72))
        refine xiald E hQ 7 (by decide) c106 (vp_in_lit 7 50 (by decide)) dX12_strike_41 ?_
        obtain ⟨v107, ee108⟩ : ∃ z : Int32, f1 7 = z := ⟨_, rfl⟩
        have b109 : Bd v107 (0) (6) := (by rw [← ee108]; exact b3.2.2.2.2.2.1 7 (by decide))
        refine sb_at (P := fun z => W _ _ _ _ _ _ _ _ _ _ _ _ _ _ _ (F0 _ _ _ (.int z :: _))) (show f1 (7 : Int32).toNatClampNeg = v107 from ee108) ?_
        refine lv_icmp_ge (tgt := 76) hx hb dX12_strike_42 (by decide) (fun k110 => ?_) (fun k110 => ?_)
        · have h111 := ib_le k110
          refine lv_iload_n hx hb dX12_strike_76 rfl (lv_at hl 2 rfl) ?_
          exact xri E hr hlk hQ (⟨hI, (o_trans (o_trans (o_trans (up_o o_refl eS60 (by decide)) o71 (by decide)) o75 (by decide)) hf33 (by decide)), (ib_wk Bx33_2 (by decide) (by decide))⟩) dX12_strike_77
        · have h112 := ib_nle k110
          have b113 : Bd x33_4 (0) (5) := ⟨(Bx33_4).1, ((rf_lt Bx33_4 b109 h112).1).2⟩
          have b114 : Bd v107 (1) (6) := ⟨((rf_lt Bx33_4 b109 h112).2).1, (b109).2⟩
          refine lv_aload_n hx hb dX12_strike_45 rfl (lv_at hl 3 rfl) ?_
          refine lv_iload_n hx hb dX12_strike_46 rfl (lv_at hl 4 rfl) ?_
          refine lv_iload hx hb dX12_strike_47 (lv_at hl 0 rfl) ?_
          refine lv_iconst (v := 0) hx hb dX12_strike_49 (by decide) ?_
          have q115 : elm (S_33 7) 0 = v7.toInt := (elm_of c106 0).trans (congrArg Int32.toInt (ee8))
          have q116 : elm (S_33 7) 1 = v4.toInt := (elm_of c106 1).trans (congrArg Int32.toInt (ee5))
          refine xcVi E hs hQ hml hl.1 0 (gX12_hasOf_0 l g ad hD S_33 hI a1 x33_4 0 (by omega) (by omega)) mX12_hasOf q1879 (by decide) cl33_0 rfl rfl ⟨(Nat.le_of_ble_eq_true rfl), (Nat.le_of_ble_eq_true rfl)⟩ ⟨(Nat.le_of_ble_eq_true rfl), (Nat.le_of_ble_eq_true rfl)⟩ (Nat.le_of_ble_eq_true rfl) rfl dX12_strike_50 (fun r117 S117 H locs hp117 hQ _ => ?_)
          obtain ⟨hI, o117⟩ := hp117
          refine lv_istore (lv' := [(5, .int r117), (4, .int x33_4), (3, .int x33_3), (2, .int x33_2), (0, .ref (ad 0)), (1, .int a1)]) hx hb dX12_strike_53 hl (by decide) rfl (fun ls hl => ?_)
          refine lv_iload hx hb dX12_strike_55 (lv_at hl 0 rfl) ?_
          refine lv_iload_n hx hb dX12_strike_57 rfl (lv_at hl 2 rfl) ?_
          refine lv_icmp_gt (tgt := 64) hx hb dX12_strike_58 (by decide) (fun k118 => ?_) (fun k118 => ?_)
          · have h119 := ib_lt k118
            have b120 : Bd x33_3 (-2147483648) (2147483646) := ⟨((ib_full x33_3)).1, ((rf_lt (ib_full x33_3) (ib_full r117) h119).1).2⟩
            have b121 : Bd r117 (-2147483647) (2147483647) := ⟨((rf_lt (ib_full x33_3) (ib_full r117) h119).2).1, ((ib_full r117)).2⟩
            refine lv_iload hx hb dX12_strike_64 (lv_at hl 1 rfl) ?_
            refine lv_istore_n (lv' := [(2, .int x33_4), (5, .int r117), (4, .int x33_4), (3, .int x33_3), (0, .ref (ad 0)), (1, .int a1)]) hx hb dX12_strike_66 rfl hl (by decide) rfl (fun ls hl => ?_)
            refine lv_iload hx hb dX12_strike_67 (lv_at hl 1 rfl) ?_
            refine lv_istore_n (lv' := [(3, .int r117), (2, .int x33_4), (5, .int r117), (4, .int x33_4), (0, .ref (ad 0)), (1, .int a1)]) hx hb dX12_strike_69 rfl hl (by decide) rfl (fun ls hl => ?_)
            obtain ⟨z122, e123⟩ : ∃ z : Int32, z = x33_4 + 1 := ⟨_, rfl⟩
            have t124 := ib_add e123 b113 (by decide : Bd 1 (1) (1)) (by decide) (by decide)
            have b125 : Bd z122 (1) (6) := ib_addb t124 b113 (by decide : Bd 1 (1) (1))
            have t124 : z122.toInt = x33_4.toInt + 1 := fold_add t124 rfl (by decide)
            refine lv_iinc (v := z122) (lv' := [(4, .int z122), (3, .int r117), (2, .int x33_4), (5, .int r117), (0, .ref (ad 0)), (1, .int a1)]) hx hb dX12_strike_70 hl (k := 3) rfl (by rw [e123]; rfl) (by decide) rfl (fun ls hl => ?_)
            refine lv_goto (tgt := 33) hx hb dX12_strike_73 (by decide) ?_
            obtain ⟨v126, v127, v129, v131, v133, v134, w135, v136, v138, v139, v140, v141, v143, v145, v147, v149, v151, v152, v153, c154, b128, b130, b132, b137, b142, b144, b146, b148, b150⟩ := invM_0 hI
            have c154 : S117 0 = .inr (12, [.int v126, .ref (ad 1), .ref (ad 2), .ref (ad 3), .ref (ad 4), .ref (ad 5), .int v127, .int v129, .int v131, .int v133, .int v134, .long w135, .int v136, .int v138, .int v139, .int v140, .ref (ad 6), .ref (ad 7), .ref (ad 8), .ref (ad 9), .ref (ad 10), .ref (ad 11), .ref (ad 12), .ref (ad 13), .ref (ad 14), .ref (ad 15), .int v141, .int v143, .ref (ad 16), .int v145, .int v147, .int v149, .int v151, .int v152, .ref (ad 17), .ref (ad 18), .int v153, .ref (ad 19)]) := c154
            exact ih33 _ _ _ _ x33_4 r117 z122 v126 v127 v129 v131 v133 v134 w135 v136 v138 v139 v140 v141 v143 v145 v147 v149 v151 v152 v153 (ib_wk b113 (by decide) (by decide)) (ib_wk b125 (by decide) (by decide)) b128 b130 b132 b137 b142 b144 b146 b148 b150 (by omega) hI (o_trans hf33 o117 (by decide)) c154 hQ (lv_sub hl [0, 1, 2, 4, 5] rfl)
          · have h155 := ib_nlt k118
            refine lv_goto (tgt := 70) hx hb dX12_strike_61 (by decide) ?_
            obtain ⟨z156, e157⟩ : ∃ z : Int32, z = x33_4 + 1 := ⟨_, rfl⟩
            have t158 := ib_add e157 b113 (by decide : Bd 1 (1) (1)) (by decide) (by decide)
            have b159 : Bd z156 (1) (6) := ib_addb t158 b113 (by decide : Bd 1 (1) (1))
            have t158 : z156.toInt = x33_4.toInt + 1 := fold_add t158 rfl (by decide)
            refine lv_iinc (v := z156) (lv' := [(4, .int z156), (5, .int r117), (3, .int x33_3), (2, .int x33_2), (0, .ref (ad 0)), (1, .int a1)]) hx hb dX12_strike_70 hl (k := 1) rfl (by rw [e157]; rfl) (by decide) rfl (fun ls hl => ?_)
            refine lv_goto (tgt := 33) hx hb dX12_strike_73 (by decide) ?_
            obtain ⟨v160, v161, v163, v165, v167, v168, w169, v170, v172, v173, v174, v175, v177, v179, v181, v183, v185, v186, v187, c188, b162, b164, b166, b171, b176, b178, b180, b182, b184⟩ := invM_0 hI
            have c188 : S117 0 = .inr (12, [.int v160, .ref (ad 1), .ref (ad 2), .ref (ad 3), .ref (ad 4), .ref (ad 5), .int v161, .int v163, .int v165, .int v167, .int v168, .long w169, .int v170, .int v172, .int v173, .int v174, .ref (ad 6), .ref (ad 7), .ref (ad 8), .ref (ad 9), .ref (ad 10), .ref (ad 11), .ref (ad 12), .ref (ad 13), .ref (ad 14), .ref (ad 15), .int v175, .int v177, .ref (ad 16), .int v179, .int v181, .int v183, .int v185, .int v186, .ref (ad 17), .ref (ad 18), .int v187, .ref (ad 19)]) := c188
            exact ih33 _ _ _ _ x33_2 x33_3 z156 v160 v161 v163 v165 v167 v168 w169 v170 v172 v173 v174 v175 v177 v179 v181 v183 v185 v186 v187 Bx33_2 (ib_wk b159 (by decide) (by decide)) b162 b164 b166 b171 b176 b178 b180 b182 b184 (by omega) hI (o_trans hf33 o117 (by decide)) c188 hQ (lv_sub hl [0, 2, 3, 4, 5] rfl)
    obtain ⟨n33, hn33⟩ := fu_n (6)
    exact loop33 n33 _ _ _ _ (-1) r75 0 v77 v78 v80 v82 v84 v85 w86 v87 v89 v90 v91 v92 v94 v96 v98 v100 v102 v103 v104 (ib_wk (by decide : Bd (-1) (-1) (-1)) (by decide) (by decide)) (ib_wk (by decide : Bd 0 (0) (0)) (by decide) (by decide)) b79 b81 b83 b88 b93 b95 b97 b99 b101 (by have : ((-1) : Int32).toInt = (-1) := (by decide); have : (0 : Int32).toInt = 0 := (by decide); omega) hI o_refl c105 hQ (lv_sub hl [0, 1, 2, 3, 4] rfl)
  · have h189 := ib_eq k65
    have b190 : Bd r63 (0) (0) := ⟨(b63).1, ((rf_eq b63 (by decide : Bd 0 (0) (0)) h189).1).2⟩
    clear g63_0
    refine lv_bipush (v := (-2)) hx hb dX12_strike_13 (by decide) ?_
    exact xri E hr hlk hQ (⟨hI, (up_o o_refl eS60 (by decide)), (ib_wk (by decide : Bd (-2) (-2) (-2)) (by decide) (by decide))⟩) dX12_strike_15
set_option maxHeartbeats 4000000 in
set_option maxRecDepth 100000 in
theorem gX12_richest_0 (l : Launch) (g : GG) (ad : Nat → Nat) (hD : Dj ad 20) (S : SS) (hI : InvM g ad S) (hq1 : 0 ≤ 12 * elm (S 7) 1 + (-1) * elm (S 7) 0) (hq2 : 0 ≤ 12 * elm (S 7) 3 + (-1) * elm (S 7) 0) (hq3 : 0 ≤ 8 * elm (S 7) 0 + (-1) * elm (S 7) 6) (hq4 : 0 ≤ 3 * elm (S 7) 0 + (-1) * elm (S 7) 8) (hq5 : 0 ≤ 40000 * elm (S 7) 0 + (-1) * elm (S 6) 0) (hAT : ATp (S 7) (S 12) 0) : Met l yX12_richest (wG (.code yX12_richest cX12_richest 3 (some .int))) (Rm 6) (XPre g ad 20 S [.ref (ad 0)]) (va_Qi (fun r S' => InvM g ad S' ∧ (∀ j, j ∉ ([0, 14, 15] : List Nat) → S' j = S j) ∧ Bd r (-2) (5)) (QB g ad 20) (FA ad 20)) 0 0 (FA ad 20) := by
  refine xmet cX12_richest "EbbWreckModel" (by decide) rfl (Nat.le_of_ble_eq_true rfl) (fun p e s m below meth c E hr hlk hml hQ ls hl => ?_)
  have hx := E.1
  have hb := E.2.1
  have hs : Sp ad 20 (FA ad 20) := Sp.fa hD
  have hl : lv_has ls 3 [(0, .ref (ad 0))] := hl
  obtain ⟨f1, c2, b3⟩ := invM_7 hI
  obtain ⟨v4, ee5⟩ : ∃ z : Int32, f1 1 = z := ⟨_, rfl⟩
  have b6 : Bd v4 (0) (12) := (by rw [← ee5]; exact b3.2.1 1 (by decide))
  obtain ⟨v7, ee8⟩ : ∃ z : Int32, f1 0 = z := ⟨_, rfl⟩
  have b9 : Bd v7 (0) (12) := (by rw [← ee8]; exact b3.1 0 (by decide))
  obtain ⟨v10, ee11⟩ : ∃ z : Int32, f1 3 = z := ⟨_, rfl⟩
  have b12 : Bd v10 (0) (12) := (by rw [← ee11]; exact b3.2.2.2.1 3 (by decide))
  obtain ⟨v13, ee14⟩ : ∃ z : Int32, f1 6 = z := ⟨_, rfl⟩
  have b15 : Bd v13 (0) (8) := (by rw [← ee14]; exact b3.2.2.2.2.1 6 (by decide))
  obtain ⟨v16, ee17⟩ : ∃ z : Int32, f1 8 = z := ⟨_, rfl⟩
  have b18 : Bd v16 (0) (3) := (by rw [← ee17]; exact b3.2.2.2.2.2.2.1 8 (by decide))
  obtain ⟨f19, c20, b21⟩ := invM_6 hI
  obtain ⟨v22, ee23⟩ : ∃ z : Int32, f19 0 = z := ⟨_, rfl⟩
  have b24 : Bd v22 (0) (40000) := (by rw [← ee23]; exact b21 0)
  have q25 : elm (S 7) 1 = v4.toInt := (elm_of c2 1).trans (congrArg Int32.toInt (ee5))
  have q26 : elm (S 7) 0 = v7.toInt := (elm_of c2 0).trans (congrArg Int32.toInt (ee8))
  have q27 : elm (S 7) 3 = v10.toInt := (elm_of c2 3).trans (congrArg Int32.toInt (ee11))
  have q28 : elm (S 7) 6 = v13.toInt := (elm_of c2 6).trans (congrArg Int32.toInt (ee14))
  have q29 : elm (S 7) 8 = v16.toInt := (elm_of c2 8).trans (congrArg Int32.toInt (ee17))
  have q30 : elm (S 6) 0 = v22.toInt := (elm_of c20 0).trans (congrArg Int32.toInt (ee23))
  refine lv_aload_n hx hb dX12_richest_0 rfl (lv_at hl 0 rfl) ?_
  refine lv_iconst (v := 0) hx hb dX12_richest_1 (by decide) ?_
  obtain ⟨v31, v32, v34, v36, v38, v39, w40, v41, v43, v44, v45, v46, v48, v50, v52, v54, v56, v57, v58, c59, b33, b35, b37, b42, b47, b49, b51, b53, b55⟩ := invM_0 hI
  have c59 : S 0 = .inr (12, [.int v31, .ref (ad 1), .ref (ad 2), .ref (ad 3), .ref (ad 4), .ref (ad 5), .int v32, .int v34, .int v36, .int v38, .int v39, .long w40, .int v41, .int v43, .int v44, .int v45, .ref (ad 6), .ref (ad 7), .ref (ad 8), .ref (ad 9), .ref (ad 10), .ref (ad 11), .ref (ad 12), .ref (ad 13), .ref (ad 14), .ref (ad 15), .int v46, .int v48, .ref (ad 16), .int v50, .int v52, .int v54, .int v56, .int v57, .ref (ad 17), .ref (ad 18), .int v58, .ref (ad 19)]) := c59
  refine xputi E hs hQ 0 (by decide) c59 rfl 0 (by decide) q1468 rfl rfl (Nat.le_of_ble_eq_true rfl) dX12_richest_2 (fun H locs S60 eS60 hQ => ?_)
  have hI := invM_up_0 hI eS60 ⟨0, v32, v34, v36, v38, v39, w40, v41, v43, v44, v45, v46, v48, v50, v52, v54, v56, v57, v58, rfl, b33, b35, b37, b42, b47, b49, b51, b53, b55⟩
  have c61 : S60 0 = .inr (12, [.int 0, .ref (ad 1), .ref (ad 2), .ref (ad 3), .ref (ad 4), .ref (ad 5), .int v32, .int v34, .int v36, .int v38, .int v39, .long w40, .int v41, .int v43, .int v44, .int v45, .ref (ad 6), .ref (ad 7), .ref (ad 8), .ref (ad 9), .ref (ad 10), .ref (ad 11), .ref (ad 12), .ref (ad 13), .ref (ad 14), .ref (ad 15), .int v46, .int v48, .ref (ad 16), .int v50, .int v52, .int v54, .int v56, .int v57, .ref (ad 17), .ref (ad 18), .int v58, .ref (ad 19)]) := up_at eS60 rfl
  refine lv_aload_n hx hb dX12_richest_5 rfl (lv_at hl 0 rfl) ?_
  have c62 : S60 6 = .inl (g.2 0, 5, .inl f19) := (up_ne eS60 (by decide) c20)
  refine xcVi E hs hQ hml hl.1 0 (gX12_isShore_0 l g ad hD S60 hI ) mX12_isShore q1782 (by decide) c61 rfl rfl ⟨(Nat.le_of_ble_eq_true rfl), (Nat.le_of_ble_eq_true rfl)⟩ ⟨(Nat.le_of_ble_eq_true rfl), (Nat.le_of_ble_eq_true rfl)⟩ (Nat.le_of_ble_eq_true rfl) rfl dX12_richest_6 (fun r63 S63 H locs hp63 hQ _ => ?_)
  obtain ⟨rfl, b63, g63_0⟩ := hp63
  have q64 : elm (S60 6) 0 = v22.toInt := (elm_of c62 0).trans (congrArg Int32.toInt (ee23))
  refine lv_if_ne (tgt := 15) hx hb dX12_richest_9 (by decide) (fun k65 => ?_) (fun k65 => ?_)
  · have h66 := ib_ne k65
    have b67 : Bd r63 (1) (1) := rf_nlo b63 (by decide : Bd 0 (0) (0)) h66
    have g68 := g63_0.resolve_left (by omega)
    clear g63_0
    have b69 : Bd v22 (1) (40000) := ⟨by omega, (b24).2⟩
    refine lv_aload_n hx hb dX12_richest_15 rfl (lv_at hl 0 rfl) ?_
    refine xcVv E hs hQ hml hl.1 0 (gX12_lays_0 l g ad hD S60 hI (at_tr hAT (up_eq (j := 7) eS60 (by decide)) (up_eq (j := 12) eS60 (by decide)))) mX12_lays q1820 (by decide) c61 rfl rfl ⟨(Nat.le_of_ble_eq_true rfl), (Nat.le_of_ble_eq_true rfl)⟩ ⟨(Nat.le_of_ble_eq_true rfl), (Nat.le_of_ble_eq_true rfl)⟩ (Nat.le_of_ble_eq_true rfl) rfl dX12_richest_16 (fun S70 H locs hp70 hQ _ => ?_)
    obtain ⟨hI, o70⟩ := hp70
    refine lv_iconst (v := 0) hx hb dX12_richest_19 (by decide) ?_
    refine lv_istore_n (lv' := [(1, .int 0), (0, .ref (ad 0))]) hx hb dX12_richest_20 rfl hl (by decide) rfl (fun ls hl => ?_)
    refine lv_iconst (v := 1) hx hb dX12_richest_21 (by decide) ?_
    refine lv_istore_n (lv' := [(2, .int 1), (1, .int 0), (0, .ref (ad 0))]) hx hb dX12_richest_22 rfl hl (by decide) rfl (fun ls hl => ?_)
    have c71 : S70 0 = .inr (12, [.int 0, .ref (ad 1), .ref (ad 2), .ref (ad 3), .ref (ad 4), .ref (ad 5), .int v32, .int v34, .int v36, .int v38, .int v39, .long w40, .int v41, .int v43, .int v44, .int v45, .ref (ad 6), .ref (ad 7), .ref (ad 8), .ref (ad 9), .ref (ad 10), .ref (ad 11), .ref (ad 12), .ref (ad 13), .ref (ad 14), .ref (ad 15), .int v46, .int v48, .ref (ad 16), .int v50, .int v52, .int v54, .int v56, .int v57, .ref (ad 17), .ref (ad 18), .int v58, .ref (ad 19)]) := ((o70 0 (by decide)).trans c61)
    have loop23 : ∀ (n : Nat) (S_23 : SS) (H : Heap) (locs : List Loc) (ls : Array Slot) (x23_1 : Int32) (x23_2 : Int32) (y23_0_0 : Int32) (y23_0_6 : Int32) (y23_0_7 : Int32) (y23_0_8 : Int32) (y23_0_9 : Int32) (y23_0_10 : Int32) (wy23_0_11 : Int64) (y23_0_12 : Int32) (y23_0_13 : Int32) (y23_0_14 : Int32) (y23_0_15 : Int32) (y23_0_26 : Int32) (y23_0_27 : Int32) (y23_0_29 : Int32) (y23_0_30 : Int32) (y23_0_31 : Int32) (y23_0_32 : Int32) (y23_0_33 : Int32) (y23_0_36 : Int32), Bd x23_1 (0) (5) → Bd x23_2 (1) (6) → Bd y23_0_6 (0) (1200) → Bd y23_0_7 (0) (1200) → Bd y23_0_8 (0) (4) → Bd y23_0_12 (0) (3) → Bd y23_0_26 (0) (11) → Bd y23_0_27 (-1) (400) → Bd y23_0_29 (0) (2) → Bd y23_0_30 (0) (11) → Bd y23_0_31 (-1) (468) → (-1) * x23_2.toInt + 6 < ((n : Nat) : Int) → InvM g ad S_23 → (∀ j, j ∉ ([0] : List Nat) → S_23 j = S70 j) → S_23 0 = .inr (12, [.int y23_0_0, .ref (ad 1), .ref (ad 2), .ref (ad 3), .ref (ad 4), .ref (ad 5), .int y23_0_6, .int y23_0_7, .int y23_0_8, .int y23_0_9, .int y23_0_10, .long wy23_0_11, .int y23_0_12, .int y23_0_13, .int y23_0_14, .int y23_0_15, .ref (ad 6), .ref (ad 7), .ref (ad 8), .ref (ad 9), .ref (ad 10), .ref (ad 11), .ref (ad 12), .ref (ad 13), .ref (ad 14), .ref (ad 15), .int y23_0_26, .int y23_0_27, .ref (ad 16), .int y23_0_29, .int y23_0_30, .int y23_0_31, .int y23_0_32, .int y23_0_33, .ref (ad 17), .ref (ad 18), .int y23_0_36, .ref (ad 19)]) → Hp g ad 20 S_23 (FA ad 20) s.heap H locs → lv_has ls 3 [(2, .int x23_2), (1, .int x23_1), (0, .ref (ad 0))] → W p l e (Rm 6) s m [.ref (ad 0)].toArray below meth c H locs 0 0 (MQ below (va_Qi (fun r S' => InvM g ad S' ∧ (∀ j, j ∉ ([0, 14, 15] : List Nat) → S' j = S j) ∧ Bd r (-2) (5)) (QB g ad 20) (FA ad 20)) [.ref (ad 0)].toArray s 0 0 (FA ad 20)) (F0 m 23 ls []) := by
      intro n
      induction n with
      | zero => intro S_23 H locs ls x23_1 x23_2 y23_0_0 y23_0_6 y23_0_7 y23_0_8 y23_0_9 y23_0_10 wy23_0_11 y23_0_12 y23_0_13 y23_0_14 y23_0_15 y23_0_26 y23_0_27 y23_0_29 y23_0_30 y23_0_31 y23_0_32 y23_0_33 y23_0_36 Bx23_1 Bx23_2 By23_0_6 By23_0_7 By23_0_8 By23_0_12 By23_0_26 By23_0_27 By23_0_29 By23_0_30 By23_0_31 hn23_ hI hf23 cl23_0 hQ hl; exfalso; have := (Bx23_2).2; omega
      | succ n23_ ih23 =>
        intro S_23 H locs ls x23_1 x23_2 y23_0_0 y23_0_6 y23_0_7 y23_0_8 y23_0_9 y23_0_10 wy23_0_11 y23_0_12 y23_0_13 y23_0_14 y23_0_15 y23_0_26 y23_0_27 y23_0_29 y23_0_30 y23_0_31 y23_0_32 y23_0_33 y23_0_36 Bx23_1 Bx23_2 By23_0_6 By23_0_7 By23_0_8 By23_0_12 By23_0_26 By23_0_27 By23_0_29 By23_0_30 By23_0_31 hn23_ hI hf23 cl23_0 hQ hl
        refine lv_iload_n hx hb dX12_richest_23 rfl (lv_at hl 0 rfl) ?_
        refine lv_bipush (v := 6) hx hb dX12_richest_24 (by decide) ?_
        refine lv_icmp_ge (tgt := 54) hx hb dX12_richest_26 (by decide) (fun k72 => ?_) (fun k72 => ?_)
        · have h73 := ib_le k72
          have b74 : Bd x23_2 (6) (6) := ⟨((rf_le (by decide : Bd 6 (6) (6)) Bx23_2 h73).2).1, (Bx23_2).2⟩
          refine lv_iload_n hx hb dX12_richest_54 rfl (lv_at hl 1 rfl) ?_
          exact xri E hr hlk hQ (⟨hI, (o_trans (o_trans (up_o o_refl eS60 (by decide)) o70 (by decide)) hf23 (by decide)), (ib_wk Bx23_1 (by decide) (by decide))⟩) dX12_richest_55
        · have h75 := ib_nle k72
          have b76 : Bd x23_2 (1) (5) := ⟨(Bx23_2).1, ((rf_lt Bx23_2 (by decide : Bd 6 (6) (6)) h75).1).2⟩
          refine lv_aload_n hx hb dX12_richest_29 rfl (lv_at hl 2 rfl) ?_
          refine lv_iload_n hx hb dX12_richest_30 rfl (lv_at hl 0 rfl) ?_
          refine lv_iconst (v := (-1)) hx hb dX12_richest_31 (by decide) ?_
          refine lv_iconst (v := 0) hx hb dX12_richest_32 (by decide) ?_
          have c77 : S_23 7 = .inl (g.2 0, 50, .inl f1) := ((hf23 7 (by decide)).trans ((o70 7 (by decide)).trans (up_ne eS60 (by decide) c2)))
          have q78 : elm (S_23 7) 0 = v7.toInt := (elm_of c77 0).trans (congrArg Int32.toInt (ee8))
          have q79 : elm (S_23 7) 1 = v4.toInt := (elm_of c77 1).trans (congrArg Int32.toInt (ee5))
          refine xcVi E hs hQ hml hl.1 0 (gX12_hasOf_0 l g ad hD S_23 hI x23_2 (-1) 0 (by omega) (by omega)) mX12_hasOf q1879 (by decide) cl23_0 rfl rfl ⟨(Nat.le_of_ble_eq_true rfl), (Nat.le_of_ble_eq_true rfl)⟩ ⟨(Nat.le_of_ble_eq_true rfl), (Nat.le_of_ble_eq_true rfl)⟩ (Nat.le_of_ble_eq_true rfl) rfl dX12_richest_33 (fun r80 S80 H locs hp80 hQ _ => ?_)
          obtain ⟨hI, o80⟩ := hp80
          refine lv_aload_n hx hb dX12_richest_36 rfl (lv_at hl 2 rfl) ?_
          refine lv_iload_n hx hb dX12_richest_37 rfl (lv_at hl 1 rfl) ?_
          refine lv_iconst (v := (-1)) hx hb dX12_richest_38 (by decide) ?_
          refine lv_iconst (v := 0) hx hb dX12_richest_39 (by decide) ?_
          have c81 : S80 7 = .inl (g.2 0, 50, .inl f1) := ((o80 7 (by decide)).trans c77)
          have q82 : elm (S80 7) 0 = v7.toInt := (elm_of c81 0).trans (congrArg Int32.toInt (ee8))
          have q83 : elm (S80 7) 1 = v4.toInt := (elm_of c81 1).trans (congrArg Int32.toInt (ee5))
          obtain ⟨v85, v86, v88, v90, v92, v93, w94, v95, v97, v98, v99, v100, v102, v104, v106, v108, v110, v111, v112, c113, b87, b89, b91, b96, b101, b103, b105, b107, b109⟩ := invM_0 hI
          have c113 : S80 0 = .inr (12, [.int v85, .ref (ad 1), .ref (ad 2), .ref (ad 3), .ref (ad 4), .ref (ad 5), .int v86, .int v88, .int v90, .int v92, .int v93, .long w94, .int v95, .int v97, .int v98, .int v99, .ref (ad 6), .ref (ad 7), .ref (ad 8), .ref (ad 9), .ref (ad 10), .ref (ad 11), .ref (ad 12), .ref (ad 13), .ref (ad 14), .ref (ad 15), .int v100, .int v102, .ref (ad 16), .int v104, .int v106, .int v108, .int v110, .int v111, .ref (ad 17), .ref (ad 18), .int v112, .ref (ad 19)]) := c113
          refine xcVi E hs hQ hml hl.1 0 (gX12_hasOf_0 l g ad hD S80 hI x23_1 (-1) 0 (by omega) (by omega)) mX12_hasOf q1879 (by decide) c113 rfl rfl ⟨(Nat.le_of_ble_eq_true rfl), (Nat.le_of_ble_eq_true rfl)⟩ ⟨(Nat.le_of_ble_eq_true rfl), (Nat.le_of_ble_eq_true rfl)⟩ (Nat.le_of_ble_eq_true rfl) rfl dX12_richest_40 (fun r84 S84 H locs hp84 hQ _ => ?_)
          obtain ⟨hI, o84⟩ := hp84
          refine lv_icmp_le (tgt := 48) hx hb dX12_richest_43 (by decide) (fun k114 => ?_) (fun k114 => ?_)
          · have h115 := ib_le k114
            obtain ⟨z116, e117⟩ : ∃ z : Int32, z = x23_2 + 1 := ⟨_, rfl⟩
            have t118 := ib_add e117 b76 (by decide : Bd 1 (1) (1)) (by decide) (by decide)
            have b119 : Bd z116 (2) (6) := ib_addb t118 b76 (by decide : Bd 1 (1) (1))
            have t118 : z116.toInt = x23_2.toInt + 1 := fold_add t118 rfl (by decide)
            refine lv_iinc (v := z116) (lv' := [(2, .int z116), (1, .int x23_1), (0, .ref (ad 0))]) hx hb dX12_richest_48 hl (k := 0) rfl (by rw [e117]; rfl) (by decide) rfl (fun ls hl => ?_)
            refine lv_goto (tgt := 23) hx hb dX12_richest_51 (by decide) ?_
            obtain ⟨v120, v121, v123, v125, v127, v128, w129, v130, v132, v133, v134, v135, v137, v139, v141, v143, v145, v146, v147, c148, b122, b124, b126, b131, b136, b138, b140, b142, b144⟩ := invM_0 hI
            have c148 : S84 0 = .inr (12, [.int v120, .ref (ad 1), .ref (ad 2), .ref (ad 3), .ref (ad 4), .ref (ad 5), .int v121, .int v123, .int v125, .int v127, .int v128, .long w129, .int v130, .int v132, .int v133, .int v134, .ref (ad 6), .ref (ad 7), .ref (ad 8), .ref (ad 9), .ref (ad 10), .ref (ad 11), .ref (ad 12), .ref (ad 13), .ref (ad 14), .ref (ad 15), .int v135, .int v137, .ref (ad 16), .int v139, .int v141, .int v143, .int v145, .int v146, .ref (ad 17), .ref (ad 18), .int v147, .ref (ad 19)]) := c148
            exact ih23 _ _ _ _ x23_1 z116 v120 v121 v123 v125 v127 v128 w129 v130 v132 v133 v134 v135 v137 v139 v141 v143 v145 v146 v147 Bx23_1 (ib_wk b119 (by decide) (by decide)) b122 b124 b126 b131 b136 b138 b140 b142 b144 (by omega) hI (o_trans (o_trans hf23 o80 (by decide)) o84 (by decide)) c148 hQ (lv_sub hl [0, 1, 2] rfl)
          · have h149 := ib_nle k114
            have b150 : Bd r84 (-2147483648) (2147483646) := ⟨((ib_full r84)).1, ((rf_lt (ib_full r84) (ib_full r80) h149).1).2⟩
            have b151 : Bd r80 (-2147483647) (2147483647) := ⟨((rf_lt (ib_full r84) (ib_full r80) h149).2).1, ((ib_full r80)).2⟩
            refine lv_iload_n hx hb dX12_richest_46 rfl (lv_at hl 0 rfl) ?_
            refine lv_istore_n (lv' := [(1, .int x23_2), (2, .int x23_2), (0, .ref (ad 0))]) hx hb dX12_richest_47 rfl hl (by decide) rfl (fun ls hl => ?_)
            obtain ⟨z152, e153⟩ : ∃ z : Int32, z = x23_2 + 1 := ⟨_, rfl⟩
            have t154 := ib_add e153 b76 (by decide : Bd 1 (1) (1)) (by decide) (by decide)
            have b155 : Bd z152 (2) (6) := ib_addb t154 b76 (by decide : Bd 1 (1) (1))
            have t154 : z152.toInt = x23_2.toInt + 1 := fold_add t154 rfl (by decide)
            refine lv_iinc (v := z152) (lv' := [(2, .int z152), (1, .int x23_2), (0, .ref (ad 0))]) hx hb dX12_richest_48 hl (k := 1) rfl (by rw [e153]; rfl) (by decide) rfl (fun ls hl => ?_)
            refine lv_goto (tgt := 23) hx hb dX12_richest_51 (by decide) ?_
            obtain ⟨v156, v157, v159, v161, v163, v164, w165, v166, v168, v169, v170, v171, v173, v175, v177, v179, v181, v182, v183, c184, b158, b160, b162, b167, b172, b174, b176, b178, b180⟩ := invM_0 hI
            have c184 : S84 0 = .inr (12, [.int v156, .ref (ad 1), .ref (ad 2), .ref (ad 3), .ref (ad 4), .ref (ad 5), .int v157, .int v159, .int v161, .int v163, .int v164, .long w165, .int v166, .int v168, .int v169, .int v170, .ref (ad 6), .ref (ad 7), .ref (ad 8), .ref (ad 9), .ref (ad 10), .ref (ad 11), .ref (ad 12), .ref (ad 13), .ref (ad 14), .ref (ad 15), .int v171, .int v173, .ref (ad 16), .int v175, .int v177, .int v179, .int v181, .int v182, .ref (ad 17), .ref (ad 18), .int v183, .ref (ad 19)]) := c184
            exact ih23 _ _ _ _ x23_2 z152 v156 v157 v159 v161 v163 v164 w165 v166 v168 v169 v170 v171 v173 v175 v177 v179 v181 v182 v183 (ib_wk b76 (by decide) (by decide)) (ib_wk b155 (by decide) (by decide)) b158 b160 b162 b167 b172 b174 b176 b178 b180 (by omega) hI (o_trans (o_trans hf23 o80 (by decide)) o84 (by decide)) c184 hQ (lv_sub hl [0, 1, 2] rfl)
    obtain ⟨n23, hn23⟩ := fu_n (5)
    exact loop23 n23 _ _ _ _ 0 1 0 v32 v34 v36 v38 v39 w40 v41 v43 v44 v45 v46 v48 v50 v52 v54 v56 v57 v58 (ib_wk (by decide : Bd 0 (0) (0)) (by decide) (by decide)) (ib_wk (by decide : Bd 1 (1) (1)) (by decide) (by decide)) b33 b35 b37 b42 b47 b49 b51 b53 b55 (by have : (0 : Int32).toInt = 0 := (by decide); have : (1 : Int32).toInt = 1 := (by decide); omega) hI o_refl c71 hQ (lv_sub hl [0, 1, 2] rfl)
  · have h185 := ib_eq k65
    have b186 : Bd r63 (0) (0) := ⟨(b63).1, ((rf_eq b63 (by decide : Bd 0 (0) (0)) h185).1).2⟩
    clear g63_0
    refine lv_bipush (v := (-2)) hx hb dX12_richest_12 (by decide) ?_
    exact xri E hr hlk hQ (⟨hI, (up_o o_refl eS60 (by decide)), (ib_wk (by decide : Bd (-2) (-2) (-2)) (by decide) (by decide))⟩) dX12_richest_14
set_option maxHeartbeats 4000000 in
set_option maxRecDepth 100000 in
theorem gX12_meet_0 (l : Launch) (g : GG) (ad : Nat → Nat) (hD : Dj ad 20) (S : SS) (hI : InvM g ad S) (a1 : Int32) (a2 : Int32) (hq1 : 0 ≤ 12 * elm (S 7) 1 + (-1) * elm (S 7) 0) (hq2 : 0 ≤ 12 * elm (S 7) 3 + (-1) * elm (S 7) 0) (hq3 : 0 ≤ 8 * elm (S 7) 0 + (-1) * elm (S 7) 6) (hq4 : 0 ≤ 3 * elm (S 7) 0 + (-1) * elm (S 7) 8) (hq5 : 0 ≤ 40000 * elm (S 7) 0 + (-1) * elm (S 6) 0) (hAT : ATp (S 7) (S 12) 0) : Met l yX12_meet (wG (.code yX12_meet cX12_meet 6 (some .int))) (Rm 4) (XPre g ad 20 S [.ref (ad 0), .int a1, .int a2]) (va_Qi (fun r S' => InvM g ad S' ∧ (∀ j, j ∉ ([0, 14, 15] : List Nat) → S' j = S j) ∧ Bd r (-2) (400)) (QB g ad 20) (FA ad 20)) 0 0 (FA ad 20) := by
  refine xmet cX12_meet "EbbWreckModel" (by decide) rfl (Nat.le_of_ble_eq_true rfl) (fun p e s m below meth c E hr hlk hml hQ ls hl => ?_)
  have hx := E.1
  have hb := E.2.1
  have hs : Sp ad 20 (FA ad 20) := Sp.fa hD
  have hl : lv_has ls 6 [(0, .ref (ad 0)), (1, .int a1), (2, .int a2)] := hl
  obtain ⟨f1, c2, b3⟩ := invM_7 hI
  obtain ⟨v4, ee5⟩ : ∃ z : Int32, f1 1 = z := ⟨_, rfl⟩
  have b6 : Bd v4 (0) (12) := (by rw [← ee5]; exact b3.2.1 1 (by decide))
  obtain ⟨v7, ee8⟩ : ∃ z : Int32, f1 0 = z := ⟨_, rfl⟩
  have b9 : Bd v7 (0) (12) := (by rw [← ee8]; exact b3.1 0 (by decide))
  obtain ⟨v10, ee11⟩ : ∃ z : Int32, f1 3 = z := ⟨_, rfl⟩
  have b12 : Bd v10 (0) (12) := (by rw [← ee11]; exact b3.2.2.2.1 3 (by decide))
  obtain ⟨v13, ee14⟩ : ∃ z : Int32, f1 6 = z := ⟨_, rfl⟩
  have b15 : Bd v13 (0) (8) := (by rw [← ee14]; exact b3.2.2.2.2.1 6 (by decide))
  obtain ⟨v16, ee17⟩ : ∃ z : Int32, f1 8 = z := ⟨_, rfl⟩
  have b18 : Bd v16 (0) (3) := (by rw [← ee17]; exact b3.2.2.2.2.2.2.1 8 (by decide))
  obtain ⟨f19, c20, b21⟩ := invM_6 hI
  obtain ⟨v22, ee23⟩ : ∃ z : Int32, f19 0 = z := ⟨_, rfl⟩
  have b24 : Bd v22 (0) (40000) := (by rw [← ee23]; exact b21 0)
  have q25 : elm (S 7) 1 = v4.toInt := (elm_of c2 1).trans (congrArg Int32.toInt (ee5))
  have q26 : elm (S 7) 0 = v7.toInt := (elm_of c2 0).trans (congrArg Int32.toInt (ee8))
  have q27 : elm (S 7) 3 = v10.toInt := (elm_of c2 3).trans (congrArg Int32.toInt (ee11))
  have q28 : elm (S 7) 6 = v13.toInt := (elm_of c2 6).trans (congrArg Int32.toInt (ee14))
  have q29 : elm (S 7) 8 = v16.toInt := (elm_of c2 8).trans (congrArg Int32.toInt (ee17))
  have q30 : elm (S 6) 0 = v22.toInt := (elm_of c20 0).trans (congrArg Int32.toInt (ee23))
  refine lv_aload_n hx hb dX12_meet_0 rfl (lv_at hl 0 rfl) ?_
  refine lv_iconst (v := 0) hx hb dX12_meet_1 (by decide) ?_
  obtain ⟨v31, v32, v34, v36, v38, v39, w40, v41, v43, v44, v45, v46, v48, v50, v52, v54, v56, v57, v58, c59, b33, b35, b37, b42, b47, b49, b51, b53, b55⟩ := invM_0 hI
  have c59 : S 0 = .inr (12, [.int v31, .ref (ad 1), .ref (ad 2), .ref (ad 3), .ref (ad 4), .ref (ad 5), .int v32, .int v34, .int v36, .int v38, .int v39, .long w40, .int v41, .int v43, .int v44, .int v45, .ref (ad 6), .ref (ad 7), .ref (ad 8), .ref (ad 9), .ref (ad 10), .ref (ad 11), .ref (ad 12), .ref (ad 13), .ref (ad 14), .ref (ad 15), .int v46, .int v48, .ref (ad 16), .int v50, .int v52, .int v54, .int v56, .int v57, .ref (ad 17), .ref (ad 18), .int v58, .ref (ad 19)]) := c59
  refine xputi E hs hQ 0 (by decide) c59 rfl 0 (by decide) q1468 rfl rfl (Nat.le_of_ble_eq_true rfl) dX12_meet_2 (fun H locs S60 eS60 hQ => ?_)
  have hI := invM_up_0 hI eS60 ⟨0, v32, v34, v36, v38, v39, w40, v41, v43, v44, v45, v46, v48, v50, v52, v54, v56, v57, v58, rfl, b33, b35, b37, b42, b47, b49, b51, b53, b55⟩
  have c61 : S60 0 = .inr (12, [.int 0, .ref (ad 1), .ref (ad 2), .ref (ad 3), .ref (ad 4), .ref (ad 5), .int v32, .int v34, .int v36, .int v38, .int v39, .long w40, .int v41, .int v43, .int v44, .int v45, .ref (ad 6), .ref (ad 7), .ref (ad 8), .ref (ad 9), .ref (ad 10), .ref (ad 11), .ref (ad 12), .ref (ad 13), .ref (ad 14), .ref (ad 15), .int v46, .int v48, .ref (ad 16), .int v50, .int v52, .int v54, .int v56, .int v57, .ref (ad 17), .ref (ad 18), .int v58, .ref (ad 19)]) := up_at eS60 rfl
  refine lv_aload_n hx hb dX12_meet_5 rfl (lv_at hl 0 rfl) ?_
  refine lv_iload_n hx hb dX12_meet_6 rfl (lv_at hl 1 rfl) ?_
  have c62 : S60 7 = .inl (g.2 0, 50, .inl f1) := (up_ne eS60 (by decide) c2)
  refine xcVi E hs hQ hml hl.1 0 (gX12_isThing_0 l g ad hD S60 hI a1) mX12_isThing q1766 (by decide) c61 rfl rfl ⟨(Nat.le_of_ble_eq_true rfl), (Nat.le_of_ble_eq_true rfl)⟩ ⟨(Nat.le_of_ble_eq_true rfl), (Nat.le_of_ble_eq_true rfl)⟩ (Nat.le_of_ble_eq_true rfl) rfl dX12_meet_7 (fun r63 S63 H locs hp63 hQ _ => ?_)
  obtain ⟨rfl, b63, g63_0⟩ := hp63
  have q64 : elm (S60 7) 6 = v13.toInt := (elm_of c62 6).trans (congrArg Int32.toInt (ee14))
  refine lv_if_eq (tgt := 26) hx hb dX12_meet_10 (by decide) (fun k65 => ?_) (fun k65 => ?_)
  · have h66 := ib_eq k65
    have b67 : Bd r63 (0) (0) := ⟨(b63).1, ((rf_eq b63 (by decide : Bd 0 (0) (0)) h66).1).2⟩
    clear g63_0
    refine lv_bipush (v := (-2)) hx hb dX12_meet_26 (by decide) ?_
    exact xri E hr hlk hQ (⟨hI, (up_o o_refl eS60 (by decide)), (ib_wk (by decide : Bd (-2) (-2) (-2)) (by decide) (by decide))⟩) dX12_meet_28
  · have h68 := ib_ne k65
    have b69 : Bd r63 (1) (1) := rf_nlo b63 (by decide : Bd 0 (0) (0)) h68
    have g70 := g63_0.resolve_left (by omega)
    clear g63_0
    have b71 : Bd a1 (0) (7) := ⟨by omega, by omega⟩
    have b72 : Bd v13 (1) (8) := ⟨by omega, (b15).2⟩
    refine lv_aload_n hx hb dX12_meet_13 rfl (lv_at hl 0 rfl) ?_
    refine lv_iload_n hx hb dX12_meet_14 rfl (lv_at hl 2 rfl) ?_
    refine xcVi E hs hQ hml hl.1 0 (gX12_isThing_0 l g ad hD S60 hI a2) mX12_isThing q1766 (by decide) c61 rfl rfl ⟨(Nat.le_of_ble_eq_true rfl), (Nat.le_of_ble_eq_true rfl)⟩ ⟨(Nat.le_of_ble_eq_true rfl), (Nat.le_of_ble_eq_true rfl)⟩ (Nat.le_of_ble_eq_true rfl) rfl dX12_meet_15 (fun r73 S73 H locs hp73 hQ _ => ?_)
    obtain ⟨rfl, b73, g73_0⟩ := hp73
    refine lv_if_eq (tgt := 26) hx hb dX12_meet_18 (by decide) (fun k74 => ?_) (fun k74 => ?_)
    · have h75 := ib_eq k74
      have b76 : Bd r73 (0) (0) := ⟨(b73).1, ((rf_eq b73 (by decide : Bd 0 (0) (0)) h75).1).2⟩
      clear g73_0
      refine lv_bipush (v := (-2)) hx hb dX12_meet_26 (by decide) ?_
      exact xri E hr hlk hQ (⟨hI, (up_o o_refl eS60 (by decide)), (ib_wk (by decide : Bd (-2) (-2) (-2)) (by decide) (by decide))⟩) dX12_meet_28
    · have h77 := ib_ne k74
      have b78 : Bd r73 (1) (1) := rf_nlo b73 (by decide : Bd 0 (0) (0)) h77
      have g79 := g73_0.resolve_left (by omega)
      clear g73_0
      have b80 : Bd a2 (0) (7) := ⟨by omega, by omega⟩
      refine lv_iload_n hx hb dX12_meet_21 rfl (lv_at hl 1 rfl) ?_
      refine lv_iload_n hx hb dX12_meet_22 rfl (lv_at hl 2 rfl) ?_
      refine lv_icmp_ne (tgt := 29) hx hb dX12_meet_23 (by decide) (fun k81 => ?_) (fun k81 => ?_)
      · have h82 := ib_ne k81
        refine lv_aload_n hx hb dX12_meet_29 rfl (lv_at hl 0 rfl) ?_
        refine xcVv E hs hQ hml hl.1 0 (gX12_lays_0 l g ad hD S60 hI (at_tr hAT (up_eq (j := 7) eS60 (by decide)) (up_eq (j := 12) eS60 (by decide)))) mX12_lays q1820 (by decide) c61 rfl rfl ⟨(Nat.le_of_ble_eq_true rfl), (Nat.le_of_ble_eq_true rfl)⟩ ⟨(Nat.le_of_ble_eq_true rfl), (Nat.le_of_ble_eq_true rfl)⟩ (Nat.le_of_ble_eq_true rfl) rfl dX12_meet_30 (fun S83 H locs hp83 hQ _ => ?_)
        obtain ⟨hI, o83⟩ := hp83
        refine lv_aload_n hx hb dX12_meet_33 rfl (lv_at hl 0 rfl) ?_
        have c84 : S83 0 = .inr (12, [.int 0, .ref (ad 1), .ref (ad 2), .ref (ad 3), .ref (ad 4), .ref (ad 5), .int v32, .int v34, .int v36, .int v38, .int v39, .long w40, .int v41, .int v43, .int v44, .int v45, .ref (ad 6), .ref (ad 7), .ref (ad 8), .ref (ad 9), .ref (ad 10), .ref (ad 11), .ref (ad 12), .ref (ad 13), .ref (ad 14), .ref (ad 15), .int v46, .int v48, .ref (ad 16), .int v50, .int v52, .int v54, .int v56, .int v57, .ref (ad 17), .ref (ad 18), .int v58, .ref (ad 19)]) := ((o83 0 (by decide)).trans c61)
        refine xget E hQ 0 (by decide) c84 rfl 19 (by decide) q1487 rfl dX12_meet_34 ?_
        refine lv_iconst (v := 3) hx hb dX12_meet_37 (by decide) ?_
        refine lv_iload_n hx hb dX12_meet_38 rfl (lv_at hl 1 rfl) ?_
        refine lv_imul hx hb dX12_meet_39 ?_
        refine lv_topi (fun z85 e86 => ?_)
        have t87 := ib_cmul (q := 3) e86 (by decide) (by decide) b71 (by decide) (by decide)
        have b88 : Bd z85 (0) (21) := ib_mulb t87 (by decide) b71
        refine lv_iconst (v := 2) hx hb dX12_meet_40 (by decide) ?_
        refine lv_iadd hx hb dX12_meet_41 ?_
        refine lv_topi (fun z89 e90 => ?_)
        have t91 := ib_add e90 b88 (by decide : Bd 2 (2) (2)) (by decide) (by decide)
        have b92 : Bd z89 (2) (23) := ib_addb t91 b88 (by decide : Bd 2 (2) (2))
        have t91 : z89.toInt = z85.toInt + 2 := fold_add t91 rfl (by decide)
        obtain ⟨f93, c94, b95⟩ := invM_9 hI
        refine xiald E hQ 9 (by decide) c94 (ib_in b92 (by decide) (by decide)) dX12_meet_42 ?_
        refine lv_topi (fun z96 e97 => ?_)
        have b98 : Bd z96 (0) (99) := (by rw [e97]; exact b95.2 _ (by rw [clampN b92]; omega))
        refine lv_aload_n hx hb dX12_meet_43 rfl (lv_at hl 0 rfl) ?_
        refine xget E hQ 0 (by decide) c84 rfl 19 (by decide) q1487 rfl dX12_meet_44 ?_
        refine lv_iconst (v := 3) hx hb dX12_meet_47 (by decide) ?_
        refine lv_iload_n hx hb dX12_meet_48 rfl (lv_at hl 2 rfl) ?_
        refine lv_imul hx hb dX12_meet_49 ?_
        refine lv_topi (fun z99 e100 => ?_)
        have t101 := ib_cmul (q := 3) e100 (by decide) (by decide) b80 (by decide) (by decide)
        have b102 : Bd z99 (0) (21) := ib_mulb t101 (by decide) b80
        refine lv_iconst (v := 2) hx hb dX12_meet_50 (by decide) ?_
        refine lv_iadd hx hb dX12_meet_51 ?_
        refine lv_topi (fun z103 e104 => ?_)
        have t105 := ib_add e104 b102 (by decide : Bd 2 (2) (2)) (by decide) (by decide)
        have b106 : Bd z103 (2) (23) := ib_addb t105 b102 (by decide : Bd 2 (2) (2))
        have t105 : z103.toInt = z99.toInt + 2 := fold_add t105 rfl (by decide)
        refine xiald E hQ 9 (by decide) c94 (ib_in b106 (by decide) (by decide)) dX12_meet_52 ?_
        refine lv_topi (fun z107 e108 => ?_)
        have b109 : Bd z107 (0) (99) := (by rw [e108]; exact b95.2 _ (by rw [clampN b106]; omega))
        refine lv_icmp_le (tgt := 69) hx hb dX12_meet_53 (by decide) (fun k110 => ?_) (fun k110 => ?_)
        · have h111 := ib_le k110
          refine lv_aload_n hx hb dX12_meet_69 rfl (lv_at hl 0 rfl) ?_
          refine xget E hQ 0 (by decide) c84 rfl 19 (by decide) q1487 rfl dX12_meet_70 ?_
          refine lv_iconst (v := 3) hx hb dX12_meet_73 (by decide) ?_
          refine lv_iload_n hx hb dX12_meet_74 rfl (lv_at hl 2 rfl) ?_
          refine lv_imul hx hb dX12_meet_75 ?_
          refine lv_topi (fun z112 e113 => ?_)
          have t114 := ib_cmul (q := 3) e113 (by decide) (by decide) b80 (by decide) (by decide)
          have b115 : Bd z112 (0) (21) := ib_mulb t114 (by decide) b80
          refine lv_iconst (v := 2) hx hb dX12_meet_76 (by decide) ?_
          refine lv_iadd hx hb dX12_meet_77 ?_
          refine lv_topi (fun z116 e117 => ?_)
          have t118 := ib_add e117 b115 (by decide : Bd 2 (2) (2)) (by decide) (by decide)
          have b119 : Bd z116 (2) (23) := ib_addb t118 b115 (by decide : Bd 2 (2) (2))
          have t118 : z116.toInt = z112.toInt + 2 := fold_add t118 rfl (by decide)
          refine xiald E hQ 9 (by decide) c94 (ib_in b119 (by decide) (by decide)) dX12_meet_78 ?_
          refine lv_topi (fun z120 e121 => ?_)
          have b122 : Bd z120 (0) (99) := (by rw [e121]; exact b95.2 _ (by rw [clampN b119]; omega))
          refine lv_istore_n (lv' := [(3, .int z120), (0, .ref (ad 0)), (1, .int a1), (2, .int a2)]) hx hb dX12_meet_79 rfl hl (by decide) rfl (fun ls hl => ?_)
          refine lv_iload_n hx hb dX12_meet_80 rfl (lv_at hl 0 rfl) ?_
          refine lv_istore (lv' := [(4, .int z120), (3, .int z120), (0, .ref (ad 0)), (1, .int a1), (2, .int a2)]) hx hb dX12_meet_81 hl (by decide) rfl (fun ls hl => ?_)
          have loop83 : ∀ (n : Nat) (S_83 : SS) (H : Heap) (locs : List Loc) (ls : Array Slot) (x83_4 : Int32) (y83_0_0 : Int32) (y83_0_6 : Int32) (y83_0_7 : Int32) (y83_0_8 : Int32) (y83_0_9 : Int32) (y83_0_10 : Int32) (wy83_0_11 : Int64) (y83_0_12 : Int32) (y83_0_13 : Int32) (y83_0_14 : Int32) (y83_0_15 : Int32) (y83_0_26 : Int32) (y83_0_27 : Int32) (y83_0_29 : Int32) (y83_0_30 : Int32) (y83_0_31 : Int32) (y83_0_32 : Int32) (y83_0_33 : Int32) (y83_0_36 : Int32), Bd x83_4 (0) (401) → Bd y83_0_6 (0) (1200) → Bd y83_0_7 (0) (1200) → Bd y83_0_8 (0) (4) → Bd y83_0_12 (0) (3) → Bd y83_0_26 (0) (11) → Bd y83_0_27 (-1) (400) → Bd y83_0_29 (0) (2) → Bd y83_0_30 (0) (11) → Bd y83_0_31 (-1) (468) → (-1) * x83_4.toInt + 401 < ((n : Nat) : Int) → InvM g ad S_83 → (∀ j, j ∉ ([0] : List Nat) → S_83 j = S83 j) → S_83 0 = .inr (12, [.int y83_0_0, .ref (ad 1), .ref (ad 2), .ref (ad 3), .ref (ad 4), .ref (ad 5), .int y83_0_6, .int y83_0_7, .int y83_0_8, .int y83_0_9, .int y83_0_10, .long wy83_0_11, .int y83_0_12, .int y83_0_13, .int y83_0_14, .int y83_0_15, .ref (ad 6), .ref (ad 7), .ref (ad 8), .ref (ad 9), .ref (ad 10), .ref (ad 11), .ref (ad 12), .ref (ad 13), .ref (ad 14), .ref (ad 15), .int y83_0_26, .int y83_0_27, .ref (ad 16), .int y83_0_29, .int y83_0_30, .int y83_0_31, .int y83_0_32, .int y83_0_33, .ref (ad 17), .ref (ad 18), .int y83_0_36, .ref (ad 19)]) → Hp g ad 20 S_83 (FA ad 20) s.heap H locs → lv_has ls 6 [(4, .int x83_4), (3, .int z120), (0, .ref (ad 0)), (1, .int a1), (2, .int a2)] → W p l e (Rm 4) s m [.ref (ad 0), .int a1, .int a2].toArray below meth c H locs 0 0 (MQ below (va_Qi (fun r S' => InvM g ad S' ∧ (∀ j, j ∉ ([0, 14, 15] : List Nat) → S' j = S j) ∧ Bd r (-2) (400)) (QB g ad 20) (FA ad 20)) [.ref (ad 0), .int a1, .int a2].toArray s 0 0 (FA ad 20)) (F0 m 83 ls []) := by
            intro n
            induction n with
            | zero => intro S_83 H locs ls x83_4 y83_0_0 y83_0_6 y83_0_7 y83_0_8 y83_0_9 y83_0_10 wy83_0_11 y83_0_12 y83_0_13 y83_0_14 y83_0_15 y83_0_26 y83_0_27 y83_0_29 y83_0_30 y83_0_31 y83_0_32 y83_0_33 y83_0_36 Bx83_4 By83_0_6 By83_0_7 By83_0_8 By83_0_12 By83_0_26 By83_0_27 By83_0_29 By83_0_30 By83_0_31 hn83_ hI hf83 cl83_0 hQ hl; exfalso; have := (Bx83_4).2; omega
            | succ n83_ ih83 =>
              intro S_83 H locs ls x83_4 y83_0_0 y83_0_6 y83_0_7 y83_0_8 y83_0_9 y83_0_10 wy83_0_11 y83_0_12 y83_0_13 y83_0_14 y83_0_15 y83_0_26 y83_0_27 y83_0_29 y83_0_30 y83_0_31 y83_0_32 y83_0_33 y83_0_36 Bx83_4 By83_0_6 By83_0_7 By83_0_8 By83_0_12 By83_0_26 By83_0_27 By83_0_29 By83_0_30 By83_0_31 hn83_ hI hf83 cl83_0 hQ hl
              refine lv_iload hx hb dX12_meet_83 (lv_at hl 0 rfl) ?_
              refine lv_sipush (v := 400) hx hb dX12_meet_85 (by decide) ?_
              refine lv_icmp_gt (tgt := 155) hx hb dX12_meet_88 (by decide) (fun k123 => ?_) (fun k123 => ?_)
              · have h124 := ib_lt k123
                have b125 : Bd x83_4 (401) (401) := ⟨((rf_lt (by decide : Bd 400 (400) (400)) Bx83_4 h124).2).1, (Bx83_4).2⟩
                refine lv_iconst (v := (-1)) hx hb dX12_meet_155 (by decide) ?_
                exact xri E hr hlk hQ (⟨hI, (o_trans (o_trans (up_o o_refl eS60 (by decide)) o83 (by decide)) hf83 (by decide)), (ib_wk (by decide : Bd (-1) (-1) (-1)) (by decide) (by decide))⟩) dX12_meet_156
              · have h126 := ib_nlt k123
                have b127 : Bd x83_4 (0) (400) := ⟨(Bx83_4).1, ((rf_le Bx83_4 (by decide : Bd 400 (400) (400)) h126).1).2⟩
                refine lv_aload_n hx hb dX12_meet_91 rfl (lv_at hl 2 rfl) ?_
                refine lv_iload_n hx hb dX12_meet_92 rfl (lv_at hl 3 rfl) ?_
                refine lv_iload hx hb dX12_meet_93 (lv_at hl 0 rfl) ?_
                refine lv_ldc2 (v := (-1)) hx hb E.2.2.1 (E.2.2.2.1 _ q1645) dX12_meet_95 ?_
                have c128 : S_83 7 = .inl (g.2 0, 50, .inl f1) := ((hf83 7 (by decide)).trans ((o83 7 (by decide)).trans c62))
                have q129 : elm (S_83 7) 0 = v7.toInt := (elm_of c128 0).trans (congrArg Int32.toInt (ee8))
                have q130 : elm (S_83 7) 1 = v4.toInt := (elm_of c128 1).trans (congrArg Int32.toInt (ee5))
                refine xcVv E hs hQ hml hl.1 0 (gX12_goes_0 l g ad hD S_83 hI a1 x83_4 (-1) b71 b127 (by omega) (by omega)) mX12_goes q1829 (by decide) cl83_0 rfl rfl ⟨(Nat.le_of_ble_eq_true rfl), (Nat.le_of_ble_eq_true rfl)⟩ ⟨(Nat.le_of_ble_eq_true rfl), (Nat.le_of_ble_eq_true rfl)⟩ (Nat.le_of_ble_eq_true rfl) rfl dX12_meet_98 (fun S131 H locs hp131 hQ _ => ?_)
                obtain ⟨hI, o131⟩ := hp131
                refine lv_aload_n hx hb dX12_meet_101 rfl (lv_at hl 2 rfl) ?_
                obtain ⟨v132, v133, v135, v137, v139, v140, w141, v142, v144, v145, v146, v147, v149, v151, v153, v155, v157, v158, v159, c160, b134, b136, b138, b143, b148, b150, b152, b154, b156⟩ := invM_0 hI
                have c160 : S131 0 = .inr (12, [.int v132, .ref (ad 1), .ref (ad 2), .ref (ad 3), .ref (ad 4), .ref (ad 5), .int v133, .int v135, .int v137, .int v139, .int v140, .long w141, .int v142, .int v144, .int v145, .int v146, .ref (ad 6), .ref (ad 7), .ref (ad 8), .ref (ad 9), .ref (ad 10), .ref (ad 11), .ref (ad 12), .ref (ad 13), .ref (ad 14), .ref (ad 15), .int v147, .int v149, .ref (ad 16), .int v151, .int v153, .int v155, .int v157, .int v158, .ref (ad 17), .ref (ad 18), .int v159, .ref (ad 19)]) := c160
                refine xget E hQ 0 (by decide) c160 rfl 27 (by decide) q1495 rfl dX12_meet_102 ?_
                refine lv_iconst (v := (-1)) hx hb dX12_meet_105 (by decide) ?_
                refine lv_icmp_eq (tgt := 111) hx hb dX12_meet_106 (by decide) (fun k161 => ?_) (fun k161 => ?_)
                · have h162 := ib_eq k161
                  have b163 : Bd v149 (-1) (-1) := ⟨(b150).1, ((rf_eq b150 (by decide : Bd (-1) (-1) (-1)) h162).1).2⟩
                  refine lv_aload_n hx hb dX12_meet_111 rfl (lv_at hl 2 rfl) ?_
                  refine xget E hQ 0 (by decide) c160 rfl 26 (by decide) q1494 rfl dX12_meet_112 ?_
                  refine lv_istore (lv' := [(5, .int v147), (4, .int x83_4), (3, .int z120), (0, .ref (ad 0)), (1, .int a1), (2, .int a2)]) hx hb dX12_meet_115 hl (by decide) rfl (fun ls hl => ?_)
                  refine lv_aload_n hx hb dX12_meet_117 rfl (lv_at hl 3 rfl) ?_
                  refine lv_iload_n hx hb dX12_meet_118 rfl (lv_at hl 5 rfl) ?_
                  refine lv_iload hx hb dX12_meet_119 (lv_at hl 1 rfl) ?_
                  refine lv_ldc2 (v := (-1)) hx hb E.2.2.1 (E.2.2.2.1 _ q1645) dX12_meet_121 ?_
                  have c164 : S131 7 = .inl (g.2 0, 50, .inl f1) := ((o131 7 (by decide)).trans c128)
                  have q165 : elm (S131 7) 0 = v7.toInt := (elm_of c164 0).trans (congrArg Int32.toInt (ee8))
                  have q166 : elm (S131 7) 1 = v4.toInt := (elm_of c164 1).trans (congrArg Int32.toInt (ee5))
                  refine xcVv E hs hQ hml hl.1 0 (gX12_goes_0 l g ad hD S131 hI a2 x83_4 (-1) b80 b127 (by omega) (by omega)) mX12_goes q1829 (by decide) c160 rfl rfl ⟨(Nat.le_of_ble_eq_true rfl), (Nat.le_of_ble_eq_true rfl)⟩ ⟨(Nat.le_of_ble_eq_true rfl), (Nat.le_of_ble_eq_true rfl)⟩ (Nat.le_of_ble_eq_true rfl) rfl dX12_meet_124 (fun S167 H locs hp167 hQ _ => ?_)
                  obtain ⟨hI, o167⟩ := hp167
                  refine lv_aload_n hx hb dX12_meet_127 rfl (lv_at hl 3 rfl) ?_
                  obtain ⟨v168, v169, v171, v173, v175, v176, w177, v178, v180, v181, v182, v183, v185, v187, v189, v191, v193, v194, v195, c196, b170, b172, b174, b179, b184, b186, b188, b190, b192⟩ := invM_0 hI
                  have c196 : S167 0 = .inr (12, [.int v168, .ref (ad 1), .ref (ad 2), .ref (ad 3), .ref (ad 4), .ref (ad 5), .int v169, .int v171, .int v173, .int v175, .int v176, .long w177, .int v178, .int v180, .int v181, .int v182, .ref (ad 6), .ref (ad 7), .ref (ad 8), .ref (ad 9), .ref (ad 10), .ref (ad 11), .ref (ad 12), .ref (ad 13), .ref (ad 14), .ref (ad 15), .int v183, .int v185, .ref (ad 16), .int v187, .int v189, .int v191, .int v193, .int v194, .ref (ad 17), .ref (ad 18), .int v195, .ref (ad 19)]) := c196
                  refine xget E hQ 0 (by decide) c196 rfl 27 (by decide) q1495 rfl dX12_meet_128 ?_
                  refine lv_iconst (v := (-1)) hx hb dX12_meet_131 (by decide) ?_
                  refine lv_icmp_eq (tgt := 137) hx hb dX12_meet_132 (by decide) (fun k197 => ?_) (fun k197 => ?_)
                  · have h198 := ib_eq k197
                    have b199 : Bd v185 (-1) (-1) := ⟨(b186).1, ((rf_eq b186 (by decide : Bd (-1) (-1) (-1)) h198).1).2⟩
                    refine lv_iload hx hb dX12_meet_137 (lv_at hl 0 rfl) ?_
                    refine lv_aload_n hx hb dX12_meet_139 rfl (lv_at hl 3 rfl) ?_
                    refine xget E hQ 0 (by decide) c196 rfl 26 (by decide) q1494 rfl dX12_meet_140 ?_
                    refine lv_icmp_ne (tgt := 149) hx hb dX12_meet_143 (by decide) (fun k200 => ?_) (fun k200 => ?_)
                    · have h201 := ib_ne k200
                      obtain ⟨z202, e203⟩ : ∃ z : Int32, z = x83_4 + 1 := ⟨_, rfl⟩
                      have t204 := ib_add e203 b127 (by decide : Bd 1 (1) (1)) (by decide) (by decide)
                      have b205 : Bd z202 (1) (401) := ib_addb t204 b127 (by decide : Bd 1 (1) (1))
                      have t204 : z202.toInt = x83_4.toInt + 1 := fold_add t204 rfl (by decide)
                      refine lv_iinc (v := z202) (lv' := [(4, .int z202), (5, .int v147), (3, .int z120), (0, .ref (ad 0)), (1, .int a1), (2, .int a2)]) hx hb dX12_meet_149 hl (k := 1) rfl (by rw [e203]; rfl) (by decide) rfl (fun ls hl => ?_)
                      refine lv_goto (tgt := 83) hx hb dX12_meet_152 (by decide) ?_
                      exact ih83 _ _ _ _ z202 v168 v169 v171 v173 v175 v176 w177 v178 v180 v181 v182 v183 v185 v187 v189 v191 v193 v194 v195 (ib_wk b205 (by decide) (by decide)) b170 b172 b174 b179 b184 (ib_wk b199 (by decide) (by decide)) b188 b190 b192 (by omega) hI (o_trans (o_trans hf83 o131 (by decide)) o167 (by decide)) c196 hQ (lv_sub hl [0, 2, 3, 4, 5] rfl)
                    · have h206 := ib_eq k200
                      refine lv_iload hx hb dX12_meet_146 (lv_at hl 1 rfl) ?_
                      exact xri E hr hlk hQ (⟨hI, (o_trans (o_trans (o_trans (o_trans (up_o o_refl eS60 (by decide)) o83 (by decide)) hf83 (by decide)) o131 (by decide)) o167 (by decide)), (ib_wk b127 (by decide) (by decide))⟩) dX12_meet_148
                  · have h207 := ib_ne k197
                    have b208 : Bd v185 (0) (400) := rf_nlo b186 (by decide : Bd (-1) (-1) (-1)) h207
                    refine lv_iconst (v := (-1)) hx hb dX12_meet_135 (by decide) ?_
                    exact xri E hr hlk hQ (⟨hI, (o_trans (o_trans (o_trans (o_trans (up_o o_refl eS60 (by decide)) o83 (by decide)) hf83 (by decide)) o131 (by decide)) o167 (by decide)), (ib_wk (by decide : Bd (-1) (-1) (-1)) (by decide) (by decide))⟩) dX12_meet_136
                · have h209 := ib_ne k161
                  have b210 : Bd v149 (0) (400) := rf_nlo b150 (by decide : Bd (-1) (-1) (-1)) h209
                  refine lv_iconst (v := (-1)) hx hb dX12_meet_109 (by decide) ?_
                  exact xri E hr hlk hQ (⟨hI, (o_trans (o_trans (o_trans (up_o o_refl eS60 (by decide)) o83 (by decide)) hf83 (by decide)) o131 (by decide)), (ib_wk (by decide : Bd (-1) (-1) (-1)) (by decide) (by decide))⟩) dX12_meet_110
          obtain ⟨n83, hn83⟩ := fu_n ((-1) * z120.toInt + 401)
          exact loop83 n83 _ _ _ _ z120 0 v32 v34 v36 v38 v39 w40 v41 v43 v44 v45 v46 v48 v50 v52 v54 v56 v57 v58 (ib_wk b122 (by decide) (by decide)) b33 b35 b37 b42 b47 b49 b51 b53 b55 (by have : (0 : Int32).toInt = 0 := (by decide); omega) hI o_refl c84 hQ (lv_sub hl [0, 1, 2, 3, 4] rfl)
        · have h211 := ib_nle k110
          have b212 : Bd z107 (0) (98) := ⟨(b109).1, ((rf_lt b109 b98 h211).1).2⟩
          have b213 : Bd z96 (1) (99) := ⟨((rf_lt b109 b98 h211).2).1, (b98).2⟩
          refine lv_aload_n hx hb dX12_meet_56 rfl (lv_at hl 0 rfl) ?_
          refine xget E hQ 0 (by decide) c84 rfl 19 (by decide) q1487 rfl dX12_meet_57 ?_
          refine lv_iconst (v := 3) hx hb dX12_meet_60 (by decide) ?_
          refine lv_iload_n hx hb dX12_meet_61 rfl (lv_at hl 1 rfl) ?_
          refine lv_imul hx hb dX12_meet_62 ?_
          refine lv_topi (fun z214 e215 => ?_)
          have t216 := ib_cmul (q := 3) e215 (by decide) (by decide) b71 (by decide) (by decide)
          have b217 : Bd z214 (0) (21) := ib_mulb t216 (by decide) b71
          refine lv_iconst (v := 2) hx hb dX12_meet_63 (by decide) ?_
          refine lv_iadd hx hb dX12_meet_64 ?_
          refine lv_topi (fun z218 e219 => ?_)
          have t220 := ib_add e219 b217 (by decide : Bd 2 (2) (2)) (by decide) (by decide)
          have b221 : Bd z218 (2) (23) := ib_addb t220 b217 (by decide : Bd 2 (2) (2))
          have t220 : z218.toInt = z214.toInt + 2 := fold_add t220 rfl (by decide)
          refine xiald E hQ 9 (by decide) c94 (ib_in b221 (by decide) (by decide)) dX12_meet_65 ?_
          refine lv_topi (fun z222 e223 => ?_)
          have b224 : Bd z222 (0) (99) := (by rw [e223]; exact b95.2 _ (by rw [clampN b221]; omega))
          refine lv_goto (tgt := 79) hx hb dX12_meet_66 (by decide) ?_
          refine lv_istore_n (lv' := [(3, .int z222), (0, .ref (ad 0)), (1, .int a1), (2, .int a2)]) hx hb dX12_meet_79 rfl hl (by decide) rfl (fun ls hl => ?_)
          refine lv_iload_n hx hb dX12_meet_80 rfl (lv_at hl 0 rfl) ?_
          refine lv_istore (lv' := [(4, .int z222), (3, .int z222), (0, .ref (ad 0)), (1, .int a1), (2, .int a2)]) hx hb dX12_meet_81 hl (by decide) rfl (fun ls hl => ?_)
          have loop83 : ∀ (n : Nat) (S_83 : SS) (H : Heap) (locs : List Loc) (ls : Array Slot) (x83_4 : Int32) (y83_0_0 : Int32) (y83_0_6 : Int32) (y83_0_7 : Int32) (y83_0_8 : Int32) (y83_0_9 : Int32) (y83_0_10 : Int32) (wy83_0_11 : Int64) (y83_0_12 : Int32) (y83_0_13 : Int32) (y83_0_14 : Int32) (y83_0_15 : Int32) (y83_0_26 : Int32) (y83_0_27 : Int32) (y83_0_29 : Int32) (y83_0_30 : Int32) (y83_0_31 : Int32) (y83_0_32 : Int32) (y83_0_33 : Int32) (y83_0_36 : Int32), Bd x83_4 (0) (401) → Bd y83_0_6 (0) (1200) → Bd y83_0_7 (0) (1200) → Bd y83_0_8 (0) (4) → Bd y83_0_12 (0) (3) → Bd y83_0_26 (0) (11) → Bd y83_0_27 (-1) (400) → Bd y83_0_29 (0) (2) → Bd y83_0_30 (0) (11) → Bd y83_0_31 (-1) (468) → (-1) * x83_4.toInt + 401 < ((n : Nat) : Int) → InvM g ad S_83 → (∀ j, j ∉ ([0] : List Nat) → S_83 j = S83 j) → S_83 0 = .inr (12, [.int y83_0_0, .ref (ad 1), .ref (ad 2), .ref (ad 3), .ref (ad 4), .ref (ad 5), .int y83_0_6, .int y83_0_7, .int y83_0_8, .int y83_0_9, .int y83_0_10, .long wy83_0_11, .int y83_0_12, .int y83_0_13, .int y83_0_14, .int y83_0_15, .ref (ad 6), .ref (ad 7), .ref (ad 8), .ref (ad 9), .ref (ad 10), .ref (ad 11), .ref (ad 12), .ref (ad 13), .ref (ad 14), .ref (ad 15), .int y83_0_26, .int y83_0_27, .ref (ad 16), .int y83_0_29, .int y83_0_30, .int y83_0_31, .int y83_0_32, .int y83_0_33, .ref (ad 17), .ref (ad 18), .int y83_0_36, .ref (ad 19)]) → Hp g ad 20 S_83 (FA ad 20) s.heap H locs → lv_has ls 6 [(4, .int x83_4), (3, .int z222), (0, .ref (ad 0)), (1, .int a1), (2, .int a2)] → W p l e (Rm 4) s m [.ref (ad 0), .int a1, .int a2].toArray below meth c H locs 0 0 (MQ below (va_Qi (fun r S' => InvM g ad S' ∧ (∀ j, j ∉ ([0, 14, 15] : List Nat) → S' j = S j) ∧ Bd r (-2) (400)) (QB g ad 20) (FA ad 20)) [.ref (ad 0), .int a1, .int a2].toArray s 0 0 (FA ad 20)) (F0 m 83 ls []) := by
            intro n
            induction n with
            | zero => intro S_83 H locs ls x83_4 y83_0_0 y83_0_6 y83_0_7 y83_0_8 y83_0_9 y83_0_10 wy83_0_11 y83_0_12 y83_0_13 y83_0_14 y83_0_15 y83_0_26 y83_0_27 y83_0_29 y83_0_30 y83_0_31 y83_0_32 y83_0_33 y83_0_36 Bx83_4 By83_0_6 By83_0_7 By83_0_8 By83_0_12 By83_0_26 By83_0_27 By83_0_29 By83_0_30 By83_0_31 hn83_ hI hf83 cl83_0 hQ hl; exfalso; have := (Bx83_4).2; omega
            | succ n83_ ih83 =>
              intro S_83 H locs ls x83_4 y83_0_0 y83_0_6 y83_0_7 y83_0_8 y83_0_9 y83_0_10 wy83_0_11 y83_0_12 y83_0_13 y83_0_14 y83_0_15 y83_0_26 y83_0_27 y83_0_29 y83_0_30 y83_0_31 y83_0_32 y83_0_33 y83_0_36 Bx83_4 By83_0_6 By83_0_7 By83_0_8 By83_0_12 By83_0_26 By83_0_27 By83_0_29 By83_0_30 By83_0_31 hn83_ hI hf83 cl83_0 hQ hl
              refine lv_iload hx hb dX12_meet_83 (lv_at hl 0 rfl) ?_
              refine lv_sipush (v := 400) hx hb dX12_meet_85 (by decide) ?_
              refine lv_icmp_gt (tgt := 155) hx hb dX12_meet_88 (by decide) (fun k225 => ?_) (fun k225 => ?_)
              · have h226 := ib_lt k225
                have b227 : Bd x83_4 (401) (401) := ⟨((rf_lt (by decide : Bd 400 (400) (400)) Bx83_4 h226).2).1, (Bx83_4).2⟩
                refine lv_iconst (v := (-1)) hx hb dX12_meet_155 (by decide) ?_
                exact xri E hr hlk hQ (⟨hI, (o_trans (o_trans (up_o o_refl eS60 (by decide)) o83 (by decide)) hf83 (by decide)), (ib_wk (by decide : Bd (-1) (-1) (-1)) (by decide) (by decide))⟩) dX12_meet_156
              · have h228 := ib_nlt k225
                have b229 : Bd x83_4 (0) (400) := ⟨(Bx83_4).1, ((rf_le Bx83_4 (by decide : Bd 400 (400) (400)) h228).1).2⟩
                refine lv_aload_n hx hb dX12_meet_91 rfl (lv_at hl 2 rfl) ?_
                refine lv_iload_n hx hb dX12_meet_92 rfl (lv_at hl 3 rfl) ?_
                refine lv_iload hx hb dX12_meet_93 (lv_at hl 0 rfl) ?_
                refine lv_ldc2 (v := (-1)) hx hb E.2.2.1 (E.2.2.2.1 _ q1645) dX12_meet_95 ?_
                have c230 : S_83 7 = .inl (g.2 0, 50, .inl f1) := ((hf83 7 (by decide)).trans ((o83 7 (by decide)).trans c62))
                have q231 : elm (S_83 7) 0 = v7.toInt := (elm_of c230 0).trans (congrArg Int32.toInt (ee8))
                have q232 : elm (S_83 7) 1 = v4.toInt := (elm_of c230 1).trans (congrArg Int32.toInt (ee5))
                refine xcVv E hs hQ hml hl.1 0 (gX12_goes_0 l g ad hD S_83 hI a1 x83_4 (-1) b71 b229 (by omega) (by omega)) mX12_goes q1829 (by decide) cl83_0 rfl rfl ⟨(Nat.le_of_ble_eq_true rfl), (Nat.le_of_ble_eq_true rfl)⟩ ⟨(Nat.le_of_ble_eq_true rfl), (Nat.le_of_ble_eq_true rfl)⟩ (Nat.le_of_ble_eq_true rfl) rfl dX12_meet_98 (fun S233 H locs hp233 hQ _ => ?_)
                obtain ⟨hI, o233⟩ := hp233
                refine lv_aload_n hx hb dX12_meet_101 rfl (lv_at hl 2 rfl) ?_
                obtain ⟨v234, v235, v237, v239, v241, v242, w243, v244, v246, v247, v248, v249, v251, v253, v255, v257, v259, v260, v261, c262, b236, b238, b240, b245, b250, b252, b254, b256, b258⟩ := invM_0 hI
                have c262 : S233 0 = .inr (12, [.int v234, .ref (ad 1), .ref (ad 2), .ref (ad 3), .ref (ad 4), .ref (ad 5), .int v235, .int v237, .int v239, .int v241, .int v242, .long w243, .int v244, .int v246, .int v247, .int v248, .ref (ad 6), .ref (ad 7), .ref (ad 8), .ref (ad 9), .ref (ad 10), .ref (ad 11), .ref (ad 12), .ref (ad 13), .ref (ad 14), .ref (ad 15), .int v249, .int v251, .ref (ad 16), .int v253, .int v255, .int v257, .int v259, .int v260, .ref (ad 17), .ref (ad 18), .int v261, .ref (ad 19)]) := c262
                refine xget E hQ 0 (by decide) c262 rfl 27 (by decide) q1495 rfl dX12_meet_102 ?_
                refine lv_iconst (v := (-1)) hx hb dX12_meet_105 (by decide) ?_
                refine lv_icmp_eq (tgt := 111) hx hb dX12_meet_106 (by decide) (fun k263 => ?_) (fun k263 => ?_)
                · have h264 := ib_eq k263
                  have b265 : Bd v251 (-1) (-1) := ⟨(b252).1, ((rf_eq b252 (by decide : Bd (-1) (-1) (-1)) h264).1).2⟩
                  refine lv_aload_n hx hb dX12_meet_111 rfl (lv_at hl 2 rfl) ?_
                  refine xget E hQ 0 (by decide) c262 rfl 26 (by decide) q1494 rfl dX12_meet_112 ?_
                  refine lv_istore (lv' := [(5, .int v249), (4, .int x83_4), (3, .int z222), (0, .ref (ad 0)), (1, .int a1), (2, .int a2)]) hx hb dX12_meet_115 hl (by decide) rfl (fun ls hl => ?_)
                  refine lv_aload_n hx hb dX12_meet_117 rfl (lv_at hl 3 rfl) ?_
                  refine lv_iload_n hx hb dX12_meet_118 rfl (lv_at hl 5 rfl) ?_
                  refine lv_iload hx hb dX12_meet_119 (lv_at hl 1 rfl) ?_
                  refine lv_ldc2 (v := (-1)) hx hb E.2.2.1 (E.2.2.2.1 _ q1645) dX12_meet_121 ?_
                  have c266 : S233 7 = .inl (g.2 0, 50, .inl f1) := ((o233 7 (by decide)).trans c230)
                  have q267 : elm (S233 7) 0 = v7.toInt := (elm_of c266 0).trans (congrArg Int32.toInt (ee8))
                  have q268 : elm (S233 7) 1 = v4.toInt := (elm_of c266 1).trans (congrArg Int32.toInt (ee5))
                  refine xcVv E hs hQ hml hl.1 0 (gX12_goes_0 l g ad hD S233 hI a2 x83_4 (-1) b80 b229 (by omega) (by omega)) mX12_goes q1829 (by decide) c262 rfl rfl ⟨(Nat.le_of_ble_eq_true rfl), (Nat.le_of_ble_eq_true rfl)⟩ ⟨(Nat.le_of_ble_eq_true rfl), (Nat.le_of_ble_eq_true rfl)⟩ (Nat.le_of_ble_eq_true rfl) rfl dX12_meet_124 (fun S269 H locs hp269 hQ _ => ?_)
                  obtain ⟨hI, o269⟩ := hp269
                  refine lv_aload_n hx hb dX12_meet_127 rfl (lv_at hl 3 rfl) ?_
                  obtain ⟨v270, v271, v273, v275, v277, v278, w279, v280, v282, v283, v284, v285, v287, v289, v291, v293, v295, v296, v297, c298, b272, b274, b276, b281, b286, b288, b290, b292, b294⟩ := invM_0 hI
                  have c298 : S269 0 = .inr (12, [.int v270, .ref (ad 1), .ref (ad 2), .ref (ad 3), .ref (ad 4), .ref (ad 5), .int v271, .int v273, .int v275, .int v277, .int v278, .long w279, .int v280, .int v282, .int v283, .int v284, .ref (ad 6), .ref (ad 7), .ref (ad 8), .ref (ad 9), .ref (ad 10), .ref (ad 11), .ref (ad 12), .ref (ad 13), .ref (ad 14), .ref (ad 15), .int v285, .int v287, .ref (ad 16), .int v289, .int v291, .int v293, .int v295, .int v296, .ref (ad 17), .ref (ad 18), .int v297, .ref (ad 19)]) := c298
                  refine xget E hQ 0 (by decide) c298 rfl 27 (by decide) q1495 rfl dX12_meet_128 ?_
                  refine lv_iconst (v := (-1)) hx hb dX12_meet_131 (by decide) ?_
                  refine lv_icmp_eq (tgt := 137) hx hb dX12_meet_132 (by decide) (fun k299 => ?_) (fun k299 => ?_)
                  · have h300 := ib_eq k299
                    have b301 : Bd v287 (-1) (-1) := ⟨(b288).1, ((rf_eq b288 (by decide : Bd (-1) (-1) (-1)) h300).1).2⟩
                    refine lv_iload hx hb dX12_meet_137 (lv_at hl 0 rfl) ?_
                    refine lv_aload_n hx hb dX12_meet_139 rfl (lv_at hl 3 rfl) ?_
                    refine xget E hQ 0 (by decide) c298 rfl 26 (by decide) q1494 rfl dX12_meet_140 ?_
                    refine lv_icmp_ne (tgt := 149) hx hb dX12_meet_143 (by decide) (fun k302 => ?_) (fun k302 => ?_)
                    · have h303 := ib_ne k302
                      obtain ⟨z304, e305⟩ : ∃ z : Int32, z = x83_4 + 1 := ⟨_, rfl⟩
                      have t306 := ib_add e305 b229 (by decide : Bd 1 (1) (1)) (by decide) (by decide)
                      have b307 : Bd z304 (1) (401) := ib_addb t306 b229 (by decide : Bd 1 (1) (1))
                      have t306 : z304.toInt = x83_4.toInt + 1 := fold_add t306 rfl (by decide)
                      refine lv_iinc (v := z304) (lv' := [(4, .int z304), (5, .int v249), (3, .int z222), (0, .ref (ad 0)), (1, .int a1), (2, .int a2)]) hx hb dX12_meet_149 hl (k := 1) rfl (by rw [e305]; rfl) (by decide) rfl (fun ls hl => ?_)
                      refine lv_goto (tgt := 83) hx hb dX12_meet_152 (by decide) ?_
                      exact ih83 _ _ _ _ z304 v270 v271 v273 v275 v277 v278 w279 v280 v282 v283 v284 v285 v287 v289 v291 v293 v295 v296 v297 (ib_wk b307 (by decide) (by decide)) b272 b274 b276 b281 b286 (ib_wk b301 (by decide) (by decide)) b290 b292 b294 (by omega) hI (o_trans (o_trans hf83 o233 (by decide)) o269 (by decide)) c298 hQ (lv_sub hl [0, 2, 3, 4, 5] rfl)
                    · have h308 := ib_eq k302
                      refine lv_iload hx hb dX12_meet_146 (lv_at hl 1 rfl) ?_
                      exact xri E hr hlk hQ (⟨hI, (o_trans (o_trans (o_trans (o_trans (up_o o_refl eS60 (by decide)) o83 (by decide)) hf83 (by decide)) o233 (by decide)) o269 (by decide)), (ib_wk b229 (by decide) (by decide))⟩) dX12_meet_148
                  · have h309 := ib_ne k299
                    have b310 : Bd v287 (0) (400) := rf_nlo b288 (by decide : Bd (-1) (-1) (-1)) h309
                    refine lv_iconst (v := (-1)) hx hb dX12_meet_135 (by decide) ?_
                    exact xri E hr hlk hQ (⟨hI, (o_trans (o_trans (o_trans (o_trans (up_o o_refl eS60 (by decide)) o83 (by decide)) hf83 (by decide)) o233 (by decide)) o269 (by decide)), (ib_wk (by decide : Bd (-1) (-1) (-1)) (by decide) (by decide))⟩) dX12_meet_136
                · have h311 := ib_ne k263
                  have b312 : Bd v251 (0) (400) := rf_nlo b252 (by decide : Bd (-1) (-1) (-1)) h311
                  refine lv_iconst (v := (-1)) hx hb dX12_meet_109 (by decide) ?_
                  exact xri E hr hlk hQ (⟨hI, (o_trans (o_trans (o_trans (up_o o_refl eS60 (by decide)) o83 (by decide)) hf83 (by decide)) o233 (by decide)), (ib_wk (by decide : Bd (-1) (-1) (-1)) (by decide) (by decide))⟩) dX12_meet_110
          obtain ⟨n83, hn83⟩ := fu_n ((-1) * z222.toInt + 401)
          exact loop83 n83 _ _ _ _ z222 0 v32 v34 v36 v38 v39 w40 v41 v43 v44 v45 v46 v48 v50 v52 v54 v56 v57 v58 (ib_wk b224 (by decide) (by decide)) b33 b35 b37 b42 b47 b49 b51 b53 b55 (by have : (0 : Int32).toInt = 0 := (by decide); omega) hI o_refl c84 hQ (lv_sub hl [0, 1, 2, 3, 4] rfl)
      · have h313 := ib_eq k81
        refine lv_bipush (v := (-2)) hx hb dX12_meet_26 (by decide) ?_
        exact xri E hr hlk hQ (⟨hI, (up_o o_refl eS60 (by decide)), (ib_wk (by decide : Bd (-2) (-2) (-2)) (by decide) (by decide))⟩) dX12_meet_28
set_option maxHeartbeats 4000000 in
set_option maxRecDepth 100000 in
theorem gX12_share_0 (l : Launch) (g : GG) (ad : Nat → Nat) (hD : Dj ad 20) (S : SS) (hI : InvM g ad S) (a1 : Int32) (hq1 : 0 ≤ 12 * elm (S 7) 1 + (-1) * elm (S 7) 0) (hq2 : 0 ≤ 12 * elm (S 7) 3 + (-1) * elm (S 7) 0) (hq3 : 0 ≤ 8 * elm (S 7) 0 + (-1) * elm (S 7) 6) (hq4 : 0 ≤ 3 * elm (S 7) 0 + (-1) * elm (S 7) 8) (hq5 : 0 ≤ 40000 * elm (S 7) 0 + (-1) * elm (S 6) 0) (hAT : ATp (S 7) (S 12) 0) : Met l yX12_share (wG (.code yX12_share cX12_share 2 (some .int))) (Rm 6) (XPre g ad 20 S [.ref (ad 0), .int a1]) (va_Qi (fun _ S' => InvM g ad S' ∧ (∀ j, j ∉ ([0, 14, 15, 17] : List Nat) → S' j = S j)) (QB g ad 20) (FA ad 20)) 0 0 (FA ad 20) := by
  refine xmet cX12_share "EbbWreckModel" (by decide) rfl (Nat.le_of_ble_eq_true rfl) (fun p e s m below meth c E hr hlk hml hQ ls hl => ?_)
  have hx := E.1
  have hb := E.2.1
  have hs : Sp ad 20 (FA ad 20) := Sp.fa hD
  have hl : lv_has ls 2 [(0, .ref (ad 0)), (1, .int a1)] := hl
  obtain ⟨f1, c2, b3⟩ := invM_7 hI
  obtain ⟨v4, ee5⟩ : ∃ z : Int32, f1 1 = z := ⟨_, rfl⟩
  have b6 : Bd v4 (0) (12) := (by rw [← ee5]; exact b3.2.1 1 (by decide))
  obtain ⟨v7, ee8⟩ : ∃ z : Int32, f1 0 = z := ⟨_, rfl⟩
  have b9 : Bd v7 (0) (12) := (by rw [← ee8]; exact b3.1 0 (by decide))
  obtain ⟨v10, ee11⟩ : ∃ z : Int32, f1 3 = z := ⟨_, rfl⟩
  have b12 : Bd v10 (0) (12) := (by rw [← ee11]; exact b3.2.2.2.1 3 (by decide))
  obtain ⟨v13, ee14⟩ : ∃ z : Int32, f1 6 = z := ⟨_, rfl⟩
  have b15 : Bd v13 (0) (8) := (by rw [← ee14]; exact b3.2.2.2.2.1 6 (by decide))
  obtain ⟨v16, ee17⟩ : ∃ z : Int32, f1 8 = z := ⟨_, rfl⟩
  have b18 : Bd v16 (0) (3) := (by rw [← ee17]; exact b3.2.2.2.2.2.2.1 8 (by decide))
  obtain ⟨f19, c20, b21⟩ := invM_6 hI
  obtain ⟨v22, ee23⟩ : ∃ z : Int32, f19 0 = z := ⟨_, rfl⟩
  have b24 : Bd v22 (0) (40000) := (by rw [← ee23]; exact b21 0)
  have q25 : elm (S 7) 1 = v4.toInt := (elm_of c2 1).trans (congrArg Int32.toInt (ee5))
  have q26 : elm (S 7) 0 = v7.toInt := (elm_of c2 0).trans (congrArg Int32.toInt (ee8))
  have q27 : elm (S 7) 3 = v10.toInt := (elm_of c2 3).trans (congrArg Int32.toInt (ee11))
  have q28 : elm (S 7) 6 = v13.toInt := (elm_of c2 6).trans (congrArg Int32.toInt (ee14))
  have q29 : elm (S 7) 8 = v16.toInt := (elm_of c2 8).trans (congrArg Int32.toInt (ee17))
  have q30 : elm (S 6) 0 = v22.toInt := (elm_of c20 0).trans (congrArg Int32.toInt (ee23))
  refine lv_aload_n hx hb dX12_share_0 rfl (lv_at hl 0 rfl) ?_
  refine lv_iconst (v := 0) hx hb dX12_share_1 (by decide) ?_
  obtain ⟨v31, v32, v34, v36, v38, v39, w40, v41, v43, v44, v45, v46, v48, v50, v52, v54, v56, v57, v58, c59, b33, b35, b37, b42, b47, b49, b51, b53, b55⟩ := invM_0 hI
  have c59 : S 0 = .inr (12, [.int v31, .ref (ad 1), .ref (ad 2), .ref (ad 3), .ref (ad 4), .ref (ad 5), .int v32, .int v34, .int v36, .int v38, .int v39, .long w40, .int v41, .int v43, .int v44, .int v45, .ref (ad 6), .ref (ad 7), .ref (ad 8), .ref (ad 9), .ref (ad 10), .ref (ad 11), .ref (ad 12), .ref (ad 13), .ref (ad 14), .ref (ad 15), .int v46, .int v48, .ref (ad 16), .int v50, .int v52, .int v54, .int v56, .int v57, .ref (ad 17), .ref (ad 18), .int v58, .ref (ad 19)]) := c59
  refine xputi E hs hQ 0 (by decide) c59 rfl 0 (by decide) q1468 rfl rfl (Nat.le_of_ble_eq_true rfl) dX12_share_2 (fun H locs S60 eS60 hQ => ?_)
  have hI := invM_up_0 hI eS60 ⟨0, v32, v34, v36, v38, v39, w40, v41, v43, v44, v45, v46, v48, v50, v52, v54, v56, v57, v58, rfl, b33, b35, b37, b42, b47, b49, b51, b53, b55⟩
  have c61 : S60 0 = .inr (12, [.int 0, .ref (ad 1), .ref (ad 2), .ref (ad 3), .ref (ad 4), .ref (ad 5), .int v32, .int v34, .int v36, .int v38, .int v39, .long w40, .int v41, .int v43, .int v44, .int v45, .ref (ad 6), .ref (ad 7), .ref (ad 8), .ref (ad 9), .ref (ad 10), .ref (ad 11), .ref (ad 12), .ref (ad 13), .ref (ad 14), .ref (ad 15), .int v46, .int v48, .ref (ad 16), .int v50, .int v52, .int v54, .int v56, .int v57, .ref (ad 17), .ref (ad 18), .int v58, .ref (ad 19)]) := up_at eS60 rfl
  refine lv_aload_n hx hb dX12_share_5 rfl (lv_at hl 0 rfl) ?_
  refine lv_iload_n hx hb dX12_share_6 rfl (lv_at hl 1 rfl) ?_
  have c62 : S60 7 = .inl (g.2 0, 50, .inl f1) := (up_ne eS60 (by decide) c2)
  refine xcVi E hs hQ hml hl.1 0 (gX12_isSitter_0 l g ad hD S60 hI a1) mX12_isSitter q1816 (by decide) c61 rfl rfl ⟨(Nat.le_of_ble_eq_true rfl), (Nat.le_of_ble_eq_true rfl)⟩ ⟨(Nat.le_of_ble_eq_true rfl), (Nat.le_of_ble_eq_true rfl)⟩ (Nat.le_of_ble_eq_true rfl) rfl dX12_share_7 (fun r63 S63 H locs hp63 hQ _ => ?_)
  obtain ⟨rfl, b63, g63_0⟩ := hp63
  have q64 : elm (S60 7) 8 = v16.toInt := (elm_of c62 8).trans (congrArg Int32.toInt (ee17))
  refine lv_if_ne (tgt := 16) hx hb dX12_share_10 (by decide) (fun k65 => ?_) (fun k65 => ?_)
  · have h66 := ib_ne k65
    have b67 : Bd r63 (1) (1) := rf_nlo b63 (by decide : Bd 0 (0) (0)) h66
    have g68 := g63_0.resolve_left (by omega)
    clear g63_0
    have b69 : Bd a1 (0) (2) := ⟨by omega, by omega⟩
    have b70 : Bd v16 (1) (3) := ⟨by omega, (b18).2⟩
    refine lv_aload_n hx hb dX12_share_16 rfl (lv_at hl 0 rfl) ?_
    have q71 : elm (S60 7) 1 = v4.toInt := (elm_of c62 1).trans (congrArg Int32.toInt (ee5))
    have q72 : elm (S60 7) 0 = v7.toInt := (elm_of c62 0).trans (congrArg Int32.toInt (ee8))
    have q73 : elm (S60 7) 3 = v10.toInt := (elm_of c62 3).trans (congrArg Int32.toInt (ee11))
    have q74 : elm (S60 7) 6 = v13.toInt := (elm_of c62 6).trans (congrArg Int32.toInt (ee14))
    have c75 : S60 6 = .inl (g.2 0, 5, .inl f19) := (up_ne eS60 (by decide) c20)
    have q76 : elm (S60 6) 0 = v22.toInt := (elm_of c75 0).trans (congrArg Int32.toInt (ee23))
    refine xcVv E hs hQ hml hl.1 0 (gX12_laysStrands_0 l g ad hD S60 hI (by omega) (by omega) (by omega) (by omega) (by omega) (at_tr hAT (up_eq (j := 7) eS60 (by decide)) (up_eq (j := 12) eS60 (by decide)))) mX12_laysStrands q2058 (by decide) c61 rfl rfl ⟨(Nat.le_of_ble_eq_true rfl), (Nat.le_of_ble_eq_true rfl)⟩ ⟨(Nat.le_of_ble_eq_true rfl), (Nat.le_of_ble_eq_true rfl)⟩ (Nat.le_of_ble_eq_true rfl) rfl dX12_share_17 (fun S77 H locs hp77 hQ _ => ?_)
    obtain ⟨hI, o77⟩ := hp77
    refine lv_aload_n hx hb dX12_share_20 rfl (lv_at hl 0 rfl) ?_
    refine lv_iload_n hx hb dX12_share_21 rfl (lv_at hl 1 rfl) ?_
    refine lv_aload_n hx hb dX12_share_22 rfl (lv_at hl 0 rfl) ?_
    obtain ⟨v78, v79, v81, v83, v85, v86, w87, v88, v90, v91, v92, v93, v95, v97, v99, v101, v103, v104, v105, c106, b80, b82, b84, b89, b94, b96, b98, b100, b102⟩ := invM_0 hI
    have c106 : S77 0 = .inr (12, [.int v78, .ref (ad 1), .ref (ad 2), .ref (ad 3), .ref (ad 4), .ref (ad 5), .int v79, .int v81, .int v83, .int v85, .int v86, .long w87, .int v88, .int v90, .int v91, .int v92, .ref (ad 6), .ref (ad 7), .ref (ad 8), .ref (ad 9), .ref (ad 10), .ref (ad 11), .ref (ad 12), .ref (ad 13), .ref (ad 14), .ref (ad 15), .int v93, .int v95, .ref (ad 16), .int v97, .int v99, .int v101, .int v103, .int v104, .ref (ad 17), .ref (ad 18), .int v105, .ref (ad 19)]) := c106
    refine xget E hQ 0 (by decide) c106 rfl 24 (by decide) q1492 rfl dX12_share_23 ?_
    refine lv_iload_n hx hb dX12_share_26 rfl (lv_at hl 1 rfl) ?_
    obtain ⟨f107, c108, b109⟩ := invM_14 hI
    refine xiald E hQ 14 (by decide) c108 (ib_in b69 (by decide) (by decide)) dX12_share_27 ?_
    refine lv_topi (fun z110 e111 => ?_)
    have b112 : Bd z110 (0) (11) := (by rw [e111]; exact b109 _)
    refine xcVi E hs hQ hml hl.1 0 (gX12_seatOf_0 l g ad hD S77 hI a1 z110 b69 b112) mX12_seatOf q2062 (by decide) c106 rfl rfl ⟨(Nat.le_of_ble_eq_true rfl), (Nat.le_of_ble_eq_true rfl)⟩ ⟨(Nat.le_of_ble_eq_true rfl), (Nat.le_of_ble_eq_true rfl)⟩ (Nat.le_of_ble_eq_true rfl) rfl dX12_share_28 (fun r113 S113 H locs hp113 hQ _ => ?_)
    subst hp113
    exact xri E hr hlk hQ (⟨hI, (o_trans (up_o o_refl eS60 (by decide)) o77 (by decide))⟩) dX12_share_31
  · have h114 := ib_eq k65
    have b115 : Bd r63 (0) (0) := ⟨(b63).1, ((rf_eq b63 (by decide : Bd 0 (0) (0)) h114).1).2⟩
    clear g63_0
    refine lv_bipush (v := (-2)) hx hb dX12_share_13 (by decide) ?_
    exact xri E hr hlk hQ (⟨hI, (up_o o_refl eS60 (by decide))⟩) dX12_share_15
set_option maxHeartbeats 4000000 in
set_option maxRecDepth 100000 in
theorem gX12_seat_0 (l : Launch) (g : GG) (ad : Nat → Nat) (hD : Dj ad 20) (S : SS) (hI : InvM g ad S) (a1 : Int32) (a2 : Int32) (hq1 : 0 ≤ 12 * elm (S 7) 1 + (-1) * elm (S 7) 0) (hq2 : 0 ≤ 12 * elm (S 7) 3 + (-1) * elm (S 7) 0) (hq3 : 0 ≤ 8 * elm (S 7) 0 + (-1) * elm (S 7) 6) (hq4 : 0 ≤ 3 * elm (S 7) 0 + (-1) * elm (S 7) 8) (hq5 : 0 ≤ 40000 * elm (S 7) 0 + (-1) * elm (S 6) 0) (hAT : ATp (S 7) (S 12) 0) : Met l yX12_seat (wG (.code yX12_seat cX12_seat 3 (some .int))) (Rm 6) (XPre g ad 20 S [.ref (ad 0), .int a1, .int a2]) (va_Qi (fun _ S' => InvM g ad S' ∧ (∀ j, j ∉ ([0, 14, 15, 17] : List Nat) → S' j = S j)) (QB g ad 20) (FA ad 20)) 0 0 (FA ad 20) := by
  refine xmet cX12_seat "EbbWreckModel" (by decide) rfl (Nat.le_of_ble_eq_true rfl) (fun p e s m below meth c E hr hlk hml hQ ls hl => ?_)
  have hx := E.1
  have hb := E.2.1
  have hs : Sp ad 20 (FA ad 20) := Sp.fa hD
  have hl : lv_has ls 3 [(0, .ref (ad 0)), (1, .int a1), (2, .int a2)] := hl
  obtain ⟨f1, c2, b3⟩ := invM_7 hI
  obtain ⟨v4, ee5⟩ : ∃ z : Int32, f1 1 = z := ⟨_, rfl⟩
  have b6 : Bd v4 (0) (12) := (by rw [← ee5]; exact b3.2.1 1 (by decide))
  obtain ⟨v7, ee8⟩ : ∃ z : Int32, f1 0 = z := ⟨_, rfl⟩
  have b9 : Bd v7 (0) (12) := (by rw [← ee8]; exact b3.1 0 (by decide))
  obtain ⟨v10, ee11⟩ : ∃ z : Int32, f1 3 = z := ⟨_, rfl⟩
  have b12 : Bd v10 (0) (12) := (by rw [← ee11]; exact b3.2.2.2.1 3 (by decide))
  obtain ⟨v13, ee14⟩ : ∃ z : Int32, f1 6 = z := ⟨_, rfl⟩
  have b15 : Bd v13 (0) (8) := (by rw [← ee14]; exact b3.2.2.2.2.1 6 (by decide))
  obtain ⟨v16, ee17⟩ : ∃ z : Int32, f1 8 = z := ⟨_, rfl⟩
  have b18 : Bd v16 (0) (3) := (by rw [← ee17]; exact b3.2.2.2.2.2.2.1 8 (by decide))
  obtain ⟨f19, c20, b21⟩ := invM_6 hI
  obtain ⟨v22, ee23⟩ : ∃ z : Int32, f19 0 = z := ⟨_, rfl⟩
  have b24 : Bd v22 (0) (40000) := (by rw [← ee23]; exact b21 0)
  have q25 : elm (S 7) 1 = v4.toInt := (elm_of c2 1).trans (congrArg Int32.toInt (ee5))
  have q26 : elm (S 7) 0 = v7.toInt := (elm_of c2 0).trans (congrArg Int32.toInt (ee8))
  have q27 : elm (S 7) 3 = v10.toInt := (elm_of c2 3).trans (congrArg Int32.toInt (ee11))
  have q28 : elm (S 7) 6 = v13.toInt := (elm_of c2 6).trans (congrArg Int32.toInt (ee14))
  have q29 : elm (S 7) 8 = v16.toInt := (elm_of c2 8).trans (congrArg Int32.toInt (ee17))
  have q30 : elm (S 6) 0 = v22.toInt := (elm_of c20 0).trans (congrArg Int32.toInt (ee23))
  refine lv_aload_n hx hb dX12_seat_0 rfl (lv_at hl 0 rfl) ?_
  refine lv_iconst (v := 0) hx hb dX12_seat_1 (by decide) ?_
  obtain ⟨v31, v32, v34, v36, v38, v39, w40, v41, v43, v44, v45, v46, v48, v50, v52, v54, v56, v57, v58, c59, b33, b35, b37, b42, b47, b49, b51, b53, b55⟩ := invM_0 hI
  have c59 : S 0 = .inr (12, [.int v31, .ref (ad 1), .ref (ad 2), .ref (ad 3), .ref (ad 4), .ref (ad 5), .int v32, .int v34, .int v36, .int v38, .int v39, .long w40, .int v41, .int v43, .int v44, .int v45, .ref (ad 6), .ref (ad 7), .ref (ad 8), .ref (ad 9), .ref (ad 10), .ref (ad 11), .ref (ad 12), .ref (ad 13), .ref (ad 14), .ref (ad 15), .int v46, .int v48, .ref (ad 16), .int v50, .int v52, .int v54, .int v56, .int v57, .ref (ad 17), .ref (ad 18), .int v58, .ref (ad 19)]) := c59
  refine xputi E hs hQ 0 (by decide) c59 rfl 0 (by decide) q1468 rfl rfl (Nat.le_of_ble_eq_true rfl) dX12_seat_2 (fun H locs S60 eS60 hQ => ?_)
  have hI := invM_up_0 hI eS60 ⟨0, v32, v34, v36, v38, v39, w40, v41, v43, v44, v45, v46, v48, v50, v52, v54, v56, v57, v58, rfl, b33, b35, b37, b42, b47, b49, b51, b53, b55⟩
  have c61 : S60 0 = .inr (12, [.int 0, .ref (ad 1), .ref (ad 2), .ref (ad 3), .ref (ad 4), .ref (ad 5), .int v32, .int v34, .int v36, .int v38, .int v39, .long w40, .int v41, .int v43, .int v44, .int v45, .ref (ad 6), .ref (ad 7), .ref (ad 8), .ref (ad 9), .ref (ad 10), .ref (ad 11), .ref (ad 12), .ref (ad 13), .ref (ad 14), .ref (ad 15), .int v46, .int v48, .ref (ad 16), .int v50, .int v52, .int v54, .int v56, .int v57, .ref (ad 17), .ref (ad 18), .int v58, .ref (ad 19)]) := up_at eS60 rfl
  refine lv_aload_n hx hb dX12_seat_5 rfl (lv_at hl 0 rfl) ?_
  refine lv_iload_n hx hb dX12_seat_6 rfl (lv_at hl 1 rfl) ?_
  have c62 : S60 7 = .inl (g.2 0, 50, .inl f1) := (up_ne eS60 (by decide) c2)
  refine xcVi E hs hQ hml hl.1 0 (gX12_isSitter_0 l g ad hD S60 hI a1) mX12_isSitter q1816 (by decide) c61 rfl rfl ⟨(Nat.le_of_ble_eq_true rfl), (Nat.le_of_ble_eq_true rfl)⟩ ⟨(Nat.le_of_ble_eq_true rfl), (Nat.le_of_ble_eq_true rfl)⟩ (Nat.le_of_ble_eq_true rfl) rfl dX12_seat_7 (fun r63 S63 H locs hp63 hQ _ => ?_)
  obtain ⟨rfl, b63, g63_0⟩ := hp63
  have q64 : elm (S60 7) 8 = v16.toInt := (elm_of c62 8).trans (congrArg Int32.toInt (ee17))
  refine lv_if_eq (tgt := 22) hx hb dX12_seat_10 (by decide) (fun k65 => ?_) (fun k65 => ?_)
  · have h66 := ib_eq k65
    have b67 : Bd r63 (0) (0) := ⟨(b63).1, ((rf_eq b63 (by decide : Bd 0 (0) (0)) h66).1).2⟩
    clear g63_0
    refine lv_bipush (v := (-2)) hx hb dX12_seat_22 (by decide) ?_
    exact xri E hr hlk hQ (⟨hI, (up_o o_refl eS60 (by decide))⟩) dX12_seat_24
  · have h68 := ib_ne k65
    have b69 : Bd r63 (1) (1) := rf_nlo b63 (by decide : Bd 0 (0) (0)) h68
    have g70 := g63_0.resolve_left (by omega)
    clear g63_0
    have b71 : Bd a1 (0) (2) := ⟨by omega, by omega⟩
    have b72 : Bd v16 (1) (3) := ⟨by omega, (b18).2⟩
    refine lv_aload_n hx hb dX12_seat_13 rfl (lv_at hl 0 rfl) ?_
    refine lv_iload_n hx hb dX12_seat_14 rfl (lv_at hl 2 rfl) ?_
    refine lv_i2l hx hb dX12_seat_15 rfl ?_
    refine lv_topl (fun w73 e74 => ?_)
    have t75 : w73.toInt = a2.toInt := by rw [e74]; exact i2l_i _
    have b76 : BdL w73 (-2147483648) (2147483647) := (by have h1 := ((ib_full a2)).1; have h2 := ((ib_full a2)).2; exact ⟨by omega, by omega⟩)
    refine xcVi E hs hQ hml hl.1 0 (gX12_isCell_0 l g ad hD S60 hI w73) mX12_isCell q1750 (by decide) c61 rfl rfl ⟨(Nat.le_of_ble_eq_true rfl), (Nat.le_of_ble_eq_true rfl)⟩ ⟨(Nat.le_of_ble_eq_true rfl), (Nat.le_of_ble_eq_true rfl)⟩ (Nat.le_of_ble_eq_true rfl) rfl dX12_seat_16 (fun r77 S77 H locs hp77 hQ _ => ?_)
    obtain ⟨rfl, b77, g77_0⟩ := hp77
    have q78 : elm (S60 7) 0 = v7.toInt := (elm_of c62 0).trans (congrArg Int32.toInt (ee8))
    refine lv_if_ne (tgt := 25) hx hb dX12_seat_19 (by decide) (fun k79 => ?_) (fun k79 => ?_)
    · have h80 := ib_ne k79
      have b81 : Bd r77 (1) (1) := rf_nlo b77 (by decide : Bd 0 (0) (0)) h80
      have g82 := g77_0.resolve_left (by omega)
      clear g77_0
      have b83 : BdL w73 (0) (11) := ⟨by omega, by omega⟩
      have b84 : Bd v7 (1) (12) := ⟨by omega, (b9).2⟩
      have b85 : Bd a2 (0) (11) := ⟨by omega, by omega⟩
      refine lv_aload_n hx hb dX12_seat_25 rfl (lv_at hl 0 rfl) ?_
      have q86 : elm (S60 7) 1 = v4.toInt := (elm_of c62 1).trans (congrArg Int32.toInt (ee5))
      have q87 : elm (S60 7) 3 = v10.toInt := (elm_of c62 3).trans (congrArg Int32.toInt (ee11))
      have q88 : elm (S60 7) 6 = v13.toInt := (elm_of c62 6).trans (congrArg Int32.toInt (ee14))
      have c89 : S60 6 = .inl (g.2 0, 5, .inl f19) := (up_ne eS60 (by decide) c20)
      have q90 : elm (S60 6) 0 = v22.toInt := (elm_of c89 0).trans (congrArg Int32.toInt (ee23))
      refine xcVv E hs hQ hml hl.1 0 (gX12_laysStrands_0 l g ad hD S60 hI (by omega) (by omega) (by omega) (by omega) (by omega) (at_tr hAT (up_eq (j := 7) eS60 (by decide)) (up_eq (j := 12) eS60 (by decide)))) mX12_laysStrands q2058 (by decide) c61 rfl rfl ⟨(Nat.le_of_ble_eq_true rfl), (Nat.le_of_ble_eq_true rfl)⟩ ⟨(Nat.le_of_ble_eq_true rfl), (Nat.le_of_ble_eq_true rfl)⟩ (Nat.le_of_ble_eq_true rfl) rfl dX12_seat_26 (fun S91 H locs hp91 hQ _ => ?_)
      obtain ⟨hI, o91⟩ := hp91
      refine lv_aload_n hx hb dX12_seat_29 rfl (lv_at hl 0 rfl) ?_
      refine lv_iload_n hx hb dX12_seat_30 rfl (lv_at hl 1 rfl) ?_
      refine lv_iload_n hx hb dX12_seat_31 rfl (lv_at hl 2 rfl) ?_
      obtain ⟨v93, v94, v96, v98, v100, v101, w102, v103, v105, v106, v107, v108, v110, v112, v114, v116, v118, v119, v120, c121, b95, b97, b99, b104, b109, b111, b113, b115, b117⟩ := invM_0 hI
      have c121 : S91 0 = .inr (12, [.int v93, .ref (ad 1), .ref (ad 2), .ref (ad 3), .ref (ad 4), .ref (ad 5), .int v94, .int v96, .int v98, .int v100, .int v101, .long w102, .int v103, .int v105, .int v106, .int v107, .ref (ad 6), .ref (ad 7), .ref (ad 8), .ref (ad 9), .ref (ad 10), .ref (ad 11), .ref (ad 12), .ref (ad 13), .ref (ad 14), .ref (ad 15), .int v108, .int v110, .ref (ad 16), .int v112, .int v114, .int v116, .int v118, .int v119, .ref (ad 17), .ref (ad 18), .int v120, .ref (ad 19)]) := c121
      refine xcVi E hs hQ hml hl.1 0 (gX12_seatOf_0 l g ad hD S91 hI a1 a2 b71 b85) mX12_seatOf q2062 (by decide) c121 rfl rfl ⟨(Nat.le_of_ble_eq_true rfl), (Nat.le_of_ble_eq_true rfl)⟩ ⟨(Nat.le_of_ble_eq_true rfl), (Nat.le_of_ble_eq_true rfl)⟩ (Nat.le_of_ble_eq_true rfl) rfl dX12_seat_32 (fun r92 S92 H locs hp92 hQ _ => ?_)
      subst hp92
      exact xri E hr hlk hQ (⟨hI, (o_trans (up_o o_refl eS60 (by decide)) o91 (by decide))⟩) dX12_seat_35
    · have h122 := ib_eq k79
      have b123 : Bd r77 (0) (0) := ⟨(b77).1, ((rf_eq b77 (by decide : Bd 0 (0) (0)) h122).1).2⟩
      clear g77_0
      refine lv_bipush (v := (-2)) hx hb dX12_seat_22 (by decide) ?_
      exact xri E hr hlk hQ (⟨hI, (up_o o_refl eS60 (by decide))⟩) dX12_seat_24
set_option maxHeartbeats 4000000 in
set_option maxRecDepth 100000 in
theorem gX12_seats_0 (l : Launch) (g : GG) (ad : Nat → Nat) (hD : Dj ad 20) (S : SS) (hI : InvM g ad S) (a1 : Int32) (hq1 : 0 ≤ 12 * elm (S 7) 1 + (-1) * elm (S 7) 0) (hq2 : 0 ≤ 12 * elm (S 7) 3 + (-1) * elm (S 7) 0) (hq3 : 0 ≤ 8 * elm (S 7) 0 + (-1) * elm (S 7) 6) (hq4 : 0 ≤ 3 * elm (S 7) 0 + (-1) * elm (S 7) 8) (hq5 : 0 ≤ 40000 * elm (S 7) 0 + (-1) * elm (S 6) 0) (hAT : ATp (S 7) (S 12) 0) : Met l yX12_seats (wG (.code yX12_seats cX12_seats 4 (some .int))) (Rm 6) (XPre g ad 20 S [.ref (ad 0), .int a1]) (va_Qi (fun r S' => InvM g ad S' ∧ (∀ j, j ∉ ([0, 14, 15, 17] : List Nat) → S' j = S j) ∧ Bd r (-2) (11)) (QB g ad 20) (FA ad 20)) 0 0 (FA ad 20) := by
  refine xmet cX12_seats "EbbWreckModel" (by decide) rfl (Nat.le_of_ble_eq_true rfl) (fun p e s m below meth c E hr hlk hml hQ ls hl => ?_)
  have hx := E.1
  have hb := E.2.1
  have hs : Sp ad 20 (FA ad 20) := Sp.fa hD
  have hl : lv_has ls 4 [(0, .ref (ad 0)), (1, .int a1)] := hl
  obtain ⟨f1, c2, b3⟩ := invM_7 hI
  obtain ⟨v4, ee5⟩ : ∃ z : Int32, f1 1 = z := ⟨_, rfl⟩
  have b6 : Bd v4 (0) (12) := (by rw [← ee5]; exact b3.2.1 1 (by decide))
  obtain ⟨v7, ee8⟩ : ∃ z : Int32, f1 0 = z := ⟨_, rfl⟩
  have b9 : Bd v7 (0) (12) := (by rw [← ee8]; exact b3.1 0 (by decide))
  obtain ⟨v10, ee11⟩ : ∃ z : Int32, f1 3 = z := ⟨_, rfl⟩
  have b12 : Bd v10 (0) (12) := (by rw [← ee11]; exact b3.2.2.2.1 3 (by decide))
  obtain ⟨v13, ee14⟩ : ∃ z : Int32, f1 6 = z := ⟨_, rfl⟩
  have b15 : Bd v13 (0) (8) := (by rw [← ee14]; exact b3.2.2.2.2.1 6 (by decide))
  obtain ⟨v16, ee17⟩ : ∃ z : Int32, f1 8 = z := ⟨_, rfl⟩
  have b18 : Bd v16 (0) (3) := (by rw [← ee17]; exact b3.2.2.2.2.2.2.1 8 (by decide))
  obtain ⟨f19, c20, b21⟩ := invM_6 hI
  obtain ⟨v22, ee23⟩ : ∃ z : Int32, f19 0 = z := ⟨_, rfl⟩
  have b24 : Bd v22 (0) (40000) := (by rw [← ee23]; exact b21 0)
  have q25 : elm (S 7) 1 = v4.toInt := (elm_of c2 1).trans (congrArg Int32.toInt (ee5))
  have q26 : elm (S 7) 0 = v7.toInt := (elm_of c2 0).trans (congrArg Int32.toInt (ee8))
  have q27 : elm (S 7) 3 = v10.toInt := (elm_of c2 3).trans (congrArg Int32.toInt (ee11))
  have q28 : elm (S 7) 6 = v13.toInt := (elm_of c2 6).trans (congrArg Int32.toInt (ee14))
  have q29 : elm (S 7) 8 = v16.toInt := (elm_of c2 8).trans (congrArg Int32.toInt (ee17))
  have q30 : elm (S 6) 0 = v22.toInt := (elm_of c20 0).trans (congrArg Int32.toInt (ee23))
  refine lv_aload_n hx hb dX12_seats_0 rfl (lv_at hl 0 rfl) ?_
  refine lv_iconst (v := 0) hx hb dX12_seats_1 (by decide) ?_
  obtain ⟨v31, v32, v34, v36, v38, v39, w40, v41, v43, v44, v45, v46, v48, v50, v52, v54, v56, v57, v58, c59, b33, b35, b37, b42, b47, b49, b51, b53, b55⟩ := invM_0 hI
  have c59 : S 0 = .inr (12, [.int v31, .ref (ad 1), .ref (ad 2), .ref (ad 3), .ref (ad 4), .ref (ad 5), .int v32, .int v34, .int v36, .int v38, .int v39, .long w40, .int v41, .int v43, .int v44, .int v45, .ref (ad 6), .ref (ad 7), .ref (ad 8), .ref (ad 9), .ref (ad 10), .ref (ad 11), .ref (ad 12), .ref (ad 13), .ref (ad 14), .ref (ad 15), .int v46, .int v48, .ref (ad 16), .int v50, .int v52, .int v54, .int v56, .int v57, .ref (ad 17), .ref (ad 18), .int v58, .ref (ad 19)]) := c59
  refine xputi E hs hQ 0 (by decide) c59 rfl 0 (by decide) q1468 rfl rfl (Nat.le_of_ble_eq_true rfl) dX12_seats_2 (fun H locs S60 eS60 hQ => ?_)
  have hI := invM_up_0 hI eS60 ⟨0, v32, v34, v36, v38, v39, w40, v41, v43, v44, v45, v46, v48, v50, v52, v54, v56, v57, v58, rfl, b33, b35, b37, b42, b47, b49, b51, b53, b55⟩
  have c61 : S60 0 = .inr (12, [.int 0, .ref (ad 1), .ref (ad 2), .ref (ad 3), .ref (ad 4), .ref (ad 5), .int v32, .int v34, .int v36, .int v38, .int v39, .long w40, .int v41, .int v43, .int v44, .int v45, .ref (ad 6), .ref (ad 7), .ref (ad 8), .ref (ad 9), .ref (ad 10), .ref (ad 11), .ref (ad 12), .ref (ad 13), .ref (ad 14), .ref (ad 15), .int v46, .int v48, .ref (ad 16), .int v50, .int v52, .int v54, .int v56, .int v57, .ref (ad 17), .ref (ad 18), .int v58, .ref (ad 19)]) := up_at eS60 rfl
  refine lv_aload_n hx hb dX12_seats_5 rfl (lv_at hl 0 rfl) ?_
  refine lv_iload_n hx hb dX12_seats_6 rfl (lv_at hl 1 rfl) ?_
  have c62 : S60 7 = .inl (g.2 0, 50, .inl f1) := (up_ne eS60 (by decide) c2)
  refine xcVi E hs hQ hml hl.1 0 (gX12_isSitter_0 l g ad hD S60 hI a1) mX12_isSitter q1816 (by decide) c61 rfl rfl ⟨(Nat.le_of_ble_eq_true rfl), (Nat.le_of_ble_eq_true rfl)⟩ ⟨(Nat.le_of_ble_eq_true rfl), (Nat.le_of_ble_eq_true rfl)⟩ (Nat.le_of_ble_eq_true rfl) rfl dX12_seats_7 (fun r63 S63 H locs hp63 hQ _ => ?_)
  obtain ⟨rfl, b63, g63_0⟩ := hp63
  have q64 : elm (S60 7) 8 = v16.toInt := (elm_of c62 8).trans (congrArg Int32.toInt (ee17))
  refine lv_if_ne (tgt := 16) hx hb dX12_seats_10 (by decide) (fun k65 => ?_) (fun k65 => ?_)
  · have h66 := ib_ne k65
    have b67 : Bd r63 (1) (1) := rf_nlo b63 (by decide : Bd 0 (0) (0)) h66
    have g68 := g63_0.resolve_left (by omega)
    clear g63_0
    have b69 : Bd a1 (0) (2) := ⟨by omega, by omega⟩
    have b70 : Bd v16 (1) (3) := ⟨by omega, (b18).2⟩
    refine lv_aload_n hx hb dX12_seats_16 rfl (lv_at hl 0 rfl) ?_
    have q71 : elm (S60 7) 1 = v4.toInt := (elm_of c62 1).trans (congrArg Int32.toInt (ee5))
    have q72 : elm (S60 7) 0 = v7.toInt := (elm_of c62 0).trans (congrArg Int32.toInt (ee8))
    have q73 : elm (S60 7) 3 = v10.toInt := (elm_of c62 3).trans (congrArg Int32.toInt (ee11))
    have q74 : elm (S60 7) 6 = v13.toInt := (elm_of c62 6).trans (congrArg Int32.toInt (ee14))
    have c75 : S60 6 = .inl (g.2 0, 5, .inl f19) := (up_ne eS60 (by decide) c20)
    have q76 : elm (S60 6) 0 = v22.toInt := (elm_of c75 0).trans (congrArg Int32.toInt (ee23))
    refine xcVv E hs hQ hml hl.1 0 (gX12_laysStrands_0 l g ad hD S60 hI (by omega) (by omega) (by omega) (by omega) (by omega) (at_tr hAT (up_eq (j := 7) eS60 (by decide)) (up_eq (j := 12) eS60 (by decide)))) mX12_laysStrands q2058 (by decide) c61 rfl rfl ⟨(Nat.le_of_ble_eq_true rfl), (Nat.le_of_ble_eq_true rfl)⟩ ⟨(Nat.le_of_ble_eq_true rfl), (Nat.le_of_ble_eq_true rfl)⟩ (Nat.le_of_ble_eq_true rfl) rfl dX12_seats_17 (fun S77 H locs hp77 hQ _ => ?_)
    obtain ⟨hI, o77⟩ := hp77
    refine lv_iconst (v := 0) hx hb dX12_seats_20 (by decide) ?_
    refine lv_istore_n (lv' := [(2, .int 0), (0, .ref (ad 0)), (1, .int a1)]) hx hb dX12_seats_21 rfl hl (by decide) rfl (fun ls hl => ?_)
    refine lv_iconst (v := 1) hx hb dX12_seats_22 (by decide) ?_
    refine lv_istore_n (lv' := [(3, .int 1), (2, .int 0), (0, .ref (ad 0)), (1, .int a1)]) hx hb dX12_seats_23 rfl hl (by decide) rfl (fun ls hl => ?_)
    have loop24 : ∀ (n : Nat) (H : Heap) (locs : List Loc) (ls : Array Slot) (x24_2 : Int32) (x24_3 : Int32), Bd x24_2 (0) (11) → Bd x24_3 (1) (12) → (-1) * x24_3.toInt + 12 < ((n : Nat) : Int) → Hp g ad 20 S77 (FA ad 20) s.heap H locs → lv_has ls 4 [(3, .int x24_3), (2, .int x24_2), (0, .ref (ad 0)), (1, .int a1)] → W p l e (Rm 6) s m [.ref (ad 0), .int a1].toArray below meth c H locs 0 0 (MQ below (va_Qi (fun r S' => InvM g ad S' ∧ (∀ j, j ∉ ([0, 14, 15, 17] : List Nat) → S' j = S j) ∧ Bd r (-2) (11)) (QB g ad 20) (FA ad 20)) [.ref (ad 0), .int a1].toArray s 0 0 (FA ad 20)) (F0 m 24 ls []) := by
      intro n
      induction n with
      | zero => intro H locs ls x24_2 x24_3 Bx24_2 Bx24_3 hn24_ hQ hl; exfalso; have := (Bx24_3).2; omega
      | succ n24_ ih24 =>
        intro H locs ls x24_2 x24_3 Bx24_2 Bx24_3 hn24_ hQ hl
        refine lv_iload_n hx hb dX12_seats_24 rfl (lv_at hl 0 rfl) ?_
        refine lv_aload_n hx hb dX12_seats_25 rfl (lv_at hl 2 rfl) ?_
        obtain ⟨v78, v79, v81, v83, v85, v86, w87, v88, v90, v91, v92, v93, v95, v97, v99, v101, v103, v104, v105, c106, b80, b82, b84, b89, b94, b96, b98, b100, b102⟩ := invM_0 hI
        have c106 : S77 0 = .inr (12, [.int v78, .ref (ad 1), .ref (ad 2), .ref (ad 3), .ref (ad 4), .ref (ad 5), .int v79, .int v81, .int v83, .int v85, .int v86, .long w87, .int v88, .int v90, .int v91, .int v92, .ref (ad 6), .ref (ad 7), .ref (ad 8), .ref (ad 9), .ref (ad 10), .ref (ad 11), .ref (ad 12), .ref (ad 13), .ref (ad 14), .ref (ad 15), .int v93, .int v95, .ref (ad 16), .int v97, .int v99, .int v101, .int v103, .int v104, .ref (ad 17), .ref (ad 18), .int v105, .ref (ad 19)]) := c106
        refine xget E hQ 0 (by decide) c106 rfl 17 (by decide) q1485 rfl dX12_seats_26 ?_
        refine lv_iconst (v := 0) hx hb dX12_seats_29 (by decide) ?_
        have c107 : S77 7 = .inl (g.2 0, 50, .inl f1) := ((o77 7 (by decide)).trans c62)
        refine xiald E hQ 7 (by decide) c107 (vp_in_lit 0 50 (by decide)) dX12_seats_30 ?_
        refine sb_at (P := fun z => W _ _ _ _ _ _ _ _ _ _ _ _ _ _ _ (F0 _ _ _ (.int z :: _))) (show f1 (0 : Int32).toNatClampNeg = v7 from ee8) ?_
        refine lv_icmp_ge (tgt := 57) hx hb dX12_seats_31 (by decide) (fun k108 => ?_) (fun k108 => ?_)
        · have h109 := ib_le k108
          refine lv_iload_n hx hb dX12_seats_57 rfl (lv_at hl 1 rfl) ?_
          exact xri E hr hlk hQ (⟨hI, (o_trans (up_o o_refl eS60 (by decide)) o77 (by decide)), (ib_wk Bx24_2 (by decide) (by decide))⟩) dX12_seats_58
        · have h110 := ib_nle k108
          have b111 : Bd x24_3 (1) (11) := ⟨(Bx24_3).1, ((rf_lt Bx24_3 b9 h110).1).2⟩
          have b112 : Bd v7 (2) (12) := ⟨((rf_lt Bx24_3 b9 h110).2).1, (b9).2⟩
          refine lv_aload_n hx hb dX12_seats_34 rfl (lv_at hl 2 rfl) ?_
          refine lv_iload_n hx hb dX12_seats_35 rfl (lv_at hl 3 rfl) ?_
          refine lv_iload_n hx hb dX12_seats_36 rfl (lv_at hl 0 rfl) ?_
          refine xcVi E hs hQ hml hl.1 0 (gX12_seatOf_0 l g ad hD S77 hI a1 x24_3 b69 (ib_wk b111 (by decide) (by decide))) mX12_seatOf q2062 (by decide) c106 rfl rfl ⟨(Nat.le_of_ble_eq_true rfl), (Nat.le_of_ble_eq_true rfl)⟩ ⟨(Nat.le_of_ble_eq_true rfl), (Nat.le_of_ble_eq_true rfl)⟩ (Nat.le_of_ble_eq_true rfl) rfl dX12_seats_37 (fun r113 S113 H locs hp113 hQ _ => ?_)
          subst hp113
          refine lv_aload_n hx hb dX12_seats_40 rfl (lv_at hl 2 rfl) ?_
          refine lv_iload_n hx hb dX12_seats_41 rfl (lv_at hl 3 rfl) ?_
          refine lv_iload_n hx hb dX12_seats_42 rfl (lv_at hl 1 rfl) ?_
          refine xcVi E hs hQ hml hl.1 0 (gX12_seatOf_0 l g ad hD S77 hI a1 x24_2 b69 Bx24_2) mX12_seatOf q2062 (by decide) c106 rfl rfl ⟨(Nat.le_of_ble_eq_true rfl), (Nat.le_of_ble_eq_true rfl)⟩ ⟨(Nat.le_of_ble_eq_true rfl), (Nat.le_of_ble_eq_true rfl)⟩ (Nat.le_of_ble_eq_true rfl) rfl dX12_seats_43 (fun r114 S114 H locs hp114 hQ _ => ?_)
          subst hp114
          refine lv_icmp_le (tgt := 51) hx hb dX12_seats_46 (by decide) (fun k115 => ?_) (fun k115 => ?_)
          · have h116 := ib_le k115
            obtain ⟨z117, e118⟩ : ∃ z : Int32, z = x24_3 + 1 := ⟨_, rfl⟩
            have t119 := ib_add e118 b111 (by decide : Bd 1 (1) (1)) (by decide) (by decide)
            have b120 : Bd z117 (2) (12) := ib_addb t119 b111 (by decide : Bd 1 (1) (1))
            have t119 : z117.toInt = x24_3.toInt + 1 := fold_add t119 rfl (by decide)
            refine lv_iinc (v := z117) (lv' := [(3, .int z117), (2, .int x24_2), (0, .ref (ad 0)), (1, .int a1)]) hx hb dX12_seats_51 hl (k := 0) rfl (by rw [e118]; rfl) (by decide) rfl (fun ls hl => ?_)
            refine lv_goto (tgt := 24) hx hb dX12_seats_54 (by decide) ?_
            exact ih24 _ _ _ x24_2 z117 Bx24_2 (ib_wk b120 (by decide) (by decide)) (by omega) hQ (lv_sub hl [0, 1, 2, 3] rfl)
          · have h121 := ib_nle k115
            have b122 : Bd r114 (-2147483648) (2147483646) := ⟨((ib_full r114)).1, ((rf_lt (ib_full r114) (ib_full r113) h121).1).2⟩
            have b123 : Bd r113 (-2147483647) (2147483647) := ⟨((rf_lt (ib_full r114) (ib_full r113) h121).2).1, ((ib_full r113)).2⟩
            refine lv_iload_n hx hb dX12_seats_49 rfl (lv_at hl 0 rfl) ?_
            refine lv_istore_n (lv' := [(2, .int x24_3), (3, .int x24_3), (0, .ref (ad 0)), (1, .int a1)]) hx hb dX12_seats_50 rfl hl (by decide) rfl (fun ls hl => ?_)
            obtain ⟨z124, e125⟩ : ∃ z : Int32, z = x24_3 + 1 := ⟨_, rfl⟩
            have t126 := ib_add e125 b111 (by decide : Bd 1 (1) (1)) (by decide) (by decide)
            have b127 : Bd z124 (2) (12) := ib_addb t126 b111 (by decide : Bd 1 (1) (1))
            have t126 : z124.toInt = x24_3.toInt + 1 := fold_add t126 rfl (by decide)
            refine lv_iinc (v := z124) (lv' := [(3, .int z124), (2, .int x24_3), (0, .ref (ad 0)), (1, .int a1)]) hx hb dX12_seats_51 hl (k := 1) rfl (by rw [e125]; rfl) (by decide) rfl (fun ls hl => ?_)
            refine lv_goto (tgt := 24) hx hb dX12_seats_54 (by decide) ?_
            exact ih24 _ _ _ x24_3 z124 (ib_wk b111 (by decide) (by decide)) (ib_wk b127 (by decide) (by decide)) (by omega) hQ (lv_sub hl [0, 1, 2, 3] rfl)
    obtain ⟨n24, hn24⟩ := fu_n (11)
    exact loop24 n24 _ _ _ 0 1 (ib_wk (by decide : Bd 0 (0) (0)) (by decide) (by decide)) (ib_wk (by decide : Bd 1 (1) (1)) (by decide) (by decide)) (by have : (0 : Int32).toInt = 0 := (by decide); have : (1 : Int32).toInt = 1 := (by decide); omega) hQ (lv_sub hl [0, 1, 2, 3] rfl)
  · have h128 := ib_eq k65
    have b129 : Bd r63 (0) (0) := ⟨(b63).1, ((rf_eq b63 (by decide : Bd 0 (0) (0)) h128).1).2⟩
    clear g63_0
    refine lv_bipush (v := (-2)) hx hb dX12_seats_13 (by decide) ?_
    exact xri E hr hlk hQ (⟨hI, (up_o o_refl eS60 (by decide)), (ib_wk (by decide : Bd (-2) (-2) (-2)) (by decide) (by decide))⟩) dX12_seats_15
set_option maxHeartbeats 4000000 in
set_option maxRecDepth 100000 in
theorem gX12_rest_0 (l : Launch) (g : GG) (ad : Nat → Nat) (hD : Dj ad 20) (S : SS) (hI : InvM g ad S) (a1 : Int32) (hq1 : 0 ≤ 12 * elm (S 7) 1 + (-1) * elm (S 7) 0) (hq2 : 0 ≤ 12 * elm (S 7) 3 + (-1) * elm (S 7) 0) (hq3 : 0 ≤ 8 * elm (S 7) 0 + (-1) * elm (S 7) 6) (hq4 : 0 ≤ 3 * elm (S 7) 0 + (-1) * elm (S 7) 8) (hq5 : 0 ≤ 40000 * elm (S 7) 0 + (-1) * elm (S 6) 0) (hAT : ATp (S 7) (S 12) 0) : Met l yX12_rest (wG (.code yX12_rest cX12_rest 2 (some .int))) (Rm 7) (XPre g ad 20 S [.ref (ad 0), .int a1]) (va_Qi (fun _ S' => InvM g ad S' ∧ (∀ j, j ∉ ([0, 14, 15, 17, 18] : List Nat) → S' j = S j)) (QB g ad 20) (FA ad 20)) 0 0 (FA ad 20) := by
  refine xmet cX12_rest "EbbWreckModel" (by decide) rfl (Nat.le_of_ble_eq_true rfl) (fun p e s m below meth c E hr hlk hml hQ ls hl => ?_)
  have hx := E.1
  have hb := E.2.1
  have hs : Sp ad 20 (FA ad 20) := Sp.fa hD
  have hl : lv_has ls 2 [(0, .ref (ad 0)), (1, .int a1)] := hl
  obtain ⟨f1, c2, b3⟩ := invM_7 hI
  obtain ⟨v4, ee5⟩ : ∃ z : Int32, f1 1 = z := ⟨_, rfl⟩
  have b6 : Bd v4 (0) (12) := (by rw [← ee5]; exact b3.2.1 1 (by decide))
  obtain ⟨v7, ee8⟩ : ∃ z : Int32, f1 0 = z := ⟨_, rfl⟩
  have b9 : Bd v7 (0) (12) := (by rw [← ee8]; exact b3.1 0 (by decide))
  obtain ⟨v10, ee11⟩ : ∃ z : Int32, f1 3 = z := ⟨_, rfl⟩
  have b12 : Bd v10 (0) (12) := (by rw [← ee11]; exact b3.2.2.2.1 3 (by decide))
  obtain ⟨v13, ee14⟩ : ∃ z : Int32, f1 6 = z := ⟨_, rfl⟩
  have b15 : Bd v13 (0) (8) := (by rw [← ee14]; exact b3.2.2.2.2.1 6 (by decide))
  obtain ⟨v16, ee17⟩ : ∃ z : Int32, f1 8 = z := ⟨_, rfl⟩
  have b18 : Bd v16 (0) (3) := (by rw [← ee17]; exact b3.2.2.2.2.2.2.1 8 (by decide))
  obtain ⟨f19, c20, b21⟩ := invM_6 hI
  obtain ⟨v22, ee23⟩ : ∃ z : Int32, f19 0 = z := ⟨_, rfl⟩
  have b24 : Bd v22 (0) (40000) := (by rw [← ee23]; exact b21 0)
  have q25 : elm (S 7) 1 = v4.toInt := (elm_of c2 1).trans (congrArg Int32.toInt (ee5))
  have q26 : elm (S 7) 0 = v7.toInt := (elm_of c2 0).trans (congrArg Int32.toInt (ee8))
  have q27 : elm (S 7) 3 = v10.toInt := (elm_of c2 3).trans (congrArg Int32.toInt (ee11))
  have q28 : elm (S 7) 6 = v13.toInt := (elm_of c2 6).trans (congrArg Int32.toInt (ee14))
  have q29 : elm (S 7) 8 = v16.toInt := (elm_of c2 8).trans (congrArg Int32.toInt (ee17))
  have q30 : elm (S 6) 0 = v22.toInt := (elm_of c20 0).trans (congrArg Int32.toInt (ee23))
  refine lv_aload_n hx hb dX12_rest_0 rfl (lv_at hl 0 rfl) ?_
  refine lv_iconst (v := 0) hx hb dX12_rest_1 (by decide) ?_
  obtain ⟨v31, v32, v34, v36, v38, v39, w40, v41, v43, v44, v45, v46, v48, v50, v52, v54, v56, v57, v58, c59, b33, b35, b37, b42, b47, b49, b51, b53, b55⟩ := invM_0 hI
  have c59 : S 0 = .inr (12, [.int v31, .ref (ad 1), .ref (ad 2), .ref (ad 3), .ref (ad 4), .ref (ad 5), .int v32, .int v34, .int v36, .int v38, .int v39, .long w40, .int v41, .int v43, .int v44, .int v45, .ref (ad 6), .ref (ad 7), .ref (ad 8), .ref (ad 9), .ref (ad 10), .ref (ad 11), .ref (ad 12), .ref (ad 13), .ref (ad 14), .ref (ad 15), .int v46, .int v48, .ref (ad 16), .int v50, .int v52, .int v54, .int v56, .int v57, .ref (ad 17), .ref (ad 18), .int v58, .ref (ad 19)]) := c59
  refine xputi E hs hQ 0 (by decide) c59 rfl 0 (by decide) q1468 rfl rfl (Nat.le_of_ble_eq_true rfl) dX12_rest_2 (fun H locs S60 eS60 hQ => ?_)
  have hI := invM_up_0 hI eS60 ⟨0, v32, v34, v36, v38, v39, w40, v41, v43, v44, v45, v46, v48, v50, v52, v54, v56, v57, v58, rfl, b33, b35, b37, b42, b47, b49, b51, b53, b55⟩
  have c61 : S60 0 = .inr (12, [.int 0, .ref (ad 1), .ref (ad 2), .ref (ad 3), .ref (ad 4), .ref (ad 5), .int v32, .int v34, .int v36, .int v38, .int v39, .long w40, .int v41, .int v43, .int v44, .int v45, .ref (ad 6), .ref (ad 7), .ref (ad 8), .ref (ad 9), .ref (ad 10), .ref (ad 11), .ref (ad 12), .ref (ad 13), .ref (ad 14), .ref (ad 15), .int v46, .int v48, .ref (ad 16), .int v50, .int v52, .int v54, .int v56, .int v57, .ref (ad 17), .ref (ad 18), .int v58, .ref (ad 19)]) := up_at eS60 rfl
  refine lv_aload_n hx hb dX12_rest_5 rfl (lv_at hl 0 rfl) ?_
  refine lv_iload_n hx hb dX12_rest_6 rfl (lv_at hl 1 rfl) ?_
  have c62 : S60 7 = .inl (g.2 0, 50, .inl f1) := (up_ne eS60 (by decide) c2)
  refine xcVi E hs hQ hml hl.1 0 (gX12_isSitter_0 l g ad hD S60 hI a1) mX12_isSitter q1816 (by decide) c61 rfl rfl ⟨(Nat.le_of_ble_eq_true rfl), (Nat.le_of_ble_eq_true rfl)⟩ ⟨(Nat.le_of_ble_eq_true rfl), (Nat.le_of_ble_eq_true rfl)⟩ (Nat.le_of_ble_eq_true rfl) rfl dX12_rest_7 (fun r63 S63 H locs hp63 hQ _ => ?_)
  obtain ⟨rfl, b63, g63_0⟩ := hp63
  have q64 : elm (S60 7) 8 = v16.toInt := (elm_of c62 8).trans (congrArg Int32.toInt (ee17))
  refine lv_if_ne (tgt := 16) hx hb dX12_rest_10 (by decide) (fun k65 => ?_) (fun k65 => ?_)
  · have h66 := ib_ne k65
    have b67 : Bd r63 (1) (1) := rf_nlo b63 (by decide : Bd 0 (0) (0)) h66
    have g68 := g63_0.resolve_left (by omega)
    clear g63_0
    have b69 : Bd a1 (0) (2) := ⟨by omega, by omega⟩
    have b70 : Bd v16 (1) (3) := ⟨by omega, (b18).2⟩
    refine lv_aload_n hx hb dX12_rest_16 rfl (lv_at hl 0 rfl) ?_
    have q71 : elm (S60 7) 1 = v4.toInt := (elm_of c62 1).trans (congrArg Int32.toInt (ee5))
    have q72 : elm (S60 7) 0 = v7.toInt := (elm_of c62 0).trans (congrArg Int32.toInt (ee8))
    have q73 : elm (S60 7) 3 = v10.toInt := (elm_of c62 3).trans (congrArg Int32.toInt (ee11))
    have q74 : elm (S60 7) 6 = v13.toInt := (elm_of c62 6).trans (congrArg Int32.toInt (ee14))
    have c75 : S60 6 = .inl (g.2 0, 5, .inl f19) := (up_ne eS60 (by decide) c20)
    have q76 : elm (S60 6) 0 = v22.toInt := (elm_of c75 0).trans (congrArg Int32.toInt (ee23))
    refine xcVi E hs hQ hml hl.1 0 (gX12_restsNow_0 l g ad hD S60 hI (by omega) (by omega) (by omega) (by omega) (by omega) (at_tr hAT (up_eq (j := 7) eS60 (by decide)) (up_eq (j := 12) eS60 (by decide)))) mX12_restsNow q2078 (by decide) c61 rfl rfl ⟨(Nat.le_of_ble_eq_true rfl), (Nat.le_of_ble_eq_true rfl)⟩ ⟨(Nat.le_of_ble_eq_true rfl), (Nat.le_of_ble_eq_true rfl)⟩ (Nat.le_of_ble_eq_true rfl) rfl dX12_rest_17 (fun r77 S77 H locs hp77 hQ _ => ?_)
    obtain ⟨hI, o77⟩ := hp77
    refine lv_if_ne (tgt := 27) hx hb dX12_rest_20 (by decide) (fun k78 => ?_) (fun k78 => ?_)
    · have h79 := ib_ne k78
      refine lv_aload_n hx hb dX12_rest_27 rfl (lv_at hl 0 rfl) ?_
      obtain ⟨v80, v81, v83, v85, v87, v88, w89, v90, v92, v93, v94, v95, v97, v99, v101, v103, v105, v106, v107, c108, b82, b84, b86, b91, b96, b98, b100, b102, b104⟩ := invM_0 hI
      have c108 : S77 0 = .inr (12, [.int v80, .ref (ad 1), .ref (ad 2), .ref (ad 3), .ref (ad 4), .ref (ad 5), .int v81, .int v83, .int v85, .int v87, .int v88, .long w89, .int v90, .int v92, .int v93, .int v94, .ref (ad 6), .ref (ad 7), .ref (ad 8), .ref (ad 9), .ref (ad 10), .ref (ad 11), .ref (ad 12), .ref (ad 13), .ref (ad 14), .ref (ad 15), .int v95, .int v97, .ref (ad 16), .int v99, .int v101, .int v103, .int v105, .int v106, .ref (ad 17), .ref (ad 18), .int v107, .ref (ad 19)]) := c108
      refine xget E hQ 0 (by decide) c108 rfl 35 (by decide) q1503 rfl dX12_rest_28 ?_
      refine lv_iload_n hx hb dX12_rest_31 rfl (lv_at hl 1 rfl) ?_
      obtain ⟨f109, c110⟩ := invM_18 hI
      refine xiald E hQ 18 (by decide) c110 (ib_in b69 (by decide) (by decide)) dX12_rest_32 ?_
      refine lv_topi (fun z112 e113 => ?_)
      exact xri E hr hlk hQ (⟨hI, (o_trans (up_o o_refl eS60 (by decide)) o77 (by decide))⟩) dX12_rest_33
    · have h114 := ib_eq k78
      have b115 : Bd r77 (0) (0) := ⟨((rf_eq (ib_full r77) (by decide : Bd 0 (0) (0)) h114).1).1, ((rf_eq (ib_full r77) (by decide : Bd 0 (0) (0)) h114).1).2⟩
      refine lv_iconst (v := (-1)) hx hb dX12_rest_23 (by decide) ?_
      refine lv_goto (tgt := 33) hx hb dX12_rest_24 (by decide) ?_
      exact xri E hr hlk hQ (⟨hI, (o_trans (up_o o_refl eS60 (by decide)) o77 (by decide))⟩) dX12_rest_33
  · have h116 := ib_eq k65
    have b117 : Bd r63 (0) (0) := ⟨(b63).1, ((rf_eq b63 (by decide : Bd 0 (0) (0)) h116).1).2⟩
    clear g63_0
    refine lv_bipush (v := (-2)) hx hb dX12_rest_13 (by decide) ?_
    exact xri E hr hlk hQ (⟨hI, (up_o o_refl eS60 (by decide))⟩) dX12_rest_15
set_option maxHeartbeats 4000000 in
set_option maxRecDepth 100000 in
theorem gX12_clock_0 (l : Launch) (g : GG) (ad : Nat → Nat) (hD : Dj ad 20) (S : SS) (hI : InvM g ad S) (a1 : Int32) (a2 : Int32) (hq1 : 0 ≤ 12 * elm (S 7) 1 + (-1) * elm (S 7) 0) (hq2 : 0 ≤ 12 * elm (S 7) 3 + (-1) * elm (S 7) 0) (hq3 : 0 ≤ 8 * elm (S 7) 0 + (-1) * elm (S 7) 6) (hq4 : 0 ≤ 3 * elm (S 7) 0 + (-1) * elm (S 7) 8) (hq5 : 0 ≤ 40000 * elm (S 7) 0 + (-1) * elm (S 6) 0) (hAT : ATp (S 7) (S 12) 0) : Met l yX12_clock (wG (.code yX12_clock cX12_clock 3 (some .int))) (Rm 6) (XPre g ad 20 S [.ref (ad 0), .int a1, .int a2]) (va_Qi (fun _ S' => InvM g ad S' ∧ (∀ j, j ∉ ([0, 14, 15] : List Nat) → S' j = S j)) (QB g ad 20) (FA ad 20)) 0 0 (FA ad 20) := by
  refine xmet cX12_clock "EbbWreckModel" (by decide) rfl (Nat.le_of_ble_eq_true rfl) (fun p e s m below meth c E hr hlk hml hQ ls hl => ?_)
  have hx := E.1
  have hb := E.2.1
  have hs : Sp ad 20 (FA ad 20) := Sp.fa hD
  have hl : lv_has ls 3 [(0, .ref (ad 0)), (1, .int a1), (2, .int a2)] := hl
  obtain ⟨f1, c2, b3⟩ := invM_7 hI
  obtain ⟨v4, ee5⟩ : ∃ z : Int32, f1 1 = z := ⟨_, rfl⟩
  have b6 : Bd v4 (0) (12) := (by rw [← ee5]; exact b3.2.1 1 (by decide))
  obtain ⟨v7, ee8⟩ : ∃ z : Int32, f1 0 = z := ⟨_, rfl⟩
  have b9 : Bd v7 (0) (12) := (by rw [← ee8]; exact b3.1 0 (by decide))
  obtain ⟨v10, ee11⟩ : ∃ z : Int32, f1 3 = z := ⟨_, rfl⟩
  have b12 : Bd v10 (0) (12) := (by rw [← ee11]; exact b3.2.2.2.1 3 (by decide))
  obtain ⟨v13, ee14⟩ : ∃ z : Int32, f1 6 = z := ⟨_, rfl⟩
  have b15 : Bd v13 (0) (8) := (by rw [← ee14]; exact b3.2.2.2.2.1 6 (by decide))
  obtain ⟨v16, ee17⟩ : ∃ z : Int32, f1 8 = z := ⟨_, rfl⟩
  have b18 : Bd v16 (0) (3) := (by rw [← ee17]; exact b3.2.2.2.2.2.2.1 8 (by decide))
  obtain ⟨f19, c20, b21⟩ := invM_6 hI
  obtain ⟨v22, ee23⟩ : ∃ z : Int32, f19 0 = z := ⟨_, rfl⟩
  have b24 : Bd v22 (0) (40000) := (by rw [← ee23]; exact b21 0)
  have q25 : elm (S 7) 1 = v4.toInt := (elm_of c2 1).trans (congrArg Int32.toInt (ee5))
  have q26 : elm (S 7) 0 = v7.toInt := (elm_of c2 0).trans (congrArg Int32.toInt (ee8))
  have q27 : elm (S 7) 3 = v10.toInt := (elm_of c2 3).trans (congrArg Int32.toInt (ee11))
  have q28 : elm (S 7) 6 = v13.toInt := (elm_of c2 6).trans (congrArg Int32.toInt (ee14))
  have q29 : elm (S 7) 8 = v16.toInt := (elm_of c2 8).trans (congrArg Int32.toInt (ee17))
  have q30 : elm (S 6) 0 = v22.toInt := (elm_of c20 0).trans (congrArg Int32.toInt (ee23))
  refine lv_aload_n hx hb dX12_clock_0 rfl (lv_at hl 0 rfl) ?_
  refine lv_iconst (v := 0) hx hb dX12_clock_1 (by decide) ?_
  obtain ⟨v31, v32, v34, v36, v38, v39, w40, v41, v43, v44, v45, v46, v48, v50, v52, v54, v56, v57, v58, c59, b33, b35, b37, b42, b47, b49, b51, b53, b55⟩ := invM_0 hI
  have c59 : S 0 = .inr (12, [.int v31, .ref (ad 1), .ref (ad 2), .ref (ad 3), .ref (ad 4), .ref (ad 5), .int v32, .int v34, .int v36, .int v38, .int v39, .long w40, .int v41, .int v43, .int v44, .int v45, .ref (ad 6), .ref (ad 7), .ref (ad 8), .ref (ad 9), .ref (ad 10), .ref (ad 11), .ref (ad 12), .ref (ad 13), .ref (ad 14), .ref (ad 15), .int v46, .int v48, .ref (ad 16), .int v50, .int v52, .int v54, .int v56, .int v57, .ref (ad 17), .ref (ad 18), .int v58, .ref (ad 19)]) := c59
  refine xputi E hs hQ 0 (by decide) c59 rfl 0 (by decide) q1468 rfl rfl (Nat.le_of_ble_eq_true rfl) dX12_clock_2 (fun H locs S60 eS60 hQ => ?_)
  have hI := invM_up_0 hI eS60 ⟨0, v32, v34, v36, v38, v39, w40, v41, v43, v44, v45, v46, v48, v50, v52, v54, v56, v57, v58, rfl, b33, b35, b37, b42, b47, b49, b51, b53, b55⟩
  have c61 : S60 0 = .inr (12, [.int 0, .ref (ad 1), .ref (ad 2), .ref (ad 3), .ref (ad 4), .ref (ad 5), .int v32, .int v34, .int v36, .int v38, .int v39, .long w40, .int v41, .int v43, .int v44, .int v45, .ref (ad 6), .ref (ad 7), .ref (ad 8), .ref (ad 9), .ref (ad 10), .ref (ad 11), .ref (ad 12), .ref (ad 13), .ref (ad 14), .ref (ad 15), .int v46, .int v48, .ref (ad 16), .int v50, .int v52, .int v54, .int v56, .int v57, .ref (ad 17), .ref (ad 18), .int v58, .ref (ad 19)]) := up_at eS60 rfl
  refine lv_aload_n hx hb dX12_clock_5 rfl (lv_at hl 0 rfl) ?_
  refine lv_iload_n hx hb dX12_clock_6 rfl (lv_at hl 1 rfl) ?_
  have c62 : S60 6 = .inl (g.2 0, 5, .inl f19) := (up_ne eS60 (by decide) c20)
  refine xcVi E hs hQ hml hl.1 0 (gX12_isParty_0 l g ad hD S60 hI a1) mX12_isParty q1874 (by decide) c61 rfl rfl ⟨(Nat.le_of_ble_eq_true rfl), (Nat.le_of_ble_eq_true rfl)⟩ ⟨(Nat.le_of_ble_eq_true rfl), (Nat.le_of_ble_eq_true rfl)⟩ (Nat.le_of_ble_eq_true rfl) rfl dX12_clock_7 (fun r63 S63 H locs hp63 hQ _ => ?_)
  obtain ⟨rfl, b63, g63_0⟩ := hp63
  have q64 : elm (S60 6) 0 = v22.toInt := (elm_of c62 0).trans (congrArg Int32.toInt (ee23))
  refine lv_if_eq (tgt := 27) hx hb dX12_clock_10 (by decide) (fun k65 => ?_) (fun k65 => ?_)
  · have h66 := ib_eq k65
    have b67 : Bd r63 (0) (0) := ⟨(b63).1, ((rf_eq b63 (by decide : Bd 0 (0) (0)) h66).1).2⟩
    clear g63_0
    refine lv_bipush (v := (-2)) hx hb dX12_clock_27 (by decide) ?_
    exact xri E hr hlk hQ (⟨hI, (up_o o_refl eS60 (by decide))⟩) dX12_clock_29
  · have h68 := ib_ne k65
    have b69 : Bd r63 (1) (1) := rf_nlo b63 (by decide : Bd 0 (0) (0)) h68
    have g70 := g63_0.resolve_left (by omega)
    clear g63_0
    have b71 : Bd v22 (1) (40000) := ⟨by omega, (b24).2⟩
    have b72 : Bd a1 (0) (5) := ⟨by omega, by omega⟩
    refine lv_iload_n hx hb dX12_clock_13 rfl (lv_at hl 2 rfl) ?_
    refine lv_i2l hx hb dX12_clock_14 rfl ?_
    refine lv_topl (fun w73 e74 => ?_)
    have t75 : w73.toInt = a2.toInt := by rw [e74]; exact i2l_i _
    have b76 : BdL w73 (-2147483648) (2147483647) := (by have h1 := ((ib_full a2)).1; have h2 := ((ib_full a2)).2; exact ⟨by omega, by omega⟩)
    refine lv_ldc2 (v := (-20)) hx hb E.2.2.1 (E.2.2.2.1 _ q2094) dX12_clock_15 ?_
    refine lv_ldc2 (v := 20) hx hb E.2.2.1 (E.2.2.2.1 _ q2095) dX12_clock_18 ?_
    have q77 : ((-20) : Int64).toInt = (-20) := by decide
    have q78 : (20 : Int64).toInt = 20 := by decide
    refine xcSi E hs hQ hml hl.1 (gX12_in l g ad hD S60 hI w73 (-20) 20) mX12_in q1591 rfl ⟨(Nat.le_of_ble_eq_true rfl), (Nat.le_of_ble_eq_true rfl)⟩ ⟨(Nat.le_of_ble_eq_true rfl), (Nat.le_of_ble_eq_true rfl)⟩ (Nat.le_of_ble_eq_true rfl) rfl dX12_clock_21 (fun r79 S79 H locs hp79 hQ => ?_)
    obtain ⟨rfl, b79, g79_0, u79_0⟩ := hp79
    refine lv_if_ne (tgt := 30) hx hb dX12_clock_24 (by decide) (fun k80 => ?_) (fun k80 => ?_)
    · have h81 := ib_ne k80
      have b82 : Bd r79 (1) (1) := rf_nlo b79 (by decide : Bd 0 (0) (0)) h81
      have g83 := g79_0.resolve_left (by omega)
      clear g79_0
      have b84 : BdL w73 (-20) (20) := ⟨by omega, by omega⟩
      have b85 : Bd a2 (-20) (20) := ⟨by omega, by omega⟩
      refine lv_aload_n hx hb dX12_clock_30 rfl (lv_at hl 0 rfl) ?_
      refine xcVv E hs hQ hml hl.1 0 (gX12_lays_0 l g ad hD S60 hI (at_tr hAT (up_eq (j := 7) eS60 (by decide)) (up_eq (j := 12) eS60 (by decide)))) mX12_lays q1820 (by decide) c61 rfl rfl ⟨(Nat.le_of_ble_eq_true rfl), (Nat.le_of_ble_eq_true rfl)⟩ ⟨(Nat.le_of_ble_eq_true rfl), (Nat.le_of_ble_eq_true rfl)⟩ (Nat.le_of_ble_eq_true rfl) rfl dX12_clock_31 (fun S86 H locs hp86 hQ _ => ?_)
      obtain ⟨hI, o86⟩ := hp86
      refine lv_aload_n hx hb dX12_clock_34 rfl (lv_at hl 0 rfl) ?_
      refine lv_iload_n hx hb dX12_clock_35 rfl (lv_at hl 1 rfl) ?_
      refine lv_iconst (v := (-1)) hx hb dX12_clock_36 (by decide) ?_
      refine lv_iload_n hx hb dX12_clock_37 rfl (lv_at hl 2 rfl) ?_
      have c87 : S86 7 = .inl (g.2 0, 50, .inl f1) := ((o86 7 (by decide)).trans (up_ne eS60 (by decide) c2))
      have q88 : elm (S86 7) 0 = v7.toInt := (elm_of c87 0).trans (congrArg Int32.toInt (ee8))
      have q89 : elm (S86 7) 1 = v4.toInt := (elm_of c87 1).trans (congrArg Int32.toInt (ee5))
      have c91 : S86 0 = .inr (12, [.int 0, .ref (ad 1), .ref (ad 2), .ref (ad 3), .ref (ad 4), .ref (ad 5), .int v32, .int v34, .int v36, .int v38, .int v39, .long w40, .int v41, .int v43, .int v44, .int v45, .ref (ad 6), .ref (ad 7), .ref (ad 8), .ref (ad 9), .ref (ad 10), .ref (ad 11), .ref (ad 12), .ref (ad 13), .ref (ad 14), .ref (ad 15), .int v46, .int v48, .ref (ad 16), .int v50, .int v52, .int v54, .int v56, .int v57, .ref (ad 17), .ref (ad 18), .int v58, .ref (ad 19)]) := ((o86 0 (by decide)).trans c61)
      refine xcVi E hs hQ hml hl.1 0 (gX12_hasOf_0 l g ad hD S86 hI a1 (-1) a2 (by omega) (by omega)) mX12_hasOf q1879 (by decide) c91 rfl rfl ⟨(Nat.le_of_ble_eq_true rfl), (Nat.le_of_ble_eq_true rfl)⟩ ⟨(Nat.le_of_ble_eq_true rfl), (Nat.le_of_ble_eq_true rfl)⟩ (Nat.le_of_ble_eq_true rfl) rfl dX12_clock_38 (fun r90 S90 H locs hp90 hQ _ => ?_)
      obtain ⟨hI, o90⟩ := hp90
      exact xri E hr hlk hQ (⟨hI, (o_trans (o_trans (up_o o_refl eS60 (by decide)) o86 (by decide)) o90 (by decide))⟩) dX12_clock_41
    · have h92 := ib_eq k80
      have b93 : Bd r79 (0) (0) := ⟨(b79).1, ((rf_eq b79 (by decide : Bd 0 (0) (0)) h92).1).2⟩
      clear g79_0
      refine lv_bipush (v := (-2)) hx hb dX12_clock_27 (by decide) ?_
      exact xri E hr hlk hQ (⟨hI, (up_o o_refl eS60 (by decide))⟩) dX12_clock_29
set_option maxHeartbeats 4000000 in
set_option maxRecDepth 100000 in
theorem gX12_set_0 (l : Launch) (g : GG) (ad : Nat → Nat) (hD : Dj ad 20) (S : SS) (hI : InvM g ad S) (a1 : Int32) (hq1 : 0 ≤ 12 * elm (S 7) 1 + (-1) * elm (S 7) 0) (hq2 : 0 ≤ 12 * elm (S 7) 3 + (-1) * elm (S 7) 0) (hq3 : 0 ≤ 8 * elm (S 7) 0 + (-1) * elm (S 7) 6) (hq4 : 0 ≤ 3 * elm (S 7) 0 + (-1) * elm (S 7) 8) (hq5 : 0 ≤ 40000 * elm (S 7) 0 + (-1) * elm (S 6) 0) (hAT : ATp (S 7) (S 12) 0) : Met l yX12_set (wG (.code yX12_set cX12_set 4 (some .int))) (Rm 6) (XPre g ad 20 S [.ref (ad 0), .int a1]) (va_Qi (fun r S' => InvM g ad S' ∧ (∀ j, j ∉ ([0, 14, 15] : List Nat) → S' j = S j) ∧ Bd r (-1000) (20)) (QB g ad 20) (FA ad 20)) 0 0 (FA ad 20) := by
  refine xmet cX12_set "EbbWreckModel" (by decide) rfl (Nat.le_of_ble_eq_true rfl) (fun p e s m below meth c E hr hlk hml hQ ls hl => ?_)
  have hx := E.1
  have hb := E.2.1
  have hs : Sp ad 20 (FA ad 20) := Sp.fa hD
  have hl : lv_has ls 4 [(0, .ref (ad 0)), (1, .int a1)] := hl
  obtain ⟨f1, c2, b3⟩ := invM_7 hI
  obtain ⟨v4, ee5⟩ : ∃ z : Int32, f1 1 = z := ⟨_, rfl⟩
  have b6 : Bd v4 (0) (12) := (by rw [← ee5]; exact b3.2.1 1 (by decide))
  obtain ⟨v7, ee8⟩ : ∃ z : Int32, f1 0 = z := ⟨_, rfl⟩
  have b9 : Bd v7 (0) (12) := (by rw [← ee8]; exact b3.1 0 (by decide))
  obtain ⟨v10, ee11⟩ : ∃ z : Int32, f1 3 = z := ⟨_, rfl⟩
  have b12 : Bd v10 (0) (12) := (by rw [← ee11]; exact b3.2.2.2.1 3 (by decide))
  obtain ⟨v13, ee14⟩ : ∃ z : Int32, f1 6 = z := ⟨_, rfl⟩
  have b15 : Bd v13 (0) (8) := (by rw [← ee14]; exact b3.2.2.2.2.1 6 (by decide))
  obtain ⟨v16, ee17⟩ : ∃ z : Int32, f1 8 = z := ⟨_, rfl⟩
  have b18 : Bd v16 (0) (3) := (by rw [← ee17]; exact b3.2.2.2.2.2.2.1 8 (by decide))
  obtain ⟨f19, c20, b21⟩ := invM_6 hI
  obtain ⟨v22, ee23⟩ : ∃ z : Int32, f19 0 = z := ⟨_, rfl⟩
  have b24 : Bd v22 (0) (40000) := (by rw [← ee23]; exact b21 0)
  have q25 : elm (S 7) 1 = v4.toInt := (elm_of c2 1).trans (congrArg Int32.toInt (ee5))
  have q26 : elm (S 7) 0 = v7.toInt := (elm_of c2 0).trans (congrArg Int32.toInt (ee8))
  have q27 : elm (S 7) 3 = v10.toInt := (elm_of c2 3).trans (congrArg Int32.toInt (ee11))
  have q28 : elm (S 7) 6 = v13.toInt := (elm_of c2 6).trans (congrArg Int32.toInt (ee14))
  have q29 : elm (S 7) 8 = v16.toInt := (elm_of c2 8).trans (congrArg Int32.toInt (ee17))
  have q30 : elm (S 6) 0 = v22.toInt := (elm_of c20 0).trans (congrArg Int32.toInt (ee23))
  refine lv_aload_n hx hb dX12_set_0 rfl (lv_at hl 0 rfl) ?_
  refine lv_iconst (v := 0) hx hb dX12_set_1 (by decide) ?_
  obtain ⟨v31, v32, v34, v36, v38, v39, w40, v41, v43, v44, v45, v46, v48, v50, v52, v54, v56, v57, v58, c59, b33, b35, b37, b42, b47, b49, b51, b53, b55⟩ := invM_0 hI
  have c59 : S 0 = .inr (12, [.int v31, .ref (ad 1), .ref (ad 2), .ref (ad 3), .ref (ad 4), .ref (ad 5), .int v32, .int v34, .int v36, .int v38, .int v39, .long w40, .int v41, .int v43, .int v44, .int v45, .ref (ad 6), .ref (ad 7), .ref (ad 8), .ref (ad 9), .ref (ad 10), .ref (ad 11), .ref (ad 12), .ref (ad 13), .ref (ad 14), .ref (ad 15), .int v46, .int v48, .ref (ad 16), .int v50, .int v52, .int v54, .int v56, .int v57, .ref (ad 17), .ref (ad 18), .int v58, .ref (ad 19)]) := c59
  refine xputi E hs hQ 0 (by decide) c59 rfl 0 (by decide) q1468 rfl rfl (Nat.le_of_ble_eq_true rfl) dX12_set_2 (fun H locs S60 eS60 hQ => ?_)
  have hI := invM_up_0 hI eS60 ⟨0, v32, v34, v36, v38, v39, w40, v41, v43, v44, v45, v46, v48, v50, v52, v54, v56, v57, v58, rfl, b33, b35, b37, b42, b47, b49, b51, b53, b55⟩
  have c61 : S60 0 = .inr (12, [.int 0, .ref (ad 1), .ref (ad 2), .ref (ad 3), .ref (ad 4), .ref (ad 5), .int v32, .int v34, .int v36, .int v38, .int v39, .long w40, .int v41, .int v43, .int v44, .int v45, .ref (ad 6), .ref (ad 7), .ref (ad 8), .ref (ad 9), .ref (ad 10), .ref (ad 11), .ref (ad 12), .ref (ad 13), .ref (ad 14), .ref (ad 15), .int v46, .int v48, .ref (ad 16), .int v50, .int v52, .int v54, .int v56, .int v57, .ref (ad 17), .ref (ad 18), .int v58, .ref (ad 19)]) := up_at eS60 rfl
  refine lv_aload_n hx hb dX12_set_5 rfl (lv_at hl 0 rfl) ?_
  refine lv_iload_n hx hb dX12_set_6 rfl (lv_at hl 1 rfl) ?_
  have c62 : S60 6 = .inl (g.2 0, 5, .inl f19) := (up_ne eS60 (by decide) c20)
  refine xcVi E hs hQ hml hl.1 0 (gX12_isParty_0 l g ad hD S60 hI a1) mX12_isParty q1874 (by decide) c61 rfl rfl ⟨(Nat.le_of_ble_eq_true rfl), (Nat.le_of_ble_eq_true rfl)⟩ ⟨(Nat.le_of_ble_eq_true rfl), (Nat.le_of_ble_eq_true rfl)⟩ (Nat.le_of_ble_eq_true rfl) rfl dX12_set_7 (fun r63 S63 H locs hp63 hQ _ => ?_)
  obtain ⟨rfl, b63, g63_0⟩ := hp63
  have q64 : elm (S60 6) 0 = v22.toInt := (elm_of c62 0).trans (congrArg Int32.toInt (ee23))
  refine lv_if_ne (tgt := 17) hx hb dX12_set_10 (by decide) (fun k65 => ?_) (fun k65 => ?_)
  · have h66 := ib_ne k65
    have b67 : Bd r63 (1) (1) := rf_nlo b63 (by decide : Bd 0 (0) (0)) h66
    have g68 := g63_0.resolve_left (by omega)
    clear g63_0
    have b69 : Bd v22 (1) (40000) := ⟨by omega, (b24).2⟩
    have b70 : Bd a1 (0) (5) := ⟨by omega, by omega⟩
    refine lv_aload_n hx hb dX12_set_17 rfl (lv_at hl 0 rfl) ?_
    refine xcVv E hs hQ hml hl.1 0 (gX12_lays_0 l g ad hD S60 hI (at_tr hAT (up_eq (j := 7) eS60 (by decide)) (up_eq (j := 12) eS60 (by decide)))) mX12_lays q1820 (by decide) c61 rfl rfl ⟨(Nat.le_of_ble_eq_true rfl), (Nat.le_of_ble_eq_true rfl)⟩ ⟨(Nat.le_of_ble_eq_true rfl), (Nat.le_of_ble_eq_true rfl)⟩ (Nat.le_of_ble_eq_true rfl) rfl dX12_set_18 (fun S71 H locs hp71 hQ _ => ?_)
    obtain ⟨hI, o71⟩ := hp71
    refine lv_iconst (v := 0) hx hb dX12_set_21 (by decide) ?_
    refine lv_istore_n (lv' := [(2, .int 0), (0, .ref (ad 0)), (1, .int a1)]) hx hb dX12_set_22 rfl hl (by decide) rfl (fun ls hl => ?_)
    refine lv_iconst (v := 1) hx hb dX12_set_23 (by decide) ?_
    refine lv_istore_n (lv' := [(3, .int 1), (2, .int 0), (0, .ref (ad 0)), (1, .int a1)]) hx hb dX12_set_24 rfl hl (by decide) rfl (fun ls hl => ?_)
    have c72 : S71 0 = .inr (12, [.int 0, .ref (ad 1), .ref (ad 2), .ref (ad 3), .ref (ad 4), .ref (ad 5), .int v32, .int v34, .int v36, .int v38, .int v39, .long w40, .int v41, .int v43, .int v44, .int v45, .ref (ad 6), .ref (ad 7), .ref (ad 8), .ref (ad 9), .ref (ad 10), .ref (ad 11), .ref (ad 12), .ref (ad 13), .ref (ad 14), .ref (ad 15), .int v46, .int v48, .ref (ad 16), .int v50, .int v52, .int v54, .int v56, .int v57, .ref (ad 17), .ref (ad 18), .int v58, .ref (ad 19)]) := ((o71 0 (by decide)).trans c61)
    have loop25 : ∀ (n : Nat) (S_25 : SS) (H : Heap) (locs : List Loc) (ls : Array Slot) (x25_2 : Int32) (x25_3 : Int32) (y25_0_0 : Int32) (y25_0_6 : Int32) (y25_0_7 : Int32) (y25_0_8 : Int32) (y25_0_9 : Int32) (y25_0_10 : Int32) (wy25_0_11 : Int64) (y25_0_12 : Int32) (y25_0_13 : Int32) (y25_0_14 : Int32) (y25_0_15 : Int32) (y25_0_26 : Int32) (y25_0_27 : Int32) (y25_0_29 : Int32) (y25_0_30 : Int32) (y25_0_31 : Int32) (y25_0_32 : Int32) (y25_0_33 : Int32) (y25_0_36 : Int32), Bd x25_2 (-20) (20) → Bd x25_3 (1) (35) → Bd y25_0_6 (0) (1200) → Bd y25_0_7 (0) (1200) → Bd y25_0_8 (0) (4) → Bd y25_0_12 (0) (3) → Bd y25_0_26 (0) (11) → Bd y25_0_27 (-1) (400) → Bd y25_0_29 (0) (2) → Bd y25_0_30 (0) (11) → Bd y25_0_31 (-1) (468) → (-1) * x25_3.toInt + 35 < ((n : Nat) : Int) → InvM g ad S_25 → (∀ j, j ∉ ([0] : List Nat) → S_25 j = S71 j) → S_25 0 = .inr (12, [.int y25_0_0, .ref (ad 1), .ref (ad 2), .ref (ad 3), .ref (ad 4), .ref (ad 5), .int y25_0_6, .int y25_0_7, .int y25_0_8, .int y25_0_9, .int y25_0_10, .long wy25_0_11, .int y25_0_12, .int y25_0_13, .int y25_0_14, .int y25_0_15, .ref (ad 6), .ref (ad 7), .ref (ad 8), .ref (ad 9), .ref (ad 10), .ref (ad 11), .ref (ad 12), .ref (ad 13), .ref (ad 14), .ref (ad 15), .int y25_0_26, .int y25_0_27, .ref (ad 16), .int y25_0_29, .int y25_0_30, .int y25_0_31, .int y25_0_32, .int y25_0_33, .ref (ad 17), .ref (ad 18), .int y25_0_36, .ref (ad 19)]) → Hp g ad 20 S_25 (FA ad 20) s.heap H locs → lv_has ls 4 [(3, .int x25_3), (2, .int x25_2), (0, .ref (ad 0)), (1, .int a1)] → W p l e (Rm 6) s m [.ref (ad 0), .int a1].toArray below meth c H locs 0 0 (MQ below (va_Qi (fun r S' => InvM g ad S' ∧ (∀ j, j ∉ ([0, 14, 15] : List Nat) → S' j = S j) ∧ Bd r (-1000) (20)) (QB g ad 20) (FA ad 20)) [.ref (ad 0), .int a1].toArray s 0 0 (FA ad 20)) (F0 m 25 ls []) := by
      intro n
      induction n with
      | zero => intro S_25 H locs ls x25_2 x25_3 y25_0_0 y25_0_6 y25_0_7 y25_0_8 y25_0_9 y25_0_10 wy25_0_11 y25_0_12 y25_0_13 y25_0_14 y25_0_15 y25_0_26 y25_0_27 y25_0_29 y25_0_30 y25_0_31 y25_0_32 y25_0_33 y25_0_36 Bx25_2 Bx25_3 By25_0_6 By25_0_7 By25_0_8 By25_0_12 By25_0_26 By25_0_27 By25_0_29 By25_0_30 By25_0_31 hn25_ hI hf25 cl25_0 hQ hl; exfalso; have := (Bx25_3).2; omega
      | succ n25_ ih25 =>
        intro S_25 H locs ls x25_2 x25_3 y25_0_0 y25_0_6 y25_0_7 y25_0_8 y25_0_9 y25_0_10 wy25_0_11 y25_0_12 y25_0_13 y25_0_14 y25_0_15 y25_0_26 y25_0_27 y25_0_29 y25_0_30 y25_0_31 y25_0_32 y25_0_33 y25_0_36 Bx25_2 Bx25_3 By25_0_6 By25_0_7 By25_0_8 By25_0_12 By25_0_26 By25_0_27 By25_0_29 By25_0_30 By25_0_31 hn25_ hI hf25 cl25_0 hQ hl
        refine lv_iload_n hx hb dX12_set_25 rfl (lv_at hl 0 rfl) ?_
        refine lv_bipush (v := 20) hx hb dX12_set_26 (by decide) ?_
        refine lv_icmp_gt (tgt := 77) hx hb dX12_set_28 (by decide) (fun k73 => ?_) (fun k73 => ?_)
        · have h74 := ib_lt k73
          have b75 : Bd x25_3 (21) (35) := ⟨((rf_lt (by decide : Bd 20 (20) (20)) Bx25_3 h74).2).1, (Bx25_3).2⟩
          refine lv_iload_n hx hb dX12_set_77 rfl (lv_at hl 1 rfl) ?_
          exact xri E hr hlk hQ (⟨hI, (o_trans (o_trans (up_o o_refl eS60 (by decide)) o71 (by decide)) hf25 (by decide)), (ib_wk Bx25_2 (by decide) (by decide))⟩) dX12_set_78
        · have h76 := ib_nlt k73
          have b77 : Bd x25_3 (1) (20) := ⟨(Bx25_3).1, ((rf_le Bx25_3 (by decide : Bd 20 (20) (20)) h76).1).2⟩
          refine lv_aload_n hx hb dX12_set_31 rfl (lv_at hl 2 rfl) ?_
          refine lv_iload_n hx hb dX12_set_32 rfl (lv_at hl 3 rfl) ?_
          refine lv_iconst (v := (-1)) hx hb dX12_set_33 (by decide) ?_
          refine lv_iload_n hx hb dX12_set_34 rfl (lv_at hl 0 rfl) ?_
          refine lv_ineg hx hb dX12_set_35 ?_
          refine lv_topi (fun z78 e79 => ?_)
          have t80 := ib_neg e79 b77 (by decide)
          have b81 : Bd z78 (-20) (-1) := ib_negb t80 b77
          have c82 : S_25 7 = .inl (g.2 0, 50, .inl f1) := ((hf25 7 (by decide)).trans ((o71 7 (by decide)).trans (up_ne eS60 (by decide) c2)))
          have q83 : elm (S_25 7) 0 = v7.toInt := (elm_of c82 0).trans (congrArg Int32.toInt (ee8))
          have q84 : elm (S_25 7) 1 = v4.toInt := (elm_of c82 1).trans (congrArg Int32.toInt (ee5))
          refine xcVi E hs hQ hml hl.1 0 (gX12_hasOf_0 l g ad hD S_25 hI a1 (-1) z78 (by omega) (by omega)) mX12_hasOf q1879 (by decide) cl25_0 rfl rfl ⟨(Nat.le_of_ble_eq_true rfl), (Nat.le_of_ble_eq_true rfl)⟩ ⟨(Nat.le_of_ble_eq_true rfl), (Nat.le_of_ble_eq_true rfl)⟩ (Nat.le_of_ble_eq_true rfl) rfl dX12_set_36 (fun r85 S85 H locs hp85 hQ _ => ?_)
          obtain ⟨hI, o85⟩ := hp85
          refine lv_aload_n hx hb dX12_set_39 rfl (lv_at hl 2 rfl) ?_
          refine lv_iload_n hx hb dX12_set_40 rfl (lv_at hl 3 rfl) ?_
          refine lv_iconst (v := (-1)) hx hb dX12_set_41 (by decide) ?_
          refine lv_iload_n hx hb dX12_set_42 rfl (lv_at hl 1 rfl) ?_
          have c86 : S85 7 = .inl (g.2 0, 50, .inl f1) := ((o85 7 (by decide)).trans c82)
          have q87 : elm (S85 7) 0 = v7.toInt := (elm_of c86 0).trans (congrArg Int32.toInt (ee8))
          have q88 : elm (S85 7) 1 = v4.toInt := (elm_of c86 1).trans (congrArg Int32.toInt (ee5))
          obtain ⟨v90, v91, v93, v95, v97, v98, w99, v100, v102, v103, v104, v105, v107, v109, v111, v113, v115, v116, v117, c118, b92, b94, b96, b101, b106, b108, b110, b112, b114⟩ := invM_0 hI
          have c118 : S85 0 = .inr (12, [.int v90, .ref (ad 1), .ref (ad 2), .ref (ad 3), .ref (ad 4), .ref (ad 5), .int v91, .int v93, .int v95, .int v97, .int v98, .long w99, .int v100, .int v102, .int v103, .int v104, .ref (ad 6), .ref (ad 7), .ref (ad 8), .ref (ad 9), .ref (ad 10), .ref (ad 11), .ref (ad 12), .ref (ad 13), .ref (ad 14), .ref (ad 15), .int v105, .int v107, .ref (ad 16), .int v109, .int v111, .int v113, .int v115, .int v116, .ref (ad 17), .ref (ad 18), .int v117, .ref (ad 19)]) := c118
          refine xcVi E hs hQ hml hl.1 0 (gX12_hasOf_0 l g ad hD S85 hI a1 (-1) x25_2 (by omega) (by omega)) mX12_hasOf q1879 (by decide) c118 rfl rfl ⟨(Nat.le_of_ble_eq_true rfl), (Nat.le_of_ble_eq_true rfl)⟩ ⟨(Nat.le_of_ble_eq_true rfl), (Nat.le_of_ble_eq_true rfl)⟩ (Nat.le_of_ble_eq_true rfl) rfl dX12_set_43 (fun r89 S89 H locs hp89 hQ _ => ?_)
          obtain ⟨hI, o89⟩ := hp89
          refine lv_icmp_le (tgt := 52) hx hb dX12_set_46 (by decide) (fun k119 => ?_) (fun k119 => ?_)
          · have h120 := ib_le k119
            refine lv_aload_n hx hb dX12_set_52 rfl (lv_at hl 2 rfl) ?_
            refine lv_iload_n hx hb dX12_set_53 rfl (lv_at hl 3 rfl) ?_
            refine lv_iconst (v := (-1)) hx hb dX12_set_54 (by decide) ?_
            refine lv_iload_n hx hb dX12_set_55 rfl (lv_at hl 0 rfl) ?_
            have c121 : S89 7 = .inl (g.2 0, 50, .inl f1) := ((o89 7 (by decide)).trans c86)
            have q122 : elm (S89 7) 0 = v7.toInt := (elm_of c121 0).trans (congrArg Int32.toInt (ee8))
            have q123 : elm (S89 7) 1 = v4.toInt := (elm_of c121 1).trans (congrArg Int32.toInt (ee5))
            obtain ⟨v125, v126, v128, v130, v132, v133, w134, v135, v137, v138, v139, v140, v142, v144, v146, v148, v150, v151, v152, c153, b127, b129, b131, b136, b141, b143, b145, b147, b149⟩ := invM_0 hI
            have c153 : S89 0 = .inr (12, [.int v125, .ref (ad 1), .ref (ad 2), .ref (ad 3), .ref (ad 4), .ref (ad 5), .int v126, .int v128, .int v130, .int v132, .int v133, .long w134, .int v135, .int v137, .int v138, .int v139, .ref (ad 6), .ref (ad 7), .ref (ad 8), .ref (ad 9), .ref (ad 10), .ref (ad 11), .ref (ad 12), .ref (ad 13), .ref (ad 14), .ref (ad 15), .int v140, .int v142, .ref (ad 16), .int v144, .int v146, .int v148, .int v150, .int v151, .ref (ad 17), .ref (ad 18), .int v152, .ref (ad 19)]) := c153
            refine xcVi E hs hQ hml hl.1 0 (gX12_hasOf_0 l g ad hD S89 hI a1 (-1) x25_3 (by omega) (by omega)) mX12_hasOf q1879 (by decide) c153 rfl rfl ⟨(Nat.le_of_ble_eq_true rfl), (Nat.le_of_ble_eq_true rfl)⟩ ⟨(Nat.le_of_ble_eq_true rfl), (Nat.le_of_ble_eq_true rfl)⟩ (Nat.le_of_ble_eq_true rfl) rfl dX12_set_56 (fun r124 S124 H locs hp124 hQ _ => ?_)
            obtain ⟨hI, o124⟩ := hp124
            refine lv_aload_n hx hb dX12_set_59 rfl (lv_at hl 2 rfl) ?_
            refine lv_iload_n hx hb dX12_set_60 rfl (lv_at hl 3 rfl) ?_
            refine lv_iconst (v := (-1)) hx hb dX12_set_61 (by decide) ?_
            refine lv_iload_n hx hb dX12_set_62 rfl (lv_at hl 1 rfl) ?_
            have c154 : S124 7 = .inl (g.2 0, 50, .inl f1) := ((o124 7 (by decide)).trans c121)
            have q155 : elm (S124 7) 0 = v7.toInt := (elm_of c154 0).trans (congrArg Int32.toInt (ee8))
            have q156 : elm (S124 7) 1 = v4.toInt := (elm_of c154 1).trans (congrArg Int32.toInt (ee5))
            obtain ⟨v158, v159, v161, v163, v165, v166, w167, v168, v170, v171, v172, v173, v175, v177, v179, v181, v183, v184, v185, c186, b160, b162, b164, b169, b174, b176, b178, b180, b182⟩ := invM_0 hI
            have c186 : S124 0 = .inr (12, [.int v158, .ref (ad 1), .ref (ad 2), .ref (ad 3), .ref (ad 4), .ref (ad 5), .int v159, .int v161, .int v163, .int v165, .int v166, .long w167, .int v168, .int v170, .int v171, .int v172, .ref (ad 6), .ref (ad 7), .ref (ad 8), .ref (ad 9), .ref (ad 10), .ref (ad 11), .ref (ad 12), .ref (ad 13), .ref (ad 14), .ref (ad 15), .int v173, .int v175, .ref (ad 16), .int v177, .int v179, .int v181, .int v183, .int v184, .ref (ad 17), .ref (ad 18), .int v185, .ref (ad 19)]) := c186
            refine xcVi E hs hQ hml hl.1 0 (gX12_hasOf_0 l g ad hD S124 hI a1 (-1) x25_2 (by omega) (by omega)) mX12_hasOf q1879 (by decide) c186 rfl rfl ⟨(Nat.le_of_ble_eq_true rfl), (Nat.le_of_ble_eq_true rfl)⟩ ⟨(Nat.le_of_ble_eq_true rfl), (Nat.le_of_ble_eq_true rfl)⟩ (Nat.le_of_ble_eq_true rfl) rfl dX12_set_63 (fun r157 S157 H locs hp157 hQ _ => ?_)
            obtain ⟨hI, o157⟩ := hp157
            refine lv_icmp_le (tgt := 71) hx hb dX12_set_66 (by decide) (fun k187 => ?_) (fun k187 => ?_)
            · have h188 := ib_le k187
              obtain ⟨z189, e190⟩ : ∃ z : Int32, z = x25_3 + 1 := ⟨_, rfl⟩
              have t191 := ib_add e190 b77 (by decide : Bd 1 (1) (1)) (by decide) (by decide)
              have b192 : Bd z189 (2) (21) := ib_addb t191 b77 (by decide : Bd 1 (1) (1))
              have t191 : z189.toInt = x25_3.toInt + 1 := fold_add t191 rfl (by decide)
              refine lv_iinc (v := z189) (lv' := [(3, .int z189), (2, .int x25_2), (0, .ref (ad 0)), (1, .int a1)]) hx hb dX12_set_71 hl (k := 0) rfl (by rw [e190]; rfl) (by decide) rfl (fun ls hl => ?_)
              refine lv_goto (tgt := 25) hx hb dX12_set_74 (by decide) ?_
              obtain ⟨v193, v194, v196, v198, v200, v201, w202, v203, v205, v206, v207, v208, v210, v212, v214, v216, v218, v219, v220, c221, b195, b197, b199, b204, b209, b211, b213, b215, b217⟩ := invM_0 hI
              have c221 : S157 0 = .inr (12, [.int v193, .ref (ad 1), .ref (ad 2), .ref (ad 3), .ref (ad 4), .ref (ad 5), .int v194, .int v196, .int v198, .int v200, .int v201, .long w202, .int v203, .int v205, .int v206, .int v207, .ref (ad 6), .ref (ad 7), .ref (ad 8), .ref (ad 9), .ref (ad 10), .ref (ad 11), .ref (ad 12), .ref (ad 13), .ref (ad 14), .ref (ad 15), .int v208, .int v210, .ref (ad 16), .int v212, .int v214, .int v216, .int v218, .int v219, .ref (ad 17), .ref (ad 18), .int v220, .ref (ad 19)]) := c221
              exact ih25 _ _ _ _ x25_2 z189 v193 v194 v196 v198 v200 v201 w202 v203 v205 v206 v207 v208 v210 v212 v214 v216 v218 v219 v220 Bx25_2 (ib_wk b192 (by decide) (by decide)) b195 b197 b199 b204 b209 b211 b213 b215 b217 (by omega) hI (o_trans (o_trans (o_trans (o_trans hf25 o85 (by decide)) o89 (by decide)) o124 (by decide)) o157 (by decide)) c221 hQ (lv_sub hl [0, 1, 2, 3] rfl)
            · have h222 := ib_nle k187
              have b223 : Bd r157 (-2147483648) (2147483646) := ⟨((ib_full r157)).1, ((rf_lt (ib_full r157) (ib_full r124) h222).1).2⟩
              have b224 : Bd r124 (-2147483647) (2147483647) := ⟨((rf_lt (ib_full r157) (ib_full r124) h222).2).1, ((ib_full r124)).2⟩
              refine lv_iload_n hx hb dX12_set_69 rfl (lv_at hl 0 rfl) ?_
              refine lv_istore_n (lv' := [(2, .int x25_3), (3, .int x25_3), (0, .ref (ad 0)), (1, .int a1)]) hx hb dX12_set_70 rfl hl (by decide) rfl (fun ls hl => ?_)
              obtain ⟨z225, e226⟩ : ∃ z : Int32, z = x25_3 + 1 := ⟨_, rfl⟩
              have t227 := ib_add e226 b77 (by decide : Bd 1 (1) (1)) (by decide) (by decide)
              have b228 : Bd z225 (2) (21) := ib_addb t227 b77 (by decide : Bd 1 (1) (1))
              have t227 : z225.toInt = x25_3.toInt + 1 := fold_add t227 rfl (by decide)
              refine lv_iinc (v := z225) (lv' := [(3, .int z225), (2, .int x25_3), (0, .ref (ad 0)), (1, .int a1)]) hx hb dX12_set_71 hl (k := 1) rfl (by rw [e226]; rfl) (by decide) rfl (fun ls hl => ?_)
              refine lv_goto (tgt := 25) hx hb dX12_set_74 (by decide) ?_
              obtain ⟨v229, v230, v232, v234, v236, v237, w238, v239, v241, v242, v243, v244, v246, v248, v250, v252, v254, v255, v256, c257, b231, b233, b235, b240, b245, b247, b249, b251, b253⟩ := invM_0 hI
              have c257 : S157 0 = .inr (12, [.int v229, .ref (ad 1), .ref (ad 2), .ref (ad 3), .ref (ad 4), .ref (ad 5), .int v230, .int v232, .int v234, .int v236, .int v237, .long w238, .int v239, .int v241, .int v242, .int v243, .ref (ad 6), .ref (ad 7), .ref (ad 8), .ref (ad 9), .ref (ad 10), .ref (ad 11), .ref (ad 12), .ref (ad 13), .ref (ad 14), .ref (ad 15), .int v244, .int v246, .ref (ad 16), .int v248, .int v250, .int v252, .int v254, .int v255, .ref (ad 17), .ref (ad 18), .int v256, .ref (ad 19)]) := c257
              exact ih25 _ _ _ _ x25_3 z225 v229 v230 v232 v234 v236 v237 w238 v239 v241 v242 v243 v244 v246 v248 v250 v252 v254 v255 v256 (ib_wk b77 (by decide) (by decide)) (ib_wk b228 (by decide) (by decide)) b231 b233 b235 b240 b245 b247 b249 b251 b253 (by omega) hI (o_trans (o_trans (o_trans (o_trans hf25 o85 (by decide)) o89 (by decide)) o124 (by decide)) o157 (by decide)) c257 hQ (lv_sub hl [0, 1, 2, 3] rfl)
          · have h258 := ib_nle k119
            have b259 : Bd r89 (-2147483648) (2147483646) := ⟨((ib_full r89)).1, ((rf_lt (ib_full r89) (ib_full r85) h258).1).2⟩
            have b260 : Bd r85 (-2147483647) (2147483647) := ⟨((rf_lt (ib_full r89) (ib_full r85) h258).2).1, ((ib_full r85)).2⟩
            refine lv_iload_n hx hb dX12_set_49 rfl (lv_at hl 0 rfl) ?_
            refine lv_ineg hx hb dX12_set_50 ?_
            refine lv_topi (fun z261 e262 => ?_)
            have t263 := ib_neg e262 b77 (by decide)
            have b264 : Bd z261 (-20) (-1) := ib_negb t263 b77
            refine lv_istore_n (lv' := [(2, .int z261), (3, .int x25_3), (0, .ref (ad 0)), (1, .int a1)]) hx hb dX12_set_51 rfl hl (by decide) rfl (fun ls hl => ?_)
            refine lv_aload_n hx hb dX12_set_52 rfl (lv_at hl 2 rfl) ?_
            refine lv_iload_n hx hb dX12_set_53 rfl (lv_at hl 3 rfl) ?_
            refine lv_iconst (v := (-1)) hx hb dX12_set_54 (by decide) ?_
            refine lv_iload_n hx hb dX12_set_55 rfl (lv_at hl 1 rfl) ?_
            have c265 : S89 7 = .inl (g.2 0, 50, .inl f1) := ((o89 7 (by decide)).trans c86)
            have q266 : elm (S89 7) 0 = v7.toInt := (elm_of c265 0).trans (congrArg Int32.toInt (ee8))
            have q267 : elm (S89 7) 1 = v4.toInt := (elm_of c265 1).trans (congrArg Int32.toInt (ee5))
            obtain ⟨v269, v270, v272, v274, v276, v277, w278, v279, v281, v282, v283, v284, v286, v288, v290, v292, v294, v295, v296, c297, b271, b273, b275, b280, b285, b287, b289, b291, b293⟩ := invM_0 hI
            have c297 : S89 0 = .inr (12, [.int v269, .ref (ad 1), .ref (ad 2), .ref (ad 3), .ref (ad 4), .ref (ad 5), .int v270, .int v272, .int v274, .int v276, .int v277, .long w278, .int v279, .int v281, .int v282, .int v283, .ref (ad 6), .ref (ad 7), .ref (ad 8), .ref (ad 9), .ref (ad 10), .ref (ad 11), .ref (ad 12), .ref (ad 13), .ref (ad 14), .ref (ad 15), .int v284, .int v286, .ref (ad 16), .int v288, .int v290, .int v292, .int v294, .int v295, .ref (ad 17), .ref (ad 18), .int v296, .ref (ad 19)]) := c297
            refine xcVi E hs hQ hml hl.1 0 (gX12_hasOf_0 l g ad hD S89 hI a1 (-1) x25_3 (by omega) (by omega)) mX12_hasOf q1879 (by decide) c297 rfl rfl ⟨(Nat.le_of_ble_eq_true rfl), (Nat.le_of_ble_eq_true rfl)⟩ ⟨(Nat.le_of_ble_eq_true rfl), (Nat.le_of_ble_eq_true rfl)⟩ (Nat.le_of_ble_eq_true rfl) rfl dX12_set_56 (fun r268 S268 H locs hp268 hQ _ => ?_)
            obtain ⟨hI, o268⟩ := hp268
            refine lv_aload_n hx hb dX12_set_59 rfl (lv_at hl 2 rfl) ?_
            refine lv_iload_n hx hb dX12_set_60 rfl (lv_at hl 3 rfl) ?_
            refine lv_iconst (v := (-1)) hx hb dX12_set_61 (by decide) ?_
            refine lv_iload_n hx hb dX12_set_62 rfl (lv_at hl 0 rfl) ?_
            have c298 : S268 7 = .inl (g.2 0, 50, .inl f1) := ((o268 7 (by decide)).trans c265)
            have q299 : elm (S268 7) 0 = v7.toInt := (elm_of c298 0).trans (congrArg Int32.toInt (ee8))
            have q300 : elm (S268 7) 1 = v4.toInt := (elm_of c298 1).trans (congrArg Int32.toInt (ee5))
            obtain ⟨v302, v303, v305, v307, v309, v310, w311, v312, v314, v315, v316, v317, v319, v321, v323, v325, v327, v328, v329, c330, b304, b306, b308, b313, b318, b320, b322, b324, b326⟩ := invM_0 hI
            have c330 : S268 0 = .inr (12, [.int v302, .ref (ad 1), .ref (ad 2), .ref (ad 3), .ref (ad 4), .ref (ad 5), .int v303, .int v305, .int v307, .int v309, .int v310, .long w311, .int v312, .int v314, .int v315, .int v316, .ref (ad 6), .ref (ad 7), .ref (ad 8), .ref (ad 9), .ref (ad 10), .ref (ad 11), .ref (ad 12), .ref (ad 13), .ref (ad 14), .ref (ad 15), .int v317, .int v319, .ref (ad 16), .int v321, .int v323, .int v325, .int v327, .int v328, .ref (ad 17), .ref (ad 18), .int v329, .ref (ad 19)]) := c330
            refine xcVi E hs hQ hml hl.1 0 (gX12_hasOf_0 l g ad hD S268 hI a1 (-1) z261 (by omega) (by omega)) mX12_hasOf q1879 (by decide) c330 rfl rfl ⟨(Nat.le_of_ble_eq_true rfl), (Nat.le_of_ble_eq_true rfl)⟩ ⟨(Nat.le_of_ble_eq_true rfl), (Nat.le_of_ble_eq_true rfl)⟩ (Nat.le_of_ble_eq_true rfl) rfl dX12_set_63 (fun r301 S301 H locs hp301 hQ _ => ?_)
            obtain ⟨hI, o301⟩ := hp301
            refine lv_icmp_le (tgt := 71) hx hb dX12_set_66 (by decide) (fun k331 => ?_) (fun k331 => ?_)
            · have h332 := ib_le k331
              obtain ⟨z333, e334⟩ : ∃ z : Int32, z = x25_3 + 1 := ⟨_, rfl⟩
              have t335 := ib_add e334 b77 (by decide : Bd 1 (1) (1)) (by decide) (by decide)
              have b336 : Bd z333 (2) (21) := ib_addb t335 b77 (by decide : Bd 1 (1) (1))
              have t335 : z333.toInt = x25_3.toInt + 1 := fold_add t335 rfl (by decide)
              refine lv_iinc (v := z333) (lv' := [(3, .int z333), (2, .int z261), (0, .ref (ad 0)), (1, .int a1)]) hx hb dX12_set_71 hl (k := 1) rfl (by rw [e334]; rfl) (by decide) rfl (fun ls hl => ?_)
              refine lv_goto (tgt := 25) hx hb dX12_set_74 (by decide) ?_
              obtain ⟨v337, v338, v340, v342, v344, v345, w346, v347, v349, v350, v351, v352, v354, v356, v358, v360, v362, v363, v364, c365, b339, b341, b343, b348, b353, b355, b357, b359, b361⟩ := invM_0 hI
              have c365 : S301 0 = .inr (12, [.int v337, .ref (ad 1), .ref (ad 2), .ref (ad 3), .ref (ad 4), .ref (ad 5), .int v338, .int v340, .int v342, .int v344, .int v345, .long w346, .int v347, .int v349, .int v350, .int v351, .ref (ad 6), .ref (ad 7), .ref (ad 8), .ref (ad 9), .ref (ad 10), .ref (ad 11), .ref (ad 12), .ref (ad 13), .ref (ad 14), .ref (ad 15), .int v352, .int v354, .ref (ad 16), .int v356, .int v358, .int v360, .int v362, .int v363, .ref (ad 17), .ref (ad 18), .int v364, .ref (ad 19)]) := c365
              exact ih25 _ _ _ _ z261 z333 v337 v338 v340 v342 v344 v345 w346 v347 v349 v350 v351 v352 v354 v356 v358 v360 v362 v363 v364 (ib_wk b264 (by decide) (by decide)) (ib_wk b336 (by decide) (by decide)) b339 b341 b343 b348 b353 b355 b357 b359 b361 (by omega) hI (o_trans (o_trans (o_trans (o_trans hf25 o85 (by decide)) o89 (by decide)) o268 (by decide)) o301 (by decide)) c365 hQ (lv_sub hl [0, 1, 2, 3] rfl)
            · have h366 := ib_nle k331
              have b367 : Bd r301 (-2147483648) (2147483646) := ⟨((ib_full r301)).1, ((rf_lt (ib_full r301) (ib_full r268) h366).1).2⟩
              have b368 : Bd r268 (-2147483647) (2147483647) := ⟨((rf_lt (ib_full r301) (ib_full r268) h366).2).1, ((ib_full r268)).2⟩
              refine lv_iload_n hx hb dX12_set_69 rfl (lv_at hl 1 rfl) ?_
              refine lv_istore_n (lv' := [(2, .int x25_3), (3, .int x25_3), (0, .ref (ad 0)), (1, .int a1)]) hx hb dX12_set_70 rfl hl (by decide) rfl (fun ls hl => ?_)
              obtain ⟨z369, e370⟩ : ∃ z : Int32, z = x25_3 + 1 := ⟨_, rfl⟩
              have t371 := ib_add e370 b77 (by decide : Bd 1 (1) (1)) (by decide) (by decide)
              have b372 : Bd z369 (2) (21) := ib_addb t371 b77 (by decide : Bd 1 (1) (1))
              have t371 : z369.toInt = x25_3.toInt + 1 := fold_add t371 rfl (by decide)
              refine lv_iinc (v := z369) (lv' := [(3, .int z369), (2, .int x25_3), (0, .ref (ad 0)), (1, .int a1)]) hx hb dX12_set_71 hl (k := 1) rfl (by rw [e370]; rfl) (by decide) rfl (fun ls hl => ?_)
              refine lv_goto (tgt := 25) hx hb dX12_set_74 (by decide) ?_
              obtain ⟨v373, v374, v376, v378, v380, v381, w382, v383, v385, v386, v387, v388, v390, v392, v394, v396, v398, v399, v400, c401, b375, b377, b379, b384, b389, b391, b393, b395, b397⟩ := invM_0 hI
              have c401 : S301 0 = .inr (12, [.int v373, .ref (ad 1), .ref (ad 2), .ref (ad 3), .ref (ad 4), .ref (ad 5), .int v374, .int v376, .int v378, .int v380, .int v381, .long w382, .int v383, .int v385, .int v386, .int v387, .ref (ad 6), .ref (ad 7), .ref (ad 8), .ref (ad 9), .ref (ad 10), .ref (ad 11), .ref (ad 12), .ref (ad 13), .ref (ad 14), .ref (ad 15), .int v388, .int v390, .ref (ad 16), .int v392, .int v394, .int v396, .int v398, .int v399, .ref (ad 17), .ref (ad 18), .int v400, .ref (ad 19)]) := c401
              exact ih25 _ _ _ _ x25_3 z369 v373 v374 v376 v378 v380 v381 w382 v383 v385 v386 v387 v388 v390 v392 v394 v396 v398 v399 v400 (ib_wk b77 (by decide) (by decide)) (ib_wk b372 (by decide) (by decide)) b375 b377 b379 b384 b389 b391 b393 b395 b397 (by omega) hI (o_trans (o_trans (o_trans (o_trans hf25 o85 (by decide)) o89 (by decide)) o268 (by decide)) o301 (by decide)) c401 hQ (lv_sub hl [0, 1, 2, 3] rfl)
    obtain ⟨n25, hn25⟩ := fu_n (34)
    exact loop25 n25 _ _ _ _ 0 1 0 v32 v34 v36 v38 v39 w40 v41 v43 v44 v45 v46 v48 v50 v52 v54 v56 v57 v58 (ib_wk (by decide : Bd 0 (0) (0)) (by decide) (by decide)) (ib_wk (by decide : Bd 1 (1) (1)) (by decide) (by decide)) b33 b35 b37 b42 b47 b49 b51 b53 b55 (by have : (0 : Int32).toInt = 0 := (by decide); have : (1 : Int32).toInt = 1 := (by decide); omega) hI o_refl c72 hQ (lv_sub hl [0, 1, 2, 3] rfl)
  · have h402 := ib_eq k65
    have b403 : Bd r63 (0) (0) := ⟨(b63).1, ((rf_eq b63 (by decide : Bd 0 (0) (0)) h402).1).2⟩
    clear g63_0
    refine lv_sipush (v := (-1000)) hx hb dX12_set_13 (by decide) ?_
    exact xri E hr hlk hQ (⟨hI, (up_o o_refl eS60 (by decide)), (ib_wk (by decide : Bd (-1000) (-1000) (-1000)) (by decide) (by decide))⟩) dX12_set_16
set_option maxHeartbeats 4000000 in
set_option maxRecDepth 100000 in
theorem gX12_drawn_0 (l : Launch) (g : GG) (ad : Nat → Nat) (hD : Dj ad 20) (S : SS) (hI : InvM g ad S) (a1 : Int32) (a2 : Int32) (a3 : Int32) (hq1 : 0 ≤ 12 * elm (S 7) 1 + (-1) * elm (S 7) 0) (hq2 : 0 ≤ 12 * elm (S 7) 3 + (-1) * elm (S 7) 0) (hq3 : 0 ≤ 8 * elm (S 7) 0 + (-1) * elm (S 7) 6) (hq4 : 0 ≤ 3 * elm (S 7) 0 + (-1) * elm (S 7) 8) (hq5 : 0 ≤ 40000 * elm (S 7) 0 + (-1) * elm (S 6) 0) (hAT : ATp (S 7) (S 12) 0) : Met l yX12_drawn (wG (.code yX12_drawn cX12_drawn 4 (some .int))) (Rm 4) (XPre g ad 20 S [.ref (ad 0), .int a1, .int a2, .int a3]) (va_Qi (fun _ S' => InvM g ad S' ∧ (∀ j, j ∉ ([0, 14, 15] : List Nat) → S' j = S j)) (QB g ad 20) (FA ad 20)) 0 0 (FA ad 20) := by
  refine xmet cX12_drawn "EbbWreckModel" (by decide) rfl (Nat.le_of_ble_eq_true rfl) (fun p e s m below meth c E hr hlk hml hQ ls hl => ?_)
  have hx := E.1
  have hb := E.2.1
  have hs : Sp ad 20 (FA ad 20) := Sp.fa hD
  have hl : lv_has ls 4 [(0, .ref (ad 0)), (1, .int a1), (2, .int a2), (3, .int a3)] := hl
  obtain ⟨f1, c2, b3⟩ := invM_7 hI
  obtain ⟨v4, ee5⟩ : ∃ z : Int32, f1 1 = z := ⟨_, rfl⟩
  have b6 : Bd v4 (0) (12) := (by rw [← ee5]; exact b3.2.1 1 (by decide))
  obtain ⟨v7, ee8⟩ : ∃ z : Int32, f1 0 = z := ⟨_, rfl⟩
  have b9 : Bd v7 (0) (12) := (by rw [← ee8]; exact b3.1 0 (by decide))
  obtain ⟨v10, ee11⟩ : ∃ z : Int32, f1 3 = z := ⟨_, rfl⟩
  have b12 : Bd v10 (0) (12) := (by rw [← ee11]; exact b3.2.2.2.1 3 (by decide))
  obtain ⟨v13, ee14⟩ : ∃ z : Int32, f1 6 = z := ⟨_, rfl⟩
  have b15 : Bd v13 (0) (8) := (by rw [← ee14]; exact b3.2.2.2.2.1 6 (by decide))
  obtain ⟨v16, ee17⟩ : ∃ z : Int32, f1 8 = z := ⟨_, rfl⟩
  have b18 : Bd v16 (0) (3) := (by rw [← ee17]; exact b3.2.2.2.2.2.2.1 8 (by decide))
  obtain ⟨f19, c20, b21⟩ := invM_6 hI
  obtain ⟨v22, ee23⟩ : ∃ z : Int32, f19 0 = z := ⟨_, rfl⟩
  have b24 : Bd v22 (0) (40000) := (by rw [← ee23]; exact b21 0)
  have q25 : elm (S 7) 1 = v4.toInt := (elm_of c2 1).trans (congrArg Int32.toInt (ee5))
  have q26 : elm (S 7) 0 = v7.toInt := (elm_of c2 0).trans (congrArg Int32.toInt (ee8))
  have q27 : elm (S 7) 3 = v10.toInt := (elm_of c2 3).trans (congrArg Int32.toInt (ee11))
  have q28 : elm (S 7) 6 = v13.toInt := (elm_of c2 6).trans (congrArg Int32.toInt (ee14))
  have q29 : elm (S 7) 8 = v16.toInt := (elm_of c2 8).trans (congrArg Int32.toInt (ee17))
  have q30 : elm (S 6) 0 = v22.toInt := (elm_of c20 0).trans (congrArg Int32.toInt (ee23))
  refine lv_aload_n hx hb dX12_drawn_0 rfl (lv_at hl 0 rfl) ?_
  refine lv_iconst (v := 0) hx hb dX12_drawn_1 (by decide) ?_
  obtain ⟨v31, v32, v34, v36, v38, v39, w40, v41, v43, v44, v45, v46, v48, v50, v52, v54, v56, v57, v58, c59, b33, b35, b37, b42, b47, b49, b51, b53, b55⟩ := invM_0 hI
  have c59 : S 0 = .inr (12, [.int v31, .ref (ad 1), .ref (ad 2), .ref (ad 3), .ref (ad 4), .ref (ad 5), .int v32, .int v34, .int v36, .int v38, .int v39, .long w40, .int v41, .int v43, .int v44, .int v45, .ref (ad 6), .ref (ad 7), .ref (ad 8), .ref (ad 9), .ref (ad 10), .ref (ad 11), .ref (ad 12), .ref (ad 13), .ref (ad 14), .ref (ad 15), .int v46, .int v48, .ref (ad 16), .int v50, .int v52, .int v54, .int v56, .int v57, .ref (ad 17), .ref (ad 18), .int v58, .ref (ad 19)]) := c59
  refine xputi E hs hQ 0 (by decide) c59 rfl 0 (by decide) q1468 rfl rfl (Nat.le_of_ble_eq_true rfl) dX12_drawn_2 (fun H locs S60 eS60 hQ => ?_)
  have hI := invM_up_0 hI eS60 ⟨0, v32, v34, v36, v38, v39, w40, v41, v43, v44, v45, v46, v48, v50, v52, v54, v56, v57, v58, rfl, b33, b35, b37, b42, b47, b49, b51, b53, b55⟩
  have c61 : S60 0 = .inr (12, [.int 0, .ref (ad 1), .ref (ad 2), .ref (ad 3), .ref (ad 4), .ref (ad 5), .int v32, .int v34, .int v36, .int v38, .int v39, .long w40, .int v41, .int v43, .int v44, .int v45, .ref (ad 6), .ref (ad 7), .ref (ad 8), .ref (ad 9), .ref (ad 10), .ref (ad 11), .ref (ad 12), .ref (ad 13), .ref (ad 14), .ref (ad 15), .int v46, .int v48, .ref (ad 16), .int v50, .int v52, .int v54, .int v56, .int v57, .ref (ad 17), .ref (ad 18), .int v58, .ref (ad 19)]) := up_at eS60 rfl
  refine lv_aload_n hx hb dX12_drawn_5 rfl (lv_at hl 0 rfl) ?_
  refine lv_iload_n hx hb dX12_drawn_6 rfl (lv_at hl 1 rfl) ?_
  refine lv_iload_n hx hb dX12_drawn_7 rfl (lv_at hl 2 rfl) ?_
  have c62 : S60 7 = .inl (g.2 0, 50, .inl f1) := (up_ne eS60 (by decide) c2)
  refine xcVi E hs hQ hml hl.1 0 (gX12_isDraw_0 l g ad hD S60 hI a1 a2) mX12_isDraw q2128 (by decide) c61 rfl rfl ⟨(Nat.le_of_ble_eq_true rfl), (Nat.le_of_ble_eq_true rfl)⟩ ⟨(Nat.le_of_ble_eq_true rfl), (Nat.le_of_ble_eq_true rfl)⟩ (Nat.le_of_ble_eq_true rfl) rfl dX12_drawn_8 (fun r63 S63 H locs hp63 hQ _ => ?_)
  obtain ⟨rfl, b63, g63_0⟩ := hp63
  have q64 : elm (S60 7) 6 = v13.toInt := (elm_of c62 6).trans (congrArg Int32.toInt (ee14))
  refine lv_if_eq (tgt := 26) hx hb dX12_drawn_11 (by decide) (fun k65 => ?_) (fun k65 => ?_)
  · have h66 := ib_eq k65
    have b67 : Bd r63 (0) (0) := ⟨(b63).1, ((rf_eq b63 (by decide : Bd 0 (0) (0)) h66).1).2⟩
    clear g63_0
    refine lv_bipush (v := (-2)) hx hb dX12_drawn_26 (by decide) ?_
    exact xri E hr hlk hQ (⟨hI, (up_o o_refl eS60 (by decide))⟩) dX12_drawn_28
  · have h68 := ib_ne k65
    have b69 : Bd r63 (1) (1) := rf_nlo b63 (by decide : Bd 0 (0) (0)) h68
    have g70 := g63_0.resolve_left (by omega)
    clear g63_0
    have b71 : Bd a1 (0) (2000000000) := ⟨by omega, by omega⟩
    have b72 : Bd a2 (0) (7) := ⟨by omega, by omega⟩
    have b73 : Bd v13 (1) (8) := ⟨by omega, (b15).2⟩
    refine lv_iload_n hx hb dX12_drawn_14 rfl (lv_at hl 3 rfl) ?_
    refine lv_i2l hx hb dX12_drawn_15 rfl ?_
    refine lv_topl (fun w74 e75 => ?_)
    have t76 : w74.toInt = a3.toInt := by rw [e75]; exact i2l_i _
    have b77 : BdL w74 (-2147483648) (2147483647) := (by have h1 := ((ib_full a3)).1; have h2 := ((ib_full a3)).2; exact ⟨by omega, by omega⟩)
    refine lv_lconst (v := 0) hx hb dX12_drawn_16 (by decide) ?_
    refine lv_ldc2 (v := 2) hx hb E.2.2.1 (E.2.2.2.1 _ q1754) dX12_drawn_17 ?_
    have q78 : (0 : Int64).toInt = 0 := by decide
    have q79 : (2 : Int64).toInt = 2 := by decide
    refine xcSi E hs hQ hml hl.1 (gX12_in l g ad hD S60 hI w74 0 2) mX12_in q1591 rfl ⟨(Nat.le_of_ble_eq_true rfl), (Nat.le_of_ble_eq_true rfl)⟩ ⟨(Nat.le_of_ble_eq_true rfl), (Nat.le_of_ble_eq_true rfl)⟩ (Nat.le_of_ble_eq_true rfl) rfl dX12_drawn_20 (fun r80 S80 H locs hp80 hQ => ?_)
    obtain ⟨rfl, b80, g80_0, u80_0⟩ := hp80
    refine lv_if_ne (tgt := 29) hx hb dX12_drawn_23 (by decide) (fun k81 => ?_) (fun k81 => ?_)
    · have h82 := ib_ne k81
      have b83 : Bd r80 (1) (1) := rf_nlo b80 (by decide : Bd 0 (0) (0)) h82
      have g84 := g80_0.resolve_left (by omega)
      clear g80_0
      have b85 : BdL w74 (0) (2) := ⟨by omega, by omega⟩
      have b86 : Bd a3 (0) (2) := ⟨by omega, by omega⟩
      refine lv_aload_n hx hb dX12_drawn_29 rfl (lv_at hl 0 rfl) ?_
      refine xcVv E hs hQ hml hl.1 0 (gX12_lays_0 l g ad hD S60 hI (at_tr hAT (up_eq (j := 7) eS60 (by decide)) (up_eq (j := 12) eS60 (by decide)))) mX12_lays q1820 (by decide) c61 rfl rfl ⟨(Nat.le_of_ble_eq_true rfl), (Nat.le_of_ble_eq_true rfl)⟩ ⟨(Nat.le_of_ble_eq_true rfl), (Nat.le_of_ble_eq_true rfl)⟩ (Nat.le_of_ble_eq_true rfl) rfl dX12_drawn_30 (fun S87 H locs hp87 hQ _ => ?_)
      obtain ⟨hI, o87⟩ := hp87
      refine lv_aload_n hx hb dX12_drawn_33 rfl (lv_at hl 0 rfl) ?_
      refine lv_iload_n hx hb dX12_drawn_34 rfl (lv_at hl 2 rfl) ?_
      refine lv_sipush (v := 400) hx hb dX12_drawn_35 (by decide) ?_
      refine lv_iload_n hx hb dX12_drawn_38 rfl (lv_at hl 1 rfl) ?_
      refine lv_i2l hx hb dX12_drawn_39 rfl ?_
      refine lv_topl (fun w88 e89 => ?_)
      have t90 : w88.toInt = a1.toInt := by rw [e89]; exact i2l_i _
      have b91 : BdL w88 (0) (2000000000) := (by have h1 := (b71).1; have h2 := (b71).2; exact ⟨by omega, by omega⟩)
      have c92 : S87 7 = .inl (g.2 0, 50, .inl f1) := ((o87 7 (by decide)).trans c62)
      have q93 : elm (S87 7) 0 = v7.toInt := (elm_of c92 0).trans (congrArg Int32.toInt (ee8))
      have q94 : elm (S87 7) 1 = v4.toInt := (elm_of c92 1).trans (congrArg Int32.toInt (ee5))
      have c96 : S87 0 = .inr (12, [.int 0, .ref (ad 1), .ref (ad 2), .ref (ad 3), .ref (ad 4), .ref (ad 5), .int v32, .int v34, .int v36, .int v38, .int v39, .long w40, .int v41, .int v43, .int v44, .int v45, .ref (ad 6), .ref (ad 7), .ref (ad 8), .ref (ad 9), .ref (ad 10), .ref (ad 11), .ref (ad 12), .ref (ad 13), .ref (ad 14), .ref (ad 15), .int v46, .int v48, .ref (ad 16), .int v50, .int v52, .int v54, .int v56, .int v57, .ref (ad 17), .ref (ad 18), .int v58, .ref (ad 19)]) := ((o87 0 (by decide)).trans c61)
      refine xcVv E hs hQ hml hl.1 0 (gX12_goes_0 l g ad hD S87 hI a2 400 w88 b72 (ib_wk (by decide : Bd 400 (400) (400)) (by decide) (by decide)) (by omega) (by omega)) mX12_goes q1829 (by decide) c96 rfl rfl ⟨(Nat.le_of_ble_eq_true rfl), (Nat.le_of_ble_eq_true rfl)⟩ ⟨(Nat.le_of_ble_eq_true rfl), (Nat.le_of_ble_eq_true rfl)⟩ (Nat.le_of_ble_eq_true rfl) rfl dX12_drawn_40 (fun S95 H locs hp95 hQ _ => ?_)
      obtain ⟨hI, o95⟩ := hp95
      refine lv_iload_n hx hb dX12_drawn_43 rfl (lv_at hl 3 rfl) ?_
      refine lv_if_ne (tgt := 54) hx hb dX12_drawn_44 (by decide) (fun k97 => ?_) (fun k97 => ?_)
      · have h98 := ib_ne k97
        have b99 : Bd a3 (1) (2) := rf_nlo b86 (by decide : Bd 0 (0) (0)) h98
        refine lv_iload_n hx hb dX12_drawn_54 rfl (lv_at hl 3 rfl) ?_
        refine lv_iconst (v := 2) hx hb dX12_drawn_55 (by decide) ?_
        refine lv_icmp_ne (tgt := 68) hx hb dX12_drawn_56 (by decide) (fun k100 => ?_) (fun k100 => ?_)
        · have h101 := ib_ne k100
          have b102 : Bd a3 (1) (1) := rf_nhi b99 (by decide : Bd 2 (2) (2)) h101
          refine lv_aload_n hx hb dX12_drawn_68 rfl (lv_at hl 0 rfl) ?_
          obtain ⟨v103, v104, v106, v108, v110, v111, w112, v113, v115, v116, v117, v118, v120, v122, v124, v126, v128, v129, v130, c131, b105, b107, b109, b114, b119, b121, b123, b125, b127⟩ := invM_0 hI
          have c131 : S95 0 = .inr (12, [.int v103, .ref (ad 1), .ref (ad 2), .ref (ad 3), .ref (ad 4), .ref (ad 5), .int v104, .int v106, .int v108, .int v110, .int v111, .long w112, .int v113, .int v115, .int v116, .int v117, .ref (ad 6), .ref (ad 7), .ref (ad 8), .ref (ad 9), .ref (ad 10), .ref (ad 11), .ref (ad 12), .ref (ad 13), .ref (ad 14), .ref (ad 15), .int v118, .int v120, .ref (ad 16), .int v122, .int v124, .int v126, .int v128, .int v129, .ref (ad 17), .ref (ad 18), .int v130, .ref (ad 19)]) := c131
          refine xget E hQ 0 (by decide) c131 rfl 27 (by decide) q1495 rfl dX12_drawn_69 ?_
          refine lv_iconst (v := (-1)) hx hb dX12_drawn_72 (by decide) ?_
          refine lv_icmp_ne (tgt := 80) hx hb dX12_drawn_73 (by decide) (fun k132 => ?_) (fun k132 => ?_)
          · have h133 := ib_ne k132
            have b134 : Bd v120 (0) (400) := rf_nlo b121 (by decide : Bd (-1) (-1) (-1)) h133
            refine lv_aload_n hx hb dX12_drawn_80 rfl (lv_at hl 0 rfl) ?_
            refine xget E hQ 0 (by decide) c131 rfl 26 (by decide) q1494 rfl dX12_drawn_81 ?_
            exact xri E hr hlk hQ (⟨hI, (o_trans (o_trans (up_o o_refl eS60 (by decide)) o87 (by decide)) o95 (by decide))⟩) dX12_drawn_84
          · have h135 := ib_eq k132
            have b136 : Bd v120 (-1) (-1) := ⟨(b121).1, ((rf_eq b121 (by decide : Bd (-1) (-1) (-1)) h135).1).2⟩
            refine lv_iconst (v := (-1)) hx hb dX12_drawn_76 (by decide) ?_
            refine lv_goto (tgt := 84) hx hb dX12_drawn_77 (by decide) ?_
            exact xri E hr hlk hQ (⟨hI, (o_trans (o_trans (up_o o_refl eS60 (by decide)) o87 (by decide)) o95 (by decide))⟩) dX12_drawn_84
        · have h137 := ib_eq k100
          have b138 : Bd a3 (2) (2) := ⟨((rf_eq b99 (by decide : Bd 2 (2) (2)) h137).1).1, (b99).2⟩
          refine lv_aload_n hx hb dX12_drawn_59 rfl (lv_at hl 0 rfl) ?_
          refine lv_iconst (v := (-1)) hx hb dX12_drawn_60 (by decide) ?_
          refine lv_iconst (v := 0) hx hb dX12_drawn_61 (by decide) ?_
          have c139 : S95 7 = .inl (g.2 0, 50, .inl f1) := ((o95 7 (by decide)).trans c92)
          have q140 : elm (S95 7) 1 = v4.toInt := (elm_of c139 1).trans (congrArg Int32.toInt (ee5))
          obtain ⟨v142, v143, v145, v147, v149, v150, w151, v152, v154, v155, v156, v157, v159, v161, v163, v165, v167, v168, v169, c170, b144, b146, b148, b153, b158, b160, b162, b164, b166⟩ := invM_0 hI
          have c170 : S95 0 = .inr (12, [.int v142, .ref (ad 1), .ref (ad 2), .ref (ad 3), .ref (ad 4), .ref (ad 5), .int v143, .int v145, .int v147, .int v149, .int v150, .long w151, .int v152, .int v154, .int v155, .int v156, .ref (ad 6), .ref (ad 7), .ref (ad 8), .ref (ad 9), .ref (ad 10), .ref (ad 11), .ref (ad 12), .ref (ad 13), .ref (ad 14), .ref (ad 15), .int v157, .int v159, .ref (ad 16), .int v161, .int v163, .int v165, .int v167, .int v168, .ref (ad 17), .ref (ad 18), .int v169, .ref (ad 19)]) := c170
          refine xcVi E hs hQ hml hl.1 0 (gX12_whoseNow_0 l g ad hD S95 hI (-1) 0 (by omega)) mX12_whoseNow q1858 (by decide) c170 rfl rfl ⟨(Nat.le_of_ble_eq_true rfl), (Nat.le_of_ble_eq_true rfl)⟩ ⟨(Nat.le_of_ble_eq_true rfl), (Nat.le_of_ble_eq_true rfl)⟩ (Nat.le_of_ble_eq_true rfl) rfl dX12_drawn_62 (fun r141 S141 H locs hp141 hQ _ => ?_)
          subst hp141
          refine lv_goto (tgt := 84) hx hb dX12_drawn_65 (by decide) ?_
          exact xri E hr hlk hQ (⟨hI, (o_trans (o_trans (up_o o_refl eS60 (by decide)) o87 (by decide)) o95 (by decide))⟩) dX12_drawn_84
      · have h171 := ib_eq k97
        have b172 : Bd a3 (0) (0) := ⟨(b86).1, ((rf_eq b86 (by decide : Bd 0 (0) (0)) h171).1).2⟩
        refine lv_aload_n hx hb dX12_drawn_47 rfl (lv_at hl 0 rfl) ?_
        obtain ⟨v173, v174, v176, v178, v180, v181, w182, v183, v185, v186, v187, v188, v190, v192, v194, v196, v198, v199, v200, c201, b175, b177, b179, b184, b189, b191, b193, b195, b197⟩ := invM_0 hI
        have c201 : S95 0 = .inr (12, [.int v173, .ref (ad 1), .ref (ad 2), .ref (ad 3), .ref (ad 4), .ref (ad 5), .int v174, .int v176, .int v178, .int v180, .int v181, .long w182, .int v183, .int v185, .int v186, .int v187, .ref (ad 6), .ref (ad 7), .ref (ad 8), .ref (ad 9), .ref (ad 10), .ref (ad 11), .ref (ad 12), .ref (ad 13), .ref (ad 14), .ref (ad 15), .int v188, .int v190, .ref (ad 16), .int v192, .int v194, .int v196, .int v198, .int v199, .ref (ad 17), .ref (ad 18), .int v200, .ref (ad 19)]) := c201
        refine xget E hQ 0 (by decide) c201 rfl 27 (by decide) q1495 rfl dX12_drawn_48 ?_
        refine lv_goto (tgt := 84) hx hb dX12_drawn_51 (by decide) ?_
        exact xri E hr hlk hQ (⟨hI, (o_trans (o_trans (up_o o_refl eS60 (by decide)) o87 (by decide)) o95 (by decide))⟩) dX12_drawn_84
    · have h202 := ib_eq k81
      have b203 : Bd r80 (0) (0) := ⟨(b80).1, ((rf_eq b80 (by decide : Bd 0 (0) (0)) h202).1).2⟩
      clear g80_0
      refine lv_bipush (v := (-2)) hx hb dX12_drawn_26 (by decide) ?_
      exact xri E hr hlk hQ (⟨hI, (up_o o_refl eS60 (by decide))⟩) dX12_drawn_28
set_option maxHeartbeats 4000000 in
set_option maxRecDepth 100000 in
theorem gX12_luck_0 (l : Launch) (g : GG) (ad : Nat → Nat) (hD : Dj ad 20) (S : SS) (hI : InvM g ad S) (a1 : Int32) (a2 : Int32) (a3 : Int32) (a4 : Int32) (hq1 : 0 ≤ 12 * elm (S 7) 1 + (-1) * elm (S 7) 0) (hq2 : 0 ≤ 12 * elm (S 7) 3 + (-1) * elm (S 7) 0) (hq3 : 0 ≤ 8 * elm (S 7) 0 + (-1) * elm (S 7) 6) (hq4 : 0 ≤ 3 * elm (S 7) 0 + (-1) * elm (S 7) 8) (hq5 : 0 ≤ 40000 * elm (S 7) 0 + (-1) * elm (S 6) 0) (hAT : ATp (S 7) (S 12) 0) : Met l yX12_luck (wG (.code yX12_luck cX12_luck 7 (some .int))) (Rm 4) (XPre g ad 20 S [.ref (ad 0), .int a1, .int a2, .int a3, .int a4]) (va_Qi (fun _ S' => InvM g ad S' ∧ (∀ j, j ∉ ([0, 14, 15] : List Nat) → S' j = S j)) (QB g ad 20) (FA ad 20)) 0 0 (FA ad 20) := by
  refine xmet cX12_luck "EbbWreckModel" (by decide) rfl (Nat.le_of_ble_eq_true rfl) (fun p e s m below meth c E hr hlk hml hQ ls hl => ?_)
  have hx := E.1
  have hb := E.2.1
  have hs : Sp ad 20 (FA ad 20) := Sp.fa hD
  have hl : lv_has ls 7 [(0, .ref (ad 0)), (1, .int a1), (2, .int a2), (3, .int a3), (4, .int a4)] := hl
  obtain ⟨f1, c2, b3⟩ := invM_7 hI
  obtain ⟨v4, ee5⟩ : ∃ z : Int32, f1 1 = z := ⟨_, rfl⟩
  have b6 : Bd v4 (0) (12) := (by rw [← ee5]; exact b3.2.1 1 (by decide))
  obtain ⟨v7, ee8⟩ : ∃ z : Int32, f1 0 = z := ⟨_, rfl⟩
  have b9 : Bd v7 (0) (12) := (by rw [← ee8]; exact b3.1 0 (by decide))
  obtain ⟨v10, ee11⟩ : ∃ z : Int32, f1 3 = z := ⟨_, rfl⟩
  have b12 : Bd v10 (0) (12) := (by rw [← ee11]; exact b3.2.2.2.1 3 (by decide))
  obtain ⟨v13, ee14⟩ : ∃ z : Int32, f1 6 = z := ⟨_, rfl⟩
  have b15 : Bd v13 (0) (8) := (by rw [← ee14]; exact b3.2.2.2.2.1 6 (by decide))
  obtain ⟨v16, ee17⟩ : ∃ z : Int32, f1 8 = z := ⟨_, rfl⟩
  have b18 : Bd v16 (0) (3) := (by rw [← ee17]; exact b3.2.2.2.2.2.2.1 8 (by decide))
  obtain ⟨f19, c20, b21⟩ := invM_6 hI
  obtain ⟨v22, ee23⟩ : ∃ z : Int32, f19 0 = z := ⟨_, rfl⟩
  have b24 : Bd v22 (0) (40000) := (by rw [← ee23]; exact b21 0)
  have q25 : elm (S 7) 1 = v4.toInt := (elm_of c2 1).trans (congrArg Int32.toInt (ee5))
  have q26 : elm (S 7) 0 = v7.toInt := (elm_of c2 0).trans (congrArg Int32.toInt (ee8))
  have q27 : elm (S 7) 3 = v10.toInt := (elm_of c2 3).trans (congrArg Int32.toInt (ee11))
  have q28 : elm (S 7) 6 = v13.toInt := (elm_of c2 6).trans (congrArg Int32.toInt (ee14))
  have q29 : elm (S 7) 8 = v16.toInt := (elm_of c2 8).trans (congrArg Int32.toInt (ee17))
  have q30 : elm (S 6) 0 = v22.toInt := (elm_of c20 0).trans (congrArg Int32.toInt (ee23))
  refine lv_aload_n hx hb dX12_luck_0 rfl (lv_at hl 0 rfl) ?_
  refine lv_iconst (v := 0) hx hb dX12_luck_1 (by decide) ?_
  obtain ⟨v31, v32, v34, v36, v38, v39, w40, v41, v43, v44, v45, v46, v48, v50, v52, v54, v56, v57, v58, c59, b33, b35, b37, b42, b47, b49, b51, b53, b55⟩ := invM_0 hI
  have c59 : S 0 = .inr (12, [.int v31, .ref (ad 1), .ref (ad 2), .ref (ad 3), .ref (ad 4), .ref (ad 5), .int v32, .int v34, .int v36, .int v38, .int v39, .long w40, .int v41, .int v43, .int v44, .int v45, .ref (ad 6), .ref (ad 7), .ref (ad 8), .ref (ad 9), .ref (ad 10), .ref (ad 11), .ref (ad 12), .ref (ad 13), .ref (ad 14), .ref (ad 15), .int v46, .int v48, .ref (ad 16), .int v50, .int v52, .int v54, .int v56, .int v57, .ref (ad 17), .ref (ad 18), .int v58, .ref (ad 19)]) := c59
  refine xputi E hs hQ 0 (by decide) c59 rfl 0 (by decide) q1468 rfl rfl (Nat.le_of_ble_eq_true rfl) dX12_luck_2 (fun H locs S60 eS60 hQ => ?_)
  have hI := invM_up_0 hI eS60 ⟨0, v32, v34, v36, v38, v39, w40, v41, v43, v44, v45, v46, v48, v50, v52, v54, v56, v57, v58, rfl, b33, b35, b37, b42, b47, b49, b51, b53, b55⟩
  have c61 : S60 0 = .inr (12, [.int 0, .ref (ad 1), .ref (ad 2), .ref (ad 3), .ref (ad 4), .ref (ad 5), .int v32, .int v34, .int v36, .int v38, .int v39, .long w40, .int v41, .int v43, .int v44, .int v45, .ref (ad 6), .ref (ad 7), .ref (ad 8), .ref (ad 9), .ref (ad 10), .ref (ad 11), .ref (ad 12), .ref (ad 13), .ref (ad 14), .ref (ad 15), .int v46, .int v48, .ref (ad 16), .int v50, .int v52, .int v54, .int v56, .int v57, .ref (ad 17), .ref (ad 18), .int v58, .ref (ad 19)]) := up_at eS60 rfl
  refine lv_aload_n hx hb dX12_luck_5 rfl (lv_at hl 0 rfl) ?_
  refine lv_iload_n hx hb dX12_luck_6 rfl (lv_at hl 1 rfl) ?_
  refine lv_iload_n hx hb dX12_luck_7 rfl (lv_at hl 3 rfl) ?_
  have c62 : S60 7 = .inl (g.2 0, 50, .inl f1) := (up_ne eS60 (by decide) c2)
  refine xcVi E hs hQ hml hl.1 0 (gX12_isDraw_0 l g ad hD S60 hI a1 a3) mX12_isDraw q2128 (by decide) c61 rfl rfl ⟨(Nat.le_of_ble_eq_true rfl), (Nat.le_of_ble_eq_true rfl)⟩ ⟨(Nat.le_of_ble_eq_true rfl), (Nat.le_of_ble_eq_true rfl)⟩ (Nat.le_of_ble_eq_true rfl) rfl dX12_luck_8 (fun r63 S63 H locs hp63 hQ _ => ?_)
  obtain ⟨rfl, b63, g63_0⟩ := hp63
  have q64 : elm (S60 7) 6 = v13.toInt := (elm_of c62 6).trans (congrArg Int32.toInt (ee14))
  refine lv_if_eq (tgt := 35) hx hb dX12_luck_11 (by decide) (fun k65 => ?_) (fun k65 => ?_)
  · have h66 := ib_eq k65
    have b67 : Bd r63 (0) (0) := ⟨(b63).1, ((rf_eq b63 (by decide : Bd 0 (0) (0)) h66).1).2⟩
    clear g63_0
    refine lv_bipush (v := (-2)) hx hb dX12_luck_35 (by decide) ?_
    exact xri E hr hlk hQ (⟨hI, (up_o o_refl eS60 (by decide))⟩) dX12_luck_37
  · have h68 := ib_ne k65
    have b69 : Bd r63 (1) (1) := rf_nlo b63 (by decide : Bd 0 (0) (0)) h68
    have g70 := g63_0.resolve_left (by omega)
    clear g63_0
    have b71 : Bd a1 (0) (2000000000) := ⟨by omega, by omega⟩
    have b72 : Bd a3 (0) (7) := ⟨by omega, by omega⟩
    have b73 : Bd v13 (1) (8) := ⟨by omega, (b15).2⟩
    refine lv_iload_n hx hb dX12_luck_14 rfl (lv_at hl 2 rfl) ?_
    refine lv_i2l hx hb dX12_luck_15 rfl ?_
    refine lv_topl (fun w74 e75 => ?_)
    have t76 : w74.toInt = a2.toInt := by rw [e75]; exact i2l_i _
    have b77 : BdL w74 (-2147483648) (2147483647) := (by have h1 := ((ib_full a2)).1; have h2 := ((ib_full a2)).2; exact ⟨by omega, by omega⟩)
    refine lv_lconst (v := 1) hx hb dX12_luck_16 (by decide) ?_
    refine lv_ldc2 (v := 20) hx hb E.2.2.1 (E.2.2.2.1 _ q2095) dX12_luck_17 ?_
    have q78 : (1 : Int64).toInt = 1 := by decide
    have q79 : (20 : Int64).toInt = 20 := by decide
    refine xcSi E hs hQ hml hl.1 (gX12_in l g ad hD S60 hI w74 1 20) mX12_in q1591 rfl ⟨(Nat.le_of_ble_eq_true rfl), (Nat.le_of_ble_eq_true rfl)⟩ ⟨(Nat.le_of_ble_eq_true rfl), (Nat.le_of_ble_eq_true rfl)⟩ (Nat.le_of_ble_eq_true rfl) rfl dX12_luck_20 (fun r80 S80 H locs hp80 hQ => ?_)
    obtain ⟨rfl, b80, g80_0, u80_0⟩ := hp80
    refine lv_if_eq (tgt := 35) hx hb dX12_luck_23 (by decide) (fun k81 => ?_) (fun k81 => ?_)
    · have h82 := ib_eq k81
      have b83 : Bd r80 (0) (0) := ⟨(b80).1, ((rf_eq b80 (by decide : Bd 0 (0) (0)) h82).1).2⟩
      clear g80_0
      refine lv_bipush (v := (-2)) hx hb dX12_luck_35 (by decide) ?_
      exact xri E hr hlk hQ (⟨hI, (up_o o_refl eS60 (by decide))⟩) dX12_luck_37
    · have h84 := ib_ne k81
      have b85 : Bd r80 (1) (1) := rf_nlo b80 (by decide : Bd 0 (0) (0)) h84
      have g86 := g80_0.resolve_left (by omega)
      clear g80_0
      have b87 : BdL w74 (1) (20) := ⟨by omega, by omega⟩
      have b88 : Bd a2 (1) (20) := ⟨by omega, by omega⟩
      refine lv_aload_n hx hb dX12_luck_26 rfl (lv_at hl 0 rfl) ?_
      refine lv_iload hx hb dX12_luck_27 (lv_at hl 4 rfl) ?_
      have c89 : S60 6 = .inl (g.2 0, 5, .inl f19) := (up_ne eS60 (by decide) c20)
      refine xcVi E hs hQ hml hl.1 0 (gX12_isParty_0 l g ad hD S60 hI a4) mX12_isParty q1874 (by decide) c61 rfl rfl ⟨(Nat.le_of_ble_eq_true rfl), (Nat.le_of_ble_eq_true rfl)⟩ ⟨(Nat.le_of_ble_eq_true rfl), (Nat.le_of_ble_eq_true rfl)⟩ (Nat.le_of_ble_eq_true rfl) rfl dX12_luck_29 (fun r90 S90 H locs hp90 hQ _ => ?_)
      obtain ⟨rfl, b90, g90_0⟩ := hp90
      have q91 : elm (S60 6) 0 = v22.toInt := (elm_of c89 0).trans (congrArg Int32.toInt (ee23))
      refine lv_if_ne (tgt := 38) hx hb dX12_luck_32 (by decide) (fun k92 => ?_) (fun k92 => ?_)
      · have h93 := ib_ne k92
        have b94 : Bd r90 (1) (1) := rf_nlo b90 (by decide : Bd 0 (0) (0)) h93
        have g95 := g90_0.resolve_left (by omega)
        clear g90_0
        have b96 : Bd v22 (1) (40000) := ⟨by omega, (b24).2⟩
        have b97 : Bd a4 (0) (5) := ⟨by omega, by omega⟩
        refine lv_aload_n hx hb dX12_luck_38 rfl (lv_at hl 0 rfl) ?_
        refine xcVv E hs hQ hml hl.1 0 (gX12_lays_0 l g ad hD S60 hI (at_tr hAT (up_eq (j := 7) eS60 (by decide)) (up_eq (j := 12) eS60 (by decide)))) mX12_lays q1820 (by decide) c61 rfl rfl ⟨(Nat.le_of_ble_eq_true rfl), (Nat.le_of_ble_eq_true rfl)⟩ ⟨(Nat.le_of_ble_eq_true rfl), (Nat.le_of_ble_eq_true rfl)⟩ (Nat.le_of_ble_eq_true rfl) rfl dX12_luck_39 (fun S98 H locs hp98 hQ _ => ?_)
        obtain ⟨hI, o98⟩ := hp98
        refine lv_iconst (v := 0) hx hb dX12_luck_42 (by decide) ?_
        refine lv_istore (lv' := [(5, .int 0), (0, .ref (ad 0)), (1, .int a1), (2, .int a2), (3, .int a3), (4, .int a4)]) hx hb dX12_luck_43 hl (by decide) rfl (fun ls hl => ?_)
        refine lv_iconst (v := 0) hx hb dX12_luck_45 (by decide) ?_
        refine lv_istore (lv' := [(6, .int 0), (5, .int 0), (0, .ref (ad 0)), (1, .int a1), (2, .int a2), (3, .int a3), (4, .int a4)]) hx hb dX12_luck_46 hl (by decide) rfl (fun ls hl => ?_)
        have c99 : S98 0 = .inr (12, [.int 0, .ref (ad 1), .ref (ad 2), .ref (ad 3), .ref (ad 4), .ref (ad 5), .int v32, .int v34, .int v36, .int v38, .int v39, .long w40, .int v41, .int v43, .int v44, .int v45, .ref (ad 6), .ref (ad 7), .ref (ad 8), .ref (ad 9), .ref (ad 10), .ref (ad 11), .ref (ad 12), .ref (ad 13), .ref (ad 14), .ref (ad 15), .int v46, .int v48, .ref (ad 16), .int v50, .int v52, .int v54, .int v56, .int v57, .ref (ad 17), .ref (ad 18), .int v58, .ref (ad 19)]) := ((o98 0 (by decide)).trans c61)
        have loop48 : ∀ (n : Nat) (S_48 : SS) (H : Heap) (locs : List Loc) (ls : Array Slot) (x48_5 : Int32) (x48_6 : Int32) (y48_0_0 : Int32) (y48_0_6 : Int32) (y48_0_7 : Int32) (y48_0_8 : Int32) (y48_0_9 : Int32) (y48_0_10 : Int32) (wy48_0_11 : Int64) (y48_0_12 : Int32) (y48_0_13 : Int32) (y48_0_14 : Int32) (y48_0_15 : Int32) (y48_0_26 : Int32) (y48_0_27 : Int32) (y48_0_29 : Int32) (y48_0_30 : Int32) (y48_0_31 : Int32) (y48_0_32 : Int32) (y48_0_33 : Int32) (y48_0_36 : Int32), Bd x48_6 (0) (20) → Bd y48_0_6 (0) (1200) → Bd y48_0_7 (0) (1200) → Bd y48_0_8 (0) (4) → Bd y48_0_12 (0) (3) → Bd y48_0_26 (0) (11) → Bd y48_0_27 (-1) (400) → Bd y48_0_29 (0) (2) → Bd y48_0_30 (0) (11) → Bd y48_0_31 (-1) (468) → (-1) * x48_6.toInt + 20 < ((n : Nat) : Int) → InvM g ad S_48 → (∀ j, j ∉ ([0] : List Nat) → S_48 j = S98 j) → S_48 0 = .inr (12, [.int y48_0_0, .ref (ad 1), .ref (ad 2), .ref (ad 3), .ref (ad 4), .ref (ad 5), .int y48_0_6, .int y48_0_7, .int y48_0_8, .int y48_0_9, .int y48_0_10, .long wy48_0_11, .int y48_0_12, .int y48_0_13, .int y48_0_14, .int y48_0_15, .ref (ad 6), .ref (ad 7), .ref (ad 8), .ref (ad 9), .ref (ad 10), .ref (ad 11), .ref (ad 12), .ref (ad 13), .ref (ad 14), .ref (ad 15), .int y48_0_26, .int y48_0_27, .ref (ad 16), .int y48_0_29, .int y48_0_30, .int y48_0_31, .int y48_0_32, .int y48_0_33, .ref (ad 17), .ref (ad 18), .int y48_0_36, .ref (ad 19)]) → Hp g ad 20 S_48 (FA ad 20) s.heap H locs → lv_has ls 7 [(6, .int x48_6), (5, .int x48_5), (0, .ref (ad 0)), (1, .int a1), (2, .int a2), (3, .int a3), (4, .int a4)] → W p l e (Rm 4) s m [.ref (ad 0), .int a1, .int a2, .int a3, .int a4].toArray below meth c H locs 0 0 (MQ below (va_Qi (fun _ S' => InvM g ad S' ∧ (∀ j, j ∉ ([0, 14, 15] : List Nat) → S' j = S j)) (QB g ad 20) (FA ad 20)) [.ref (ad 0), .int a1, .int a2, .int a3, .int a4].toArray s 0 0 (FA ad 20)) (F0 m 48 ls []) := by
          intro n
          induction n with
          | zero => intro S_48 H locs ls x48_5 x48_6 y48_0_0 y48_0_6 y48_0_7 y48_0_8 y48_0_9 y48_0_10 wy48_0_11 y48_0_12 y48_0_13 y48_0_14 y48_0_15 y48_0_26 y48_0_27 y48_0_29 y48_0_30 y48_0_31 y48_0_32 y48_0_33 y48_0_36 Bx48_6 By48_0_6 By48_0_7 By48_0_8 By48_0_12 By48_0_26 By48_0_27 By48_0_29 By48_0_30 By48_0_31 hn48_ hI hf48 cl48_0 hQ hl; exfalso; have := (Bx48_6).2; omega
          | succ n48_ ih48 =>
            intro S_48 H locs ls x48_5 x48_6 y48_0_0 y48_0_6 y48_0_7 y48_0_8 y48_0_9 y48_0_10 wy48_0_11 y48_0_12 y48_0_13 y48_0_14 y48_0_15 y48_0_26 y48_0_27 y48_0_29 y48_0_30 y48_0_31 y48_0_32 y48_0_33 y48_0_36 Bx48_6 By48_0_6 By48_0_7 By48_0_8 By48_0_12 By48_0_26 By48_0_27 By48_0_29 By48_0_30 By48_0_31 hn48_ hI hf48 cl48_0 hQ hl
            refine lv_iload hx hb dX12_luck_48 (lv_at hl 0 rfl) ?_
            refine lv_iload_n hx hb dX12_luck_50 rfl (lv_at hl 4 rfl) ?_
            refine lv_icmp_ge (tgt := 95) hx hb dX12_luck_51 (by decide) (fun k100 => ?_) (fun k100 => ?_)
            · have h101 := ib_le k100
              have b102 : Bd x48_6 (1) (20) := ⟨((rf_le b88 Bx48_6 h101).2).1, (Bx48_6).2⟩
              refine lv_iload hx hb dX12_luck_95 (lv_at hl 1 rfl) ?_
              exact xri E hr hlk hQ (⟨hI, (o_trans (o_trans (up_o o_refl eS60 (by decide)) o98 (by decide)) hf48 (by decide))⟩) dX12_luck_97
            · have h103 := ib_nle k100
              have b104 : Bd x48_6 (0) (19) := ⟨(Bx48_6).1, ((rf_lt Bx48_6 b88 h103).1).2⟩
              refine lv_aload_n hx hb dX12_luck_54 rfl (lv_at hl 2 rfl) ?_
              refine lv_iload_n hx hb dX12_luck_55 rfl (lv_at hl 5 rfl) ?_
              refine lv_sipush (v := 400) hx hb dX12_luck_56 (by decide) ?_
              refine lv_iload_n hx hb dX12_luck_59 rfl (lv_at hl 3 rfl) ?_
              refine lv_i2l hx hb dX12_luck_60 rfl ?_
              refine lv_topl (fun w105 e106 => ?_)
              have t107 : w105.toInt = a1.toInt := by rw [e106]; exact i2l_i _
              have b108 : BdL w105 (0) (2000000000) := (by have h1 := (b71).1; have h2 := (b71).2; exact ⟨by omega, by omega⟩)
              refine lv_iload hx hb dX12_luck_61 (lv_at hl 0 rfl) ?_
              refine lv_i2l hx hb dX12_luck_63 rfl ?_
              refine lv_topl (fun w109 e110 => ?_)
              have t111 : w109.toInt = x48_6.toInt := by rw [e110]; exact i2l_i _
              have b112 : BdL w109 (0) (19) := (by have h1 := (b104).1; have h2 := (b104).2; exact ⟨by omega, by omega⟩)
              refine lv_ladd hx hb dX12_luck_64 ?_
              refine lv_topl (fun w113 e114 => ?_)
              have t115 : w113.toInt = w105.toInt + w109.toInt := ib_addL e114 b108 b112 (by decide) (by decide) rfl rfl
              have b116 : BdL w113 (0) (2000000019) := (by have h1 := b108; have h2 := b112; exact ⟨by omega, by omega⟩)
              have c117 : S_48 7 = .inl (g.2 0, 50, .inl f1) := ((hf48 7 (by decide)).trans ((o98 7 (by decide)).trans c62))
              have q118 : elm (S_48 7) 0 = v7.toInt := (elm_of c117 0).trans (congrArg Int32.toInt (ee8))
              have q119 : elm (S_48 7) 1 = v4.toInt := (elm_of c117 1).trans (congrArg Int32.toInt (ee5))
              refine xcVv E hs hQ hml hl.1 0 (gX12_goes_0 l g ad hD S_48 hI a3 400 w113 b72 (ib_wk (by decide : Bd 400 (400) (400)) (by decide) (by decide)) (by omega) (by omega)) mX12_goes q1829 (by decide) cl48_0 rfl rfl ⟨(Nat.le_of_ble_eq_true rfl), (Nat.le_of_ble_eq_true rfl)⟩ ⟨(Nat.le_of_ble_eq_true rfl), (Nat.le_of_ble_eq_true rfl)⟩ (Nat.le_of_ble_eq_true rfl) rfl dX12_luck_65 (fun S120 H locs hp120 hQ _ => ?_)
              obtain ⟨hI, o120⟩ := hp120
              refine lv_iload hx hb dX12_luck_68 (lv_at hl 1 rfl) ?_
              refine lv_aload_n hx hb dX12_luck_70 rfl (lv_at hl 2 rfl) ?_
              refine lv_iconst (v := (-1)) hx hb dX12_luck_71 (by decide) ?_
              refine lv_iconst (v := 0) hx hb dX12_luck_72 (by decide) ?_
              have c121 : S120 7 = .inl (g.2 0, 50, .inl f1) := ((o120 7 (by decide)).trans c117)
              have q122 : elm (S120 7) 1 = v4.toInt := (elm_of c121 1).trans (congrArg Int32.toInt (ee5))
              obtain ⟨v124, v125, v127, v129, v131, v132, w133, v134, v136, v137, v138, v139, v141, v143, v145, v147, v149, v150, v151, c152, b126, b128, b130, b135, b140, b142, b144, b146, b148⟩ := invM_0 hI
              have c152 : S120 0 = .inr (12, [.int v124, .ref (ad 1), .ref (ad 2), .ref (ad 3), .ref (ad 4), .ref (ad 5), .int v125, .int v127, .int v129, .int v131, .int v132, .long w133, .int v134, .int v136, .int v137, .int v138, .ref (ad 6), .ref (ad 7), .ref (ad 8), .ref (ad 9), .ref (ad 10), .ref (ad 11), .ref (ad 12), .ref (ad 13), .ref (ad 14), .ref (ad 15), .int v139, .int v141, .ref (ad 16), .int v143, .int v145, .int v147, .int v149, .int v150, .ref (ad 17), .ref (ad 18), .int v151, .ref (ad 19)]) := c152
              refine xcVi E hs hQ hml hl.1 0 (gX12_whoseNow_0 l g ad hD S120 hI (-1) 0 (by omega)) mX12_whoseNow q1858 (by decide) c152 rfl rfl ⟨(Nat.le_of_ble_eq_true rfl), (Nat.le_of_ble_eq_true rfl)⟩ ⟨(Nat.le_of_ble_eq_true rfl), (Nat.le_of_ble_eq_true rfl)⟩ (Nat.le_of_ble_eq_true rfl) rfl dX12_luck_73 (fun r123 S123 H locs hp123 hQ _ => ?_)
              subst hp123
              refine lv_iload hx hb dX12_luck_76 (lv_at hl 6 rfl) ?_
              refine lv_icmp_ne (tgt := 85) hx hb dX12_luck_78 (by decide) (fun k153 => ?_) (fun k153 => ?_)
              · have h154 := ib_ne k153
                refine lv_iconst (v := 0) hx hb dX12_luck_85 (by decide) ?_
                refine lv_iadd hx hb dX12_luck_86 ?_
                refine lv_topi (fun z155 e156 => ?_)
                have t157 := ib_add e156 (ib_full x48_5) (by decide : Bd 0 (0) (0)) (by decide) (by decide)
                have b158 : Bd z155 (-2147483648) (2147483647) := ib_addb t157 (ib_full x48_5) (by decide : Bd 0 (0) (0))
                have t157 : z155.toInt = x48_5.toInt + 0 := fold_add t157 rfl (by decide)
                refine lv_istore (lv' := [(5, .int z155), (6, .int x48_6), (0, .ref (ad 0)), (1, .int a1), (2, .int a2), (3, .int a3), (4, .int a4)]) hx hb dX12_luck_87 hl (by decide) rfl (fun ls hl => ?_)
                obtain ⟨z159, e160⟩ : ∃ z : Int32, z = x48_6 + 1 := ⟨_, rfl⟩
                have t161 := ib_add e160 b104 (by decide : Bd 1 (1) (1)) (by decide) (by decide)
                have b162 : Bd z159 (1) (20) := ib_addb t161 b104 (by decide : Bd 1 (1) (1))
                have t161 : z159.toInt = x48_6.toInt + 1 := fold_add t161 rfl (by decide)
                refine lv_iinc (v := z159) (lv' := [(6, .int z159), (5, .int z155), (0, .ref (ad 0)), (1, .int a1), (2, .int a2), (3, .int a3), (4, .int a4)]) hx hb dX12_luck_89 hl (k := 1) rfl (by rw [e160]; rfl) (by decide) rfl (fun ls hl => ?_)
                refine lv_goto (tgt := 48) hx hb dX12_luck_92 (by decide) ?_
                exact ih48 _ _ _ _ z155 z159 v124 v125 v127 v129 v131 v132 w133 v134 v136 v137 v138 v139 v141 v143 v145 v147 v149 v150 v151 (ib_wk b162 (by decide) (by decide)) b126 b128 b130 b135 b140 b142 b144 b146 b148 (by omega) hI (o_trans hf48 o120 (by decide)) c152 hQ (lv_sub hl [0, 1, 2, 3, 4, 5, 6] rfl)
              · have h163 := ib_eq k153
                have b164 : Bd r123 (0) (5) := ⟨((rf_eq (ib_full r123) b97 h163).1).1, ((rf_eq (ib_full r123) b97 h163).1).2⟩
                refine lv_iconst (v := 1) hx hb dX12_luck_81 (by decide) ?_
                refine lv_goto (tgt := 86) hx hb dX12_luck_82 (by decide) ?_
                refine lv_iadd hx hb dX12_luck_86 ?_
                refine lv_topi (fun z165 e166 => ?_)
                refine lv_istore (lv' := [(5, .int z165), (6, .int x48_6), (0, .ref (ad 0)), (1, .int a1), (2, .int a2), (3, .int a3), (4, .int a4)]) hx hb dX12_luck_87 hl (by decide) rfl (fun ls hl => ?_)
                obtain ⟨z167, e168⟩ : ∃ z : Int32, z = x48_6 + 1 := ⟨_, rfl⟩
                have t169 := ib_add e168 b104 (by decide : Bd 1 (1) (1)) (by decide) (by decide)
                have b170 : Bd z167 (1) (20) := ib_addb t169 b104 (by decide : Bd 1 (1) (1))
                have t169 : z167.toInt = x48_6.toInt + 1 := fold_add t169 rfl (by decide)
                refine lv_iinc (v := z167) (lv' := [(6, .int z167), (5, .int z165), (0, .ref (ad 0)), (1, .int a1), (2, .int a2), (3, .int a3), (4, .int a4)]) hx hb dX12_luck_89 hl (k := 1) rfl (by rw [e168]; rfl) (by decide) rfl (fun ls hl => ?_)
                refine lv_goto (tgt := 48) hx hb dX12_luck_92 (by decide) ?_
                exact ih48 _ _ _ _ z165 z167 v124 v125 v127 v129 v131 v132 w133 v134 v136 v137 v138 v139 v141 v143 v145 v147 v149 v150 v151 (ib_wk b170 (by decide) (by decide)) b126 b128 b130 b135 b140 b142 b144 b146 b148 (by omega) hI (o_trans hf48 o120 (by decide)) c152 hQ (lv_sub hl [0, 1, 2, 3, 4, 5, 6] rfl)
        obtain ⟨n48, hn48⟩ := fu_n (20)
        exact loop48 n48 _ _ _ _ 0 0 0 v32 v34 v36 v38 v39 w40 v41 v43 v44 v45 v46 v48 v50 v52 v54 v56 v57 v58 (ib_wk (by decide : Bd 0 (0) (0)) (by decide) (by decide)) b33 b35 b37 b42 b47 b49 b51 b53 b55 (by have : (0 : Int32).toInt = 0 := (by decide); omega) hI o_refl c99 hQ (lv_sub hl [0, 1, 2, 3, 4, 5, 6] rfl)
      · have h171 := ib_eq k92
        have b172 : Bd r90 (0) (0) := ⟨(b90).1, ((rf_eq b90 (by decide : Bd 0 (0) (0)) h171).1).2⟩
        clear g90_0
        refine lv_bipush (v := (-2)) hx hb dX12_luck_35 (by decide) ?_
        exact xri E hr hlk hQ (⟨hI, (up_o o_refl eS60 (by decide))⟩) dX12_luck_37
set_option maxHeartbeats 4000000 in
set_option maxRecDepth 100000 in
theorem gX12_waits_0 (l : Launch) (g : GG) (ad : Nat → Nat) (hD : Dj ad 20) (S : SS) (hI : InvM g ad S) (a1 : Int32) (a2 : Int32) (a3 : Int32) (hq1 : 0 ≤ 12 * elm (S 7) 1 + (-1) * elm (S 7) 0) (hq2 : 0 ≤ 12 * elm (S 7) 3 + (-1) * elm (S 7) 0) (hq3 : 0 ≤ 8 * elm (S 7) 0 + (-1) * elm (S 7) 6) (hq4 : 0 ≤ 3 * elm (S 7) 0 + (-1) * elm (S 7) 8) (hq5 : 0 ≤ 40000 * elm (S 7) 0 + (-1) * elm (S 6) 0) (hAT : ATp (S 7) (S 12) 0) : Met l yX12_waits (wG (.code yX12_waits cX12_waits 7 (some .int))) (Rm 4) (XPre g ad 20 S [.ref (ad 0), .int a1, .int a2, .int a3]) (va_Qi (fun r S' => InvM g ad S' ∧ (∀ j, j ∉ ([0, 14, 15, 19] : List Nat) → S' j = S j) ∧ Bd r (-2) (11)) (QB g ad 20) (FA ad 20)) 0 0 (FA ad 20) := by
  refine xmet cX12_waits "EbbWreckModel" (by decide) rfl (Nat.le_of_ble_eq_true rfl) (fun p e s m below meth c E hr hlk hml hQ ls hl => ?_)
  have hx := E.1
  have hb := E.2.1
  have hs : Sp ad 20 (FA ad 20) := Sp.fa hD
  have hl : lv_has ls 7 [(0, .ref (ad 0)), (1, .int a1), (2, .int a2), (3, .int a3)] := hl
  obtain ⟨f1, c2, b3⟩ := invM_7 hI
  obtain ⟨v4, ee5⟩ : ∃ z : Int32, f1 1 = z := ⟨_, rfl⟩
  have b6 : Bd v4 (0) (12) := (by rw [← ee5]; exact b3.2.1 1 (by decide))
  obtain ⟨v7, ee8⟩ : ∃ z : Int32, f1 0 = z := ⟨_, rfl⟩
  have b9 : Bd v7 (0) (12) := (by rw [← ee8]; exact b3.1 0 (by decide))
  obtain ⟨v10, ee11⟩ : ∃ z : Int32, f1 3 = z := ⟨_, rfl⟩
  have b12 : Bd v10 (0) (12) := (by rw [← ee11]; exact b3.2.2.2.1 3 (by decide))
  obtain ⟨v13, ee14⟩ : ∃ z : Int32, f1 6 = z := ⟨_, rfl⟩
  have b15 : Bd v13 (0) (8) := (by rw [← ee14]; exact b3.2.2.2.2.1 6 (by decide))
  obtain ⟨v16, ee17⟩ : ∃ z : Int32, f1 8 = z := ⟨_, rfl⟩
  have b18 : Bd v16 (0) (3) := (by rw [← ee17]; exact b3.2.2.2.2.2.2.1 8 (by decide))
  obtain ⟨f19, c20, b21⟩ := invM_6 hI
  obtain ⟨v22, ee23⟩ : ∃ z : Int32, f19 0 = z := ⟨_, rfl⟩
  have b24 : Bd v22 (0) (40000) := (by rw [← ee23]; exact b21 0)
  have q25 : elm (S 7) 1 = v4.toInt := (elm_of c2 1).trans (congrArg Int32.toInt (ee5))
  have q26 : elm (S 7) 0 = v7.toInt := (elm_of c2 0).trans (congrArg Int32.toInt (ee8))
  have q27 : elm (S 7) 3 = v10.toInt := (elm_of c2 3).trans (congrArg Int32.toInt (ee11))
  have q28 : elm (S 7) 6 = v13.toInt := (elm_of c2 6).trans (congrArg Int32.toInt (ee14))
  have q29 : elm (S 7) 8 = v16.toInt := (elm_of c2 8).trans (congrArg Int32.toInt (ee17))
  have q30 : elm (S 6) 0 = v22.toInt := (elm_of c20 0).trans (congrArg Int32.toInt (ee23))
  refine lv_aload_n hx hb dX12_waits_0 rfl (lv_at hl 0 rfl) ?_
  refine lv_iconst (v := 0) hx hb dX12_waits_1 (by decide) ?_
  obtain ⟨v31, v32, v34, v36, v38, v39, w40, v41, v43, v44, v45, v46, v48, v50, v52, v54, v56, v57, v58, c59, b33, b35, b37, b42, b47, b49, b51, b53, b55⟩ := invM_0 hI
  have c59 : S 0 = .inr (12, [.int v31, .ref (ad 1), .ref (ad 2), .ref (ad 3), .ref (ad 4), .ref (ad 5), .int v32, .int v34, .int v36, .int v38, .int v39, .long w40, .int v41, .int v43, .int v44, .int v45, .ref (ad 6), .ref (ad 7), .ref (ad 8), .ref (ad 9), .ref (ad 10), .ref (ad 11), .ref (ad 12), .ref (ad 13), .ref (ad 14), .ref (ad 15), .int v46, .int v48, .ref (ad 16), .int v50, .int v52, .int v54, .int v56, .int v57, .ref (ad 17), .ref (ad 18), .int v58, .ref (ad 19)]) := c59
  refine xputi E hs hQ 0 (by decide) c59 rfl 0 (by decide) q1468 rfl rfl (Nat.le_of_ble_eq_true rfl) dX12_waits_2 (fun H locs S60 eS60 hQ => ?_)
  have hI := invM_up_0 hI eS60 ⟨0, v32, v34, v36, v38, v39, w40, v41, v43, v44, v45, v46, v48, v50, v52, v54, v56, v57, v58, rfl, b33, b35, b37, b42, b47, b49, b51, b53, b55⟩
  have c61 : S60 0 = .inr (12, [.int 0, .ref (ad 1), .ref (ad 2), .ref (ad 3), .ref (ad 4), .ref (ad 5), .int v32, .int v34, .int v36, .int v38, .int v39, .long w40, .int v41, .int v43, .int v44, .int v45, .ref (ad 6), .ref (ad 7), .ref (ad 8), .ref (ad 9), .ref (ad 10), .ref (ad 11), .ref (ad 12), .ref (ad 13), .ref (ad 14), .ref (ad 15), .int v46, .int v48, .ref (ad 16), .int v50, .int v52, .int v54, .int v56, .int v57, .ref (ad 17), .ref (ad 18), .int v58, .ref (ad 19)]) := up_at eS60 rfl
  refine lv_aload_n hx hb dX12_waits_5 rfl (lv_at hl 0 rfl) ?_
  refine lv_iload_n hx hb dX12_waits_6 rfl (lv_at hl 1 rfl) ?_
  refine lv_iload_n hx hb dX12_waits_7 rfl (lv_at hl 3 rfl) ?_
  have c62 : S60 7 = .inl (g.2 0, 50, .inl f1) := (up_ne eS60 (by decide) c2)
  refine xcVi E hs hQ hml hl.1 0 (gX12_isDraw_0 l g ad hD S60 hI a1 a3) mX12_isDraw q2128 (by decide) c61 rfl rfl ⟨(Nat.le_of_ble_eq_true rfl), (Nat.le_of_ble_eq_true rfl)⟩ ⟨(Nat.le_of_ble_eq_true rfl), (Nat.le_of_ble_eq_true rfl)⟩ (Nat.le_of_ble_eq_true rfl) rfl dX12_waits_8 (fun r63 S63 H locs hp63 hQ _ => ?_)
  obtain ⟨rfl, b63, g63_0⟩ := hp63
  have q64 : elm (S60 7) 6 = v13.toInt := (elm_of c62 6).trans (congrArg Int32.toInt (ee14))
  refine lv_if_eq (tgt := 26) hx hb dX12_waits_11 (by decide) (fun k65 => ?_) (fun k65 => ?_)
  · have h66 := ib_eq k65
    have b67 : Bd r63 (0) (0) := ⟨(b63).1, ((rf_eq b63 (by decide : Bd 0 (0) (0)) h66).1).2⟩
    clear g63_0
    refine lv_bipush (v := (-2)) hx hb dX12_waits_26 (by decide) ?_
    exact xri E hr hlk hQ (⟨hI, (up_o o_refl eS60 (by decide)), (ib_wk (by decide : Bd (-2) (-2) (-2)) (by decide) (by decide))⟩) dX12_waits_28
  · have h68 := ib_ne k65
    have b69 : Bd r63 (1) (1) := rf_nlo b63 (by decide : Bd 0 (0) (0)) h68
    have g70 := g63_0.resolve_left (by omega)
    clear g63_0
    have b71 : Bd a1 (0) (2000000000) := ⟨by omega, by omega⟩
    have b72 : Bd a3 (0) (7) := ⟨by omega, by omega⟩
    have b73 : Bd v13 (1) (8) := ⟨by omega, (b15).2⟩
    refine lv_iload_n hx hb dX12_waits_14 rfl (lv_at hl 2 rfl) ?_
    refine lv_i2l hx hb dX12_waits_15 rfl ?_
    refine lv_topl (fun w74 e75 => ?_)
    have t76 : w74.toInt = a2.toInt := by rw [e75]; exact i2l_i _
    have b77 : BdL w74 (-2147483648) (2147483647) := (by have h1 := ((ib_full a2)).1; have h2 := ((ib_full a2)).2; exact ⟨by omega, by omega⟩)
    refine lv_lconst (v := 1) hx hb dX12_waits_16 (by decide) ?_
    refine lv_ldc2 (v := 20) hx hb E.2.2.1 (E.2.2.2.1 _ q2095) dX12_waits_17 ?_
    have q78 : (1 : Int64).toInt = 1 := by decide
    have q79 : (20 : Int64).toInt = 20 := by decide
    refine xcSi E hs hQ hml hl.1 (gX12_in l g ad hD S60 hI w74 1 20) mX12_in q1591 rfl ⟨(Nat.le_of_ble_eq_true rfl), (Nat.le_of_ble_eq_true rfl)⟩ ⟨(Nat.le_of_ble_eq_true rfl), (Nat.le_of_ble_eq_true rfl)⟩ (Nat.le_of_ble_eq_true rfl) rfl dX12_waits_20 (fun r80 S80 H locs hp80 hQ => ?_)
    obtain ⟨rfl, b80, g80_0, u80_0⟩ := hp80
    refine lv_if_ne (tgt := 29) hx hb dX12_waits_23 (by decide) (fun k81 => ?_) (fun k81 => ?_)
    · have h82 := ib_ne k81
      have b83 : Bd r80 (1) (1) := rf_nlo b80 (by decide : Bd 0 (0) (0)) h82
      have g84 := g80_0.resolve_left (by omega)
      clear g80_0
      have b85 : BdL w74 (1) (20) := ⟨by omega, by omega⟩
      have b86 : Bd a2 (1) (20) := ⟨by omega, by omega⟩
      refine lv_aload_n hx hb dX12_waits_29 rfl (lv_at hl 0 rfl) ?_
      refine xcVv E hs hQ hml hl.1 0 (gX12_lays_0 l g ad hD S60 hI (at_tr hAT (up_eq (j := 7) eS60 (by decide)) (up_eq (j := 12) eS60 (by decide)))) mX12_lays q1820 (by decide) c61 rfl rfl ⟨(Nat.le_of_ble_eq_true rfl), (Nat.le_of_ble_eq_true rfl)⟩ ⟨(Nat.le_of_ble_eq_true rfl), (Nat.le_of_ble_eq_true rfl)⟩ (Nat.le_of_ble_eq_true rfl) rfl dX12_waits_30 (fun S87 H locs hp87 hQ _ => ?_)
      obtain ⟨hI, o87⟩ := hp87
      refine lv_iconst (v := 0) hx hb dX12_waits_33 (by decide) ?_
      refine lv_istore (lv' := [(4, .int 0), (0, .ref (ad 0)), (1, .int a1), (2, .int a2), (3, .int a3)]) hx hb dX12_waits_34 hl (by decide) rfl (fun ls hl => ?_)
      have loop36 : ∀ (n : Nat) (S_36 : SS) (H : Heap) (locs : List Loc) (ls : Array Slot) (x36_4 : Int32), Bd x36_4 (0) (12) → (-1) * x36_4.toInt + 12 < ((n : Nat) : Int) → InvM g ad S_36 → (∀ j, j ∉ ([19] : List Nat) → S_36 j = S87 j) → Hp g ad 20 S_36 (FA ad 20) s.heap H locs → lv_has ls 7 [(4, .int x36_4), (0, .ref (ad 0)), (1, .int a1), (2, .int a2), (3, .int a3)] → W p l e (Rm 4) s m [.ref (ad 0), .int a1, .int a2, .int a3].toArray below meth c H locs 0 0 (MQ below (va_Qi (fun r S' => InvM g ad S' ∧ (∀ j, j ∉ ([0, 14, 15, 19] : List Nat) → S' j = S j) ∧ Bd r (-2) (11)) (QB g ad 20) (FA ad 20)) [.ref (ad 0), .int a1, .int a2, .int a3].toArray s 0 0 (FA ad 20)) (F0 m 36 ls []) := by
        intro n
        induction n with
        | zero => intro S_36 H locs ls x36_4 Bx36_4 hn36_ hI hf36 hQ hl; exfalso; have := (Bx36_4).2; omega
        | succ n36_ ih36 =>
          intro S_36 H locs ls x36_4 Bx36_4 hn36_ hI hf36 hQ hl
          refine lv_iload hx hb dX12_waits_36 (lv_at hl 0 rfl) ?_
          refine lv_bipush (v := 12) hx hb dX12_waits_38 (by decide) ?_
          refine lv_icmp_ge (tgt := 57) hx hb dX12_waits_40 (by decide) (fun k88 => ?_) (fun k88 => ?_)
          · have h89 := ib_le k88
            have b90 : Bd x36_4 (12) (12) := ⟨((rf_le (by decide : Bd 12 (12) (12)) Bx36_4 h89).2).1, (Bx36_4).2⟩
            refine lv_iconst (v := 0) hx hb dX12_waits_57 (by decide) ?_
            refine lv_istore (lv' := [(4, .int 0), (0, .ref (ad 0)), (1, .int a1), (2, .int a2), (3, .int a3)]) hx hb dX12_waits_58 hl (by decide) rfl (fun ls hl => ?_)
            have c91 : S_36 0 = .inr (12, [.int 0, .ref (ad 1), .ref (ad 2), .ref (ad 3), .ref (ad 4), .ref (ad 5), .int v32, .int v34, .int v36, .int v38, .int v39, .long w40, .int v41, .int v43, .int v44, .int v45, .ref (ad 6), .ref (ad 7), .ref (ad 8), .ref (ad 9), .ref (ad 10), .ref (ad 11), .ref (ad 12), .ref (ad 13), .ref (ad 14), .ref (ad 15), .int v46, .int v48, .ref (ad 16), .int v50, .int v52, .int v54, .int v56, .int v57, .ref (ad 17), .ref (ad 18), .int v58, .ref (ad 19)]) := ((hf36 0 (by decide)).trans ((o87 0 (by decide)).trans c61))
            have loop60 : ∀ (n : Nat) (S_60 : SS) (H : Heap) (locs : List Loc) (ls : Array Slot) (x60_4 : Int32) (y60_0_0 : Int32) (y60_0_6 : Int32) (y60_0_7 : Int32) (y60_0_8 : Int32) (y60_0_9 : Int32) (y60_0_10 : Int32) (wy60_0_11 : Int64) (y60_0_12 : Int32) (y60_0_13 : Int32) (y60_0_14 : Int32) (y60_0_15 : Int32) (y60_0_26 : Int32) (y60_0_27 : Int32) (y60_0_29 : Int32) (y60_0_30 : Int32) (y60_0_31 : Int32) (y60_0_32 : Int32) (y60_0_33 : Int32) (y60_0_36 : Int32), Bd x60_4 (0) (20) → Bd y60_0_6 (0) (1200) → Bd y60_0_7 (0) (1200) → Bd y60_0_8 (0) (4) → Bd y60_0_12 (0) (3) → Bd y60_0_26 (0) (11) → Bd y60_0_27 (-1) (400) → Bd y60_0_29 (0) (2) → Bd y60_0_30 (0) (11) → Bd y60_0_31 (-1) (468) → (-1) * x60_4.toInt + 20 < ((n : Nat) : Int) → InvM g ad S_60 → (∀ j, j ∉ ([0, 19] : List Nat) → S_60 j = S_36 j) → S_60 0 = .inr (12, [.int y60_0_0, .ref (ad 1), .ref (ad 2), .ref (ad 3), .ref (ad 4), .ref (ad 5), .int y60_0_6, .int y60_0_7, .int y60_0_8, .int y60_0_9, .int y60_0_10, .long wy60_0_11, .int y60_0_12, .int y60_0_13, .int y60_0_14, .int y60_0_15, .ref (ad 6), .ref (ad 7), .ref (ad 8), .ref (ad 9), .ref (ad 10), .ref (ad 11), .ref (ad 12), .ref (ad 13), .ref (ad 14), .ref (ad 15), .int y60_0_26, .int y60_0_27, .ref (ad 16), .int y60_0_29, .int y60_0_30, .int y60_0_31, .int y60_0_32, .int y60_0_33, .ref (ad 17), .ref (ad 18), .int y60_0_36, .ref (ad 19)]) → Hp g ad 20 S_60 (FA ad 20) s.heap H locs → lv_has ls 7 [(4, .int x60_4), (0, .ref (ad 0)), (1, .int a1), (2, .int a2), (3, .int a3)] → W p l e (Rm 4) s m [.ref (ad 0), .int a1, .int a2, .int a3].toArray below meth c H locs 0 0 (MQ below (va_Qi (fun r S' => InvM g ad S' ∧ (∀ j, j ∉ ([0, 14, 15, 19] : List Nat) → S' j = S j) ∧ Bd r (-2) (11)) (QB g ad 20) (FA ad 20)) [.ref (ad 0), .int a1, .int a2, .int a3].toArray s 0 0 (FA ad 20)) (F0 m 60 ls []) := by
              intro n
              induction n with
              | zero => intro S_60 H locs ls x60_4 y60_0_0 y60_0_6 y60_0_7 y60_0_8 y60_0_9 y60_0_10 wy60_0_11 y60_0_12 y60_0_13 y60_0_14 y60_0_15 y60_0_26 y60_0_27 y60_0_29 y60_0_30 y60_0_31 y60_0_32 y60_0_33 y60_0_36 Bx60_4 By60_0_6 By60_0_7 By60_0_8 By60_0_12 By60_0_26 By60_0_27 By60_0_29 By60_0_30 By60_0_31 hn60_ hI hf60 cl60_0 hQ hl; exfalso; have := (Bx60_4).2; omega
              | succ n60_ ih60 =>
                intro S_60 H locs ls x60_4 y60_0_0 y60_0_6 y60_0_7 y60_0_8 y60_0_9 y60_0_10 wy60_0_11 y60_0_12 y60_0_13 y60_0_14 y60_0_15 y60_0_26 y60_0_27 y60_0_29 y60_0_30 y60_0_31 y60_0_32 y60_0_33 y60_0_36 Bx60_4 By60_0_6 By60_0_7 By60_0_8 By60_0_12 By60_0_26 By60_0_27 By60_0_29 By60_0_30 By60_0_31 hn60_ hI hf60 cl60_0 hQ hl
                refine lv_iload hx hb dX12_waits_60 (lv_at hl 0 rfl) ?_
                refine lv_iload_n hx hb dX12_waits_62 rfl (lv_at hl 3 rfl) ?_
                refine lv_icmp_ge (tgt := 107) hx hb dX12_waits_63 (by decide) (fun k92 => ?_) (fun k92 => ?_)
                · have h93 := ib_le k92
                  have b94 : Bd x60_4 (1) (20) := ⟨((rf_le b86 Bx60_4 h93).2).1, (Bx60_4).2⟩
                  refine lv_iconst (v := (-1)) hx hb dX12_waits_107 (by decide) ?_
                  refine lv_istore (lv' := [(4, .int (-1)), (0, .ref (ad 0)), (1, .int a1), (2, .int a2), (3, .int a3)]) hx hb dX12_waits_108 hl (by decide) rfl (fun ls hl => ?_)
                  refine lv_iconst (v := 0) hx hb dX12_waits_110 (by decide) ?_
                  refine lv_istore (lv' := [(5, .int 0), (4, .int (-1)), (0, .ref (ad 0)), (1, .int a1), (2, .int a2), (3, .int a3)]) hx hb dX12_waits_111 hl (by decide) rfl (fun ls hl => ?_)
                  refine lv_iconst (v := 0) hx hb dX12_waits_113 (by decide) ?_
                  refine lv_istore (lv' := [(6, .int 0), (5, .int 0), (4, .int (-1)), (0, .ref (ad 0)), (1, .int a1), (2, .int a2), (3, .int a3)]) hx hb dX12_waits_114 hl (by decide) rfl (fun ls hl => ?_)
                  have loop116 : ∀ (n : Nat) (H : Heap) (locs : List Loc) (ls : Array Slot) (x116_4 : Int32) (x116_5 : Int32) (x116_6 : Int32), Bd x116_4 (-1) (11) → Bd x116_5 (0) (2147483647) → Bd x116_6 (0) (12) → (-1) * x116_6.toInt + 12 < ((n : Nat) : Int) → Hp g ad 20 S_60 (FA ad 20) s.heap H locs → lv_has ls 7 [(6, .int x116_6), (5, .int x116_5), (4, .int x116_4), (0, .ref (ad 0)), (1, .int a1), (2, .int a2), (3, .int a3)] → W p l e (Rm 4) s m [.ref (ad 0), .int a1, .int a2, .int a3].toArray below meth c H locs 0 0 (MQ below (va_Qi (fun r S' => InvM g ad S' ∧ (∀ j, j ∉ ([0, 14, 15, 19] : List Nat) → S' j = S j) ∧ Bd r (-2) (11)) (QB g ad 20) (FA ad 20)) [.ref (ad 0), .int a1, .int a2, .int a3].toArray s 0 0 (FA ad 20)) (F0 m 116 ls []) := by
                    intro n
                    induction n with
                    | zero => intro H locs ls x116_4 x116_5 x116_6 Bx116_4 Bx116_5 Bx116_6 hn116_ hQ hl; exfalso; have := (Bx116_6).2; omega
                    | succ n116_ ih116 =>
                      intro H locs ls x116_4 x116_5 x116_6 Bx116_4 Bx116_5 Bx116_6 hn116_ hQ hl
                      refine lv_iload hx hb dX12_waits_116 (lv_at hl 0 rfl) ?_
                      refine lv_bipush (v := 12) hx hb dX12_waits_118 (by decide) ?_
                      refine lv_icmp_ge (tgt := 157) hx hb dX12_waits_120 (by decide) (fun k95 => ?_) (fun k95 => ?_)
                      · have h96 := ib_le k95
                        have b97 : Bd x116_6 (12) (12) := ⟨((rf_le (by decide : Bd 12 (12) (12)) Bx116_6 h96).2).1, (Bx116_6).2⟩
                        refine lv_iload hx hb dX12_waits_157 (lv_at hl 2 rfl) ?_
                        exact xri E hr hlk hQ (⟨hI, (o_trans (o_trans (o_trans (up_o o_refl eS60 (by decide)) o87 (by decide)) hf36 (by decide)) hf60 (by decide)), (ib_wk Bx116_4 (by decide) (by decide))⟩) dX12_waits_159
                      · have h98 := ib_nle k95
                        have b99 : Bd x116_6 (0) (11) := ⟨(Bx116_6).1, ((rf_lt Bx116_6 (by decide : Bd 12 (12) (12)) h98).1).2⟩
                        refine lv_aload_n hx hb dX12_waits_123 rfl (lv_at hl 3 rfl) ?_
                        refine xget E hQ 0 (by decide) cl60_0 rfl 37 (by decide) q1505 rfl dX12_waits_124 ?_
                        refine lv_iload hx hb dX12_waits_127 (lv_at hl 0 rfl) ?_
                        obtain ⟨f100, c101⟩ := invM_19 hI
                        refine xiald E hQ 19 (by decide) c101 (ib_in b99 (by decide) (by decide)) dX12_waits_129 ?_
                        refine lv_topi (fun z103 e104 => ?_)
                        refine lv_iload hx hb dX12_waits_130 (lv_at hl 1 rfl) ?_
                        refine lv_icmp_gt (tgt := 138) hx hb dX12_waits_132 (by decide) (fun k105 => ?_) (fun k105 => ?_)
                        · have h106 := ib_lt k105
                          have b107 : Bd x116_5 (0) (2147483646) := ⟨(Bx116_5).1, ((rf_lt Bx116_5 (ib_full z103) h106).1).2⟩
                          have b108 : Bd z103 (1) (2147483647) := ⟨((rf_lt Bx116_5 (ib_full z103) h106).2).1, ((ib_full z103)).2⟩
                          refine lv_iload hx hb dX12_waits_138 (lv_at hl 0 rfl) ?_
                          refine lv_istore (lv' := [(4, .int x116_6), (6, .int x116_6), (5, .int x116_5), (0, .ref (ad 0)), (1, .int a1), (2, .int a2), (3, .int a3)]) hx hb dX12_waits_140 hl (by decide) rfl (fun ls hl => ?_)
                          refine lv_aload_n hx hb dX12_waits_142 rfl (lv_at hl 3 rfl) ?_
                          refine xget E hQ 0 (by decide) cl60_0 rfl 37 (by decide) q1505 rfl dX12_waits_143 ?_
                          refine lv_iload hx hb dX12_waits_146 (lv_at hl 1 rfl) ?_
                          refine xiald E hQ 19 (by decide) c101 (ib_in b99 (by decide) (by decide)) dX12_waits_148 ?_
                          refine lv_topi (fun z109 e110 => ?_)
                          have t111 : z109.toInt = z103.toInt := by rw [e110, e104]
                          have b112 : Bd z109 (1) (2147483647) := (by rw [Bd, t111]; exact b108)
                          refine lv_istore (lv' := [(5, .int z109), (4, .int x116_6), (6, .int x116_6), (0, .ref (ad 0)), (1, .int a1), (2, .int a2), (3, .int a3)]) hx hb dX12_waits_149 hl (by decide) rfl (fun ls hl => ?_)
                          obtain ⟨z113, e114⟩ : ∃ z : Int32, z = x116_6 + 1 := ⟨_, rfl⟩
                          have t115 := ib_add e114 b99 (by decide : Bd 1 (1) (1)) (by decide) (by decide)
                          have b116 : Bd z113 (1) (12) := ib_addb t115 b99 (by decide : Bd 1 (1) (1))
                          have t115 : z113.toInt = x116_6.toInt + 1 := fold_add t115 rfl (by decide)
                          refine lv_iinc (v := z113) (lv' := [(6, .int z113), (5, .int z109), (4, .int x116_6), (0, .ref (ad 0)), (1, .int a1), (2, .int a2), (3, .int a3)]) hx hb dX12_waits_151 hl (k := 2) rfl (by rw [e114]; rfl) (by decide) rfl (fun ls hl => ?_)
                          refine lv_goto (tgt := 116) hx hb dX12_waits_154 (by decide) ?_
                          exact ih116 _ _ _ x116_6 z109 z113 (ib_wk b99 (by decide) (by decide)) (ib_wk b112 (by decide) (by decide)) (ib_wk b116 (by decide) (by decide)) (by omega) hQ (lv_sub hl [0, 1, 2, 3, 4, 5, 6] rfl)
                        · have h117 := ib_nlt k105
                          refine lv_goto (tgt := 151) hx hb dX12_waits_135 (by decide) ?_
                          obtain ⟨z118, e119⟩ : ∃ z : Int32, z = x116_6 + 1 := ⟨_, rfl⟩
                          have t120 := ib_add e119 b99 (by decide : Bd 1 (1) (1)) (by decide) (by decide)
                          have b121 : Bd z118 (1) (12) := ib_addb t120 b99 (by decide : Bd 1 (1) (1))
                          have t120 : z118.toInt = x116_6.toInt + 1 := fold_add t120 rfl (by decide)
                          refine lv_iinc (v := z118) (lv' := [(6, .int z118), (5, .int x116_5), (4, .int x116_4), (0, .ref (ad 0)), (1, .int a1), (2, .int a2), (3, .int a3)]) hx hb dX12_waits_151 hl (k := 0) rfl (by rw [e119]; rfl) (by decide) rfl (fun ls hl => ?_)
                          refine lv_goto (tgt := 116) hx hb dX12_waits_154 (by decide) ?_
                          exact ih116 _ _ _ x116_4 x116_5 z118 Bx116_4 Bx116_5 (ib_wk b121 (by decide) (by decide)) (by omega) hQ (lv_sub hl [0, 1, 2, 3, 4, 5, 6] rfl)
                  obtain ⟨n116, hn116⟩ := fu_n (12)
                  exact loop116 n116 _ _ _ (-1) 0 0 (ib_wk (by decide : Bd (-1) (-1) (-1)) (by decide) (by decide)) (ib_wk (by decide : Bd 0 (0) (0)) (by decide) (by decide)) (ib_wk (by decide : Bd 0 (0) (0)) (by decide) (by decide)) (by have : ((-1) : Int32).toInt = (-1) := (by decide); have : (0 : Int32).toInt = 0 := (by decide); omega) hQ (lv_sub hl [0, 1, 2, 3, 4, 5, 6] rfl)
                · have h122 := ib_nle k92
                  have b123 : Bd x60_4 (0) (19) := ⟨(Bx60_4).1, ((rf_lt Bx60_4 b86 h122).1).2⟩
                  refine lv_aload_n hx hb dX12_waits_66 rfl (lv_at hl 1 rfl) ?_
                  refine lv_iload_n hx hb dX12_waits_67 rfl (lv_at hl 4 rfl) ?_
                  refine lv_sipush (v := 400) hx hb dX12_waits_68 (by decide) ?_
                  refine lv_iload_n hx hb dX12_waits_71 rfl (lv_at hl 2 rfl) ?_
                  refine lv_i2l hx hb dX12_waits_72 rfl ?_
                  refine lv_topl (fun w124 e125 => ?_)
                  have t126 : w124.toInt = a1.toInt := by rw [e125]; exact i2l_i _
                  have b127 : BdL w124 (0) (2000000000) := (by have h1 := (b71).1; have h2 := (b71).2; exact ⟨by omega, by omega⟩)
                  refine lv_iload hx hb dX12_waits_73 (lv_at hl 0 rfl) ?_
                  refine lv_i2l hx hb dX12_waits_75 rfl ?_
                  refine lv_topl (fun w128 e129 => ?_)
                  have t130 : w128.toInt = x60_4.toInt := by rw [e129]; exact i2l_i _
                  have b131 : BdL w128 (0) (19) := (by have h1 := (b123).1; have h2 := (b123).2; exact ⟨by omega, by omega⟩)
                  refine lv_ladd hx hb dX12_waits_76 ?_
                  refine lv_topl (fun w132 e133 => ?_)
                  have t134 : w132.toInt = w124.toInt + w128.toInt := ib_addL e133 b127 b131 (by decide) (by decide) rfl rfl
                  have b135 : BdL w132 (0) (2000000019) := (by have h1 := b127; have h2 := b131; exact ⟨by omega, by omega⟩)
                  have c136 : S_60 7 = .inl (g.2 0, 50, .inl f1) := ((hf60 7 (by decide)).trans ((hf36 7 (by decide)).trans ((o87 7 (by decide)).trans c62)))
                  have q137 : elm (S_60 7) 0 = v7.toInt := (elm_of c136 0).trans (congrArg Int32.toInt (ee8))
                  have q138 : elm (S_60 7) 1 = v4.toInt := (elm_of c136 1).trans (congrArg Int32.toInt (ee5))
                  refine xcVv E hs hQ hml hl.1 0 (gX12_goes_0 l g ad hD S_60 hI a3 400 w132 b72 (ib_wk (by decide : Bd 400 (400) (400)) (by decide) (by decide)) (by omega) (by omega)) mX12_goes q1829 (by decide) cl60_0 rfl rfl ⟨(Nat.le_of_ble_eq_true rfl), (Nat.le_of_ble_eq_true rfl)⟩ ⟨(Nat.le_of_ble_eq_true rfl), (Nat.le_of_ble_eq_true rfl)⟩ (Nat.le_of_ble_eq_true rfl) rfl dX12_waits_77 (fun S139 H locs hp139 hQ _ => ?_)
                  obtain ⟨hI, o139⟩ := hp139
                  refine lv_aload_n hx hb dX12_waits_80 rfl (lv_at hl 1 rfl) ?_
                  obtain ⟨v140, v141, v143, v145, v147, v148, w149, v150, v152, v153, v154, v155, v157, v159, v161, v163, v165, v166, v167, c168, b142, b144, b146, b151, b156, b158, b160, b162, b164⟩ := invM_0 hI
                  have c168 : S139 0 = .inr (12, [.int v140, .ref (ad 1), .ref (ad 2), .ref (ad 3), .ref (ad 4), .ref (ad 5), .int v141, .int v143, .int v145, .int v147, .int v148, .long w149, .int v150, .int v152, .int v153, .int v154, .ref (ad 6), .ref (ad 7), .ref (ad 8), .ref (ad 9), .ref (ad 10), .ref (ad 11), .ref (ad 12), .ref (ad 13), .ref (ad 14), .ref (ad 15), .int v155, .int v157, .ref (ad 16), .int v159, .int v161, .int v163, .int v165, .int v166, .ref (ad 17), .ref (ad 18), .int v167, .ref (ad 19)]) := c168
                  refine xget E hQ 0 (by decide) c168 rfl 27 (by decide) q1495 rfl dX12_waits_81 ?_
                  refine lv_iconst (v := (-1)) hx hb dX12_waits_84 (by decide) ?_
                  refine lv_icmp_eq (tgt := 101) hx hb dX12_waits_85 (by decide) (fun k169 => ?_) (fun k169 => ?_)
                  · have h170 := ib_eq k169
                    have b171 : Bd v157 (-1) (-1) := ⟨(b158).1, ((rf_eq b158 (by decide : Bd (-1) (-1) (-1)) h170).1).2⟩
                    obtain ⟨z172, e173⟩ : ∃ z : Int32, z = x60_4 + 1 := ⟨_, rfl⟩
                    have t174 := ib_add e173 b123 (by decide : Bd 1 (1) (1)) (by decide) (by decide)
                    have b175 : Bd z172 (1) (20) := ib_addb t174 b123 (by decide : Bd 1 (1) (1))
                    have t174 : z172.toInt = x60_4.toInt + 1 := fold_add t174 rfl (by decide)
                    refine lv_iinc (v := z172) (lv' := [(4, .int z172), (0, .ref (ad 0)), (1, .int a1), (2, .int a2), (3, .int a3)]) hx hb dX12_waits_101 hl (k := 0) rfl (by rw [e173]; rfl) (by decide) rfl (fun ls hl => ?_)
                    refine lv_goto (tgt := 60) hx hb dX12_waits_104 (by decide) ?_
                    exact ih60 _ _ _ _ z172 v140 v141 v143 v145 v147 v148 w149 v150 v152 v153 v154 v155 v157 v159 v161 v163 v165 v166 v167 (ib_wk b175 (by decide) (by decide)) b142 b144 b146 b151 b156 (ib_wk b171 (by decide) (by decide)) b160 b162 b164 (by omega) hI (o_trans hf60 o139 (by decide)) c168 hQ (lv_sub hl [0, 1, 2, 3, 4] rfl)
                  · have h176 := ib_ne k169
                    have b177 : Bd v157 (0) (400) := rf_nlo b158 (by decide : Bd (-1) (-1) (-1)) h176
                    refine lv_aload_n hx hb dX12_waits_88 rfl (lv_at hl 1 rfl) ?_
                    refine xget E hQ 0 (by decide) c168 rfl 37 (by decide) q1505 rfl dX12_waits_89 ?_
                    refine lv_aload_n hx hb dX12_waits_92 rfl (lv_at hl 1 rfl) ?_
                    refine xget E hQ 0 (by decide) c168 rfl 26 (by decide) q1494 rfl dX12_waits_93 ?_
                    refine lv_dup2_11 hx hb dX12_waits_96 rfl rfl ?_
                    obtain ⟨f178, c179⟩ := invM_19 hI
                    refine xiald E hQ 19 (by decide) c179 (ib_in b156 (by decide) (by decide)) dX12_waits_97 ?_
                    refine lv_topi (fun z181 e182 => ?_)
                    refine lv_iconst (v := 1) hx hb dX12_waits_98 (by decide) ?_
                    refine lv_iadd hx hb dX12_waits_99 ?_
                    refine lv_topi (fun z183 e184 => ?_)
                    refine xiast E hs hQ 19 (by decide) c179 (ib_in b156 (by decide) (by decide)) dX12_waits_100 (fun H locs S185 eS185 hQ => ?_)
                    have hI := invM_up_19 hI eS185 ⟨_, rfl⟩
                    have c186 : S185 19 = .inl (g.2 0, 12, .inl (upd f178 (v155 : Int32).toNatClampNeg z183)) := up_at eS185 rfl
                    obtain ⟨z187, e188⟩ : ∃ z : Int32, z = x60_4 + 1 := ⟨_, rfl⟩
                    have t189 := ib_add e188 b123 (by decide : Bd 1 (1) (1)) (by decide) (by decide)
                    have b190 : Bd z187 (1) (20) := ib_addb t189 b123 (by decide : Bd 1 (1) (1))
                    have t189 : z187.toInt = x60_4.toInt + 1 := fold_add t189 rfl (by decide)
                    refine lv_iinc (v := z187) (lv' := [(4, .int z187), (0, .ref (ad 0)), (1, .int a1), (2, .int a2), (3, .int a3)]) hx hb dX12_waits_101 hl (k := 0) rfl (by rw [e188]; rfl) (by decide) rfl (fun ls hl => ?_)
                    refine lv_goto (tgt := 60) hx hb dX12_waits_104 (by decide) ?_
                    have c191 : S185 0 = .inr (12, [.int v140, .ref (ad 1), .ref (ad 2), .ref (ad 3), .ref (ad 4), .ref (ad 5), .int v141, .int v143, .int v145, .int v147, .int v148, .long w149, .int v150, .int v152, .int v153, .int v154, .ref (ad 6), .ref (ad 7), .ref (ad 8), .ref (ad 9), .ref (ad 10), .ref (ad 11), .ref (ad 12), .ref (ad 13), .ref (ad 14), .ref (ad 15), .int v155, .int v157, .ref (ad 16), .int v159, .int v161, .int v163, .int v165, .int v166, .ref (ad 17), .ref (ad 18), .int v167, .ref (ad 19)]) := (up_ne eS185 (by decide) c168)
                    exact ih60 _ _ _ _ z187 v140 v141 v143 v145 v147 v148 w149 v150 v152 v153 v154 v155 v157 v159 v161 v163 v165 v166 v167 (ib_wk b190 (by decide) (by decide)) b142 b144 b146 b151 b156 (ib_wk b177 (by decide) (by decide)) b160 b162 b164 (by omega) hI (up_o (o_trans hf60 o139 (by decide)) eS185 (by decide)) c191 hQ (lv_sub hl [0, 1, 2, 3, 4] rfl)
            obtain ⟨n60, hn60⟩ := fu_n (20)
            exact loop60 n60 _ _ _ _ 0 0 v32 v34 v36 v38 v39 w40 v41 v43 v44 v45 v46 v48 v50 v52 v54 v56 v57 v58 (ib_wk (by decide : Bd 0 (0) (0)) (by decide) (by decide)) b33 b35 b37 b42 b47 b49 b51 b53 b55 (by have : (0 : Int32).toInt = 0 := (by decide); omega) hI o_refl c91 hQ (lv_sub hl [0, 1, 2, 3, 4] rfl)
          · have h192 := ib_nle k88
            have b193 : Bd x36_4 (0) (11) := ⟨(Bx36_4).1, ((rf_lt Bx36_4 (by decide : Bd 12 (12) (12)) h192).1).2⟩
            refine lv_aload_n hx hb dX12_waits_43 rfl (lv_at hl 1 rfl) ?_
            have c194 : S_36 0 = .inr (12, [.int 0, .ref (ad 1), .ref (ad 2), .ref (ad 3), .ref (ad 4), .ref (ad 5), .int v32, .int v34, .int v36, .int v38, .int v39, .long w40, .int v41, .int v43, .int v44, .int v45, .ref (ad 6), .ref (ad 7), .ref (ad 8), .ref (ad 9), .ref (ad 10), .ref (ad 11), .ref (ad 12), .ref (ad 13), .ref (ad 14), .ref (ad 15), .int v46, .int v48, .ref (ad 16), .int v50, .int v52, .int v54, .int v56, .int v57, .ref (ad 17), .ref (ad 18), .int v58, .ref (ad 19)]) := ((hf36 0 (by decide)).trans ((o87 0 (by decide)).trans c61))
            refine xget E hQ 0 (by decide) c194 rfl 37 (by decide) q1505 rfl dX12_waits_44 ?_
            refine lv_iload hx hb dX12_waits_47 (lv_at hl 0 rfl) ?_
            refine lv_iconst (v := 0) hx hb dX12_waits_49 (by decide) ?_
            obtain ⟨f195, c196⟩ := invM_19 hI
            refine xiast E hs hQ 19 (by decide) c196 (ib_in b193 (by decide) (by decide)) dX12_waits_50 (fun H locs S198 eS198 hQ => ?_)
            have hI := invM_up_19 hI eS198 ⟨_, rfl⟩
            have c199 : S198 19 = .inl (g.2 0, 12, .inl (upd f195 (x36_4 : Int32).toNatClampNeg 0)) := up_at eS198 rfl
            obtain ⟨z200, e201⟩ : ∃ z : Int32, z = x36_4 + 1 := ⟨_, rfl⟩
            have t202 := ib_add e201 b193 (by decide : Bd 1 (1) (1)) (by decide) (by decide)
            have b203 : Bd z200 (1) (12) := ib_addb t202 b193 (by decide : Bd 1 (1) (1))
            have t202 : z200.toInt = x36_4.toInt + 1 := fold_add t202 rfl (by decide)
            refine lv_iinc (v := z200) (lv' := [(4, .int z200), (0, .ref (ad 0)), (1, .int a1), (2, .int a2), (3, .int a3)]) hx hb dX12_waits_51 hl (k := 0) rfl (by rw [e201]; rfl) (by decide) rfl (fun ls hl => ?_)
            refine lv_goto (tgt := 36) hx hb dX12_waits_54 (by decide) ?_
            exact ih36 _ _ _ _ z200 (ib_wk b203 (by decide) (by decide)) (by omega) hI (up_o hf36 eS198 (by decide)) hQ (lv_sub hl [0, 1, 2, 3, 4] rfl)
      obtain ⟨n36, hn36⟩ := fu_n (12)
      exact loop36 n36 _ _ _ _ 0 (ib_wk (by decide : Bd 0 (0) (0)) (by decide) (by decide)) (by have : (0 : Int32).toInt = 0 := (by decide); omega) hI o_refl hQ (lv_sub hl [0, 1, 2, 3, 4] rfl)
    · have h204 := ib_eq k81
      have b205 : Bd r80 (0) (0) := ⟨(b80).1, ((rf_eq b80 (by decide : Bd 0 (0) (0)) h204).1).2⟩
      clear g80_0
      refine lv_bipush (v := (-2)) hx hb dX12_waits_26 (by decide) ?_
      exact xri E hr hlk hQ (⟨hI, (up_o o_refl eS60 (by decide)), (ib_wk (by decide : Bd (-2) (-2) (-2)) (by decide) (by decide))⟩) dX12_waits_28
set_option maxHeartbeats 4000000 in
set_option maxRecDepth 100000 in
theorem gX12_rests__0 (l : Launch) (g : GG) (ad : Nat → Nat) (hD : Dj ad 20) (S : SS) (hI : InvM g ad S) (hq1 : 0 ≤ 12 * elm (S 7) 1 + (-1) * elm (S 7) 0) (hq2 : 0 ≤ 12 * elm (S 7) 3 + (-1) * elm (S 7) 0) (hq3 : 0 ≤ 8 * elm (S 7) 0 + (-1) * elm (S 7) 6) (hq4 : 0 ≤ 3 * elm (S 7) 0 + (-1) * elm (S 7) 8) (hq5 : 0 ≤ 40000 * elm (S 7) 0 + (-1) * elm (S 6) 0) (hAT : ATp (S 7) (S 12) 0) : Met l yX12_rests_ (wG (.code yX12_rests_ cX12_rests_ 1 (some .int))) (Rm 7) (XPre g ad 20 S [.ref (ad 0)]) (va_Qi (fun _ S' => InvM g ad S' ∧ (∀ j, j ∉ ([0, 14, 15, 17, 18] : List Nat) → S' j = S j)) (QB g ad 20) (FA ad 20)) 0 0 (FA ad 20) := by
  refine xmet cX12_rests_ "EbbWreckModel" (by decide) rfl (Nat.le_of_ble_eq_true rfl) (fun p e s m below meth c E hr hlk hml hQ ls hl => ?_)
  have hx := E.1
  have hb := E.2.1
  have hs : Sp ad 20 (FA ad 20) := Sp.fa hD
  have hl : lv_has ls 1 [(0, .ref (ad 0))] := hl
  obtain ⟨f1, c2, b3⟩ := invM_7 hI
  obtain ⟨v4, ee5⟩ : ∃ z : Int32, f1 1 = z := ⟨_, rfl⟩
  have b6 : Bd v4 (0) (12) := (by rw [← ee5]; exact b3.2.1 1 (by decide))
  obtain ⟨v7, ee8⟩ : ∃ z : Int32, f1 0 = z := ⟨_, rfl⟩
  have b9 : Bd v7 (0) (12) := (by rw [← ee8]; exact b3.1 0 (by decide))
  obtain ⟨v10, ee11⟩ : ∃ z : Int32, f1 3 = z := ⟨_, rfl⟩
  have b12 : Bd v10 (0) (12) := (by rw [← ee11]; exact b3.2.2.2.1 3 (by decide))
  obtain ⟨v13, ee14⟩ : ∃ z : Int32, f1 6 = z := ⟨_, rfl⟩
  have b15 : Bd v13 (0) (8) := (by rw [← ee14]; exact b3.2.2.2.2.1 6 (by decide))
  obtain ⟨v16, ee17⟩ : ∃ z : Int32, f1 8 = z := ⟨_, rfl⟩
  have b18 : Bd v16 (0) (3) := (by rw [← ee17]; exact b3.2.2.2.2.2.2.1 8 (by decide))
  obtain ⟨f19, c20, b21⟩ := invM_6 hI
  obtain ⟨v22, ee23⟩ : ∃ z : Int32, f19 0 = z := ⟨_, rfl⟩
  have b24 : Bd v22 (0) (40000) := (by rw [← ee23]; exact b21 0)
  have q25 : elm (S 7) 1 = v4.toInt := (elm_of c2 1).trans (congrArg Int32.toInt (ee5))
  have q26 : elm (S 7) 0 = v7.toInt := (elm_of c2 0).trans (congrArg Int32.toInt (ee8))
  have q27 : elm (S 7) 3 = v10.toInt := (elm_of c2 3).trans (congrArg Int32.toInt (ee11))
  have q28 : elm (S 7) 6 = v13.toInt := (elm_of c2 6).trans (congrArg Int32.toInt (ee14))
  have q29 : elm (S 7) 8 = v16.toInt := (elm_of c2 8).trans (congrArg Int32.toInt (ee17))
  have q30 : elm (S 6) 0 = v22.toInt := (elm_of c20 0).trans (congrArg Int32.toInt (ee23))
  refine lv_aload_n hx hb dX12_rests__0 rfl (lv_at hl 0 rfl) ?_
  refine lv_iconst (v := 0) hx hb dX12_rests__1 (by decide) ?_
  obtain ⟨v31, v32, v34, v36, v38, v39, w40, v41, v43, v44, v45, v46, v48, v50, v52, v54, v56, v57, v58, c59, b33, b35, b37, b42, b47, b49, b51, b53, b55⟩ := invM_0 hI
  have c59 : S 0 = .inr (12, [.int v31, .ref (ad 1), .ref (ad 2), .ref (ad 3), .ref (ad 4), .ref (ad 5), .int v32, .int v34, .int v36, .int v38, .int v39, .long w40, .int v41, .int v43, .int v44, .int v45, .ref (ad 6), .ref (ad 7), .ref (ad 8), .ref (ad 9), .ref (ad 10), .ref (ad 11), .ref (ad 12), .ref (ad 13), .ref (ad 14), .ref (ad 15), .int v46, .int v48, .ref (ad 16), .int v50, .int v52, .int v54, .int v56, .int v57, .ref (ad 17), .ref (ad 18), .int v58, .ref (ad 19)]) := c59
  refine xputi E hs hQ 0 (by decide) c59 rfl 0 (by decide) q1468 rfl rfl (Nat.le_of_ble_eq_true rfl) dX12_rests__2 (fun H locs S60 eS60 hQ => ?_)
  have hI := invM_up_0 hI eS60 ⟨0, v32, v34, v36, v38, v39, w40, v41, v43, v44, v45, v46, v48, v50, v52, v54, v56, v57, v58, rfl, b33, b35, b37, b42, b47, b49, b51, b53, b55⟩
  have c61 : S60 0 = .inr (12, [.int 0, .ref (ad 1), .ref (ad 2), .ref (ad 3), .ref (ad 4), .ref (ad 5), .int v32, .int v34, .int v36, .int v38, .int v39, .long w40, .int v41, .int v43, .int v44, .int v45, .ref (ad 6), .ref (ad 7), .ref (ad 8), .ref (ad 9), .ref (ad 10), .ref (ad 11), .ref (ad 12), .ref (ad 13), .ref (ad 14), .ref (ad 15), .int v46, .int v48, .ref (ad 16), .int v50, .int v52, .int v54, .int v56, .int v57, .ref (ad 17), .ref (ad 18), .int v58, .ref (ad 19)]) := up_at eS60 rfl
  refine lv_aload_n hx hb dX12_rests__5 rfl (lv_at hl 0 rfl) ?_
  have c62 : S60 6 = .inl (g.2 0, 5, .inl f19) := (up_ne eS60 (by decide) c20)
  refine xcVi E hs hQ hml hl.1 0 (gX12_isShore_0 l g ad hD S60 hI ) mX12_isShore q1782 (by decide) c61 rfl rfl ⟨(Nat.le_of_ble_eq_true rfl), (Nat.le_of_ble_eq_true rfl)⟩ ⟨(Nat.le_of_ble_eq_true rfl), (Nat.le_of_ble_eq_true rfl)⟩ (Nat.le_of_ble_eq_true rfl) rfl dX12_rests__6 (fun r63 S63 H locs hp63 hQ _ => ?_)
  obtain ⟨rfl, b63, g63_0⟩ := hp63
  have q64 : elm (S60 6) 0 = v22.toInt := (elm_of c62 0).trans (congrArg Int32.toInt (ee23))
  refine lv_if_eq (tgt := 19) hx hb dX12_rests__9 (by decide) (fun k65 => ?_) (fun k65 => ?_)
  · have h66 := ib_eq k65
    have b67 : Bd r63 (0) (0) := ⟨(b63).1, ((rf_eq b63 (by decide : Bd 0 (0) (0)) h66).1).2⟩
    clear g63_0
    refine lv_bipush (v := (-2)) hx hb dX12_rests__19 (by decide) ?_
    exact xri E hr hlk hQ (⟨hI, (up_o o_refl eS60 (by decide))⟩) dX12_rests__21
  · have h68 := ib_ne k65
    have b69 : Bd r63 (1) (1) := rf_nlo b63 (by decide : Bd 0 (0) (0)) h68
    have g70 := g63_0.resolve_left (by omega)
    clear g63_0
    have b71 : Bd v22 (1) (40000) := ⟨by omega, (b24).2⟩
    refine lv_aload_n hx hb dX12_rests__12 rfl (lv_at hl 0 rfl) ?_
    have c72 : S60 7 = .inl (g.2 0, 50, .inl f1) := (up_ne eS60 (by decide) c2)
    have q73 : elm (S60 7) 1 = v4.toInt := (elm_of c72 1).trans (congrArg Int32.toInt (ee5))
    have q74 : elm (S60 7) 0 = v7.toInt := (elm_of c72 0).trans (congrArg Int32.toInt (ee8))
    have q75 : elm (S60 7) 3 = v10.toInt := (elm_of c72 3).trans (congrArg Int32.toInt (ee11))
    have q76 : elm (S60 7) 6 = v13.toInt := (elm_of c72 6).trans (congrArg Int32.toInt (ee14))
    have q77 : elm (S60 7) 8 = v16.toInt := (elm_of c72 8).trans (congrArg Int32.toInt (ee17))
    refine xcVi E hs hQ hml hl.1 0 (gX12_restsNow_0 l g ad hD S60 hI (by omega) (by omega) (by omega) (by omega) (by omega) (at_tr hAT (up_eq (j := 7) eS60 (by decide)) (up_eq (j := 12) eS60 (by decide)))) mX12_restsNow q2078 (by decide) c61 rfl rfl ⟨(Nat.le_of_ble_eq_true rfl), (Nat.le_of_ble_eq_true rfl)⟩ ⟨(Nat.le_of_ble_eq_true rfl), (Nat.le_of_ble_eq_true rfl)⟩ (Nat.le_of_ble_eq_true rfl) rfl dX12_rests__13 (fun r78 S78 H locs hp78 hQ _ => ?_)
    obtain ⟨hI, o78⟩ := hp78
    refine lv_goto (tgt := 21) hx hb dX12_rests__16 (by decide) ?_
    exact xri E hr hlk hQ (⟨hI, (o_trans (up_o o_refl eS60 (by decide)) o78 (by decide))⟩) dX12_rests__21
set_option maxHeartbeats 4000000 in
set_option maxRecDepth 100000 in
theorem gX12_count_0 (l : Launch) (g : GG) (ad : Nat → Nat) (hD : Dj ad 20) (S : SS) (hI : InvM g ad S) (a1 : Int32) (hq1 : 0 ≤ 12 * elm (S 7) 1 + (-1) * elm (S 7) 0) (hq2 : 0 ≤ 12 * elm (S 7) 3 + (-1) * elm (S 7) 0) (hq3 : 0 ≤ 8 * elm (S 7) 0 + (-1) * elm (S 7) 6) (hq4 : 0 ≤ 3 * elm (S 7) 0 + (-1) * elm (S 7) 8) (hq5 : 0 ≤ 40000 * elm (S 7) 0 + (-1) * elm (S 6) 0) : Met l yX12_count (wG (.code yX12_count cX12_count 4 (some .int))) (Rm 1) (XPre g ad 20 S [.ref (ad 0), .int a1]) (va_Qi (fun _ S' => InvM g ad S' ∧ (∀ j, j ∉ ([0] : List Nat) → S' j = S j)) (QB g ad 20) (FA ad 20)) 0 0 (FA ad 20) := by
  refine xmet cX12_count "EbbWreckModel" (by decide) rfl (Nat.le_of_ble_eq_true rfl) (fun p e s m below meth c E hr hlk hml hQ ls hl => ?_)
  have hx := E.1
  have hb := E.2.1
  have hs : Sp ad 20 (FA ad 20) := Sp.fa hD
  have hl : lv_has ls 4 [(0, .ref (ad 0)), (1, .int a1)] := hl
  obtain ⟨f1, c2, b3⟩ := invM_7 hI
  obtain ⟨v4, ee5⟩ : ∃ z : Int32, f1 1 = z := ⟨_, rfl⟩
  have b6 : Bd v4 (0) (12) := (by rw [← ee5]; exact b3.2.1 1 (by decide))
  obtain ⟨v7, ee8⟩ : ∃ z : Int32, f1 0 = z := ⟨_, rfl⟩
  have b9 : Bd v7 (0) (12) := (by rw [← ee8]; exact b3.1 0 (by decide))
  obtain ⟨v10, ee11⟩ : ∃ z : Int32, f1 3 = z := ⟨_, rfl⟩
  have b12 : Bd v10 (0) (12) := (by rw [← ee11]; exact b3.2.2.2.1 3 (by decide))
  obtain ⟨v13, ee14⟩ : ∃ z : Int32, f1 6 = z := ⟨_, rfl⟩
  have b15 : Bd v13 (0) (8) := (by rw [← ee14]; exact b3.2.2.2.2.1 6 (by decide))
  obtain ⟨v16, ee17⟩ : ∃ z : Int32, f1 8 = z := ⟨_, rfl⟩
  have b18 : Bd v16 (0) (3) := (by rw [← ee17]; exact b3.2.2.2.2.2.2.1 8 (by decide))
  obtain ⟨f19, c20, b21⟩ := invM_6 hI
  obtain ⟨v22, ee23⟩ : ∃ z : Int32, f19 0 = z := ⟨_, rfl⟩
  have b24 : Bd v22 (0) (40000) := (by rw [← ee23]; exact b21 0)
  have q25 : elm (S 7) 1 = v4.toInt := (elm_of c2 1).trans (congrArg Int32.toInt (ee5))
  have q26 : elm (S 7) 0 = v7.toInt := (elm_of c2 0).trans (congrArg Int32.toInt (ee8))
  have q27 : elm (S 7) 3 = v10.toInt := (elm_of c2 3).trans (congrArg Int32.toInt (ee11))
  have q28 : elm (S 7) 6 = v13.toInt := (elm_of c2 6).trans (congrArg Int32.toInt (ee14))
  have q29 : elm (S 7) 8 = v16.toInt := (elm_of c2 8).trans (congrArg Int32.toInt (ee17))
  have q30 : elm (S 6) 0 = v22.toInt := (elm_of c20 0).trans (congrArg Int32.toInt (ee23))
  refine lv_aload_n hx hb dX12_count_0 rfl (lv_at hl 0 rfl) ?_
  refine lv_iconst (v := 0) hx hb dX12_count_1 (by decide) ?_
  obtain ⟨v31, v32, v34, v36, v38, v39, w40, v41, v43, v44, v45, v46, v48, v50, v52, v54, v56, v57, v58, c59, b33, b35, b37, b42, b47, b49, b51, b53, b55⟩ := invM_0 hI
  have c59 : S 0 = .inr (12, [.int v31, .ref (ad 1), .ref (ad 2), .ref (ad 3), .ref (ad 4), .ref (ad 5), .int v32, .int v34, .int v36, .int v38, .int v39, .long w40, .int v41, .int v43, .int v44, .int v45, .ref (ad 6), .ref (ad 7), .ref (ad 8), .ref (ad 9), .ref (ad 10), .ref (ad 11), .ref (ad 12), .ref (ad 13), .ref (ad 14), .ref (ad 15), .int v46, .int v48, .ref (ad 16), .int v50, .int v52, .int v54, .int v56, .int v57, .ref (ad 17), .ref (ad 18), .int v58, .ref (ad 19)]) := c59
  refine xputi E hs hQ 0 (by decide) c59 rfl 0 (by decide) q1468 rfl rfl (Nat.le_of_ble_eq_true rfl) dX12_count_2 (fun H locs S60 eS60 hQ => ?_)
  have hI := invM_up_0 hI eS60 ⟨0, v32, v34, v36, v38, v39, w40, v41, v43, v44, v45, v46, v48, v50, v52, v54, v56, v57, v58, rfl, b33, b35, b37, b42, b47, b49, b51, b53, b55⟩
  have c61 : S60 0 = .inr (12, [.int 0, .ref (ad 1), .ref (ad 2), .ref (ad 3), .ref (ad 4), .ref (ad 5), .int v32, .int v34, .int v36, .int v38, .int v39, .long w40, .int v41, .int v43, .int v44, .int v45, .ref (ad 6), .ref (ad 7), .ref (ad 8), .ref (ad 9), .ref (ad 10), .ref (ad 11), .ref (ad 12), .ref (ad 13), .ref (ad 14), .ref (ad 15), .int v46, .int v48, .ref (ad 16), .int v50, .int v52, .int v54, .int v56, .int v57, .ref (ad 17), .ref (ad 18), .int v58, .ref (ad 19)]) := up_at eS60 rfl
  refine lv_iconst (v := 0) hx hb dX12_count_5 (by decide) ?_
  refine lv_istore_n (lv' := [(2, .int 0), (0, .ref (ad 0)), (1, .int a1)]) hx hb dX12_count_6 rfl hl (by decide) rfl (fun ls hl => ?_)
  refine lv_iload_n hx hb dX12_count_7 rfl (lv_at hl 2 rfl) ?_
  rcases pk_ix a1 (n := 13) (by decide) with h62 | h62 | ⟨jh62, hjh62, h62⟩
  · refine lv_tableOut (tgt := 111) hx hb dX12_count_8 (Or.inl (by have := tlt0 h62; omega)) (by decide) ?_
    have b63 : Bd a1 (-2147483648) (-1) := ⟨((ib_full a1)).1, by have := tlt0 h62; omega⟩
    refine lv_iload_n hx hb dX12_count_111 rfl (lv_at hl 2 rfl) ?_
    refine lv_i2l hx hb dX12_count_112 rfl ?_
    refine lv_topl (fun w64 e65 => ?_)
    have t66 : w64.toInt = a1.toInt := by rw [e65]; exact i2l_i _
    have b67 : BdL w64 (-2147483648) (-1) := (by have h1 := (b63).1; have h2 := (b63).2; exact ⟨by omega, by omega⟩)
    refine lv_lconst (v := 0) hx hb dX12_count_113 (by decide) ?_
    refine lv_ldc2 (v := 9) hx hb E.2.2.1 (E.2.2.2.1 _ q2149) dX12_count_114 ?_
    have q68 : (0 : Int64).toInt = 0 := by decide
    have q69 : (9 : Int64).toInt = 9 := by decide
    refine xcSi E hs hQ hml hl.1 (gX12_in l g ad hD S60 hI w64 0 9) mX12_in q1591 rfl ⟨(Nat.le_of_ble_eq_true rfl), (Nat.le_of_ble_eq_true rfl)⟩ ⟨(Nat.le_of_ble_eq_true rfl), (Nat.le_of_ble_eq_true rfl)⟩ (Nat.le_of_ble_eq_true rfl) rfl dX12_count_117 (fun r70 S70 H locs hp70 hQ => ?_)
    obtain ⟨rfl, b70, g70_0, u70_0⟩ := hp70
    refine lv_if_eq (tgt := 132) hx hb dX12_count_120 (by decide) (fun k71 => ?_) (fun k71 => ?_)
    · have h72 := ib_eq k71
      have b73 : Bd r70 (0) (0) := ⟨(b70).1, ((rf_eq b70 (by decide : Bd 0 (0) (0)) h72).1).2⟩
      clear g70_0
      refine lv_iconst (v := (-1)) hx hb dX12_count_132 (by decide) ?_
      exact xri E hr hlk hQ (⟨hI, (up_o o_refl eS60 (by decide))⟩) dX12_count_133
    · have h74 := ib_ne k71
      have b75 : Bd r70 (1) (1) := rf_nlo b70 (by decide : Bd 0 (0) (0)) h74
      have g76 := g70_0.resolve_left (by omega)
      clear g70_0
      exact (by omega : False).elim
  · refine lv_tableOut (tgt := 111) hx hb dX12_count_8 (Or.inr (by have := tge h62 (by decide); omega)) (by decide) ?_
    have b77 : Bd a1 (13) (2147483647) := ⟨by have := tge h62 (by decide); omega, ((ib_full a1)).2⟩
    refine lv_iload_n hx hb dX12_count_111 rfl (lv_at hl 2 rfl) ?_
    refine lv_i2l hx hb dX12_count_112 rfl ?_
    refine lv_topl (fun w78 e79 => ?_)
    have t80 : w78.toInt = a1.toInt := by rw [e79]; exact i2l_i _
    have b81 : BdL w78 (13) (2147483647) := (by have h1 := (b77).1; have h2 := (b77).2; exact ⟨by omega, by omega⟩)
    refine lv_lconst (v := 0) hx hb dX12_count_113 (by decide) ?_
    refine lv_ldc2 (v := 9) hx hb E.2.2.1 (E.2.2.2.1 _ q2149) dX12_count_114 ?_
    have q82 : (0 : Int64).toInt = 0 := by decide
    have q83 : (9 : Int64).toInt = 9 := by decide
    refine xcSi E hs hQ hml hl.1 (gX12_in l g ad hD S60 hI w78 0 9) mX12_in q1591 rfl ⟨(Nat.le_of_ble_eq_true rfl), (Nat.le_of_ble_eq_true rfl)⟩ ⟨(Nat.le_of_ble_eq_true rfl), (Nat.le_of_ble_eq_true rfl)⟩ (Nat.le_of_ble_eq_true rfl) rfl dX12_count_117 (fun r84 S84 H locs hp84 hQ => ?_)
    obtain ⟨rfl, b84, g84_0, u84_0⟩ := hp84
    refine lv_if_eq (tgt := 132) hx hb dX12_count_120 (by decide) (fun k85 => ?_) (fun k85 => ?_)
    · have h86 := ib_eq k85
      have b87 : Bd r84 (0) (0) := ⟨(b84).1, ((rf_eq b84 (by decide : Bd 0 (0) (0)) h86).1).2⟩
      clear g84_0
      refine lv_iconst (v := (-1)) hx hb dX12_count_132 (by decide) ?_
      exact xri E hr hlk hQ (⟨hI, (up_o o_refl eS60 (by decide))⟩) dX12_count_133
    · have h88 := ib_ne k85
      have b89 : Bd r84 (1) (1) := rf_nlo b84 (by decide : Bd 0 (0) (0)) h88
      have g90 := g84_0.resolve_left (by omega)
      clear g84_0
      exact (by omega : False).elim
  · rcases (show jh62 = 0 ∨ jh62 = 1 ∨ jh62 = 2 ∨ jh62 = 3 ∨ jh62 = 4 ∨ jh62 = 5 ∨ jh62 = 6 ∨ jh62 = 7 ∨ jh62 = 8 ∨ jh62 = 9 ∨ jh62 = 10 ∨ jh62 = 11 ∨ jh62 = 12 by omega) with rfl | rfl | rfl | rfl | rfl | rfl | rfl | rfl | rfl | rfl | rfl | rfl | rfl
    · refine lv_tableOut (tgt := 111) hx hb dX12_count_8 (Or.inl (by rw [h62]; decide)) (by decide) ?_
      have b91 : Bd a1 (0) (0) := (by rw [h62]; decide)
      refine lv_iload_n hx hb dX12_count_111 rfl (lv_at hl 2 rfl) ?_
      refine lv_i2l hx hb dX12_count_112 rfl ?_
      refine lv_topl (fun w92 e93 => ?_)
      have t94 : w92.toInt = a1.toInt := by rw [e93]; exact i2l_i _
      have b95 : BdL w92 (0) (0) := (by have h1 := (b91).1; have h2 := (b91).2; exact ⟨by omega, by omega⟩)
      refine lv_lconst (v := 0) hx hb dX12_count_113 (by decide) ?_
      refine lv_ldc2 (v := 9) hx hb E.2.2.1 (E.2.2.2.1 _ q2149) dX12_count_114 ?_
      have q96 : (0 : Int64).toInt = 0 := by decide
      have q97 : (9 : Int64).toInt = 9 := by decide
      refine xcSi E hs hQ hml hl.1 (gX12_in l g ad hD S60 hI w92 0 9) mX12_in q1591 rfl ⟨(Nat.le_of_ble_eq_true rfl), (Nat.le_of_ble_eq_true rfl)⟩ ⟨(Nat.le_of_ble_eq_true rfl), (Nat.le_of_ble_eq_true rfl)⟩ (Nat.le_of_ble_eq_true rfl) rfl dX12_count_117 (fun r98 S98 H locs hp98 hQ => ?_)
      obtain ⟨rfl, b98, g98_0, u98_0⟩ := hp98
      refine lv_if_eq (tgt := 132) hx hb dX12_count_120 (by decide) (fun k99 => ?_) (fun k99 => ?_)
      · have h100 := ib_eq k99
        have b101 : Bd r98 (0) (0) := ⟨(b98).1, ((rf_eq b98 (by decide : Bd 0 (0) (0)) h100).1).2⟩
        clear g98_0
        refine lv_iconst (v := (-1)) hx hb dX12_count_132 (by decide) ?_
        exact xri E hr hlk hQ (⟨hI, (up_o o_refl eS60 (by decide))⟩) dX12_count_133
      · have h102 := ib_ne k99
        have b103 : Bd r98 (1) (1) := rf_nlo b98 (by decide : Bd 0 (0) (0)) h102
        have g104 := g98_0.resolve_left (by omega)
        clear g98_0
        refine lv_aload_n hx hb dX12_count_123 rfl (lv_at hl 1 rfl) ?_
        refine xget E hQ 0 (by decide) c61 rfl 17 (by decide) q1485 rfl dX12_count_124 ?_
        refine lv_iload_n hx hb dX12_count_127 rfl (lv_at hl 2 rfl) ?_
        have c105 : S60 7 = .inl (g.2 0, 50, .inl f1) := (up_ne eS60 (by decide) c2)
        refine xiald E hQ 7 (by decide) c105 (ib_in b91 (by decide) (by decide)) dX12_count_128 ?_
        refine lv_topi (fun z106 e107 => ?_)
        refine lv_goto (tgt := 133) hx hb dX12_count_129 (by decide) ?_
        exact xri E hr hlk hQ (⟨hI, (up_o o_refl eS60 (by decide))⟩) dX12_count_133
    · refine lv_tableOut (tgt := 111) hx hb dX12_count_8 (Or.inl (by rw [h62]; decide)) (by decide) ?_
      have b108 : Bd a1 (1) (1) := (by rw [h62]; decide)
      refine lv_iload_n hx hb dX12_count_111 rfl (lv_at hl 2 rfl) ?_
      refine lv_i2l hx hb dX12_count_112 rfl ?_
      refine lv_topl (fun w109 e110 => ?_)
      have t111 : w109.toInt = a1.toInt := by rw [e110]; exact i2l_i _
      have b112 : BdL w109 (1) (1) := (by have h1 := (b108).1; have h2 := (b108).2; exact ⟨by omega, by omega⟩)
      refine lv_lconst (v := 0) hx hb dX12_count_113 (by decide) ?_
      refine lv_ldc2 (v := 9) hx hb E.2.2.1 (E.2.2.2.1 _ q2149) dX12_count_114 ?_
      have q113 : (0 : Int64).toInt = 0 := by decide
      have q114 : (9 : Int64).toInt = 9 := by decide
      refine xcSi E hs hQ hml hl.1 (gX12_in l g ad hD S60 hI w109 0 9) mX12_in q1591 rfl ⟨(Nat.le_of_ble_eq_true rfl), (Nat.le_of_ble_eq_true rfl)⟩ ⟨(Nat.le_of_ble_eq_true rfl), (Nat.le_of_ble_eq_true rfl)⟩ (Nat.le_of_ble_eq_true rfl) rfl dX12_count_117 (fun r115 S115 H locs hp115 hQ => ?_)
      obtain ⟨rfl, b115, g115_0, u115_0⟩ := hp115
      refine lv_if_eq (tgt := 132) hx hb dX12_count_120 (by decide) (fun k116 => ?_) (fun k116 => ?_)
      · have h117 := ib_eq k116
        have b118 : Bd r115 (0) (0) := ⟨(b115).1, ((rf_eq b115 (by decide : Bd 0 (0) (0)) h117).1).2⟩
        clear g115_0
        refine lv_iconst (v := (-1)) hx hb dX12_count_132 (by decide) ?_
        exact xri E hr hlk hQ (⟨hI, (up_o o_refl eS60 (by decide))⟩) dX12_count_133
      · have h119 := ib_ne k116
        have b120 : Bd r115 (1) (1) := rf_nlo b115 (by decide : Bd 0 (0) (0)) h119
        have g121 := g115_0.resolve_left (by omega)
        clear g115_0
        refine lv_aload_n hx hb dX12_count_123 rfl (lv_at hl 1 rfl) ?_
        refine xget E hQ 0 (by decide) c61 rfl 17 (by decide) q1485 rfl dX12_count_124 ?_
        refine lv_iload_n hx hb dX12_count_127 rfl (lv_at hl 2 rfl) ?_
        have c122 : S60 7 = .inl (g.2 0, 50, .inl f1) := (up_ne eS60 (by decide) c2)
        refine xiald E hQ 7 (by decide) c122 (ib_in b108 (by decide) (by decide)) dX12_count_128 ?_
        refine lv_topi (fun z123 e124 => ?_)
        refine lv_goto (tgt := 133) hx hb dX12_count_129 (by decide) ?_
        exact xri E hr hlk hQ (⟨hI, (up_o o_refl eS60 (by decide))⟩) dX12_count_133
    · refine lv_tableOut (tgt := 111) hx hb dX12_count_8 (Or.inl (by rw [h62]; decide)) (by decide) ?_
      have b125 : Bd a1 (2) (2) := (by rw [h62]; decide)
      refine lv_iload_n hx hb dX12_count_111 rfl (lv_at hl 2 rfl) ?_
      refine lv_i2l hx hb dX12_count_112 rfl ?_
      refine lv_topl (fun w126 e127 => ?_)
      have t128 : w126.toInt = a1.toInt := by rw [e127]; exact i2l_i _
      have b129 : BdL w126 (2) (2) := (by have h1 := (b125).1; have h2 := (b125).2; exact ⟨by omega, by omega⟩)
      refine lv_lconst (v := 0) hx hb dX12_count_113 (by decide) ?_
      refine lv_ldc2 (v := 9) hx hb E.2.2.1 (E.2.2.2.1 _ q2149) dX12_count_114 ?_
      have q130 : (0 : Int64).toInt = 0 := by decide
      have q131 : (9 : Int64).toInt = 9 := by decide
      refine xcSi E hs hQ hml hl.1 (gX12_in l g ad hD S60 hI w126 0 9) mX12_in q1591 rfl ⟨(Nat.le_of_ble_eq_true rfl), (Nat.le_of_ble_eq_true rfl)⟩ ⟨(Nat.le_of_ble_eq_true rfl), (Nat.le_of_ble_eq_true rfl)⟩ (Nat.le_of_ble_eq_true rfl) rfl dX12_count_117 (fun r132 S132 H locs hp132 hQ => ?_)
      obtain ⟨rfl, b132, g132_0, u132_0⟩ := hp132
      refine lv_if_eq (tgt := 132) hx hb dX12_count_120 (by decide) (fun k133 => ?_) (fun k133 => ?_)
      · have h134 := ib_eq k133
        have b135 : Bd r132 (0) (0) := ⟨(b132).1, ((rf_eq b132 (by decide : Bd 0 (0) (0)) h134).1).2⟩
        clear g132_0
        refine lv_iconst (v := (-1)) hx hb dX12_count_132 (by decide) ?_
        exact xri E hr hlk hQ (⟨hI, (up_o o_refl eS60 (by decide))⟩) dX12_count_133
      · have h136 := ib_ne k133
        have b137 : Bd r132 (1) (1) := rf_nlo b132 (by decide : Bd 0 (0) (0)) h136
        have g138 := g132_0.resolve_left (by omega)
        clear g132_0
        refine lv_aload_n hx hb dX12_count_123 rfl (lv_at hl 1 rfl) ?_
        refine xget E hQ 0 (by decide) c61 rfl 17 (by decide) q1485 rfl dX12_count_124 ?_
        refine lv_iload_n hx hb dX12_count_127 rfl (lv_at hl 2 rfl) ?_
        have c139 : S60 7 = .inl (g.2 0, 50, .inl f1) := (up_ne eS60 (by decide) c2)
        refine xiald E hQ 7 (by decide) c139 (ib_in b125 (by decide) (by decide)) dX12_count_128 ?_
        refine lv_topi (fun z140 e141 => ?_)
        refine lv_goto (tgt := 133) hx hb dX12_count_129 (by decide) ?_
        exact xri E hr hlk hQ (⟨hI, (up_o o_refl eS60 (by decide))⟩) dX12_count_133
    · refine lv_tableOut (tgt := 111) hx hb dX12_count_8 (Or.inl (by rw [h62]; decide)) (by decide) ?_
      have b142 : Bd a1 (3) (3) := (by rw [h62]; decide)
      refine lv_iload_n hx hb dX12_count_111 rfl (lv_at hl 2 rfl) ?_
      refine lv_i2l hx hb dX12_count_112 rfl ?_
      refine lv_topl (fun w143 e144 => ?_)
      have t145 : w143.toInt = a1.toInt := by rw [e144]; exact i2l_i _
      have b146 : BdL w143 (3) (3) := (by have h1 := (b142).1; have h2 := (b142).2; exact ⟨by omega, by omega⟩)
      refine lv_lconst (v := 0) hx hb dX12_count_113 (by decide) ?_
      refine lv_ldc2 (v := 9) hx hb E.2.2.1 (E.2.2.2.1 _ q2149) dX12_count_114 ?_
      have q147 : (0 : Int64).toInt = 0 := by decide
      have q148 : (9 : Int64).toInt = 9 := by decide
      refine xcSi E hs hQ hml hl.1 (gX12_in l g ad hD S60 hI w143 0 9) mX12_in q1591 rfl ⟨(Nat.le_of_ble_eq_true rfl), (Nat.le_of_ble_eq_true rfl)⟩ ⟨(Nat.le_of_ble_eq_true rfl), (Nat.le_of_ble_eq_true rfl)⟩ (Nat.le_of_ble_eq_true rfl) rfl dX12_count_117 (fun r149 S149 H locs hp149 hQ => ?_)
      obtain ⟨rfl, b149, g149_0, u149_0⟩ := hp149
      refine lv_if_eq (tgt := 132) hx hb dX12_count_120 (by decide) (fun k150 => ?_) (fun k150 => ?_)
      · have h151 := ib_eq k150
        have b152 : Bd r149 (0) (0) := ⟨(b149).1, ((rf_eq b149 (by decide : Bd 0 (0) (0)) h151).1).2⟩
        clear g149_0
        refine lv_iconst (v := (-1)) hx hb dX12_count_132 (by decide) ?_
        exact xri E hr hlk hQ (⟨hI, (up_o o_refl eS60 (by decide))⟩) dX12_count_133
      · have h153 := ib_ne k150
        have b154 : Bd r149 (1) (1) := rf_nlo b149 (by decide : Bd 0 (0) (0)) h153
        have g155 := g149_0.resolve_left (by omega)
        clear g149_0
        refine lv_aload_n hx hb dX12_count_123 rfl (lv_at hl 1 rfl) ?_
        refine xget E hQ 0 (by decide) c61 rfl 17 (by decide) q1485 rfl dX12_count_124 ?_
        refine lv_iload_n hx hb dX12_count_127 rfl (lv_at hl 2 rfl) ?_
        have c156 : S60 7 = .inl (g.2 0, 50, .inl f1) := (up_ne eS60 (by decide) c2)
        refine xiald E hQ 7 (by decide) c156 (ib_in b142 (by decide) (by decide)) dX12_count_128 ?_
        refine lv_topi (fun z157 e158 => ?_)
        refine lv_goto (tgt := 133) hx hb dX12_count_129 (by decide) ?_
        exact xri E hr hlk hQ (⟨hI, (up_o o_refl eS60 (by decide))⟩) dX12_count_133
    · refine lv_tableOut (tgt := 111) hx hb dX12_count_8 (Or.inl (by rw [h62]; decide)) (by decide) ?_
      have b159 : Bd a1 (4) (4) := (by rw [h62]; decide)
      refine lv_iload_n hx hb dX12_count_111 rfl (lv_at hl 2 rfl) ?_
      refine lv_i2l hx hb dX12_count_112 rfl ?_
      refine lv_topl (fun w160 e161 => ?_)
      have t162 : w160.toInt = a1.toInt := by rw [e161]; exact i2l_i _
      have b163 : BdL w160 (4) (4) := (by have h1 := (b159).1; have h2 := (b159).2; exact ⟨by omega, by omega⟩)
      refine lv_lconst (v := 0) hx hb dX12_count_113 (by decide) ?_
      refine lv_ldc2 (v := 9) hx hb E.2.2.1 (E.2.2.2.1 _ q2149) dX12_count_114 ?_
      have q164 : (0 : Int64).toInt = 0 := by decide
      have q165 : (9 : Int64).toInt = 9 := by decide
      refine xcSi E hs hQ hml hl.1 (gX12_in l g ad hD S60 hI w160 0 9) mX12_in q1591 rfl ⟨(Nat.le_of_ble_eq_true rfl), (Nat.le_of_ble_eq_true rfl)⟩ ⟨(Nat.le_of_ble_eq_true rfl), (Nat.le_of_ble_eq_true rfl)⟩ (Nat.le_of_ble_eq_true rfl) rfl dX12_count_117 (fun r166 S166 H locs hp166 hQ => ?_)
      obtain ⟨rfl, b166, g166_0, u166_0⟩ := hp166
      refine lv_if_eq (tgt := 132) hx hb dX12_count_120 (by decide) (fun k167 => ?_) (fun k167 => ?_)
      · have h168 := ib_eq k167
        have b169 : Bd r166 (0) (0) := ⟨(b166).1, ((rf_eq b166 (by decide : Bd 0 (0) (0)) h168).1).2⟩
        clear g166_0
        refine lv_iconst (v := (-1)) hx hb dX12_count_132 (by decide) ?_
        exact xri E hr hlk hQ (⟨hI, (up_o o_refl eS60 (by decide))⟩) dX12_count_133
      · have h170 := ib_ne k167
        have b171 : Bd r166 (1) (1) := rf_nlo b166 (by decide : Bd 0 (0) (0)) h170
        have g172 := g166_0.resolve_left (by omega)
        clear g166_0
        refine lv_aload_n hx hb dX12_count_123 rfl (lv_at hl 1 rfl) ?_
        refine xget E hQ 0 (by decide) c61 rfl 17 (by decide) q1485 rfl dX12_count_124 ?_
        refine lv_iload_n hx hb dX12_count_127 rfl (lv_at hl 2 rfl) ?_
        have c173 : S60 7 = .inl (g.2 0, 50, .inl f1) := (up_ne eS60 (by decide) c2)
        refine xiald E hQ 7 (by decide) c173 (ib_in b159 (by decide) (by decide)) dX12_count_128 ?_
        refine lv_topi (fun z174 e175 => ?_)
        refine lv_goto (tgt := 133) hx hb dX12_count_129 (by decide) ?_
        exact xri E hr hlk hQ (⟨hI, (up_o o_refl eS60 (by decide))⟩) dX12_count_133
    · refine lv_tableIn (off := 48) (tgt := 56) hx hb dX12_count_8 (by rw [h62]; decide) (by rw [h62]; decide) (by rw [h62]; rfl) (by decide) ?_
      have b176 : Bd a1 (5) (5) := (by rw [h62]; decide)
      refine lv_aload_n hx hb dX12_count_56 rfl (lv_at hl 1 rfl) ?_
      refine xget E hQ 0 (by decide) c61 rfl 17 (by decide) q1485 rfl dX12_count_57 ?_
      refine lv_iconst (v := 5) hx hb dX12_count_60 (by decide) ?_
      have c177 : S60 7 = .inl (g.2 0, 50, .inl f1) := (up_ne eS60 (by decide) c2)
      refine xiald E hQ 7 (by decide) c177 (vp_in_lit 5 50 (by decide)) dX12_count_61 ?_
      obtain ⟨v178, ee179⟩ : ∃ z : Int32, f1 5 = z := ⟨_, rfl⟩
      refine sb_at (P := fun z => W _ _ _ _ _ _ _ _ _ _ _ _ _ _ _ (F0 _ _ _ (.int z :: _))) (show f1 (5 : Int32).toNatClampNeg = v178 from ee179) ?_
      refine xcSi E hs hQ hml hl.1 (gX12_sizeOf l g ad hD S60 hI v178) mX12_sizeOf q1895 rfl ⟨(Nat.le_of_ble_eq_true rfl), (Nat.le_of_ble_eq_true rfl)⟩ ⟨(Nat.le_of_ble_eq_true rfl), (Nat.le_of_ble_eq_true rfl)⟩ (Nat.le_of_ble_eq_true rfl) rfl dX12_count_62 (fun r180 S180 H locs hp180 hQ => ?_)
      subst hp180
      exact xri E hr hlk hQ (⟨hI, (up_o o_refl eS60 (by decide))⟩) dX12_count_65
    · refine lv_tableIn (off := 103) (tgt := 111) hx hb dX12_count_8 (by rw [h62]; decide) (by rw [h62]; decide) (by rw [h62]; rfl) (by decide) ?_
      have b181 : Bd a1 (6) (6) := (by rw [h62]; decide)
      refine lv_iload_n hx hb dX12_count_111 rfl (lv_at hl 2 rfl) ?_
      refine lv_i2l hx hb dX12_count_112 rfl ?_
      refine lv_topl (fun w182 e183 => ?_)
      have t184 : w182.toInt = a1.toInt := by rw [e183]; exact i2l_i _
      have b185 : BdL w182 (6) (6) := (by have h1 := (b181).1; have h2 := (b181).2; exact ⟨by omega, by omega⟩)
      refine lv_lconst (v := 0) hx hb dX12_count_113 (by decide) ?_
      refine lv_ldc2 (v := 9) hx hb E.2.2.1 (E.2.2.2.1 _ q2149) dX12_count_114 ?_
      have q186 : (0 : Int64).toInt = 0 := by decide
      have q187 : (9 : Int64).toInt = 9 := by decide
      refine xcSi E hs hQ hml hl.1 (gX12_in l g ad hD S60 hI w182 0 9) mX12_in q1591 rfl ⟨(Nat.le_of_ble_eq_true rfl), (Nat.le_of_ble_eq_true rfl)⟩ ⟨(Nat.le_of_ble_eq_true rfl), (Nat.le_of_ble_eq_true rfl)⟩ (Nat.le_of_ble_eq_true rfl) rfl dX12_count_117 (fun r188 S188 H locs hp188 hQ => ?_)
      obtain ⟨rfl, b188, g188_0, u188_0⟩ := hp188
      refine lv_if_eq (tgt := 132) hx hb dX12_count_120 (by decide) (fun k189 => ?_) (fun k189 => ?_)
      · have h190 := ib_eq k189
        have b191 : Bd r188 (0) (0) := ⟨(b188).1, ((rf_eq b188 (by decide : Bd 0 (0) (0)) h190).1).2⟩
        clear g188_0
        refine lv_iconst (v := (-1)) hx hb dX12_count_132 (by decide) ?_
        exact xri E hr hlk hQ (⟨hI, (up_o o_refl eS60 (by decide))⟩) dX12_count_133
      · have h192 := ib_ne k189
        have b193 : Bd r188 (1) (1) := rf_nlo b188 (by decide : Bd 0 (0) (0)) h192
        have g194 := g188_0.resolve_left (by omega)
        clear g188_0
        refine lv_aload_n hx hb dX12_count_123 rfl (lv_at hl 1 rfl) ?_
        refine xget E hQ 0 (by decide) c61 rfl 17 (by decide) q1485 rfl dX12_count_124 ?_
        refine lv_iload_n hx hb dX12_count_127 rfl (lv_at hl 2 rfl) ?_
        have c195 : S60 7 = .inl (g.2 0, 50, .inl f1) := (up_ne eS60 (by decide) c2)
        refine xiald E hQ 7 (by decide) c195 (ib_in b181 (by decide) (by decide)) dX12_count_128 ?_
        refine lv_topi (fun z196 e197 => ?_)
        refine lv_goto (tgt := 133) hx hb dX12_count_129 (by decide) ?_
        exact xri E hr hlk hQ (⟨hI, (up_o o_refl eS60 (by decide))⟩) dX12_count_133
    · refine lv_tableIn (off := 103) (tgt := 111) hx hb dX12_count_8 (by rw [h62]; decide) (by rw [h62]; decide) (by rw [h62]; rfl) (by decide) ?_
      have b198 : Bd a1 (7) (7) := (by rw [h62]; decide)
      refine lv_iload_n hx hb dX12_count_111 rfl (lv_at hl 2 rfl) ?_
      refine lv_i2l hx hb dX12_count_112 rfl ?_
      refine lv_topl (fun w199 e200 => ?_)
      have t201 : w199.toInt = a1.toInt := by rw [e200]; exact i2l_i _
      have b202 : BdL w199 (7) (7) := (by have h1 := (b198).1; have h2 := (b198).2; exact ⟨by omega, by omega⟩)
      refine lv_lconst (v := 0) hx hb dX12_count_113 (by decide) ?_
      refine lv_ldc2 (v := 9) hx hb E.2.2.1 (E.2.2.2.1 _ q2149) dX12_count_114 ?_
      have q203 : (0 : Int64).toInt = 0 := by decide
      have q204 : (9 : Int64).toInt = 9 := by decide
      refine xcSi E hs hQ hml hl.1 (gX12_in l g ad hD S60 hI w199 0 9) mX12_in q1591 rfl ⟨(Nat.le_of_ble_eq_true rfl), (Nat.le_of_ble_eq_true rfl)⟩ ⟨(Nat.le_of_ble_eq_true rfl), (Nat.le_of_ble_eq_true rfl)⟩ (Nat.le_of_ble_eq_true rfl) rfl dX12_count_117 (fun r205 S205 H locs hp205 hQ => ?_)
      obtain ⟨rfl, b205, g205_0, u205_0⟩ := hp205
      refine lv_if_eq (tgt := 132) hx hb dX12_count_120 (by decide) (fun k206 => ?_) (fun k206 => ?_)
      · have h207 := ib_eq k206
        have b208 : Bd r205 (0) (0) := ⟨(b205).1, ((rf_eq b205 (by decide : Bd 0 (0) (0)) h207).1).2⟩
        clear g205_0
        refine lv_iconst (v := (-1)) hx hb dX12_count_132 (by decide) ?_
        exact xri E hr hlk hQ (⟨hI, (up_o o_refl eS60 (by decide))⟩) dX12_count_133
      · have h209 := ib_ne k206
        have b210 : Bd r205 (1) (1) := rf_nlo b205 (by decide : Bd 0 (0) (0)) h209
        have g211 := g205_0.resolve_left (by omega)
        clear g205_0
        refine lv_aload_n hx hb dX12_count_123 rfl (lv_at hl 1 rfl) ?_
        refine xget E hQ 0 (by decide) c61 rfl 17 (by decide) q1485 rfl dX12_count_124 ?_
        refine lv_iload_n hx hb dX12_count_127 rfl (lv_at hl 2 rfl) ?_
        have c212 : S60 7 = .inl (g.2 0, 50, .inl f1) := (up_ne eS60 (by decide) c2)
        refine xiald E hQ 7 (by decide) c212 (ib_in b198 (by decide) (by decide)) dX12_count_128 ?_
        refine lv_topi (fun z213 e214 => ?_)
        refine lv_goto (tgt := 133) hx hb dX12_count_129 (by decide) ?_
        exact xri E hr hlk hQ (⟨hI, (up_o o_refl eS60 (by decide))⟩) dX12_count_133
    · refine lv_tableIn (off := 103) (tgt := 111) hx hb dX12_count_8 (by rw [h62]; decide) (by rw [h62]; decide) (by rw [h62]; rfl) (by decide) ?_
      have b215 : Bd a1 (8) (8) := (by rw [h62]; decide)
      refine lv_iload_n hx hb dX12_count_111 rfl (lv_at hl 2 rfl) ?_
      refine lv_i2l hx hb dX12_count_112 rfl ?_
      refine lv_topl (fun w216 e217 => ?_)
      have t218 : w216.toInt = a1.toInt := by rw [e217]; exact i2l_i _
      have b219 : BdL w216 (8) (8) := (by have h1 := (b215).1; have h2 := (b215).2; exact ⟨by omega, by omega⟩)
      refine lv_lconst (v := 0) hx hb dX12_count_113 (by decide) ?_
      refine lv_ldc2 (v := 9) hx hb E.2.2.1 (E.2.2.2.1 _ q2149) dX12_count_114 ?_
      have q220 : (0 : Int64).toInt = 0 := by decide
      have q221 : (9 : Int64).toInt = 9 := by decide
      refine xcSi E hs hQ hml hl.1 (gX12_in l g ad hD S60 hI w216 0 9) mX12_in q1591 rfl ⟨(Nat.le_of_ble_eq_true rfl), (Nat.le_of_ble_eq_true rfl)⟩ ⟨(Nat.le_of_ble_eq_true rfl), (Nat.le_of_ble_eq_true rfl)⟩ (Nat.le_of_ble_eq_true rfl) rfl dX12_count_117 (fun r222 S222 H locs hp222 hQ => ?_)
      obtain ⟨rfl, b222, g222_0, u222_0⟩ := hp222
      refine lv_if_eq (tgt := 132) hx hb dX12_count_120 (by decide) (fun k223 => ?_) (fun k223 => ?_)
      · have h224 := ib_eq k223
        have b225 : Bd r222 (0) (0) := ⟨(b222).1, ((rf_eq b222 (by decide : Bd 0 (0) (0)) h224).1).2⟩
        clear g222_0
        refine lv_iconst (v := (-1)) hx hb dX12_count_132 (by decide) ?_
        exact xri E hr hlk hQ (⟨hI, (up_o o_refl eS60 (by decide))⟩) dX12_count_133
      · have h226 := ib_ne k223
        have b227 : Bd r222 (1) (1) := rf_nlo b222 (by decide : Bd 0 (0) (0)) h226
        have g228 := g222_0.resolve_left (by omega)
        clear g222_0
        refine lv_aload_n hx hb dX12_count_123 rfl (lv_at hl 1 rfl) ?_
        refine xget E hQ 0 (by decide) c61 rfl 17 (by decide) q1485 rfl dX12_count_124 ?_
        refine lv_iload_n hx hb dX12_count_127 rfl (lv_at hl 2 rfl) ?_
        have c229 : S60 7 = .inl (g.2 0, 50, .inl f1) := (up_ne eS60 (by decide) c2)
        refine xiald E hQ 7 (by decide) c229 (ib_in b215 (by decide) (by decide)) dX12_count_128 ?_
        refine lv_topi (fun z230 e231 => ?_)
        refine lv_goto (tgt := 133) hx hb dX12_count_129 (by decide) ?_
        exact xri E hr hlk hQ (⟨hI, (up_o o_refl eS60 (by decide))⟩) dX12_count_133
    · refine lv_tableIn (off := 103) (tgt := 111) hx hb dX12_count_8 (by rw [h62]; decide) (by rw [h62]; decide) (by rw [h62]; rfl) (by decide) ?_
      have b232 : Bd a1 (9) (9) := (by rw [h62]; decide)
      refine lv_iload_n hx hb dX12_count_111 rfl (lv_at hl 2 rfl) ?_
      refine lv_i2l hx hb dX12_count_112 rfl ?_
      refine lv_topl (fun w233 e234 => ?_)
      have t235 : w233.toInt = a1.toInt := by rw [e234]; exact i2l_i _
      have b236 : BdL w233 (9) (9) := (by have h1 := (b232).1; have h2 := (b232).2; exact ⟨by omega, by omega⟩)
      refine lv_lconst (v := 0) hx hb dX12_count_113 (by decide) ?_
      refine lv_ldc2 (v := 9) hx hb E.2.2.1 (E.2.2.2.1 _ q2149) dX12_count_114 ?_
      have q237 : (0 : Int64).toInt = 0 := by decide
      have q238 : (9 : Int64).toInt = 9 := by decide
      refine xcSi E hs hQ hml hl.1 (gX12_in l g ad hD S60 hI w233 0 9) mX12_in q1591 rfl ⟨(Nat.le_of_ble_eq_true rfl), (Nat.le_of_ble_eq_true rfl)⟩ ⟨(Nat.le_of_ble_eq_true rfl), (Nat.le_of_ble_eq_true rfl)⟩ (Nat.le_of_ble_eq_true rfl) rfl dX12_count_117 (fun r239 S239 H locs hp239 hQ => ?_)
      obtain ⟨rfl, b239, g239_0, u239_0⟩ := hp239
      refine lv_if_eq (tgt := 132) hx hb dX12_count_120 (by decide) (fun k240 => ?_) (fun k240 => ?_)
      · have h241 := ib_eq k240
        have b242 : Bd r239 (0) (0) := ⟨(b239).1, ((rf_eq b239 (by decide : Bd 0 (0) (0)) h241).1).2⟩
        clear g239_0
        refine lv_iconst (v := (-1)) hx hb dX12_count_132 (by decide) ?_
        exact xri E hr hlk hQ (⟨hI, (up_o o_refl eS60 (by decide))⟩) dX12_count_133
      · have h243 := ib_ne k240
        have b244 : Bd r239 (1) (1) := rf_nlo b239 (by decide : Bd 0 (0) (0)) h243
        have g245 := g239_0.resolve_left (by omega)
        clear g239_0
        refine lv_aload_n hx hb dX12_count_123 rfl (lv_at hl 1 rfl) ?_
        refine xget E hQ 0 (by decide) c61 rfl 17 (by decide) q1485 rfl dX12_count_124 ?_
        refine lv_iload_n hx hb dX12_count_127 rfl (lv_at hl 2 rfl) ?_
        have c246 : S60 7 = .inl (g.2 0, 50, .inl f1) := (up_ne eS60 (by decide) c2)
        refine xiald E hQ 7 (by decide) c246 (ib_in b232 (by decide) (by decide)) dX12_count_128 ?_
        refine lv_topi (fun z247 e248 => ?_)
        refine lv_goto (tgt := 133) hx hb dX12_count_129 (by decide) ?_
        exact xri E hr hlk hQ (⟨hI, (up_o o_refl eS60 (by decide))⟩) dX12_count_133
    · refine lv_tableIn (off := 58) (tgt := 66) hx hb dX12_count_8 (by rw [h62]; decide) (by rw [h62]; decide) (by rw [h62]; rfl) (by decide) ?_
      have b249 : Bd a1 (10) (10) := (by rw [h62]; decide)
      refine lv_aload_n hx hb dX12_count_66 rfl (lv_at hl 1 rfl) ?_
      refine xget E hQ 0 (by decide) c61 rfl 16 (by decide) q1484 rfl dX12_count_67 ?_
      refine lv_iconst (v := 0) hx hb dX12_count_70 (by decide) ?_
      have c250 : S60 6 = .inl (g.2 0, 5, .inl f19) := (up_ne eS60 (by decide) c20)
      refine xiald E hQ 6 (by decide) c250 (vp_in_lit 0 5 (by decide)) dX12_count_71 ?_
      refine sb_at (P := fun z => W _ _ _ _ _ _ _ _ _ _ _ _ _ _ _ (F0 _ _ _ (.int z :: _))) (show f19 (0 : Int32).toNatClampNeg = v22 from ee23) ?_
      exact xri E hr hlk hQ (⟨hI, (up_o o_refl eS60 (by decide))⟩) dX12_count_72
    · refine lv_tableIn (off := 65) (tgt := 73) hx hb dX12_count_8 (by rw [h62]; decide) (by rw [h62]; decide) (by rw [h62]; rfl) (by decide) ?_
      have b251 : Bd a1 (11) (11) := (by rw [h62]; decide)
      refine lv_aload_n hx hb dX12_count_73 rfl (lv_at hl 1 rfl) ?_
      refine xget E hQ 0 (by decide) c61 rfl 6 (by decide) q1474 rfl dX12_count_74 ?_
      exact xri E hr hlk hQ (⟨hI, (up_o o_refl eS60 (by decide))⟩) dX12_count_77
    · refine lv_tableIn (off := 70) (tgt := 78) hx hb dX12_count_8 (by rw [h62]; decide) (by rw [h62]; decide) (by rw [h62]; rfl) (by decide) ?_
      have b252 : Bd a1 (12) (12) := (by rw [h62]; decide)
      refine lv_iconst (v := 0) hx hb dX12_count_78 (by decide) ?_
      refine lv_istore_n (lv' := [(3, .int 0), (2, .int 0), (0, .ref (ad 0)), (1, .int a1)]) hx hb dX12_count_79 rfl hl (by decide) rfl (fun ls hl => ?_)
      have loop80 : ∀ (n : Nat) (H : Heap) (locs : List Loc) (ls : Array Slot) (x80_2 : Int32) (x80_3 : Int32), Bd x80_3 (0) (4) → (-1) * x80_3.toInt + 4 < ((n : Nat) : Int) → Hp g ad 20 S60 (FA ad 20) s.heap H locs → lv_has ls 4 [(3, .int x80_3), (2, .int x80_2), (0, .ref (ad 0)), (1, .int a1)] → W p l e (Rm 1) s m [.ref (ad 0), .int a1].toArray below meth c H locs 0 0 (MQ below (va_Qi (fun _ S' => InvM g ad S' ∧ (∀ j, j ∉ ([0] : List Nat) → S' j = S j)) (QB g ad 20) (FA ad 20)) [.ref (ad 0), .int a1].toArray s 0 0 (FA ad 20)) (F0 m 80 ls []) := by
        intro n
        induction n with
        | zero => intro H locs ls x80_2 x80_3 Bx80_3 hn80_ hQ hl; exfalso; have := (Bx80_3).2; omega
        | succ n80_ ih80 =>
          intro H locs ls x80_2 x80_3 Bx80_3 hn80_ hQ hl
          refine lv_iload_n hx hb dX12_count_80 rfl (lv_at hl 0 rfl) ?_
          refine lv_iconst (v := 4) hx hb dX12_count_81 (by decide) ?_
          refine lv_icmp_ge (tgt := 109) hx hb dX12_count_82 (by decide) (fun k253 => ?_) (fun k253 => ?_)
          · have h254 := ib_le k253
            have b255 : Bd x80_3 (4) (4) := ⟨((rf_le (by decide : Bd 4 (4) (4)) Bx80_3 h254).2).1, (Bx80_3).2⟩
            refine lv_iload_n hx hb dX12_count_109 rfl (lv_at hl 1 rfl) ?_
            exact xri E hr hlk hQ (⟨hI, (up_o o_refl eS60 (by decide))⟩) dX12_count_110
          · have h256 := ib_nle k253
            have b257 : Bd x80_3 (0) (3) := ⟨(Bx80_3).1, ((rf_lt Bx80_3 (by decide : Bd 4 (4) (4)) h256).1).2⟩
            refine lv_iload_n hx hb dX12_count_85 rfl (lv_at hl 1 rfl) ?_
            refine lv_aload_n hx hb dX12_count_86 rfl (lv_at hl 2 rfl) ?_
            refine xget E hQ 0 (by decide) c61 rfl 1 (by decide) q1469 rfl dX12_count_87 ?_
            refine lv_iload_n hx hb dX12_count_90 rfl (lv_at hl 0 rfl) ?_
            obtain ⟨f258, c259, b260⟩ := invM_1 hI
            refine xiald E hQ 1 (by decide) c259 (ib_in b257 (by decide) (by decide)) dX12_count_91 ?_
            refine lv_topi (fun z261 e262 => ?_)
            have b263 : Bd z261 (-1) (3) := (by rw [e262]; exact b260 _)
            refine lv_iconst (v := (-1)) hx hb dX12_count_92 (by decide) ?_
            refine lv_icmp_ne (tgt := 100) hx hb dX12_count_93 (by decide) (fun k264 => ?_) (fun k264 => ?_)
            · have h265 := ib_ne k264
              have b266 : Bd z261 (0) (3) := rf_nlo b263 (by decide : Bd (-1) (-1) (-1)) h265
              refine lv_iconst (v := 1) hx hb dX12_count_100 (by decide) ?_
              refine lv_iadd hx hb dX12_count_101 ?_
              refine lv_topi (fun z267 e268 => ?_)
              refine lv_istore_n (lv' := [(2, .int z267), (3, .int x80_3), (0, .ref (ad 0)), (1, .int a1)]) hx hb dX12_count_102 rfl hl (by decide) rfl (fun ls hl => ?_)
              obtain ⟨z269, e270⟩ : ∃ z : Int32, z = x80_3 + 1 := ⟨_, rfl⟩
              have t271 := ib_add e270 b257 (by decide : Bd 1 (1) (1)) (by decide) (by decide)
              have b272 : Bd z269 (1) (4) := ib_addb t271 b257 (by decide : Bd 1 (1) (1))
              have t271 : z269.toInt = x80_3.toInt + 1 := fold_add t271 rfl (by decide)
              refine lv_iinc (v := z269) (lv' := [(3, .int z269), (2, .int z267), (0, .ref (ad 0)), (1, .int a1)]) hx hb dX12_count_103 hl (k := 1) rfl (by rw [e270]; rfl) (by decide) rfl (fun ls hl => ?_)
              refine lv_goto (tgt := 80) hx hb dX12_count_106 (by decide) ?_
              exact ih80 _ _ _ z267 z269 (ib_wk b272 (by decide) (by decide)) (by omega) hQ (lv_sub hl [0, 1, 2, 3] rfl)
            · have h273 := ib_eq k264
              have b274 : Bd z261 (-1) (-1) := ⟨(b263).1, ((rf_eq b263 (by decide : Bd (-1) (-1) (-1)) h273).1).2⟩
              refine lv_iconst (v := 0) hx hb dX12_count_96 (by decide) ?_
              refine lv_goto (tgt := 101) hx hb dX12_count_97 (by decide) ?_
              refine lv_iadd hx hb dX12_count_101 ?_
              refine lv_topi (fun z275 e276 => ?_)
              have t277 := ib_add e276 (ib_full x80_2) (by decide : Bd 0 (0) (0)) (by decide) (by decide)
              have b278 : Bd z275 (-2147483648) (2147483647) := ib_addb t277 (ib_full x80_2) (by decide : Bd 0 (0) (0))
              have t277 : z275.toInt = x80_2.toInt + 0 := fold_add t277 rfl (by decide)
              refine lv_istore_n (lv' := [(2, .int z275), (3, .int x80_3), (0, .ref (ad 0)), (1, .int a1)]) hx hb dX12_count_102 rfl hl (by decide) rfl (fun ls hl => ?_)
              obtain ⟨z279, e280⟩ : ∃ z : Int32, z = x80_3 + 1 := ⟨_, rfl⟩
              have t281 := ib_add e280 b257 (by decide : Bd 1 (1) (1)) (by decide) (by decide)
              have b282 : Bd z279 (1) (4) := ib_addb t281 b257 (by decide : Bd 1 (1) (1))
              have t281 : z279.toInt = x80_3.toInt + 1 := fold_add t281 rfl (by decide)
              refine lv_iinc (v := z279) (lv' := [(3, .int z279), (2, .int z275), (0, .ref (ad 0)), (1, .int a1)]) hx hb dX12_count_103 hl (k := 1) rfl (by rw [e280]; rfl) (by decide) rfl (fun ls hl => ?_)
              refine lv_goto (tgt := 80) hx hb dX12_count_106 (by decide) ?_
              exact ih80 _ _ _ z275 z279 (ib_wk b282 (by decide) (by decide)) (by omega) hQ (lv_sub hl [0, 1, 2, 3] rfl)
      obtain ⟨n80, hn80⟩ := fu_n (4)
      exact loop80 n80 _ _ _ 0 0 (ib_wk (by decide : Bd 0 (0) (0)) (by decide) (by decide)) (by have : (0 : Int32).toInt = 0 := (by decide); omega) hQ (lv_sub hl [0, 1, 2, 3] rfl)
set_option maxHeartbeats 4000000 in
set_option maxRecDepth 100000 in
theorem gX12_rate_0 (l : Launch) (g : GG) (ad : Nat → Nat) (hD : Dj ad 20) (S : SS) (hI : InvM g ad S) (a1 : Int32) (a2 : Int32) (hq1 : 0 ≤ 12 * elm (S 7) 1 + (-1) * elm (S 7) 0) (hq2 : 0 ≤ 12 * elm (S 7) 3 + (-1) * elm (S 7) 0) (hq3 : 0 ≤ 8 * elm (S 7) 0 + (-1) * elm (S 7) 6) (hq4 : 0 ≤ 3 * elm (S 7) 0 + (-1) * elm (S 7) 8) (hq5 : 0 ≤ 40000 * elm (S 7) 0 + (-1) * elm (S 6) 0) : Met l yX12_rate (wG (.code yX12_rate cX12_rate 4 (some .int))) (Rm 2) (XPre g ad 20 S [.ref (ad 0), .int a1, .int a2]) (va_Qi (fun _ S' => InvM g ad S' ∧ (∀ j, j ∉ ([0, 9] : List Nat) → S' j = S j)) (QB g ad 20) (FA ad 20)) 0 0 (FA ad 20) := by
  refine xmet cX12_rate "EbbWreckModel" (by decide) rfl (Nat.le_of_ble_eq_true rfl) (fun p e s m below meth c E hr hlk hml hQ ls hl => ?_)
  have hx := E.1
  have hb := E.2.1
  have hs : Sp ad 20 (FA ad 20) := Sp.fa hD
  have hl : lv_has ls 4 [(0, .ref (ad 0)), (1, .int a1), (2, .int a2)] := hl
  obtain ⟨f1, c2, b3⟩ := invM_7 hI
  obtain ⟨v4, ee5⟩ : ∃ z : Int32, f1 1 = z := ⟨_, rfl⟩
  have b6 : Bd v4 (0) (12) := (by rw [← ee5]; exact b3.2.1 1 (by decide))
  obtain ⟨v7, ee8⟩ : ∃ z : Int32, f1 0 = z := ⟨_, rfl⟩
  have b9 : Bd v7 (0) (12) := (by rw [← ee8]; exact b3.1 0 (by decide))
  obtain ⟨v10, ee11⟩ : ∃ z : Int32, f1 3 = z := ⟨_, rfl⟩
  have b12 : Bd v10 (0) (12) := (by rw [← ee11]; exact b3.2.2.2.1 3 (by decide))
  obtain ⟨v13, ee14⟩ : ∃ z : Int32, f1 6 = z := ⟨_, rfl⟩
  have b15 : Bd v13 (0) (8) := (by rw [← ee14]; exact b3.2.2.2.2.1 6 (by decide))
  obtain ⟨v16, ee17⟩ : ∃ z : Int32, f1 8 = z := ⟨_, rfl⟩
  have b18 : Bd v16 (0) (3) := (by rw [← ee17]; exact b3.2.2.2.2.2.2.1 8 (by decide))
  obtain ⟨f19, c20, b21⟩ := invM_6 hI
  obtain ⟨v22, ee23⟩ : ∃ z : Int32, f19 0 = z := ⟨_, rfl⟩
  have b24 : Bd v22 (0) (40000) := (by rw [← ee23]; exact b21 0)
  have q25 : elm (S 7) 1 = v4.toInt := (elm_of c2 1).trans (congrArg Int32.toInt (ee5))
  have q26 : elm (S 7) 0 = v7.toInt := (elm_of c2 0).trans (congrArg Int32.toInt (ee8))
  have q27 : elm (S 7) 3 = v10.toInt := (elm_of c2 3).trans (congrArg Int32.toInt (ee11))
  have q28 : elm (S 7) 6 = v13.toInt := (elm_of c2 6).trans (congrArg Int32.toInt (ee14))
  have q29 : elm (S 7) 8 = v16.toInt := (elm_of c2 8).trans (congrArg Int32.toInt (ee17))
  have q30 : elm (S 6) 0 = v22.toInt := (elm_of c20 0).trans (congrArg Int32.toInt (ee23))
  refine lv_aload_n hx hb dX12_rate_0 rfl (lv_at hl 0 rfl) ?_
  refine lv_iconst (v := 0) hx hb dX12_rate_1 (by decide) ?_
  obtain ⟨v31, v32, v34, v36, v38, v39, w40, v41, v43, v44, v45, v46, v48, v50, v52, v54, v56, v57, v58, c59, b33, b35, b37, b42, b47, b49, b51, b53, b55⟩ := invM_0 hI
  have c59 : S 0 = .inr (12, [.int v31, .ref (ad 1), .ref (ad 2), .ref (ad 3), .ref (ad 4), .ref (ad 5), .int v32, .int v34, .int v36, .int v38, .int v39, .long w40, .int v41, .int v43, .int v44, .int v45, .ref (ad 6), .ref (ad 7), .ref (ad 8), .ref (ad 9), .ref (ad 10), .ref (ad 11), .ref (ad 12), .ref (ad 13), .ref (ad 14), .ref (ad 15), .int v46, .int v48, .ref (ad 16), .int v50, .int v52, .int v54, .int v56, .int v57, .ref (ad 17), .ref (ad 18), .int v58, .ref (ad 19)]) := c59
  refine xputi E hs hQ 0 (by decide) c59 rfl 0 (by decide) q1468 rfl rfl (Nat.le_of_ble_eq_true rfl) dX12_rate_2 (fun H locs S60 eS60 hQ => ?_)
  have hI := invM_up_0 hI eS60 ⟨0, v32, v34, v36, v38, v39, w40, v41, v43, v44, v45, v46, v48, v50, v52, v54, v56, v57, v58, rfl, b33, b35, b37, b42, b47, b49, b51, b53, b55⟩
  have c61 : S60 0 = .inr (12, [.int 0, .ref (ad 1), .ref (ad 2), .ref (ad 3), .ref (ad 4), .ref (ad 5), .int v32, .int v34, .int v36, .int v38, .int v39, .long w40, .int v41, .int v43, .int v44, .int v45, .ref (ad 6), .ref (ad 7), .ref (ad 8), .ref (ad 9), .ref (ad 10), .ref (ad 11), .ref (ad 12), .ref (ad 13), .ref (ad 14), .ref (ad 15), .int v46, .int v48, .ref (ad 16), .int v50, .int v52, .int v54, .int v56, .int v57, .ref (ad 17), .ref (ad 18), .int v58, .ref (ad 19)]) := up_at eS60 rfl
  refine lv_aload_n hx hb dX12_rate_5 rfl (lv_at hl 0 rfl) ?_
  refine lv_iload_n hx hb dX12_rate_6 rfl (lv_at hl 1 rfl) ?_
  have c62 : S60 7 = .inl (g.2 0, 50, .inl f1) := (up_ne eS60 (by decide) c2)
  refine xcVi E hs hQ hml hl.1 0 (gX12_isThing_0 l g ad hD S60 hI a1) mX12_isThing q1766 (by decide) c61 rfl rfl ⟨(Nat.le_of_ble_eq_true rfl), (Nat.le_of_ble_eq_true rfl)⟩ ⟨(Nat.le_of_ble_eq_true rfl), (Nat.le_of_ble_eq_true rfl)⟩ (Nat.le_of_ble_eq_true rfl) rfl dX12_rate_7 (fun r63 S63 H locs hp63 hQ _ => ?_)
  obtain ⟨rfl, b63, g63_0⟩ := hp63
  have q64 : elm (S60 7) 6 = v13.toInt := (elm_of c62 6).trans (congrArg Int32.toInt (ee14))
  refine lv_if_eq (tgt := 25) hx hb dX12_rate_10 (by decide) (fun k65 => ?_) (fun k65 => ?_)
  · have h66 := ib_eq k65
    have b67 : Bd r63 (0) (0) := ⟨(b63).1, ((rf_eq b63 (by decide : Bd 0 (0) (0)) h66).1).2⟩
    clear g63_0
    refine lv_bipush (v := (-2)) hx hb dX12_rate_25 (by decide) ?_
    exact xri E hr hlk hQ (⟨hI, (up_o o_refl eS60 (by decide))⟩) dX12_rate_27
  · have h68 := ib_ne k65
    have b69 : Bd r63 (1) (1) := rf_nlo b63 (by decide : Bd 0 (0) (0)) h68
    have g70 := g63_0.resolve_left (by omega)
    clear g63_0
    have b71 : Bd a1 (0) (7) := ⟨by omega, by omega⟩
    have b72 : Bd v13 (1) (8) := ⟨by omega, (b15).2⟩
    refine lv_iload_n hx hb dX12_rate_13 rfl (lv_at hl 2 rfl) ?_
    refine lv_i2l hx hb dX12_rate_14 rfl ?_
    refine lv_topl (fun w73 e74 => ?_)
    have t75 : w73.toInt = a2.toInt := by rw [e74]; exact i2l_i _
    have b76 : BdL w73 (-2147483648) (2147483647) := (by have h1 := ((ib_full a2)).1; have h2 := ((ib_full a2)).2; exact ⟨by omega, by omega⟩)
    refine lv_lconst (v := 0) hx hb dX12_rate_15 (by decide) ?_
    refine lv_ldc2 (v := 999) hx hb E.2.2.1 (E.2.2.2.1 _ q2144) dX12_rate_16 ?_
    have q77 : (0 : Int64).toInt = 0 := by decide
    have q78 : (999 : Int64).toInt = 999 := by decide
    refine xcSi E hs hQ hml hl.1 (gX12_in l g ad hD S60 hI w73 0 999) mX12_in q1591 rfl ⟨(Nat.le_of_ble_eq_true rfl), (Nat.le_of_ble_eq_true rfl)⟩ ⟨(Nat.le_of_ble_eq_true rfl), (Nat.le_of_ble_eq_true rfl)⟩ (Nat.le_of_ble_eq_true rfl) rfl dX12_rate_19 (fun r79 S79 H locs hp79 hQ => ?_)
    obtain ⟨rfl, b79, g79_0, u79_0⟩ := hp79
    refine lv_if_ne (tgt := 28) hx hb dX12_rate_22 (by decide) (fun k80 => ?_) (fun k80 => ?_)
    · have h81 := ib_ne k80
      have b82 : Bd r79 (1) (1) := rf_nlo b79 (by decide : Bd 0 (0) (0)) h81
      have g83 := g79_0.resolve_left (by omega)
      clear g79_0
      have b84 : BdL w73 (0) (999) := ⟨by omega, by omega⟩
      have b85 : Bd a2 (0) (999) := ⟨by omega, by omega⟩
      refine lv_aload_n hx hb dX12_rate_28 rfl (lv_at hl 0 rfl) ?_
      refine xget E hQ 0 (by decide) c61 rfl 17 (by decide) q1485 rfl dX12_rate_29 ?_
      refine lv_bipush (v := 9) hx hb dX12_rate_32 (by decide) ?_
      refine xiald E hQ 7 (by decide) c62 (vp_in_lit 9 50 (by decide)) dX12_rate_34 ?_
      obtain ⟨v86, ee87⟩ : ∃ z : Int32, f1 9 = z := ⟨_, rfl⟩
      have b88 : Bd v86 (0) (40) := (by rw [← ee87]; exact b3.2.2.2.2.2.2.2 9 (by decide))
      refine sb_at (P := fun z => W _ _ _ _ _ _ _ _ _ _ _ _ _ _ _ (F0 _ _ _ (.int z :: _))) (show f1 (9 : Int32).toNatClampNeg = v86 from ee87) ?_
      refine lv_if_le (tgt := 41) hx hb dX12_rate_35 (by decide) (fun k89 => ?_) (fun k89 => ?_)
      · have h90 := ib_le k89
        have b91 : Bd v86 (0) (0) := ⟨(b88).1, ((rf_le b88 (by decide : Bd 0 (0) (0)) h90).1).2⟩
        refine lv_aload_n hx hb dX12_rate_41 rfl (lv_at hl 0 rfl) ?_
        refine xget E hQ 0 (by decide) c61 rfl 19 (by decide) q1487 rfl dX12_rate_42 ?_
        refine lv_iconst (v := 3) hx hb dX12_rate_45 (by decide) ?_
        refine lv_iload_n hx hb dX12_rate_46 rfl (lv_at hl 1 rfl) ?_
        refine lv_imul hx hb dX12_rate_47 ?_
        refine lv_topi (fun z92 e93 => ?_)
        have t94 := ib_cmul (q := 3) e93 (by decide) (by decide) b71 (by decide) (by decide)
        have b95 : Bd z92 (0) (21) := ib_mulb t94 (by decide) b71
        obtain ⟨f96, c97, b98⟩ := invM_9 hI
        refine xiald E hQ 9 (by decide) c97 (ib_in b95 (by decide) (by decide)) dX12_rate_48 ?_
        refine lv_topi (fun z99 e100 => ?_)
        refine lv_istore_n (lv' := [(3, .int z99), (0, .ref (ad 0)), (1, .int a1), (2, .int a2)]) hx hb dX12_rate_49 rfl hl (by decide) rfl (fun ls hl => ?_)
        refine lv_aload_n hx hb dX12_rate_50 rfl (lv_at hl 1 rfl) ?_
        refine xget E hQ 0 (by decide) c61 rfl 19 (by decide) q1487 rfl dX12_rate_51 ?_
        refine lv_iconst (v := 3) hx hb dX12_rate_54 (by decide) ?_
        refine lv_iload_n hx hb dX12_rate_55 rfl (lv_at hl 2 rfl) ?_
        refine lv_imul hx hb dX12_rate_56 ?_
        refine lv_topi (fun z101 e102 => ?_)
        have t103 := ib_cmul (q := 3) e102 (by decide) (by decide) b71 (by decide) (by decide)
        have b104 : Bd z101 (0) (21) := ib_mulb t103 (by decide) b71
        refine lv_iload_n hx hb dX12_rate_57 rfl (lv_at hl 3 rfl) ?_
        refine xiast E hs hQ 9 (by decide) c97 (ib_in b104 (by decide) (by decide)) dX12_rate_58 (fun H locs S105 eS105 hQ => ?_)
        have hI := invM_up_9 hI eS105 ⟨_, rfl, ⟨upd_mn b98.1 (by rw [clampN b104]; omega), upd_mn b98.2 (by rw [clampN b104]; omega)⟩⟩
        have b107 : (∀ j, j % 3 = 1 → Bd ((upd f96 (z101 : Int32).toNatClampNeg a2) j) (0) (11)) ∧ (∀ j, j % 3 = 2 → Bd ((upd f96 (z101 : Int32).toNatClampNeg a2) j) (0) (99)) := ⟨upd_mn b98.1 (by rw [clampN b104]; omega), upd_mn b98.2 (by rw [clampN b104]; omega)⟩
        have c106 : S105 9 = .inl (g.2 0, 120, .inl (upd f96 (z101 : Int32).toNatClampNeg a2)) := up_at eS105 rfl
        refine lv_iload_n hx hb dX12_rate_59 rfl (lv_at hl 0 rfl) ?_
        exact xri E hr hlk hQ (⟨hI, (up_o (up_o o_refl eS60 (by decide)) eS105 (by decide))⟩) dX12_rate_60
      · have h108 := ib_nle k89
        have b109 : Bd v86 (1) (40) := ⟨((rf_lt (by decide : Bd 0 (0) (0)) b88 h108).2).1, (b88).2⟩
        refine lv_bipush (v := (-5)) hx hb dX12_rate_38 (by decide) ?_
        exact xri E hr hlk hQ (⟨hI, (up_o o_refl eS60 (by decide))⟩) dX12_rate_40
    · have h110 := ib_eq k80
      have b111 : Bd r79 (0) (0) := ⟨(b79).1, ((rf_eq b79 (by decide : Bd 0 (0) (0)) h110).1).2⟩
      clear g79_0
      refine lv_bipush (v := (-2)) hx hb dX12_rate_25 (by decide) ?_
      exact xri E hr hlk hQ (⟨hI, (up_o o_refl eS60 (by decide))⟩) dX12_rate_27
