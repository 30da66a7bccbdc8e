set_option maxHeartbeats 4000000 in
set_option maxRecDepth 100000 in
theorem gX12_lasts_0 (l : Launch) (g : GG) (ad : Nat → Nat) (hD : Dj ad 20) (S : SS) (hI : InvM g ad S) (a1 : Int32) (hq1 : 0 ≤ 12 * elm (S 7) 1 + (-1) * elm (S 7) 0) (hq2 : 0 ≤ 12 * elm (S 7) 3 + (-1) * elm (S 7) 0) (hq3 : 0 ≤ 8 * elm (S 7) 0 + (-1) * elm (S 7) 6) (hq4 : 0 ≤ 3 * elm (S 7) 0 + (-1) * elm (S 7) 8) (hq5 : 0 ≤ 40000 * elm (S 7) 0 + (-1) * elm (S 6) 0) : Met l yX12_lasts (wG (.code yX12_lasts cX12_lasts 3 (some .int))) (Rm 2) (XPre g ad 20 S [.ref (ad 0), .int a1]) (va_Qi (fun r S' => InvM g ad S' ∧ (∀ j, j ∉ ([0] : List Nat) → S' j = S j) ∧ Bd r (-2) (36)) (QB g ad 20) (FA ad 20)) 0 0 (FA ad 20) := by
  refine xmet cX12_lasts "EbbWreckModel" (by decide) rfl (Nat.le_of_ble_eq_true rfl) (fun p e s m below meth c E hr hlk hml hQ ls hl => ?_)
  have hx := E.1
  have hb := E.2.1
  have hs : Sp ad 20 (FA ad 20) := Sp.fa hD
  have hl : lv_has ls 3 [(0, .ref (ad 0)), (1, .int a1)] := hl
  obtain ⟨f1, c2, b3⟩ := invM_7 hI
  obtain ⟨v4, ee5⟩ : ∃ z : Int32, f1 1 = z := ⟨_, rfl⟩
  have b6 : Bd v4 (0) (12) := (by rw [← ee5]; exact b3.2.1 1 (by decide))
  obtain ⟨v7, ee8⟩ : ∃ z : Int32, f1 0 = z := ⟨_, rfl⟩
  have b9 : Bd v7 (0) (12) := (by rw [← ee8]; exact b3.1 0 (by decide))
  obtain ⟨v10, ee11⟩ : ∃ z : Int32, f1 3 = z := ⟨_, rfl⟩
  have b12 : Bd v10 (0) (12) := (by rw [← ee11]; exact b3.2.2.2.1 3 (by decide))
  obtain ⟨v13, ee14⟩ : ∃ z : Int32, f1 6 = z := ⟨_, rfl⟩
  have b15 : Bd v13 (0) (8) := (by rw [← ee14]; exact b3.2.2.2.2.1 6 (by decide))
  obtain ⟨v16, ee17⟩ : ∃ z : Int32, f1 8 = z := ⟨_, rfl⟩
  have b18 : Bd v16 (0) (3) := (by rw [← ee17]; exact b3.2.2.2.2.2.2.1 8 (by decide))
  obtain ⟨f19, c20, b21⟩ := invM_6 hI
  obtain ⟨v22, ee23⟩ : ∃ z : Int32, f19 0 = z := ⟨_, rfl⟩
  have b24 : Bd v22 (0) (40000) := (by rw [← ee23]; exact b21 0)
  have q25 : elm (S 7) 1 = v4.toInt := (elm_of c2 1).trans (congrArg Int32.toInt (ee5))
  have q26 : elm (S 7) 0 = v7.toInt := (elm_of c2 0).trans (congrArg Int32.toInt (ee8))
  have q27 : elm (S 7) 3 = v10.toInt := (elm_of c2 3).trans (congrArg Int32.toInt (ee11))
  have q28 : elm (S 7) 6 = v13.toInt := (elm_of c2 6).trans (congrArg Int32.toInt (ee14))
  have q29 : elm (S 7) 8 = v16.toInt := (elm_of c2 8).trans (congrArg Int32.toInt (ee17))
  have q30 : elm (S 6) 0 = v22.toInt := (elm_of c20 0).trans (congrArg Int32.toInt (ee23))
  refine lv_aload_n hx hb dX12_lasts_0 rfl (lv_at hl 0 rfl) ?_
  refine lv_iconst (v := 0) hx hb dX12_lasts_1 (by decide) ?_
  obtain ⟨v31, v32, v34, v36, v38, v39, w40, v41, v43, v44, v45, v46, v48, v50, v52, v54, v56, v57, v58, c59, b33, b35, b37, b42, b47, b49, b51, b53, b55⟩ := invM_0 hI
  have c59 : S 0 = .inr (12, [.int v31, .ref (ad 1), .ref (ad 2), .ref (ad 3), .ref (ad 4), .ref (ad 5), .int v32, .int v34, .int v36, .int v38, .int v39, .long w40, .int v41, .int v43, .int v44, .int v45, .ref (ad 6), .ref (ad 7), .ref (ad 8), .ref (ad 9), .ref (ad 10), .ref (ad 11), .ref (ad 12), .ref (ad 13), .ref (ad 14), .ref (ad 15), .int v46, .int v48, .ref (ad 16), .int v50, .int v52, .int v54, .int v56, .int v57, .ref (ad 17), .ref (ad 18), .int v58, .ref (ad 19)]) := c59
  refine xputi E hs hQ 0 (by decide) c59 rfl 0 (by decide) q1468 rfl rfl (Nat.le_of_ble_eq_true rfl) dX12_lasts_2 (fun H locs S60 eS60 hQ => ?_)
  have hI := invM_up_0 hI eS60 ⟨0, v32, v34, v36, v38, v39, w40, v41, v43, v44, v45, v46, v48, v50, v52, v54, v56, v57, v58, rfl, b33, b35, b37, b42, b47, b49, b51, b53, b55⟩
  have c61 : S60 0 = .inr (12, [.int 0, .ref (ad 1), .ref (ad 2), .ref (ad 3), .ref (ad 4), .ref (ad 5), .int v32, .int v34, .int v36, .int v38, .int v39, .long w40, .int v41, .int v43, .int v44, .int v45, .ref (ad 6), .ref (ad 7), .ref (ad 8), .ref (ad 9), .ref (ad 10), .ref (ad 11), .ref (ad 12), .ref (ad 13), .ref (ad 14), .ref (ad 15), .int v46, .int v48, .ref (ad 16), .int v50, .int v52, .int v54, .int v56, .int v57, .ref (ad 17), .ref (ad 18), .int v58, .ref (ad 19)]) := up_at eS60 rfl
  refine lv_aload_n hx hb dX12_lasts_5 rfl (lv_at hl 0 rfl) ?_
  have c62 : S60 6 = .inl (g.2 0, 5, .inl f19) := (up_ne eS60 (by decide) c20)
  refine xcVi E hs hQ hml hl.1 0 (gX12_isShore_0 l g ad hD S60 hI ) mX12_isShore q1782 (by decide) c61 rfl rfl ⟨(Nat.le_of_ble_eq_true rfl), (Nat.le_of_ble_eq_true rfl)⟩ ⟨(Nat.le_of_ble_eq_true rfl), (Nat.le_of_ble_eq_true rfl)⟩ (Nat.le_of_ble_eq_true rfl) rfl dX12_lasts_6 (fun r63 S63 H locs hp63 hQ _ => ?_)
  obtain ⟨rfl, b63, g63_0⟩ := hp63
  have q64 : elm (S60 6) 0 = v22.toInt := (elm_of c62 0).trans (congrArg Int32.toInt (ee23))
  refine lv_if_eq (tgt := 24) hx hb dX12_lasts_9 (by decide) (fun k65 => ?_) (fun k65 => ?_)
  · have h66 := ib_eq k65
    have b67 : Bd r63 (0) (0) := ⟨(b63).1, ((rf_eq b63 (by decide : Bd 0 (0) (0)) h66).1).2⟩
    clear g63_0
    refine lv_bipush (v := (-2)) hx hb dX12_lasts_24 (by decide) ?_
    exact xri E hr hlk hQ (⟨hI, (up_o o_refl eS60 (by decide)), (ib_wk (by decide : Bd (-2) (-2) (-2)) (by decide) (by decide))⟩) dX12_lasts_26
  · have h68 := ib_ne k65
    have b69 : Bd r63 (1) (1) := rf_nlo b63 (by decide : Bd 0 (0) (0)) h68
    have g70 := g63_0.resolve_left (by omega)
    clear g63_0
    have b71 : Bd v22 (1) (40000) := ⟨by omega, (b24).2⟩
    refine lv_iload_n hx hb dX12_lasts_12 rfl (lv_at hl 1 rfl) ?_
    refine lv_i2l hx hb dX12_lasts_13 rfl ?_
    refine lv_topl (fun w72 e73 => ?_)
    have t74 : w72.toInt = a1.toInt := by rw [e73]; exact i2l_i _
    have b75 : BdL w72 (-2147483648) (2147483647) := (by have h1 := ((ib_full a1)).1; have h2 := ((ib_full a1)).2; exact ⟨by omega, by omega⟩)
    refine lv_lconst (v := 0) hx hb dX12_lasts_14 (by decide) ?_
    refine lv_ldc2 (v := 2000000000) hx hb E.2.2.1 (E.2.2.2.1 _ q1786) dX12_lasts_15 ?_
    have q76 : (0 : Int64).toInt = 0 := by decide
    have q77 : (2000000000 : Int64).toInt = 2000000000 := by decide
    refine xcSi E hs hQ hml hl.1 (gX12_in l g ad hD S60 hI w72 0 2000000000) mX12_in q1591 rfl ⟨(Nat.le_of_ble_eq_true rfl), (Nat.le_of_ble_eq_true rfl)⟩ ⟨(Nat.le_of_ble_eq_true rfl), (Nat.le_of_ble_eq_true rfl)⟩ (Nat.le_of_ble_eq_true rfl) rfl dX12_lasts_18 (fun r78 S78 H locs hp78 hQ => ?_)
    obtain ⟨rfl, b78, g78_0, u78_0⟩ := hp78
    refine lv_if_ne (tgt := 27) hx hb dX12_lasts_21 (by decide) (fun k79 => ?_) (fun k79 => ?_)
    · have h80 := ib_ne k79
      have b81 : Bd r78 (1) (1) := rf_nlo b78 (by decide : Bd 0 (0) (0)) h80
      have g82 := g78_0.resolve_left (by omega)
      clear g78_0
      have b83 : BdL w72 (0) (2000000000) := ⟨by omega, by omega⟩
      have b84 : Bd a1 (0) (2000000000) := ⟨by omega, by omega⟩
      refine lv_iconst (v := 1) hx hb dX12_lasts_27 (by decide) ?_
      refine lv_istore_n (lv' := [(2, .int 1), (0, .ref (ad 0)), (1, .int a1)]) hx hb dX12_lasts_28 rfl hl (by decide) rfl (fun ls hl => ?_)
      have loop29 : ∀ (n : Nat) (H : Heap) (locs : List Loc) (ls : Array Slot) (x29_2 : Int32), Bd x29_2 (1) (39) → (-1) * x29_2.toInt + 39 < ((n : Nat) : Int) → LSp (S60 7) (S60 8) (S60 10) a1 x29_2 → Hp g ad 20 S60 (FA ad 20) s.heap H locs → lv_has ls 3 [(2, .int x29_2), (0, .ref (ad 0)), (1, .int a1)] → W p l e (Rm 2) s m [.ref (ad 0), .int a1].toArray below meth c H locs 0 0 (MQ below (va_Qi (fun r S' => InvM g ad S' ∧ (∀ j, j ∉ ([0] : List Nat) → S' j = S j) ∧ Bd r (-2) (36)) (QB g ad 20) (FA ad 20)) [.ref (ad 0), .int a1].toArray s 0 0 (FA ad 20)) (F0 m 29 ls []) := by
        intro n
        induction n with
        | zero => intro H locs ls x29_2 Bx29_2 hn29_ hC29 hQ hl; exfalso; have := (Bx29_2).2; omega
        | succ n29_ ih29 =>
          intro H locs ls x29_2 Bx29_2 hn29_ hC29 hQ hl
          refine lv_aload_n hx hb dX12_lasts_29 rfl (lv_at hl 1 rfl) ?_
          have c85 : S60 7 = .inl (g.2 0, 50, .inl f1) := (up_ne eS60 (by decide) c2)
          have b86 : Bd v4 (1) (12) := ⟨by omega, (b6).2⟩
          have hb87 : Bd (arr (S60 7) 1) (1) (12) := by rw [arr_of c85, ee5]; exact b86
          obtain ⟨v88, ee89⟩ : ∃ z : Int32, f1 2 = z := ⟨_, rfl⟩
          have b90 : Bd v88 (0) (6) := (by rw [← ee89]; exact b3.2.2.1 2 (by decide))
          have hb91 : Bd (arr (S60 7) 2) (0) (6) := by rw [arr_of c85, ee89]; exact b90
          have b92 : Bd v10 (1) (12) := ⟨by omega, (b12).2⟩
          have hb93 : Bd (arr (S60 7) 3) (1) (12) := by rw [arr_of c85, ee11]; exact b92
          have b94 : Bd x29_2 (1) (36) := ⟨(Bx29_2).1, ls_bd (e8 := S60 8) (e10 := S60 10) (ib_wk hb87 (by decide) (by decide)) (ib_wk hb91 (by decide) (by decide)) (ib_wk hb93 (by decide) (by decide)) b84 hC29⟩
          refine lv_iload_n hx hb dX12_lasts_30 rfl (lv_at hl 2 rfl) ?_
          refine lv_iload_n hx hb dX12_lasts_31 rfl (lv_at hl 0 rfl) ?_
          refine lv_iadd hx hb dX12_lasts_32 ?_
          refine lv_topi (fun z95 e96 => ?_)
          have t97 := ib_add e96 b84 b94 (by decide) (by decide)
          have b98 : Bd z95 (1) (2000000036) := ib_addb t97 b84 b94
          have q99 : elm (S60 7) 1 = v4.toInt := (elm_of c85 1).trans (congrArg Int32.toInt (ee5))
          refine xcVi E hs hQ hml hl.1 0 (gX12_phaseOf_0 l g ad hD S60 hI z95 (by omega)) mX12_phaseOf q1787 (by decide) c61 rfl rfl ⟨(Nat.le_of_ble_eq_true rfl), (Nat.le_of_ble_eq_true rfl)⟩ ⟨(Nat.le_of_ble_eq_true rfl), (Nat.le_of_ble_eq_true rfl)⟩ (Nat.le_of_ble_eq_true rfl) rfl dX12_lasts_33 (fun r100 S100 H locs hp100 hQ _ => ?_)
          obtain ⟨rfl, b100, fg100⟩ := hp100
          refine lv_aload_n hx hb dX12_lasts_36 rfl (lv_at hl 1 rfl) ?_
          refine lv_iload_n hx hb dX12_lasts_37 rfl (lv_at hl 2 rfl) ?_
          refine xcVi E hs hQ hml hl.1 0 (gX12_phaseOf_0 l g ad hD S60 hI a1 (by omega)) mX12_phaseOf q1787 (by decide) c61 rfl rfl ⟨(Nat.le_of_ble_eq_true rfl), (Nat.le_of_ble_eq_true rfl)⟩ ⟨(Nat.le_of_ble_eq_true rfl), (Nat.le_of_ble_eq_true rfl)⟩ (Nat.le_of_ble_eq_true rfl) rfl dX12_lasts_38 (fun r101 S101 H locs hp101 hQ _ => ?_)
          obtain ⟨rfl, b101, fg101⟩ := hp101
          refine lv_icmp_ne (tgt := 50) hx hb dX12_lasts_41 (by decide) (fun k102 => ?_) (fun k102 => ?_)
          · have h103 := ib_ne k102
            refine lv_iload_n hx hb dX12_lasts_50 rfl (lv_at hl 0 rfl) ?_
            exact xri E hr hlk hQ (⟨hI, (up_o o_refl eS60 (by decide)), (ib_wk b94 (by decide) (by decide))⟩) dX12_lasts_51
          · have h104 := ib_eq k102
            obtain ⟨z105, e106⟩ : ∃ z : Int32, z = x29_2 + 1 := ⟨_, rfl⟩
            have t107 := ib_add e106 b94 (by decide : Bd 1 (1) (1)) (by decide) (by decide)
            have b108 : Bd z105 (2) (37) := ib_addb t107 b94 (by decide : Bd 1 (1) (1))
            have t107 : z105.toInt = x29_2.toInt + 1 := fold_add t107 rfl (by decide)
            refine lv_iinc (v := z105) (lv' := [(2, .int z105), (0, .ref (ad 0)), (1, .int a1)]) hx hb dX12_lasts_44 hl (k := 0) rfl (by rw [e106]; rfl) (by decide) rfl (fun ls hl => ?_)
            refine lv_goto (tgt := 29) hx hb dX12_lasts_47 (by decide) ?_
            exact ih29 _ _ _ z105 (ib_wk b108 (by decide) (by decide)) (by omega) (ls_s hC29 (by omega) (by omega) e96 fg100 fg101 (Int32.toInt_inj.mp (by omega))) hQ (lv_sub hl [0, 1, 2] rfl)
      obtain ⟨n29, hn29⟩ := fu_n (38)
      exact loop29 n29 _ _ _ 1 (ib_wk (by decide : Bd 1 (1) (1)) (by decide) (by decide)) (by have : (1 : Int32).toInt = 1 := (by decide); omega) ls_1 hQ (lv_sub hl [0, 1, 2] rfl)
    · have h109 := ib_eq k79
      have b110 : Bd r78 (0) (0) := ⟨(b78).1, ((rf_eq b78 (by decide : Bd 0 (0) (0)) h109).1).2⟩
      clear g78_0
      refine lv_bipush (v := (-2)) hx hb dX12_lasts_24 (by decide) ?_
      exact xri E hr hlk hQ (⟨hI, (up_o o_refl eS60 (by decide)), (ib_wk (by decide : Bd (-2) (-2) (-2)) (by decide) (by decide))⟩) dX12_lasts_26
set_option maxHeartbeats 4000000 in
set_option maxRecDepth 100000 in
theorem gX12_laysPushesT (l : Launch) (g : GG) (ad : Nat → Nat) (hD : Dj ad 20) (S : SS) (hI : InvM g ad S) (a1 : Int32) (hq1 : 0 ≤ elm (S 7) 0 + (-1)) (hq2 : 0 ≤ elm (S 7) 1 + (-1)) : Met l yX12_laysPushes (wG (.code yX12_laysPushes cX12_laysPushes 6 none)) (Rm 4) (XPre g ad 20 S [.ref (ad 0), .int a1]) (va_Qv (fun S' => InvM g ad S' ∧ (∀ j, j ∉ ([16] : List Nat) → S' j = S j) ∧ (TBp (S' 7) (S' 8) (S' 10) (S' 16) a1 (-1))) (QB g ad 20) (FA ad 20)) 0 0 (FA ad 20) := by
  refine xmet cX12_laysPushes "EbbWreckModel" (by decide) rfl (Nat.le_of_ble_eq_true rfl) (fun p e s m below meth c E hr hlk hml hQ ls hl => ?_)
  have hx := E.1
  have hb := E.2.1
  have hs : Sp ad 20 (FA ad 20) := Sp.fa hD
  have hl : lv_has ls 6 [(0, .ref (ad 0)), (1, .int a1)] := hl
  obtain ⟨f1, c2, b3⟩ := invM_7 hI
  obtain ⟨v4, ee5⟩ : ∃ z : Int32, f1 0 = z := ⟨_, rfl⟩
  have b6 : Bd v4 (0) (12) := (by rw [← ee5]; exact b3.1 0 (by decide))
  obtain ⟨v7, ee8⟩ : ∃ z : Int32, f1 1 = z := ⟨_, rfl⟩
  have b9 : Bd v7 (0) (12) := (by rw [← ee8]; exact b3.2.1 1 (by decide))
  have q10 : elm (S 7) 0 = v4.toInt := (elm_of c2 0).trans (congrArg Int32.toInt (ee5))
  have b11 : Bd v4 (1) (12) := ⟨by omega, (b6).2⟩
  have q12 : elm (S 7) 1 = v7.toInt := (elm_of c2 1).trans (congrArg Int32.toInt (ee8))
  have b13 : Bd v7 (1) (12) := ⟨by omega, (b9).2⟩
  refine lv_iconst (v := 0) hx hb dX12_laysPushes_0 (by decide) ?_
  refine lv_istore_n (lv' := [(2, .int 0), (0, .ref (ad 0)), (1, .int a1)]) hx hb dX12_laysPushes_1 rfl hl (by decide) rfl (fun ls hl => ?_)
  have loop2 : ∀ (n : Nat) (S_2 : SS) (H : Heap) (locs : List Loc) (ls : Array Slot) (x2_2 : Int32), Bd x2_2 (0) (12) → (-1) * x2_2.toInt + 12 < ((n : Nat) : Int) → InvM g ad S_2 → (∀ j, j ∉ ([16] : List Nat) → S_2 j = S j) → TB2 (S_2 16) x2_2.toInt → Hp g ad 20 S_2 (FA ad 20) s.heap H locs → lv_has ls 6 [(2, .int x2_2), (0, .ref (ad 0)), (1, .int a1)] → W p l e (Rm 4) s m [.ref (ad 0), .int a1].toArray below meth c H locs 0 0 (MQ below (va_Qv (fun S' => InvM g ad S' ∧ (∀ j, j ∉ ([16] : List Nat) → S' j = S j) ∧ (TBp (S' 7) (S' 8) (S' 10) (S' 16) a1 (-1))) (QB g ad 20) (FA ad 20)) [.ref (ad 0), .int a1].toArray s 0 0 (FA ad 20)) (F0 m 2 ls []) := by
    intro n
    induction n with
    | zero => intro S_2 H locs ls x2_2 Bx2_2 hn2_ hI hf2 hC2 hQ hl; exfalso; have := (Bx2_2).2; omega
    | succ n2_ ih2 =>
      intro S_2 H locs ls x2_2 Bx2_2 hn2_ hI hf2 hC2 hQ hl
      refine lv_iload_n hx hb dX12_laysPushes_2 rfl (lv_at hl 0 rfl) ?_
      refine lv_aload_n hx hb dX12_laysPushes_3 rfl (lv_at hl 1 rfl) ?_
      obtain ⟨v14, v15, v17, v19, v21, v22, w23, v24, v26, v27, v28, v29, v31, v33, v35, v37, v39, v40, v41, c42, b16, b18, b20, b25, b30, b32, b34, b36, b38⟩ := invM_0 hI
      have c42 : S_2 0 = .inr (12, [.int v14, .ref (ad 1), .ref (ad 2), .ref (ad 3), .ref (ad 4), .ref (ad 5), .int v15, .int v17, .int v19, .int v21, .int v22, .long w23, .int v24, .int v26, .int v27, .int v28, .ref (ad 6), .ref (ad 7), .ref (ad 8), .ref (ad 9), .ref (ad 10), .ref (ad 11), .ref (ad 12), .ref (ad 13), .ref (ad 14), .ref (ad 15), .int v29, .int v31, .ref (ad 16), .int v33, .int v35, .int v37, .int v39, .int v40, .ref (ad 17), .ref (ad 18), .int v41, .ref (ad 19)]) := c42
      refine xget E hQ 0 (by decide) c42 rfl 17 (by decide) q1485 rfl dX12_laysPushes_4 ?_
      refine lv_iconst (v := 0) hx hb dX12_laysPushes_7 (by decide) ?_
      have c43 : S_2 7 = .inl (g.2 0, 50, .inl f1) := ((hf2 7 (by decide)).trans c2)
      refine xiald E hQ 7 (by decide) c43 (vp_in_lit 0 50 (by decide)) dX12_laysPushes_8 ?_
      refine sb_at (P := fun z => W _ _ _ _ _ _ _ _ _ _ _ _ _ _ _ (F0 _ _ _ (.int z :: _))) (show f1 (0 : Int32).toNatClampNeg = v4 from ee5) ?_
      refine lv_icmp_ge (tgt := 30) hx hb dX12_laysPushes_9 (by decide) (fun k44 => ?_) (fun k44 => ?_)
      · have h45 := ib_le k44
        have b46 : Bd x2_2 (1) (12) := ⟨((rf_le b11 Bx2_2 h45).2).1, (Bx2_2).2⟩
        refine lv_bipush (v := 99) hx hb dX12_laysPushes_30 (by decide) ?_
        refine lv_istore_n (lv' := [(2, .int 99), (0, .ref (ad 0)), (1, .int a1)]) hx hb dX12_laysPushes_32 rfl hl (by decide) rfl (fun ls hl => ?_)
        have loop33 : ∀ (n : Nat) (S_33 : SS) (H : Heap) (locs : List Loc) (ls : Array Slot) (x33_2 : Int32), Bd x33_2 (-1) (99) → x33_2.toInt + 1 < ((n : Nat) : Int) → InvM g ad S_33 → (∀ j, j ∉ ([16] : List Nat) → S_33 j = S_2 j) → TBp (S_33 7) (S_33 8) (S_33 10) (S_33 16) a1 x33_2.toInt → Hp g ad 20 S_33 (FA ad 20) s.heap H locs → lv_has ls 6 [(2, .int x33_2), (0, .ref (ad 0)), (1, .int a1)] → W p l e (Rm 4) s m [.ref (ad 0), .int a1].toArray below meth c H locs 0 0 (MQ below (va_Qv (fun S' => InvM g ad S' ∧ (∀ j, j ∉ ([16] : List Nat) → S' j = S j) ∧ (TBp (S' 7) (S' 8) (S' 10) (S' 16) a1 (-1))) (QB g ad 20) (FA ad 20)) [.ref (ad 0), .int a1].toArray s 0 0 (FA ad 20)) (F0 m 33 ls []) := by
          intro n
          induction n with
          | zero => intro S_33 H locs ls x33_2 Bx33_2 hn33_ hI hf33 hC33 hQ hl; exfalso; have := (Bx33_2).1; omega
          | succ n33_ ih33 =>
            intro S_33 H locs ls x33_2 Bx33_2 hn33_ hI hf33 hC33 hQ hl
            refine lv_iload_n hx hb dX12_laysPushes_33 rfl (lv_at hl 0 rfl) ?_
            refine lv_if_lt (tgt := 118) hx hb dX12_laysPushes_34 (by decide) (fun k47 => ?_) (fun k47 => ?_)
            · have h48 := ib_lt k47
              have b49 : Bd x33_2 (-1) (-1) := ⟨(Bx33_2).1, ((rf_lt Bx33_2 (by decide : Bd 0 (0) (0)) h48).1).2⟩
              exact xrv E hr hlk hQ (⟨hI, (o_trans (o_trans o_refl hf2 (by decide)) hf33 (by decide)), (by have := hC33; exact ⟨this.1, fun h c q1 => this.2 h c (by omega)⟩)⟩) dX12_laysPushes_118
            · have h50 := ib_nlt k47
              have b51 : Bd x33_2 (0) (99) := ⟨((rf_le (by decide : Bd 0 (0) (0)) Bx33_2 h50).2).1, (Bx33_2).2⟩
              refine lv_iconst (v := 0) hx hb dX12_laysPushes_37 (by decide) ?_
              refine lv_istore_n (lv' := [(3, .int 0), (2, .int x33_2), (0, .ref (ad 0)), (1, .int a1)]) hx hb dX12_laysPushes_38 rfl hl (by decide) rfl (fun ls hl => ?_)
              have loop39 : ∀ (n : Nat) (S_39 : SS) (H : Heap) (locs : List Loc) (ls : Array Slot) (x39_3 : Int32), Bd x39_3 (0) (12) → (-1) * x39_3.toInt + 12 < ((n : Nat) : Int) → InvM g ad S_39 → (∀ j, j ∉ ([16] : List Nat) → S_39 j = S_33 j) → (TBp (S_39 7) (S_39 8) (S_39 10) (S_39 16) a1 x33_2.toInt ∧ TBr (S_39 7) (S_39 8) (S_39 10) (S_39 16) a1 x33_2 x39_3.toInt) → Hp g ad 20 S_39 (FA ad 20) s.heap H locs → lv_has ls 6 [(3, .int x39_3), (2, .int x33_2), (0, .ref (ad 0)), (1, .int a1)] → W p l e (Rm 4) s m [.ref (ad 0), .int a1].toArray below meth c H locs 0 0 (MQ below (va_Qv (fun S' => InvM g ad S' ∧ (∀ j, j ∉ ([16] : List Nat) → S' j = S j) ∧ (TBp (S' 7) (S' 8) (S' 10) (S' 16) a1 (-1))) (QB g ad 20) (FA ad 20)) [.ref (ad 0), .int a1].toArray s 0 0 (FA ad 20)) (F0 m 39 ls []) := by
                intro n
                induction n with
                | zero => intro S_39 H locs ls x39_3 Bx39_3 hn39_ hI hf39 hC39 hQ hl; exfalso; have := (Bx39_3).2; omega
                | succ n39_ ih39 =>
                  intro S_39 H locs ls x39_3 Bx39_3 hn39_ hI hf39 hC39 hQ hl
                  refine lv_iload_n hx hb dX12_laysPushes_39 rfl (lv_at hl 0 rfl) ?_
                  have c52 : S_39 7 = .inl (g.2 0, 50, .inl f1) := ((hf39 7 (by decide)).trans ((hf33 7 (by decide)).trans c43))
                  have hb53 : Bd (arr (S_39 7) 0) 1 12 := by rw [arr_of c52, ee5]; exact b11
                  have hn54 : (arr (S_39 7) 0).toInt = v4.toInt := by rw [arr_of c52, ee5]
                  refine lv_aload_n hx hb dX12_laysPushes_40 rfl (lv_at hl 2 rfl) ?_
                  have c55 : S_39 0 = .inr (12, [.int v14, .ref (ad 1), .ref (ad 2), .ref (ad 3), .ref (ad 4), .ref (ad 5), .int v15, .int v17, .int v19, .int v21, .int v22, .long w23, .int v24, .int v26, .int v27, .int v28, .ref (ad 6), .ref (ad 7), .ref (ad 8), .ref (ad 9), .ref (ad 10), .ref (ad 11), .ref (ad 12), .ref (ad 13), .ref (ad 14), .ref (ad 15), .int v29, .int v31, .ref (ad 16), .int v33, .int v35, .int v37, .int v39, .int v40, .ref (ad 17), .ref (ad 18), .int v41, .ref (ad 19)]) := ((hf39 0 (by decide)).trans ((hf33 0 (by decide)).trans c42))
                  refine xget E hQ 0 (by decide) c55 rfl 17 (by decide) q1485 rfl dX12_laysPushes_41 ?_
                  refine lv_iconst (v := 0) hx hb dX12_laysPushes_44 (by decide) ?_
                  refine xiald E hQ 7 (by decide) c52 (vp_in_lit 0 50 (by decide)) dX12_laysPushes_45 ?_
                  refine sb_at (P := fun z => W _ _ _ _ _ _ _ _ _ _ _ _ _ _ _ (F0 _ _ _ (.int z :: _))) (show f1 (0 : Int32).toNatClampNeg = v4 from ee5) ?_
                  refine lv_icmp_ge (tgt := 112) hx hb dX12_laysPushes_46 (by decide) (fun k56 => ?_) (fun k56 => ?_)
                  · have h57 := ib_le k56
                    have b58 : Bd x39_3 (1) (12) := ⟨((rf_le b11 Bx39_3 h57).2).1, (Bx39_3).2⟩
                    obtain ⟨z59, e60⟩ : ∃ z : Int32, z = x33_2 + (-1) := ⟨_, rfl⟩
                    have t61 := ib_add e60 b51 (by decide : Bd (-1) (-1) (-1)) (by decide) (by decide)
                    have b62 : Bd z59 (-1) (98) := ib_addb t61 b51 (by decide : Bd (-1) (-1) (-1))
                    have t61 : z59.toInt = x33_2.toInt + (-1) := fold_add t61 rfl (by decide)
                    refine lv_iinc (v := z59) (lv' := [(2, .int z59), (3, .int x39_3), (0, .ref (ad 0)), (1, .int a1)]) hx hb dX12_laysPushes_112 hl (k := 1) rfl (by rw [e60]; rfl) (by decide) rfl (fun ls hl => ?_)
                    refine lv_goto (tgt := 33) hx hb dX12_laysPushes_115 (by decide) ?_
                    exact ih33 _ _ _ _ z59 (ib_wk b62 (by decide) (by decide)) (by omega) hI (o_trans hf33 hf39 (by decide)) (tb_d hC39.1 hC39.2 (by omega) rfl (by omega)) hQ (lv_sub hl [0, 2, 3] rfl)
                  · have h63 := ib_nle k56
                    have b64 : Bd x39_3 (0) (11) := ⟨(Bx39_3).1, ((rf_lt Bx39_3 b11 h63).1).2⟩
                    refine lv_ldc (v := 100000) hx hb E.2.2.1 (E.2.2.2.1 _ q1648) dX12_laysPushes_49 ?_
                    refine lv_istore (lv' := [(4, .int 100000), (3, .int x39_3), (2, .int x33_2), (0, .ref (ad 0)), (1, .int a1)]) hx hb dX12_laysPushes_51 hl (by decide) rfl (fun ls hl => ?_)
                    refine lv_iconst (v := 0) hx hb dX12_laysPushes_53 (by decide) ?_
                    refine lv_istore (lv' := [(5, .int 0), (4, .int 100000), (3, .int x39_3), (2, .int x33_2), (0, .ref (ad 0)), (1, .int a1)]) hx hb dX12_laysPushes_54 hl (by decide) rfl (fun ls hl => ?_)
                    refine lv_iload hx hb dX12_laysPushes_56 (lv_at hl 0 rfl) ?_
                    refine lv_iconst (v := 3) hx hb dX12_laysPushes_58 (by decide) ?_
                    refine lv_icmp_ge (tgt := 93) hx hb dX12_laysPushes_59 (by decide) (fun k65 => ?_) (fun k65 => ?_)
                    · have h66 := ib_le k65
                      exact absurd h66 (by decide)
                    · have h67 := ib_nle k65
                      refine lv_aload_n hx hb dX12_laysPushes_62 rfl (lv_at hl 4 rfl) ?_
                      refine lv_iload_n hx hb dX12_laysPushes_63 rfl (lv_at hl 3 rfl) ?_
                      refine lv_iload_n hx hb dX12_laysPushes_64 rfl (lv_at hl 2 rfl) ?_
                      refine lv_iload hx hb dX12_laysPushes_65 (lv_at hl 0 rfl) ?_
                      refine lv_iload_n hx hb dX12_laysPushes_67 rfl (lv_at hl 5 rfl) ?_
                      have q68 : elm (S_39 7) 0 = v4.toInt := (elm_of c52 0).trans (congrArg Int32.toInt (ee5))
                      have q69 : elm (S_39 7) 1 = v7.toInt := (elm_of c52 1).trans (congrArg Int32.toInt (ee8))
                      refine xcVi E hs hQ hml hl.1 0 (gX12_pushBy_0 l g ad hD S_39 hI x33_2 x39_3 0 a1 b51 b64 (by omega) (by omega)) mX12_pushBy q1930 (by decide) c55 rfl rfl ⟨(Nat.le_of_ble_eq_true rfl), (Nat.le_of_ble_eq_true rfl)⟩ ⟨(Nat.le_of_ble_eq_true rfl), (Nat.le_of_ble_eq_true rfl)⟩ (Nat.le_of_ble_eq_true rfl) rfl dX12_laysPushes_68 (fun r70 S70 H locs hp70 hQ _ => ?_)
                      obtain ⟨rfl, b70, fg70⟩ := hp70
                      refine lv_iload hx hb dX12_laysPushes_71 (lv_at hl 1 rfl) ?_
                      refine lv_icmp_ge (tgt := 87) hx hb dX12_laysPushes_73 (by decide) (fun k71 => ?_) (fun k71 => ?_)
                      · have h72 := ib_le k71
                        have b73 : Bd r70 (100000) (100001) := ⟨((rf_le (by decide : Bd 100000 (100000) (100000)) b70 h72).2).1, (b70).2⟩
                        refine lv_iinc (v := 1) (lv' := [(5, .int 1), (4, .int 100000), (3, .int x39_3), (2, .int x33_2), (0, .ref (ad 0)), (1, .int a1)]) hx hb dX12_laysPushes_87 hl (k := 0) rfl (by decide) (by decide) rfl (fun ls hl => ?_)
                        refine lv_goto (tgt := 56) hx hb dX12_laysPushes_90 (by decide) ?_
                        refine lv_iload hx hb dX12_laysPushes_56 (lv_at hl 0 rfl) ?_
                        refine lv_iconst (v := 3) hx hb dX12_laysPushes_58 (by decide) ?_
                        refine lv_icmp_ge (tgt := 93) hx hb dX12_laysPushes_59 (by decide) (fun k74 => ?_) (fun k74 => ?_)
                        · have h75 := ib_le k74
                          exact absurd h75 (by decide)
                        · have h76 := ib_nle k74
                          refine lv_aload_n hx hb dX12_laysPushes_62 rfl (lv_at hl 4 rfl) ?_
                          refine lv_iload_n hx hb dX12_laysPushes_63 rfl (lv_at hl 3 rfl) ?_
                          refine lv_iload_n hx hb dX12_laysPushes_64 rfl (lv_at hl 2 rfl) ?_
                          refine lv_iload hx hb dX12_laysPushes_65 (lv_at hl 0 rfl) ?_
                          refine lv_iload_n hx hb dX12_laysPushes_67 rfl (lv_at hl 5 rfl) ?_
                          refine xcVi E hs hQ hml hl.1 0 (gX12_pushBy_0 l g ad hD S_39 hI x33_2 x39_3 1 a1 b51 b64 (by omega) (by omega)) mX12_pushBy q1930 (by decide) c55 rfl rfl ⟨(Nat.le_of_ble_eq_true rfl), (Nat.le_of_ble_eq_true rfl)⟩ ⟨(Nat.le_of_ble_eq_true rfl), (Nat.le_of_ble_eq_true rfl)⟩ (Nat.le_of_ble_eq_true rfl) rfl dX12_laysPushes_68 (fun r77 S77 H locs hp77 hQ _ => ?_)
                          obtain ⟨rfl, b77, fg77⟩ := hp77
                          refine lv_iload hx hb dX12_laysPushes_71 (lv_at hl 1 rfl) ?_
                          refine lv_icmp_ge (tgt := 87) hx hb dX12_laysPushes_73 (by decide) (fun k78 => ?_) (fun k78 => ?_)
                          · have h79 := ib_le k78
                            have b80 : Bd r77 (100000) (100001) := ⟨((rf_le (by decide : Bd 100000 (100000) (100000)) b77 h79).2).1, (b77).2⟩
                            refine lv_iinc (v := 2) (lv' := [(5, .int 2), (4, .int 100000), (3, .int x39_3), (2, .int x33_2), (0, .ref (ad 0)), (1, .int a1)]) hx hb dX12_laysPushes_87 hl (k := 0) rfl (by decide) (by decide) rfl (fun ls hl => ?_)
                            refine lv_goto (tgt := 56) hx hb dX12_laysPushes_90 (by decide) ?_
                            refine lv_iload hx hb dX12_laysPushes_56 (lv_at hl 0 rfl) ?_
                            refine lv_iconst (v := 3) hx hb dX12_laysPushes_58 (by decide) ?_
                            refine lv_icmp_ge (tgt := 93) hx hb dX12_laysPushes_59 (by decide) (fun k81 => ?_) (fun k81 => ?_)
                            · have h82 := ib_le k81
                              exact absurd h82 (by decide)
                            · have h83 := ib_nle k81
                              refine lv_aload_n hx hb dX12_laysPushes_62 rfl (lv_at hl 4 rfl) ?_
                              refine lv_iload_n hx hb dX12_laysPushes_63 rfl (lv_at hl 3 rfl) ?_
                              refine lv_iload_n hx hb dX12_laysPushes_64 rfl (lv_at hl 2 rfl) ?_
                              refine lv_iload hx hb dX12_laysPushes_65 (lv_at hl 0 rfl) ?_
                              refine lv_iload_n hx hb dX12_laysPushes_67 rfl (lv_at hl 5 rfl) ?_
                              refine xcVi E hs hQ hml hl.1 0 (gX12_pushBy_0 l g ad hD S_39 hI x33_2 x39_3 2 a1 b51 b64 (by omega) (by omega)) mX12_pushBy q1930 (by decide) c55 rfl rfl ⟨(Nat.le_of_ble_eq_true rfl), (Nat.le_of_ble_eq_true rfl)⟩ ⟨(Nat.le_of_ble_eq_true rfl), (Nat.le_of_ble_eq_true rfl)⟩ (Nat.le_of_ble_eq_true rfl) rfl dX12_laysPushes_68 (fun r84 S84 H locs hp84 hQ _ => ?_)
                              obtain ⟨rfl, b84, fg84⟩ := hp84
                              refine lv_iload hx hb dX12_laysPushes_71 (lv_at hl 1 rfl) ?_
                              refine lv_icmp_ge (tgt := 87) hx hb dX12_laysPushes_73 (by decide) (fun k85 => ?_) (fun k85 => ?_)
                              · have h86 := ib_le k85
                                have b87 : Bd r84 (100000) (100001) := ⟨((rf_le (by decide : Bd 100000 (100000) (100000)) b84 h86).2).1, (b84).2⟩
                                refine lv_iinc (v := 3) (lv' := [(5, .int 3), (4, .int 100000), (3, .int x39_3), (2, .int x33_2), (0, .ref (ad 0)), (1, .int a1)]) hx hb dX12_laysPushes_87 hl (k := 0) rfl (by decide) (by decide) rfl (fun ls hl => ?_)
                                refine lv_goto (tgt := 56) hx hb dX12_laysPushes_90 (by decide) ?_
                                refine lv_iload hx hb dX12_laysPushes_56 (lv_at hl 0 rfl) ?_
                                refine lv_iconst (v := 3) hx hb dX12_laysPushes_58 (by decide) ?_
                                refine lv_icmp_ge (tgt := 93) hx hb dX12_laysPushes_59 (by decide) (fun k88 => ?_) (fun k88 => ?_)
                                · have h89 := ib_le k88
                                  refine lv_aload_n hx hb dX12_laysPushes_93 rfl (lv_at hl 4 rfl) ?_
                                  refine xget E hQ 0 (by decide) c55 rfl 28 (by decide) q1496 rfl dX12_laysPushes_94 ?_
                                  refine lv_bipush (v := 12) hx hb dX12_laysPushes_97 (by decide) ?_
                                  refine lv_iload_n hx hb dX12_laysPushes_99 rfl (lv_at hl 3 rfl) ?_
                                  refine lv_imul hx hb dX12_laysPushes_100 ?_
                                  refine lv_topi (fun z90 e91 => ?_)
                                  have t92 := ib_cmul (q := 12) e91 (by decide) (by decide) b51 (by decide) (by decide)
                                  have b93 : Bd z90 (0) (1188) := ib_mulb t92 (by decide) b51
                                  refine lv_iload_n hx hb dX12_laysPushes_101 rfl (lv_at hl 2 rfl) ?_
                                  refine lv_iadd hx hb dX12_laysPushes_102 ?_
                                  refine lv_topi (fun z94 e95 => ?_)
                                  have t96 := ib_add e95 b93 b64 (by decide) (by decide)
                                  have b97 : Bd z94 (0) (1199) := ib_addb t96 b93 b64
                                  refine lv_iload hx hb dX12_laysPushes_103 (lv_at hl 1 rfl) ?_
                                  have bb98 := best3_of fg70 fg77 fg84 (stp_t k71) (stp_t k78) (stp_t k85)
                                  obtain ⟨f99, c100, b101⟩ := invM_16 hI
                                  refine xiast E hs hQ 16 (by decide) c100 (ib_in b97 (by decide) (by decide)) dX12_laysPushes_105 (fun H locs S102 eS102 hQ => ?_)
                                  have hI := invM_up_16 hI eS102 ⟨_, rfl, upd_b b101 (ib_wk (by decide : Bd 100000 (100000) (100000)) (by decide) (by decide))⟩
                                  have b104 : ∀ j, Bd ((upd f99 (z94 : Int32).toNatClampNeg 100000) j) (0) (100000) := upd_b b101 (ib_wk (by decide : Bd 100000 (100000) (100000)) (by decide) (by decide))
                                  have c103 : S102 16 = .inl (g.2 0, 1212, .inl (upd f99 (z94 : Int32).toNatClampNeg 100000)) := up_at eS102 rfl
                                  obtain ⟨z105, e106⟩ : ∃ z : Int32, z = x39_3 + 1 := ⟨_, rfl⟩
                                  have t107 := ib_add e106 b64 (by decide : Bd 1 (1) (1)) (by decide) (by decide)
                                  have b108 : Bd z105 (1) (12) := ib_addb t107 b64 (by decide : Bd 1 (1) (1))
                                  have t107 : z105.toInt = x39_3.toInt + 1 := fold_add t107 rfl (by decide)
                                  refine lv_iinc (v := z105) (lv' := [(3, .int z105), (5, .int 3), (4, .int 100000), (2, .int x33_2), (0, .ref (ad 0)), (1, .int a1)]) hx hb dX12_laysPushes_106 hl (k := 2) rfl (by rw [e106]; rfl) (by decide) rfl (fun ls hl => ?_)
                                  refine lv_goto (tgt := 39) hx hb dX12_laysPushes_109 (by decide) ?_
                                  exact ih39 _ _ _ _ z105 (ib_wk b108 (by decide) (by decide)) (by omega) hI (up_o hf39 eS102 (by decide)) (by rw [(up_eq (j := 7) eS102 (by decide)), (up_eq (j := 8) eS102 (by decide)), (up_eq (j := 10) eS102 (by decide))]; exact (tb_s hb53 hC39.1 hC39.2 c100 c103 bb98 b51 b64 (by omega) (by omega) (by omega) (by omega))) hQ (lv_sub hl [0, 3, 4, 5] rfl)
                                · have h109 := ib_nle k88
                                  exact absurd h109 (by decide)
                              · have h110 := ib_nle k85
                                have b111 : Bd r84 (0) (99999) := ⟨(b84).1, ((rf_lt b84 (by decide : Bd 100000 (100000) (100000)) h110).1).2⟩
                                refine lv_aload_n hx hb dX12_laysPushes_76 rfl (lv_at hl 4 rfl) ?_
                                refine lv_iload_n hx hb dX12_laysPushes_77 rfl (lv_at hl 3 rfl) ?_
                                refine lv_iload_n hx hb dX12_laysPushes_78 rfl (lv_at hl 2 rfl) ?_
                                refine lv_iload hx hb dX12_laysPushes_79 (lv_at hl 0 rfl) ?_
                                refine lv_iload_n hx hb dX12_laysPushes_81 rfl (lv_at hl 5 rfl) ?_
                                refine xcVi E hs hQ hml hl.1 0 (gX12_pushBy_0 l g ad hD S_39 hI x33_2 x39_3 2 a1 b51 b64 (by omega) (by omega)) mX12_pushBy q1930 (by decide) c55 rfl rfl ⟨(Nat.le_of_ble_eq_true rfl), (Nat.le_of_ble_eq_true rfl)⟩ ⟨(Nat.le_of_ble_eq_true rfl), (Nat.le_of_ble_eq_true rfl)⟩ (Nat.le_of_ble_eq_true rfl) rfl dX12_laysPushes_82 (fun r112 S112 H locs hp112 hQ _ => ?_)
                                obtain ⟨rfl, b112, fg112⟩ := hp112
                                have t113 : r112.toInt = r84.toInt := by rw [fg112, fg84]
                                have b114 : Bd r112 (0) (99999) := ⟨(b112).1, by omega⟩
                                refine lv_istore (lv' := [(4, .int r112), (5, .int 2), (3, .int x39_3), (2, .int x33_2), (0, .ref (ad 0)), (1, .int a1)]) hx hb dX12_laysPushes_85 hl (by decide) rfl (fun ls hl => ?_)
                                refine lv_iinc (v := 3) (lv' := [(5, .int 3), (4, .int r112), (3, .int x39_3), (2, .int x33_2), (0, .ref (ad 0)), (1, .int a1)]) hx hb dX12_laysPushes_87 hl (k := 1) rfl (by decide) (by decide) rfl (fun ls hl => ?_)
                                refine lv_goto (tgt := 56) hx hb dX12_laysPushes_90 (by decide) ?_
                                refine lv_iload hx hb dX12_laysPushes_56 (lv_at hl 0 rfl) ?_
                                refine lv_iconst (v := 3) hx hb dX12_laysPushes_58 (by decide) ?_
                                refine lv_icmp_ge (tgt := 93) hx hb dX12_laysPushes_59 (by decide) (fun k115 => ?_) (fun k115 => ?_)
                                · have h116 := ib_le k115
                                  refine lv_aload_n hx hb dX12_laysPushes_93 rfl (lv_at hl 4 rfl) ?_
                                  refine xget E hQ 0 (by decide) c55 rfl 28 (by decide) q1496 rfl dX12_laysPushes_94 ?_
                                  refine lv_bipush (v := 12) hx hb dX12_laysPushes_97 (by decide) ?_
                                  refine lv_iload_n hx hb dX12_laysPushes_99 rfl (lv_at hl 3 rfl) ?_
                                  refine lv_imul hx hb dX12_laysPushes_100 ?_
                                  refine lv_topi (fun z117 e118 => ?_)
                                  have t119 := ib_cmul (q := 12) e118 (by decide) (by decide) b51 (by decide) (by decide)
                                  have b120 : Bd z117 (0) (1188) := ib_mulb t119 (by decide) b51
                                  refine lv_iload_n hx hb dX12_laysPushes_101 rfl (lv_at hl 2 rfl) ?_
                                  refine lv_iadd hx hb dX12_laysPushes_102 ?_
                                  refine lv_topi (fun z121 e122 => ?_)
                                  have t123 := ib_add e122 b120 b64 (by decide) (by decide)
                                  have b124 : Bd z121 (0) (1199) := ib_addb t123 b120 b64
                                  refine lv_iload hx hb dX12_laysPushes_103 (lv_at hl 1 rfl) ?_
                                  have bb125 := best3_of fg70 fg77 fg84 (stp_t k71) (stp_t k78) (stp_f k85 (fg112.trans fg84.symm))
                                  obtain ⟨f126, c127, b128⟩ := invM_16 hI
                                  refine xiast E hs hQ 16 (by decide) c127 (ib_in b124 (by decide) (by decide)) dX12_laysPushes_105 (fun H locs S129 eS129 hQ => ?_)
                                  have hI := invM_up_16 hI eS129 ⟨_, rfl, upd_b b128 (ib_wk b114 (by decide) (by decide))⟩
                                  have b131 : ∀ j, Bd ((upd f126 (z121 : Int32).toNatClampNeg r112) j) (0) (100000) := upd_b b128 (ib_wk b114 (by decide) (by decide))
                                  have c130 : S129 16 = .inl (g.2 0, 1212, .inl (upd f126 (z121 : Int32).toNatClampNeg r112)) := up_at eS129 rfl
                                  obtain ⟨z132, e133⟩ : ∃ z : Int32, z = x39_3 + 1 := ⟨_, rfl⟩
                                  have t134 := ib_add e133 b64 (by decide : Bd 1 (1) (1)) (by decide) (by decide)
                                  have b135 : Bd z132 (1) (12) := ib_addb t134 b64 (by decide : Bd 1 (1) (1))
                                  have t134 : z132.toInt = x39_3.toInt + 1 := fold_add t134 rfl (by decide)
                                  refine lv_iinc (v := z132) (lv' := [(3, .int z132), (5, .int 3), (4, .int r112), (2, .int x33_2), (0, .ref (ad 0)), (1, .int a1)]) hx hb dX12_laysPushes_106 hl (k := 2) rfl (by rw [e133]; rfl) (by decide) rfl (fun ls hl => ?_)
                                  refine lv_goto (tgt := 39) hx hb dX12_laysPushes_109 (by decide) ?_
                                  exact ih39 _ _ _ _ z132 (ib_wk b135 (by decide) (by decide)) (by omega) hI (up_o hf39 eS129 (by decide)) (by rw [(up_eq (j := 7) eS129 (by decide)), (up_eq (j := 8) eS129 (by decide)), (up_eq (j := 10) eS129 (by decide))]; exact (tb_s hb53 hC39.1 hC39.2 c127 c130 bb125 b51 b64 (by omega) (by omega) (by omega) (by omega))) hQ (lv_sub hl [0, 3, 4, 5] rfl)
                                · have h136 := ib_nle k115
                                  exact absurd h136 (by decide)
                          · have h137 := ib_nle k78
                            have b138 : Bd r77 (0) (99999) := ⟨(b77).1, ((rf_lt b77 (by decide : Bd 100000 (100000) (100000)) h137).1).2⟩
                            refine lv_aload_n hx hb dX12_laysPushes_76 rfl (lv_at hl 4 rfl) ?_
                            refine lv_iload_n hx hb dX12_laysPushes_77 rfl (lv_at hl 3 rfl) ?_
                            refine lv_iload_n hx hb dX12_laysPushes_78 rfl (lv_at hl 2 rfl) ?_
                            refine lv_iload hx hb dX12_laysPushes_79 (lv_at hl 0 rfl) ?_
                            refine lv_iload_n hx hb dX12_laysPushes_81 rfl (lv_at hl 5 rfl) ?_
                            refine xcVi E hs hQ hml hl.1 0 (gX12_pushBy_0 l g ad hD S_39 hI x33_2 x39_3 1 a1 b51 b64 (by omega) (by omega)) mX12_pushBy q1930 (by decide) c55 rfl rfl ⟨(Nat.le_of_ble_eq_true rfl), (Nat.le_of_ble_eq_true rfl)⟩ ⟨(Nat.le_of_ble_eq_true rfl), (Nat.le_of_ble_eq_true rfl)⟩ (Nat.le_of_ble_eq_true rfl) rfl dX12_laysPushes_82 (fun r139 S139 H locs hp139 hQ _ => ?_)
                            obtain ⟨rfl, b139, fg139⟩ := hp139
                            have t140 : r139.toInt = r77.toInt := by rw [fg139, fg77]
                            have b141 : Bd r139 (0) (99999) := ⟨(b139).1, by omega⟩
                            refine lv_istore (lv' := [(4, .int r139), (5, .int 1), (3, .int x39_3), (2, .int x33_2), (0, .ref (ad 0)), (1, .int a1)]) hx hb dX12_laysPushes_85 hl (by decide) rfl (fun ls hl => ?_)
                            refine lv_iinc (v := 2) (lv' := [(5, .int 2), (4, .int r139), (3, .int x39_3), (2, .int x33_2), (0, .ref (ad 0)), (1, .int a1)]) hx hb dX12_laysPushes_87 hl (k := 1) rfl (by decide) (by decide) rfl (fun ls hl => ?_)
                            refine lv_goto (tgt := 56) hx hb dX12_laysPushes_90 (by decide) ?_
                            refine lv_iload hx hb dX12_laysPushes_56 (lv_at hl 0 rfl) ?_
                            refine lv_iconst (v := 3) hx hb dX12_laysPushes_58 (by decide) ?_
                            refine lv_icmp_ge (tgt := 93) hx hb dX12_laysPushes_59 (by decide) (fun k142 => ?_) (fun k142 => ?_)
                            · have h143 := ib_le k142
                              exact absurd h143 (by decide)
                            · have h144 := ib_nle k142
                              refine lv_aload_n hx hb dX12_laysPushes_62 rfl (lv_at hl 4 rfl) ?_
                              refine lv_iload_n hx hb dX12_laysPushes_63 rfl (lv_at hl 3 rfl) ?_
                              refine lv_iload_n hx hb dX12_laysPushes_64 rfl (lv_at hl 2 rfl) ?_
                              refine lv_iload hx hb dX12_laysPushes_65 (lv_at hl 0 rfl) ?_
                              refine lv_iload_n hx hb dX12_laysPushes_67 rfl (lv_at hl 5 rfl) ?_
                              refine xcVi E hs hQ hml hl.1 0 (gX12_pushBy_0 l g ad hD S_39 hI x33_2 x39_3 2 a1 b51 b64 (by omega) (by omega)) mX12_pushBy q1930 (by decide) c55 rfl rfl ⟨(Nat.le_of_ble_eq_true rfl), (Nat.le_of_ble_eq_true rfl)⟩ ⟨(Nat.le_of_ble_eq_true rfl), (Nat.le_of_ble_eq_true rfl)⟩ (Nat.le_of_ble_eq_true rfl) rfl dX12_laysPushes_68 (fun r145 S145 H locs hp145 hQ _ => ?_)
                              obtain ⟨rfl, b145, fg145⟩ := hp145
                              refine lv_iload hx hb dX12_laysPushes_71 (lv_at hl 1 rfl) ?_
                              refine lv_icmp_ge (tgt := 87) hx hb dX12_laysPushes_73 (by decide) (fun k146 => ?_) (fun k146 => ?_)
                              · have h147 := ib_le k146
                                refine lv_iinc (v := 3) (lv' := [(5, .int 3), (4, .int r139), (3, .int x39_3), (2, .int x33_2), (0, .ref (ad 0)), (1, .int a1)]) hx hb dX12_laysPushes_87 hl (k := 0) rfl (by decide) (by decide) rfl (fun ls hl => ?_)
                                refine lv_goto (tgt := 56) hx hb dX12_laysPushes_90 (by decide) ?_
                                refine lv_iload hx hb dX12_laysPushes_56 (lv_at hl 0 rfl) ?_
                                refine lv_iconst (v := 3) hx hb dX12_laysPushes_58 (by decide) ?_
                                refine lv_icmp_ge (tgt := 93) hx hb dX12_laysPushes_59 (by decide) (fun k148 => ?_) (fun k148 => ?_)
                                · have h149 := ib_le k148
                                  refine lv_aload_n hx hb dX12_laysPushes_93 rfl (lv_at hl 4 rfl) ?_
                                  refine xget E hQ 0 (by decide) c55 rfl 28 (by decide) q1496 rfl dX12_laysPushes_94 ?_
                                  refine lv_bipush (v := 12) hx hb dX12_laysPushes_97 (by decide) ?_
                                  refine lv_iload_n hx hb dX12_laysPushes_99 rfl (lv_at hl 3 rfl) ?_
                                  refine lv_imul hx hb dX12_laysPushes_100 ?_
                                  refine lv_topi (fun z150 e151 => ?_)
                                  have t152 := ib_cmul (q := 12) e151 (by decide) (by decide) b51 (by decide) (by decide)
                                  have b153 : Bd z150 (0) (1188) := ib_mulb t152 (by decide) b51
                                  refine lv_iload_n hx hb dX12_laysPushes_101 rfl (lv_at hl 2 rfl) ?_
                                  refine lv_iadd hx hb dX12_laysPushes_102 ?_
                                  refine lv_topi (fun z154 e155 => ?_)
                                  have t156 := ib_add e155 b153 b64 (by decide) (by decide)
                                  have b157 : Bd z154 (0) (1199) := ib_addb t156 b153 b64
                                  refine lv_iload hx hb dX12_laysPushes_103 (lv_at hl 1 rfl) ?_
                                  have bb158 := best3_of fg70 fg77 fg145 (stp_t k71) (stp_f k78 (fg139.trans fg77.symm)) (stp_t k146)
                                  obtain ⟨f159, c160, b161⟩ := invM_16 hI
                                  refine xiast E hs hQ 16 (by decide) c160 (ib_in b157 (by decide) (by decide)) dX12_laysPushes_105 (fun H locs S162 eS162 hQ => ?_)
                                  have hI := invM_up_16 hI eS162 ⟨_, rfl, upd_b b161 (ib_wk b141 (by decide) (by decide))⟩
                                  have b164 : ∀ j, Bd ((upd f159 (z154 : Int32).toNatClampNeg r139) j) (0) (100000) := upd_b b161 (ib_wk b141 (by decide) (by decide))
                                  have c163 : S162 16 = .inl (g.2 0, 1212, .inl (upd f159 (z154 : Int32).toNatClampNeg r139)) := up_at eS162 rfl
                                  obtain ⟨z165, e166⟩ : ∃ z : Int32, z = x39_3 + 1 := ⟨_, rfl⟩
                                  have t167 := ib_add e166 b64 (by decide : Bd 1 (1) (1)) (by decide) (by decide)
                                  have b168 : Bd z165 (1) (12) := ib_addb t167 b64 (by decide : Bd 1 (1) (1))
                                  have t167 : z165.toInt = x39_3.toInt + 1 := fold_add t167 rfl (by decide)
                                  refine lv_iinc (v := z165) (lv' := [(3, .int z165), (5, .int 3), (4, .int r139), (2, .int x33_2), (0, .ref (ad 0)), (1, .int a1)]) hx hb dX12_laysPushes_106 hl (k := 2) rfl (by rw [e166]; rfl) (by decide) rfl (fun ls hl => ?_)
                                  refine lv_goto (tgt := 39) hx hb dX12_laysPushes_109 (by decide) ?_
                                  exact ih39 _ _ _ _ z165 (ib_wk b168 (by decide) (by decide)) (by omega) hI (up_o hf39 eS162 (by decide)) (by rw [(up_eq (j := 7) eS162 (by decide)), (up_eq (j := 8) eS162 (by decide)), (up_eq (j := 10) eS162 (by decide))]; exact (tb_s hb53 hC39.1 hC39.2 c160 c163 bb158 b51 b64 (by omega) (by omega) (by omega) (by omega))) hQ (lv_sub hl [0, 3, 4, 5] rfl)
                                · have h169 := ib_nle k148
                                  exact absurd h169 (by decide)
                              · have h170 := ib_nle k146
                                have b171 : Bd r145 (0) (99998) := ⟨(b145).1, ((rf_lt b145 b141 h170).1).2⟩
                                have b172 : Bd r139 (1) (99999) := ⟨((rf_lt b145 b141 h170).2).1, (b141).2⟩
                                refine lv_aload_n hx hb dX12_laysPushes_76 rfl (lv_at hl 4 rfl) ?_
                                refine lv_iload_n hx hb dX12_laysPushes_77 rfl (lv_at hl 3 rfl) ?_
                                refine lv_iload_n hx hb dX12_laysPushes_78 rfl (lv_at hl 2 rfl) ?_
                                refine lv_iload hx hb dX12_laysPushes_79 (lv_at hl 0 rfl) ?_
                                refine lv_iload_n hx hb dX12_laysPushes_81 rfl (lv_at hl 5 rfl) ?_
                                refine xcVi E hs hQ hml hl.1 0 (gX12_pushBy_0 l g ad hD S_39 hI x33_2 x39_3 2 a1 b51 b64 (by omega) (by omega)) mX12_pushBy q1930 (by decide) c55 rfl rfl ⟨(Nat.le_of_ble_eq_true rfl), (Nat.le_of_ble_eq_true rfl)⟩ ⟨(Nat.le_of_ble_eq_true rfl), (Nat.le_of_ble_eq_true rfl)⟩ (Nat.le_of_ble_eq_true rfl) rfl dX12_laysPushes_82 (fun r173 S173 H locs hp173 hQ _ => ?_)
                                obtain ⟨rfl, b173, fg173⟩ := hp173
                                have t174 : r173.toInt = r145.toInt := by rw [fg173, fg145]
                                have b175 : Bd r173 (0) (99998) := ⟨(b173).1, by omega⟩
                                refine lv_istore (lv' := [(4, .int r173), (5, .int 2), (3, .int x39_3), (2, .int x33_2), (0, .ref (ad 0)), (1, .int a1)]) hx hb dX12_laysPushes_85 hl (by decide) rfl (fun ls hl => ?_)
                                refine lv_iinc (v := 3) (lv' := [(5, .int 3), (4, .int r173), (3, .int x39_3), (2, .int x33_2), (0, .ref (ad 0)), (1, .int a1)]) hx hb dX12_laysPushes_87 hl (k := 1) rfl (by decide) (by decide) rfl (fun ls hl => ?_)
                                refine lv_goto (tgt := 56) hx hb dX12_laysPushes_90 (by decide) ?_
                                refine lv_iload hx hb dX12_laysPushes_56 (lv_at hl 0 rfl) ?_
                                refine lv_iconst (v := 3) hx hb dX12_laysPushes_58 (by decide) ?_
                                refine lv_icmp_ge (tgt := 93) hx hb dX12_laysPushes_59 (by decide) (fun k176 => ?_) (fun k176 => ?_)
                                · have h177 := ib_le k176
                                  refine lv_aload_n hx hb dX12_laysPushes_93 rfl (lv_at hl 4 rfl) ?_
                                  refine xget E hQ 0 (by decide) c55 rfl 28 (by decide) q1496 rfl dX12_laysPushes_94 ?_
                                  refine lv_bipush (v := 12) hx hb dX12_laysPushes_97 (by decide) ?_
                                  refine lv_iload_n hx hb dX12_laysPushes_99 rfl (lv_at hl 3 rfl) ?_
                                  refine lv_imul hx hb dX12_laysPushes_100 ?_
                                  refine lv_topi (fun z178 e179 => ?_)
                                  have t180 := ib_cmul (q := 12) e179 (by decide) (by decide) b51 (by decide) (by decide)
                                  have b181 : Bd z178 (0) (1188) := ib_mulb t180 (by decide) b51
                                  refine lv_iload_n hx hb dX12_laysPushes_101 rfl (lv_at hl 2 rfl) ?_
                                  refine lv_iadd hx hb dX12_laysPushes_102 ?_
                                  refine lv_topi (fun z182 e183 => ?_)
                                  have t184 := ib_add e183 b181 b64 (by decide) (by decide)
                                  have b185 : Bd z182 (0) (1199) := ib_addb t184 b181 b64
                                  refine lv_iload hx hb dX12_laysPushes_103 (lv_at hl 1 rfl) ?_
                                  have bb186 := best3_of fg70 fg77 fg145 (stp_t k71) (stp_f k78 (fg139.trans fg77.symm)) (stp_f k146 (fg173.trans fg145.symm))
                                  obtain ⟨f187, c188, b189⟩ := invM_16 hI
                                  refine xiast E hs hQ 16 (by decide) c188 (ib_in b185 (by decide) (by decide)) dX12_laysPushes_105 (fun H locs S190 eS190 hQ => ?_)
                                  have hI := invM_up_16 hI eS190 ⟨_, rfl, upd_b b189 (ib_wk b175 (by decide) (by decide))⟩
                                  have b192 : ∀ j, Bd ((upd f187 (z182 : Int32).toNatClampNeg r173) j) (0) (100000) := upd_b b189 (ib_wk b175 (by decide) (by decide))
                                  have c191 : S190 16 = .inl (g.2 0, 1212, .inl (upd f187 (z182 : Int32).toNatClampNeg r173)) := up_at eS190 rfl
                                  obtain ⟨z193, e194⟩ : ∃ z : Int32, z = x39_3 + 1 := ⟨_, rfl⟩
                                  have t195 := ib_add e194 b64 (by decide : Bd 1 (1) (1)) (by decide) (by decide)
                                  have b196 : Bd z193 (1) (12) := ib_addb t195 b64 (by decide : Bd 1 (1) (1))
                                  have t195 : z193.toInt = x39_3.toInt + 1 := fold_add t195 rfl (by decide)
                                  refine lv_iinc (v := z193) (lv' := [(3, .int z193), (5, .int 3), (4, .int r173), (2, .int x33_2), (0, .ref (ad 0)), (1, .int a1)]) hx hb dX12_laysPushes_106 hl (k := 2) rfl (by rw [e194]; rfl) (by decide) rfl (fun ls hl => ?_)
                                  refine lv_goto (tgt := 39) hx hb dX12_laysPushes_109 (by decide) ?_
                                  exact ih39 _ _ _ _ z193 (ib_wk b196 (by decide) (by decide)) (by omega) hI (up_o hf39 eS190 (by decide)) (by rw [(up_eq (j := 7) eS190 (by decide)), (up_eq (j := 8) eS190 (by decide)), (up_eq (j := 10) eS190 (by decide))]; exact (tb_s hb53 hC39.1 hC39.2 c188 c191 bb186 b51 b64 (by omega) (by omega) (by omega) (by omega))) hQ (lv_sub hl [0, 3, 4, 5] rfl)
                                · have h197 := ib_nle k176
                                  exact absurd h197 (by decide)
                      · have h198 := ib_nle k71
                        have b199 : Bd r70 (0) (99999) := ⟨(b70).1, ((rf_lt b70 (by decide : Bd 100000 (100000) (100000)) h198).1).2⟩
                        refine lv_aload_n hx hb dX12_laysPushes_76 rfl (lv_at hl 4 rfl) ?_
                        refine lv_iload_n hx hb dX12_laysPushes_77 rfl (lv_at hl 3 rfl) ?_
                        refine lv_iload_n hx hb dX12_laysPushes_78 rfl (lv_at hl 2 rfl) ?_
                        refine lv_iload hx hb dX12_laysPushes_79 (lv_at hl 0 rfl) ?_
                        refine lv_iload_n hx hb dX12_laysPushes_81 rfl (lv_at hl 5 rfl) ?_
                        refine xcVi E hs hQ hml hl.1 0 (gX12_pushBy_0 l g ad hD S_39 hI x33_2 x39_3 0 a1 b51 b64 (by omega) (by omega)) mX12_pushBy q1930 (by decide) c55 rfl rfl ⟨(Nat.le_of_ble_eq_true rfl), (Nat.le_of_ble_eq_true rfl)⟩ ⟨(Nat.le_of_ble_eq_true rfl), (Nat.le_of_ble_eq_true rfl)⟩ (Nat.le_of_ble_eq_true rfl) rfl dX12_laysPushes_82 (fun r200 S200 H locs hp200 hQ _ => ?_)
                        obtain ⟨rfl, b200, fg200⟩ := hp200
                        have t201 : r200.toInt = r70.toInt := by rw [fg200, fg70]
                        have b202 : Bd r200 (0) (99999) := ⟨(b200).1, by omega⟩
                        refine lv_istore (lv' := [(4, .int r200), (5, .int 0), (3, .int x39_3), (2, .int x33_2), (0, .ref (ad 0)), (1, .int a1)]) hx hb dX12_laysPushes_85 hl (by decide) rfl (fun ls hl => ?_)
                        refine lv_iinc (v := 1) (lv' := [(5, .int 1), (4, .int r200), (3, .int x39_3), (2, .int x33_2), (0, .ref (ad 0)), (1, .int a1)]) hx hb dX12_laysPushes_87 hl (k := 1) rfl (by decide) (by decide) rfl (fun ls hl => ?_)
                        refine lv_goto (tgt := 56) hx hb dX12_laysPushes_90 (by decide) ?_
                        refine lv_iload hx hb dX12_laysPushes_56 (lv_at hl 0 rfl) ?_
                        refine lv_iconst (v := 3) hx hb dX12_laysPushes_58 (by decide) ?_
                        refine lv_icmp_ge (tgt := 93) hx hb dX12_laysPushes_59 (by decide) (fun k203 => ?_) (fun k203 => ?_)
                        · have h204 := ib_le k203
                          exact absurd h204 (by decide)
                        · have h205 := ib_nle k203
                          refine lv_aload_n hx hb dX12_laysPushes_62 rfl (lv_at hl 4 rfl) ?_
                          refine lv_iload_n hx hb dX12_laysPushes_63 rfl (lv_at hl 3 rfl) ?_
                          refine lv_iload_n hx hb dX12_laysPushes_64 rfl (lv_at hl 2 rfl) ?_
                          refine lv_iload hx hb dX12_laysPushes_65 (lv_at hl 0 rfl) ?_
                          refine lv_iload_n hx hb dX12_laysPushes_67 rfl (lv_at hl 5 rfl) ?_
                          refine xcVi E hs hQ hml hl.1 0 (gX12_pushBy_0 l g ad hD S_39 hI x33_2 x39_3 1 a1 b51 b64 (by omega) (by omega)) mX12_pushBy q1930 (by decide) c55 rfl rfl ⟨(Nat.le_of_ble_eq_true rfl), (Nat.le_of_ble_eq_true rfl)⟩ ⟨(Nat.le_of_ble_eq_true rfl), (Nat.le_of_ble_eq_true rfl)⟩ (Nat.le_of_ble_eq_true rfl) rfl dX12_laysPushes_68 (fun r206 S206 H locs hp206 hQ _ => ?_)
                          obtain ⟨rfl, b206, fg206⟩ := hp206
                          refine lv_iload hx hb dX12_laysPushes_71 (lv_at hl 1 rfl) ?_
                          refine lv_icmp_ge (tgt := 87) hx hb dX12_laysPushes_73 (by decide) (fun k207 => ?_) (fun k207 => ?_)
                          · have h208 := ib_le k207
                            refine lv_iinc (v := 2) (lv' := [(5, .int 2), (4, .int r200), (3, .int x39_3), (2, .int x33_2), (0, .ref (ad 0)), (1, .int a1)]) hx hb dX12_laysPushes_87 hl (k := 0) rfl (by decide) (by decide) rfl (fun ls hl => ?_)
                            refine lv_goto (tgt := 56) hx hb dX12_laysPushes_90 (by decide) ?_
                            refine lv_iload hx hb dX12_laysPushes_56 (lv_at hl 0 rfl) ?_
                            refine lv_iconst (v := 3) hx hb dX12_laysPushes_58 (by decide) ?_
                            refine lv_icmp_ge (tgt := 93) hx hb dX12_laysPushes_59 (by decide) (fun k209 => ?_) (fun k209 => ?_)
                            · have h210 := ib_le k209
                              exact absurd h210 (by decide)
                            · have h211 := ib_nle k209
                              refine lv_aload_n hx hb dX12_laysPushes_62 rfl (lv_at hl 4 rfl) ?_
                              refine lv_iload_n hx hb dX12_laysPushes_63 rfl (lv_at hl 3 rfl) ?_
                              refine lv_iload_n hx hb dX12_laysPushes_64 rfl (lv_at hl 2 rfl) ?_
                              refine lv_iload hx hb dX12_laysPushes_65 (lv_at hl 0 rfl) ?_
                              refine lv_iload_n hx hb dX12_laysPushes_67 rfl (lv_at hl 5 rfl) ?_
                              refine xcVi E hs hQ hml hl.1 0 (gX12_pushBy_0 l g ad hD S_39 hI x33_2 x39_3 2 a1 b51 b64 (by omega) (by omega)) mX12_pushBy q1930 (by decide) c55 rfl rfl ⟨(Nat.le_of_ble_eq_true rfl), (Nat.le_of_ble_eq_true rfl)⟩ ⟨(Nat.le_of_ble_eq_true rfl), (Nat.le_of_ble_eq_true rfl)⟩ (Nat.le_of_ble_eq_true rfl) rfl dX12_laysPushes_68 (fun r212 S212 H locs hp212 hQ _ => ?_)
                              obtain ⟨rfl, b212, fg212⟩ := hp212
                              refine lv_iload hx hb dX12_laysPushes_71 (lv_at hl 1 rfl) ?_
                              refine lv_icmp_ge (tgt := 87) hx hb dX12_laysPushes_73 (by decide) (fun k213 => ?_) (fun k213 => ?_)
                              · have h214 := ib_le k213
                                refine lv_iinc (v := 3) (lv' := [(5, .int 3), (4, .int r200), (3, .int x39_3), (2, .int x33_2), (0, .ref (ad 0)), (1, .int a1)]) hx hb dX12_laysPushes_87 hl (k := 0) rfl (by decide) (by decide) rfl (fun ls hl => ?_)
                                refine lv_goto (tgt := 56) hx hb dX12_laysPushes_90 (by decide) ?_
                                refine lv_iload hx hb dX12_laysPushes_56 (lv_at hl 0 rfl) ?_
                                refine lv_iconst (v := 3) hx hb dX12_laysPushes_58 (by decide) ?_
                                refine lv_icmp_ge (tgt := 93) hx hb dX12_laysPushes_59 (by decide) (fun k215 => ?_) (fun k215 => ?_)
                                · have h216 := ib_le k215
                                  refine lv_aload_n hx hb dX12_laysPushes_93 rfl (lv_at hl 4 rfl) ?_
                                  refine xget E hQ 0 (by decide) c55 rfl 28 (by decide) q1496 rfl dX12_laysPushes_94 ?_
                                  refine lv_bipush (v := 12) hx hb dX12_laysPushes_97 (by decide) ?_
                                  refine lv_iload_n hx hb dX12_laysPushes_99 rfl (lv_at hl 3 rfl) ?_
                                  refine lv_imul hx hb dX12_laysPushes_100 ?_
                                  refine lv_topi (fun z217 e218 => ?_)
                                  have t219 := ib_cmul (q := 12) e218 (by decide) (by decide) b51 (by decide) (by decide)
                                  have b220 : Bd z217 (0) (1188) := ib_mulb t219 (by decide) b51
                                  refine lv_iload_n hx hb dX12_laysPushes_101 rfl (lv_at hl 2 rfl) ?_
                                  refine lv_iadd hx hb dX12_laysPushes_102 ?_
                                  refine lv_topi (fun z221 e222 => ?_)
                                  have t223 := ib_add e222 b220 b64 (by decide) (by decide)
                                  have b224 : Bd z221 (0) (1199) := ib_addb t223 b220 b64
                                  refine lv_iload hx hb dX12_laysPushes_103 (lv_at hl 1 rfl) ?_
                                  have bb225 := best3_of fg70 fg206 fg212 (stp_f k71 (fg200.trans fg70.symm)) (stp_t k207) (stp_t k213)
                                  obtain ⟨f226, c227, b228⟩ := invM_16 hI
                                  refine xiast E hs hQ 16 (by decide) c227 (ib_in b224 (by decide) (by decide)) dX12_laysPushes_105 (fun H locs S229 eS229 hQ => ?_)
                                  have hI := invM_up_16 hI eS229 ⟨_, rfl, upd_b b228 (ib_wk b202 (by decide) (by decide))⟩
                                  have b231 : ∀ j, Bd ((upd f226 (z221 : Int32).toNatClampNeg r200) j) (0) (100000) := upd_b b228 (ib_wk b202 (by decide) (by decide))
                                  have c230 : S229 16 = .inl (g.2 0, 1212, .inl (upd f226 (z221 : Int32).toNatClampNeg r200)) := up_at eS229 rfl
                                  obtain ⟨z232, e233⟩ : ∃ z : Int32, z = x39_3 + 1 := ⟨_, rfl⟩
                                  have t234 := ib_add e233 b64 (by decide : Bd 1 (1) (1)) (by decide) (by decide)
                                  have b235 : Bd z232 (1) (12) := ib_addb t234 b64 (by decide : Bd 1 (1) (1))
                                  have t234 : z232.toInt = x39_3.toInt + 1 := fold_add t234 rfl (by decide)
                                  refine lv_iinc (v := z232) (lv' := [(3, .int z232), (5, .int 3), (4, .int r200), (2, .int x33_2), (0, .ref (ad 0)), (1, .int a1)]) hx hb dX12_laysPushes_106 hl (k := 2) rfl (by rw [e233]; rfl) (by decide) rfl (fun ls hl => ?_)
                                  refine lv_goto (tgt := 39) hx hb dX12_laysPushes_109 (by decide) ?_
                                  exact ih39 _ _ _ _ z232 (ib_wk b235 (by decide) (by decide)) (by omega) hI (up_o hf39 eS229 (by decide)) (by rw [(up_eq (j := 7) eS229 (by decide)), (up_eq (j := 8) eS229 (by decide)), (up_eq (j := 10) eS229 (by decide))]; exact (tb_s hb53 hC39.1 hC39.2 c227 c230 bb225 b51 b64 (by omega) (by omega) (by omega) (by omega))) hQ (lv_sub hl [0, 3, 4, 5] rfl)
                                · have h236 := ib_nle k215
                                  exact absurd h236 (by decide)
                              · have h237 := ib_nle k213
                                have b238 : Bd r212 (0) (99998) := ⟨(b212).1, ((rf_lt b212 b202 h237).1).2⟩
                                have b239 : Bd r200 (1) (99999) := ⟨((rf_lt b212 b202 h237).2).1, (b202).2⟩
                                refine lv_aload_n hx hb dX12_laysPushes_76 rfl (lv_at hl 4 rfl) ?_
                                refine lv_iload_n hx hb dX12_laysPushes_77 rfl (lv_at hl 3 rfl) ?_
                                refine lv_iload_n hx hb dX12_laysPushes_78 rfl (lv_at hl 2 rfl) ?_
                                refine lv_iload hx hb dX12_laysPushes_79 (lv_at hl 0 rfl) ?_
                                refine lv_iload_n hx hb dX12_laysPushes_81 rfl (lv_at hl 5 rfl) ?_
                                refine xcVi E hs hQ hml hl.1 0 (gX12_pushBy_0 l g ad hD S_39 hI x33_2 x39_3 2 a1 b51 b64 (by omega) (by omega)) mX12_pushBy q1930 (by decide) c55 rfl rfl ⟨(Nat.le_of_ble_eq_true rfl), (Nat.le_of_ble_eq_true rfl)⟩ ⟨(Nat.le_of_ble_eq_true rfl), (Nat.le_of_ble_eq_true rfl)⟩ (Nat.le_of_ble_eq_true rfl) rfl dX12_laysPushes_82 (fun r240 S240 H locs hp240 hQ _ => ?_)
                                obtain ⟨rfl, b240, fg240⟩ := hp240
                                have t241 : r240.toInt = r212.toInt := by rw [fg240, fg212]
                                have b242 : Bd r240 (0) (99998) := ⟨(b240).1, by omega⟩
                                refine lv_istore (lv' := [(4, .int r240), (5, .int 2), (3, .int x39_3), (2, .int x33_2), (0, .ref (ad 0)), (1, .int a1)]) hx hb dX12_laysPushes_85 hl (by decide) rfl (fun ls hl => ?_)
                                refine lv_iinc (v := 3) (lv' := [(5, .int 3), (4, .int r240), (3, .int x39_3), (2, .int x33_2), (0, .ref (ad 0)), (1, .int a1)]) hx hb dX12_laysPushes_87 hl (k := 1) rfl (by decide) (by decide) rfl (fun ls hl => ?_)
                                refine lv_goto (tgt := 56) hx hb dX12_laysPushes_90 (by decide) ?_
                                refine lv_iload hx hb dX12_laysPushes_56 (lv_at hl 0 rfl) ?_
                                refine lv_iconst (v := 3) hx hb dX12_laysPushes_58 (by decide) ?_
                                refine lv_icmp_ge (tgt := 93) hx hb dX12_laysPushes_59 (by decide) (fun k243 => ?_) (fun k243 => ?_)
                                · have h244 := ib_le k243
                                  refine lv_aload_n hx hb dX12_laysPushes_93 rfl (lv_at hl 4 rfl) ?_
                                  refine xget E hQ 0 (by decide) c55 rfl 28 (by decide) q1496 rfl dX12_laysPushes_94 ?_
                                  refine lv_bipush (v := 12) hx hb dX12_laysPushes_97 (by decide) ?_
                                  refine lv_iload_n hx hb dX12_laysPushes_99 rfl (lv_at hl 3 rfl) ?_
                                  refine lv_imul hx hb dX12_laysPushes_100 ?_
                                  refine lv_topi (fun z245 e246 => ?_)
                                  have t247 := ib_cmul (q := 12) e246 (by decide) (by decide) b51 (by decide) (by decide)
                                  have b248 : Bd z245 (0) (1188) := ib_mulb t247 (by decide) b51
                                  refine lv_iload_n hx hb dX12_laysPushes_101 rfl (lv_at hl 2 rfl) ?_
                                  refine lv_iadd hx hb dX12_laysPushes_102 ?_
                                  refine lv_topi (fun z249 e250 => ?_)
                                  have t251 := ib_add e250 b248 b64 (by decide) (by decide)
                                  have b252 : Bd z249 (0) (1199) := ib_addb t251 b248 b64
                                  refine lv_iload hx hb dX12_laysPushes_103 (lv_at hl 1 rfl) ?_
                                  have bb253 := best3_of fg70 fg206 fg212 (stp_f k71 (fg200.trans fg70.symm)) (stp_t k207) (stp_f k213 (fg240.trans fg212.symm))
                                  obtain ⟨f254, c255, b256⟩ := invM_16 hI
                                  refine xiast E hs hQ 16 (by decide) c255 (ib_in b252 (by decide) (by decide)) dX12_laysPushes_105 (fun H locs S257 eS257 hQ => ?_)
                                  have hI := invM_up_16 hI eS257 ⟨_, rfl, upd_b b256 (ib_wk b242 (by decide) (by decide))⟩
                                  have b259 : ∀ j, Bd ((upd f254 (z249 : Int32).toNatClampNeg r240) j) (0) (100000) := upd_b b256 (ib_wk b242 (by decide) (by decide))
                                  have c258 : S257 16 = .inl (g.2 0, 1212, .inl (upd f254 (z249 : Int32).toNatClampNeg r240)) := up_at eS257 rfl
                                  obtain ⟨z260, e261⟩ : ∃ z : Int32, z = x39_3 + 1 := ⟨_, rfl⟩
                                  have t262 := ib_add e261 b64 (by decide : Bd 1 (1) (1)) (by decide) (by decide)
                                  have b263 : Bd z260 (1) (12) := ib_addb t262 b64 (by decide : Bd 1 (1) (1))
                                  have t262 : z260.toInt = x39_3.toInt + 1 := fold_add t262 rfl (by decide)
                                  refine lv_iinc (v := z260) (lv' := [(3, .int z260), (5, .int 3), (4, .int r240), (2, .int x33_2), (0, .ref (ad 0)), (1, .int a1)]) hx hb dX12_laysPushes_106 hl (k := 2) rfl (by rw [e261]; rfl) (by decide) rfl (fun ls hl => ?_)
                                  refine lv_goto (tgt := 39) hx hb dX12_laysPushes_109 (by decide) ?_
                                  exact ih39 _ _ _ _ z260 (ib_wk b263 (by decide) (by decide)) (by omega) hI (up_o hf39 eS257 (by decide)) (by rw [(up_eq (j := 7) eS257 (by decide)), (up_eq (j := 8) eS257 (by decide)), (up_eq (j := 10) eS257 (by decide))]; exact (tb_s hb53 hC39.1 hC39.2 c255 c258 bb253 b51 b64 (by omega) (by omega) (by omega) (by omega))) hQ (lv_sub hl [0, 3, 4, 5] rfl)
                                · have h264 := ib_nle k243
                                  exact absurd h264 (by decide)
                          · have h265 := ib_nle k207
                            have b266 : Bd r206 (0) (99998) := ⟨(b206).1, ((rf_lt b206 b202 h265).1).2⟩
                            have b267 : Bd r200 (1) (99999) := ⟨((rf_lt b206 b202 h265).2).1, (b202).2⟩
                            refine lv_aload_n hx hb dX12_laysPushes_76 rfl (lv_at hl 4 rfl) ?_
                            refine lv_iload_n hx hb dX12_laysPushes_77 rfl (lv_at hl 3 rfl) ?_
                            refine lv_iload_n hx hb dX12_laysPushes_78 rfl (lv_at hl 2 rfl) ?_
                            refine lv_iload hx hb dX12_laysPushes_79 (lv_at hl 0 rfl) ?_
                            refine lv_iload_n hx hb dX12_laysPushes_81 rfl (lv_at hl 5 rfl) ?_
                            refine xcVi E hs hQ hml hl.1 0 (gX12_pushBy_0 l g ad hD S_39 hI x33_2 x39_3 1 a1 b51 b64 (by omega) (by omega)) mX12_pushBy q1930 (by decide) c55 rfl rfl ⟨(Nat.le_of_ble_eq_true rfl), (Nat.le_of_ble_eq_true rfl)⟩ ⟨(Nat.le_of_ble_eq_true rfl), (Nat.le_of_ble_eq_true rfl)⟩ (Nat.le_of_ble_eq_true rfl) rfl dX12_laysPushes_82 (fun r268 S268 H locs hp268 hQ _ => ?_)
                            obtain ⟨rfl, b268, fg268⟩ := hp268
                            have t269 : r268.toInt = r206.toInt := by rw [fg268, fg206]
                            have b270 : Bd r268 (0) (99998) := ⟨(b268).1, by omega⟩
                            refine lv_istore (lv' := [(4, .int r268), (5, .int 1), (3, .int x39_3), (2, .int x33_2), (0, .ref (ad 0)), (1, .int a1)]) hx hb dX12_laysPushes_85 hl (by decide) rfl (fun ls hl => ?_)
                            refine lv_iinc (v := 2) (lv' := [(5, .int 2), (4, .int r268), (3, .int x39_3), (2, .int x33_2), (0, .ref (ad 0)), (1, .int a1)]) hx hb dX12_laysPushes_87 hl (k := 1) rfl (by decide) (by decide) rfl (fun ls hl => ?_)
                            refine lv_goto (tgt := 56) hx hb dX12_laysPushes_90 (by decide) ?_
                            refine lv_iload hx hb dX12_laysPushes_56 (lv_at hl 0 rfl) ?_
                            refine lv_iconst (v := 3) hx hb dX12_laysPushes_58 (by decide) ?_
                            refine lv_icmp_ge (tgt := 93) hx hb dX12_laysPushes_59 (by decide) (fun k271 => ?_) (fun k271 => ?_)
                            · have h272 := ib_le k271
                              exact absurd h272 (by decide)
                            · have h273 := ib_nle k271
                              refine lv_aload_n hx hb dX12_laysPushes_62 rfl (lv_at hl 4 rfl) ?_
                              refine lv_iload_n hx hb dX12_laysPushes_63 rfl (lv_at hl 3 rfl) ?_
                              refine lv_iload_n hx hb dX12_laysPushes_64 rfl (lv_at hl 2 rfl) ?_
                              refine lv_iload hx hb dX12_laysPushes_65 (lv_at hl 0 rfl) ?_
                              refine lv_iload_n hx hb dX12_laysPushes_67 rfl (lv_at hl 5 rfl) ?_
                              refine xcVi E hs hQ hml hl.1 0 (gX12_pushBy_0 l g ad hD S_39 hI x33_2 x39_3 2 a1 b51 b64 (by omega) (by omega)) mX12_pushBy q1930 (by decide) c55 rfl rfl ⟨(Nat.le_of_ble_eq_true rfl), (Nat.le_of_ble_eq_true rfl)⟩ ⟨(Nat.le_of_ble_eq_true rfl), (Nat.le_of_ble_eq_true rfl)⟩ (Nat.le_of_ble_eq_true rfl) rfl dX12_laysPushes_68 (fun r274 S274 H locs hp274 hQ _ => ?_)
                              obtain ⟨rfl, b274, fg274⟩ := hp274
                              refine lv_iload hx hb dX12_laysPushes_71 (lv_at hl 1 rfl) ?_
                              refine lv_icmp_ge (tgt := 87) hx hb dX12_laysPushes_73 (by decide) (fun k275 => ?_) (fun k275 => ?_)
                              · have h276 := ib_le k275
                                refine lv_iinc (v := 3) (lv' := [(5, .int 3), (4, .int r268), (3, .int x39_3), (2, .int x33_2), (0, .ref (ad 0)), (1, .int a1)]) hx hb dX12_laysPushes_87 hl (k := 0) rfl (by decide) (by decide) rfl (fun ls hl => ?_)
                                refine lv_goto (tgt := 56) hx hb dX12_laysPushes_90 (by decide) ?_
                                refine lv_iload hx hb dX12_laysPushes_56 (lv_at hl 0 rfl) ?_
                                refine lv_iconst (v := 3) hx hb dX12_laysPushes_58 (by decide) ?_
                                refine lv_icmp_ge (tgt := 93) hx hb dX12_laysPushes_59 (by decide) (fun k277 => ?_) (fun k277 => ?_)
                                · have h278 := ib_le k277
                                  refine lv_aload_n hx hb dX12_laysPushes_93 rfl (lv_at hl 4 rfl) ?_
                                  refine xget E hQ 0 (by decide) c55 rfl 28 (by decide) q1496 rfl dX12_laysPushes_94 ?_
                                  refine lv_bipush (v := 12) hx hb dX12_laysPushes_97 (by decide) ?_
                                  refine lv_iload_n hx hb dX12_laysPushes_99 rfl (lv_at hl 3 rfl) ?_
                                  refine lv_imul hx hb dX12_laysPushes_100 ?_
                                  refine lv_topi (fun z279 e280 => ?_)
                                  have t281 := ib_cmul (q := 12) e280 (by decide) (by decide) b51 (by decide) (by decide)
                                  have b282 : Bd z279 (0) (1188) := ib_mulb t281 (by decide) b51
                                  refine lv_iload_n hx hb dX12_laysPushes_101 rfl (lv_at hl 2 rfl) ?_
                                  refine lv_iadd hx hb dX12_laysPushes_102 ?_
                                  refine lv_topi (fun z283 e284 => ?_)
                                  have t285 := ib_add e284 b282 b64 (by decide) (by decide)
                                  have b286 : Bd z283 (0) (1199) := ib_addb t285 b282 b64
                                  refine lv_iload hx hb dX12_laysPushes_103 (lv_at hl 1 rfl) ?_
                                  have bb287 := best3_of fg70 fg206 fg274 (stp_f k71 (fg200.trans fg70.symm)) (stp_f k207 (fg268.trans fg206.symm)) (stp_t k275)
                                  obtain ⟨f288, c289, b290⟩ := invM_16 hI
                                  refine xiast E hs hQ 16 (by decide) c289 (ib_in b286 (by decide) (by decide)) dX12_laysPushes_105 (fun H locs S291 eS291 hQ => ?_)
                                  have hI := invM_up_16 hI eS291 ⟨_, rfl, upd_b b290 (ib_wk b270 (by decide) (by decide))⟩
                                  have b293 : ∀ j, Bd ((upd f288 (z283 : Int32).toNatClampNeg r268) j) (0) (100000) := upd_b b290 (ib_wk b270 (by decide) (by decide))
                                  have c292 : S291 16 = .inl (g.2 0, 1212, .inl (upd f288 (z283 : Int32).toNatClampNeg r268)) := up_at eS291 rfl
                                  obtain ⟨z294, e295⟩ : ∃ z : Int32, z = x39_3 + 1 := ⟨_, rfl⟩
                                  have t296 := ib_add e295 b64 (by decide : Bd 1 (1) (1)) (by decide) (by decide)
                                  have b297 : Bd z294 (1) (12) := ib_addb t296 b64 (by decide : Bd 1 (1) (1))
                                  have t296 : z294.toInt = x39_3.toInt + 1 := fold_add t296 rfl (by decide)
                                  refine lv_iinc (v := z294) (lv' := [(3, .int z294), (5, .int 3), (4, .int r268), (2, .int x33_2), (0, .ref (ad 0)), (1, .int a1)]) hx hb dX12_laysPushes_106 hl (k := 2) rfl (by rw [e295]; rfl) (by decide) rfl (fun ls hl => ?_)
                                  refine lv_goto (tgt := 39) hx hb dX12_laysPushes_109 (by decide) ?_
                                  exact ih39 _ _ _ _ z294 (ib_wk b297 (by decide) (by decide)) (by omega) hI (up_o hf39 eS291 (by decide)) (by rw [(up_eq (j := 7) eS291 (by decide)), (up_eq (j := 8) eS291 (by decide)), (up_eq (j := 10) eS291 (by decide))]; exact (tb_s hb53 hC39.1 hC39.2 c289 c292 bb287 b51 b64 (by omega) (by omega) (by omega) (by omega))) hQ (lv_sub hl [0, 3, 4, 5] rfl)
                                · have h298 := ib_nle k277
                                  exact absurd h298 (by decide)
                              · have h299 := ib_nle k275
                                have b300 : Bd r274 (0) (99997) := ⟨(b274).1, ((rf_lt b274 b270 h299).1).2⟩
                                have b301 : Bd r268 (1) (99998) := ⟨((rf_lt b274 b270 h299).2).1, (b270).2⟩
                                refine lv_aload_n hx hb dX12_laysPushes_76 rfl (lv_at hl 4 rfl) ?_
                                refine lv_iload_n hx hb dX12_laysPushes_77 rfl (lv_at hl 3 rfl) ?_
                                refine lv_iload_n hx hb dX12_laysPushes_78 rfl (lv_at hl 2 rfl) ?_
                                refine lv_iload hx hb dX12_laysPushes_79 (lv_at hl 0 rfl) ?_
                                refine lv_iload_n hx hb dX12_laysPushes_81 rfl (lv_at hl 5 rfl) ?_
                                refine xcVi E hs hQ hml hl.1 0 (gX12_pushBy_0 l g ad hD S_39 hI x33_2 x39_3 2 a1 b51 b64 (by omega) (by omega)) mX12_pushBy q1930 (by decide) c55 rfl rfl ⟨(Nat.le_of_ble_eq_true rfl), (Nat.le_of_ble_eq_true rfl)⟩ ⟨(Nat.le_of_ble_eq_true rfl), (Nat.le_of_ble_eq_true rfl)⟩ (Nat.le_of_ble_eq_true rfl) rfl dX12_laysPushes_82 (fun r302 S302 H locs hp302 hQ _ => ?_)
                                obtain ⟨rfl, b302, fg302⟩ := hp302
                                have t303 : r302.toInt = r274.toInt := by rw [fg302, fg274]
                                have b304 : Bd r302 (0) (99997) := ⟨(b302).1, by omega⟩
                                refine lv_istore (lv' := [(4, .int r302), (5, .int 2), (3, .int x39_3), (2, .int x33_2), (0, .ref (ad 0)), (1, .int a1)]) hx hb dX12_laysPushes_85 hl (by decide) rfl (fun ls hl => ?_)
                                refine lv_iinc (v := 3) (lv' := [(5, .int 3), (4, .int r302), (3, .int x39_3), (2, .int x33_2), (0, .ref (ad 0)), (1, .int a1)]) hx hb dX12_laysPushes_87 hl (k := 1) rfl (by decide) (by decide) rfl (fun ls hl => ?_)
                                refine lv_goto (tgt := 56) hx hb dX12_laysPushes_90 (by decide) ?_
                                refine lv_iload hx hb dX12_laysPushes_56 (lv_at hl 0 rfl) ?_
                                refine lv_iconst (v := 3) hx hb dX12_laysPushes_58 (by decide) ?_
                                refine lv_icmp_ge (tgt := 93) hx hb dX12_laysPushes_59 (by decide) (fun k305 => ?_) (fun k305 => ?_)
                                · have h306 := ib_le k305
                                  refine lv_aload_n hx hb dX12_laysPushes_93 rfl (lv_at hl 4 rfl) ?_
                                  refine xget E hQ 0 (by decide) c55 rfl 28 (by decide) q1496 rfl dX12_laysPushes_94 ?_
                                  refine lv_bipush (v := 12) hx hb dX12_laysPushes_97 (by decide) ?_
                                  refine lv_iload_n hx hb dX12_laysPushes_99 rfl (lv_at hl 3 rfl) ?_
                                  refine lv_imul hx hb dX12_laysPushes_100 ?_
                                  refine lv_topi (fun z307 e308 => ?_)
                                  have t309 := ib_cmul (q := 12) e308 (by decide) (by decide) b51 (by decide) (by decide)
                                  have b310 : Bd z307 (0) (1188) := ib_mulb t309 (by decide) b51
                                  refine lv_iload_n hx hb dX12_laysPushes_101 rfl (lv_at hl 2 rfl) ?_
                                  refine lv_iadd hx hb dX12_laysPushes_102 ?_
                                  refine lv_topi (fun z311 e312 => ?_)
                                  have t313 := ib_add e312 b310 b64 (by decide) (by decide)
                                  have b314 : Bd z311 (0) (1199) := ib_addb t313 b310 b64
                                  refine lv_iload hx hb dX12_laysPushes_103 (lv_at hl 1 rfl) ?_
                                  have bb315 := best3_of fg70 fg206 fg274 (stp_f k71 (fg200.trans fg70.symm)) (stp_f k207 (fg268.trans fg206.symm)) (stp_f k275 (fg302.trans fg274.symm))
                                  obtain ⟨f316, c317, b318⟩ := invM_16 hI
                                  refine xiast E hs hQ 16 (by decide) c317 (ib_in b314 (by decide) (by decide)) dX12_laysPushes_105 (fun H locs S319 eS319 hQ => ?_)
                                  have hI := invM_up_16 hI eS319 ⟨_, rfl, upd_b b318 (ib_wk b304 (by decide) (by decide))⟩
                                  have b321 : ∀ j, Bd ((upd f316 (z311 : Int32).toNatClampNeg r302) j) (0) (100000) := upd_b b318 (ib_wk b304 (by decide) (by decide))
                                  have c320 : S319 16 = .inl (g.2 0, 1212, .inl (upd f316 (z311 : Int32).toNatClampNeg r302)) := up_at eS319 rfl
                                  obtain ⟨z322, e323⟩ : ∃ z : Int32, z = x39_3 + 1 := ⟨_, rfl⟩
                                  have t324 := ib_add e323 b64 (by decide : Bd 1 (1) (1)) (by decide) (by decide)
                                  have b325 : Bd z322 (1) (12) := ib_addb t324 b64 (by decide : Bd 1 (1) (1))
                                  have t324 : z322.toInt = x39_3.toInt + 1 := fold_add t324 rfl (by decide)
                                  refine lv_iinc (v := z322) (lv' := [(3, .int z322), (5, .int 3), (4, .int r302), (2, .int x33_2), (0, .ref (ad 0)), (1, .int a1)]) hx hb dX12_laysPushes_106 hl (k := 2) rfl (by rw [e323]; rfl) (by decide) rfl (fun ls hl => ?_)
                                  refine lv_goto (tgt := 39) hx hb dX12_laysPushes_109 (by decide) ?_
                                  exact ih39 _ _ _ _ z322 (ib_wk b325 (by decide) (by decide)) (by omega) hI (up_o hf39 eS319 (by decide)) (by rw [(up_eq (j := 7) eS319 (by decide)), (up_eq (j := 8) eS319 (by decide)), (up_eq (j := 10) eS319 (by decide))]; exact (tb_s hb53 hC39.1 hC39.2 c317 c320 bb315 b51 b64 (by omega) (by omega) (by omega) (by omega))) hQ (lv_sub hl [0, 3, 4, 5] rfl)
                                · have h326 := ib_nle k305
                                  exact absurd h326 (by decide)
              obtain ⟨n39, hn39⟩ := fu_n (12)
              exact loop39 n39 _ _ _ _ 0 (ib_wk (by decide : Bd 0 (0) (0)) (by decide) (by decide)) (by have : (0 : Int32).toInt = 0 := (by decide); omega) hI o_refl ⟨hC33, tb_r0 (by decide)⟩ hQ (lv_sub hl [0, 1, 2, 3] rfl)
        obtain ⟨n33, hn33⟩ := fu_n (100)
        have hb327 : Bd (arr (S_2 7) 0) 1 12 := by rw [arr_of c43, ee5]; exact b11
        have hn328 : (arr (S_2 7) 0).toInt = v4.toInt := by rw [arr_of c43, ee5]
        exact loop33 n33 _ _ _ _ 99 (ib_wk (by decide : Bd 99 (99) (99)) (by decide) (by decide)) (by have : (99 : Int32).toInt = 99 := (by decide); omega) hI o_refl (tb_e (n := x2_2.toInt) hC2 (by omega) (by decide)) hQ (lv_sub hl [0, 1, 2] rfl)
      · have h329 := ib_nle k44
        have b330 : Bd x2_2 (0) (11) := ⟨(Bx2_2).1, ((rf_lt Bx2_2 b11 h329).1).2⟩
        refine lv_aload_n hx hb dX12_laysPushes_12 rfl (lv_at hl 1 rfl) ?_
        refine xget E hQ 0 (by decide) c42 rfl 28 (by decide) q1496 rfl dX12_laysPushes_13 ?_
        refine lv_sipush (v := 1200) hx hb dX12_laysPushes_16 (by decide) ?_
        refine lv_iload_n hx hb dX12_laysPushes_19 rfl (lv_at hl 0 rfl) ?_
        refine lv_iadd hx hb dX12_laysPushes_20 ?_
        refine lv_topi (fun z331 e332 => ?_)
        have t333 := ib_add e332 (by decide : Bd 1200 (1200) (1200)) b330 (by decide) (by decide)
        have b334 : Bd z331 (1200) (1211) := ib_addb t333 (by decide : Bd 1200 (1200) (1200)) b330
        have t333 : z331.toInt = 1200 + x2_2.toInt := fold_add t333 (by decide) rfl
        refine lv_ldc (v := 100000) hx hb E.2.2.1 (E.2.2.2.1 _ q1648) dX12_laysPushes_21 ?_
        obtain ⟨f335, c336, b337⟩ := invM_16 hI
        refine xiast E hs hQ 16 (by decide) c336 (ib_in b334 (by decide) (by decide)) dX12_laysPushes_23 (fun H locs S338 eS338 hQ => ?_)
        have hI := invM_up_16 hI eS338 ⟨_, rfl, upd_b b337 (ib_wk (by decide : Bd 100000 (100000) (100000)) (by decide) (by decide))⟩
        have b340 : ∀ j, Bd ((upd f335 (z331 : Int32).toNatClampNeg 100000) j) (0) (100000) := upd_b b337 (ib_wk (by decide : Bd 100000 (100000) (100000)) (by decide) (by decide))
        have c339 : S338 16 = .inl (g.2 0, 1212, .inl (upd f335 (z331 : Int32).toNatClampNeg 100000)) := up_at eS338 rfl
        obtain ⟨z341, e342⟩ : ∃ z : Int32, z = x2_2 + 1 := ⟨_, rfl⟩
        have t343 := ib_add e342 b330 (by decide : Bd 1 (1) (1)) (by decide) (by decide)
        have b344 : Bd z341 (1) (12) := ib_addb t343 b330 (by decide : Bd 1 (1) (1))
        have t343 : z341.toInt = x2_2.toInt + 1 := fold_add t343 rfl (by decide)
        refine lv_iinc (v := z341) (lv' := [(2, .int z341), (0, .ref (ad 0)), (1, .int a1)]) hx hb dX12_laysPushes_24 hl (k := 0) rfl (by rw [e342]; rfl) (by decide) rfl (fun ls hl => ?_)
        refine lv_goto (tgt := 2) hx hb dX12_laysPushes_27 (by decide) ?_
        exact ih2 _ _ _ _ z341 (ib_wk b344 (by decide) (by decide)) (by omega) hI (up_o hf2 eS338 (by decide)) (tb_2 (x := x2_2) hC2 c336 c339 rfl (by omega) (by omega) (by omega)) hQ (lv_sub hl [0, 1, 2] rfl)
  obtain ⟨n2, hn2⟩ := fu_n (12)
  exact loop2 n2 _ _ _ _ 0 (ib_wk (by decide : Bd 0 (0) (0)) (by decide) (by decide)) (by have : (0 : Int32).toInt = 0 := (by decide); omega) hI o_refl (tb_0 (by decide)) hQ (lv_sub hl [0, 1, 2] rfl)
set_option maxHeartbeats 4000000 in
set_option maxRecDepth 100000 in
theorem gX12_pushOf_0 (l : Launch) (g : GG) (ad : Nat → Nat) (hD : Dj ad 20) (S : SS) (hI : InvM g ad S) (a1 : Int32) (a2 : Int32) (a3 : Int32) (ba1 : Bd a1 (0) (7)) (hq1 : 0 ≤ elm (S 7) 0 + (-1)) (hq2 : 0 ≤ elm (S 7) 1 + (-1)) : Met l yX12_pushOf (wG (.code yX12_pushOf cX12_pushOf 8 (some .int))) (Rm 5) (XPre g ad 20 S [.ref (ad 0), .int a1, .int a2, .int a3]) (va_Qi (fun r S' => InvM g ad S' ∧ (∀ j, j ∉ ([0, 16] : List Nat) → S' j = S j) ∧ Bd r (-1) (99)) (QB g ad 20) (FA ad 20)) 0 0 (FA ad 20) := by
  refine xmet cX12_pushOf "EbbWreckModel" (by decide) rfl (Nat.le_of_ble_eq_true rfl) (fun p e s m below meth c E hr hlk hml hQ ls hl => ?_)
  have hx := E.1
  have hb := E.2.1
  have hs : Sp ad 20 (FA ad 20) := Sp.fa hD
  have hl : lv_has ls 8 [(0, .ref (ad 0)), (1, .int a1), (2, .int a2), (3, .int a3)] := hl
  obtain ⟨f1, c2, b3⟩ := invM_7 hI
  obtain ⟨v4, ee5⟩ : ∃ z : Int32, f1 0 = z := ⟨_, rfl⟩
  have b6 : Bd v4 (0) (12) := (by rw [← ee5]; exact b3.1 0 (by decide))
  obtain ⟨v7, ee8⟩ : ∃ z : Int32, f1 1 = z := ⟨_, rfl⟩
  have b9 : Bd v7 (0) (12) := (by rw [← ee8]; exact b3.2.1 1 (by decide))
  have q10 : elm (S 7) 0 = v4.toInt := (elm_of c2 0).trans (congrArg Int32.toInt (ee5))
  have b11 : Bd v4 (1) (12) := ⟨by omega, (b6).2⟩
  have q12 : elm (S 7) 1 = v7.toInt := (elm_of c2 1).trans (congrArg Int32.toInt (ee8))
  have b13 : Bd v7 (1) (12) := ⟨by omega, (b9).2⟩
  refine lv_aload_n hx hb dX12_pushOf_0 rfl (lv_at hl 0 rfl) ?_
  refine lv_iload_n hx hb dX12_pushOf_1 rfl (lv_at hl 2 rfl) ?_
  obtain ⟨v15, v16, v18, v20, v22, v23, w24, v25, v27, v28, v29, v30, v32, v34, v36, v38, v40, v41, v42, c43, b17, b19, b21, b26, b31, b33, b35, b37, b39⟩ := invM_0 hI
  have c43 : S 0 = .inr (12, [.int v15, .ref (ad 1), .ref (ad 2), .ref (ad 3), .ref (ad 4), .ref (ad 5), .int v16, .int v18, .int v20, .int v22, .int v23, .long w24, .int v25, .int v27, .int v28, .int v29, .ref (ad 6), .ref (ad 7), .ref (ad 8), .ref (ad 9), .ref (ad 10), .ref (ad 11), .ref (ad 12), .ref (ad 13), .ref (ad 14), .ref (ad 15), .int v30, .int v32, .ref (ad 16), .int v34, .int v36, .int v38, .int v40, .int v41, .ref (ad 17), .ref (ad 18), .int v42, .ref (ad 19)]) := c43
  refine xcVv E hs hQ hml hl.1 0 (gX12_laysPushesT l g ad hD S hI a2 (by omega) (by omega)) mX12_laysPushes q1926 (by decide) c43 rfl rfl ⟨(Nat.le_of_ble_eq_true rfl), (Nat.le_of_ble_eq_true rfl)⟩ ⟨(Nat.le_of_ble_eq_true rfl), (Nat.le_of_ble_eq_true rfl)⟩ (Nat.le_of_ble_eq_true rfl) rfl dX12_pushOf_2 (fun S14 H locs hp14 hQ _ => ?_)
  obtain ⟨hI, o14, u14_0⟩ := hp14
  refine lv_aload_n hx hb dX12_pushOf_5 rfl (lv_at hl 0 rfl) ?_
  have c44 : S14 0 = .inr (12, [.int v15, .ref (ad 1), .ref (ad 2), .ref (ad 3), .ref (ad 4), .ref (ad 5), .int v16, .int v18, .int v20, .int v22, .int v23, .long w24, .int v25, .int v27, .int v28, .int v29, .ref (ad 6), .ref (ad 7), .ref (ad 8), .ref (ad 9), .ref (ad 10), .ref (ad 11), .ref (ad 12), .ref (ad 13), .ref (ad 14), .ref (ad 15), .int v30, .int v32, .ref (ad 16), .int v34, .int v36, .int v38, .int v40, .int v41, .ref (ad 17), .ref (ad 18), .int v42, .ref (ad 19)]) := ((o14 0 (by decide)).trans c43)
  refine xget E hQ 0 (by decide) c44 rfl 28 (by decide) q1496 rfl dX12_pushOf_6 ?_
  refine lv_aload_n hx hb dX12_pushOf_9 rfl (lv_at hl 0 rfl) ?_
  refine lv_iload_n hx hb dX12_pushOf_10 rfl (lv_at hl 1 rfl) ?_
  refine xcVi E hs hQ hml hl.1 0 (gX12_first_0 l g ad hD S14 hI a1 ba1) mX12_first q1934 (by decide) c44 rfl rfl ⟨(Nat.le_of_ble_eq_true rfl), (Nat.le_of_ble_eq_true rfl)⟩ ⟨(Nat.le_of_ble_eq_true rfl), (Nat.le_of_ble_eq_true rfl)⟩ (Nat.le_of_ble_eq_true rfl) rfl dX12_pushOf_11 (fun r45 S45 H locs hp45 hQ _ => ?_)
  obtain ⟨rfl, b45⟩ := hp45
  obtain ⟨f46, c47, b48⟩ := invM_16 hI
  refine xiald E hQ 16 (by decide) c47 (ib_in b45 (by decide) (by decide)) dX12_pushOf_14 ?_
  refine lv_topi (fun z49 e50 => ?_)
  have b51 : Bd z49 (0) (100000) := (by rw [e50]; exact b48 _)
  refine lv_ldc (v := 100000) hx hb E.2.2.1 (E.2.2.2.1 _ q1648) dX12_pushOf_15 ?_
  refine lv_icmp_lt (tgt := 22) hx hb dX12_pushOf_17 (by decide) (fun k52 => ?_) (fun k52 => ?_)
  · have h53 := ib_lt k52
    have b54 : Bd z49 (0) (99999) := ⟨(b51).1, ((rf_lt b51 (by decide : Bd 100000 (100000) (100000)) h53).1).2⟩
    refine lv_aload_n hx hb dX12_pushOf_22 rfl (lv_at hl 0 rfl) ?_
    refine xget E hQ 0 (by decide) c44 rfl 19 (by decide) q1487 rfl dX12_pushOf_23 ?_
    refine lv_iconst (v := 3) hx hb dX12_pushOf_26 (by decide) ?_
    refine lv_iload_n hx hb dX12_pushOf_27 rfl (lv_at hl 1 rfl) ?_
    refine lv_imul hx hb dX12_pushOf_28 ?_
    refine lv_topi (fun z55 e56 => ?_)
    have t57 := ib_cmul (q := 3) e56 (by decide) (by decide) ba1 (by decide) (by decide)
    have b58 : Bd z55 (0) (21) := ib_mulb t57 (by decide) ba1
    refine lv_iconst (v := 1) hx hb dX12_pushOf_29 (by decide) ?_
    refine lv_iadd hx hb dX12_pushOf_30 ?_
    refine lv_topi (fun z59 e60 => ?_)
    have t61 := ib_add e60 b58 (by decide : Bd 1 (1) (1)) (by decide) (by decide)
    have b62 : Bd z59 (1) (22) := ib_addb t61 b58 (by decide : Bd 1 (1) (1))
    have t61 : z59.toInt = z55.toInt + 1 := fold_add t61 rfl (by decide)
    obtain ⟨f63, c64, b65⟩ := invM_9 hI
    refine xiald E hQ 9 (by decide) c64 (ib_in b62 (by decide) (by decide)) dX12_pushOf_31 ?_
    refine lv_topi (fun z66 e67 => ?_)
    have b68 : Bd z66 (0) (11) := (by rw [e67]; exact b65.1 _ (by rw [clampN b62]; omega))
    refine lv_istore (lv' := [(4, .int z66), (0, .ref (ad 0)), (1, .int a1), (2, .int a2), (3, .int a3)]) hx hb dX12_pushOf_32 hl (by decide) rfl (fun ls hl => ?_)
    refine lv_iconst (v := 0) hx hb dX12_pushOf_34 (by decide) ?_
    refine lv_istore (lv' := [(5, .int 0), (4, .int z66), (0, .ref (ad 0)), (1, .int a1), (2, .int a2), (3, .int a3)]) hx hb dX12_pushOf_35 hl (by decide) rfl (fun ls hl => ?_)
    refine lv_aload_n hx hb dX12_pushOf_37 rfl (lv_at hl 2 rfl) ?_
    refine xget E hQ 0 (by decide) c44 rfl 19 (by decide) q1487 rfl dX12_pushOf_38 ?_
    refine lv_iconst (v := 3) hx hb dX12_pushOf_41 (by decide) ?_
    refine lv_iload_n hx hb dX12_pushOf_42 rfl (lv_at hl 3 rfl) ?_
    refine lv_imul hx hb dX12_pushOf_43 ?_
    refine lv_topi (fun z69 e70 => ?_)
    have t71 := ib_cmul (q := 3) e70 (by decide) (by decide) ba1 (by decide) (by decide)
    have b72 : Bd z69 (0) (21) := ib_mulb t71 (by decide) ba1
    refine lv_iconst (v := 2) hx hb dX12_pushOf_44 (by decide) ?_
    refine lv_iadd hx hb dX12_pushOf_45 ?_
    refine lv_topi (fun z73 e74 => ?_)
    have t75 := ib_add e74 b72 (by decide : Bd 2 (2) (2)) (by decide) (by decide)
    have b76 : Bd z73 (2) (23) := ib_addb t75 b72 (by decide : Bd 2 (2) (2))
    have t75 : z73.toInt = z69.toInt + 2 := fold_add t75 rfl (by decide)
    refine xiald E hQ 9 (by decide) c64 (ib_in b76 (by decide) (by decide)) dX12_pushOf_46 ?_
    refine lv_topi (fun z77 e78 => ?_)
    have b79 : Bd z77 (0) (99) := (by rw [e78]; exact b65.2 _ (by rw [clampN b76]; omega))
    refine lv_istore (lv' := [(6, .int z77), (5, .int 0), (4, .int z66), (0, .ref (ad 0)), (1, .int a1), (2, .int a2), (3, .int a3)]) hx hb dX12_pushOf_47 hl (by decide) rfl (fun ls hl => ?_)
    have loop49 : ∀ (n : Nat) (S_49 : SS) (H : Heap) (locs : List Loc) (ls : Array Slot) (x49_4 : Int32) (x49_5 : Int32) (x49_6 : Int32) (y49_0_0 : Int32) (y49_0_6 : Int32) (y49_0_7 : Int32) (y49_0_8 : Int32) (y49_0_9 : Int32) (y49_0_10 : Int32) (wy49_0_11 : Int64) (y49_0_12 : Int32) (y49_0_13 : Int32) (y49_0_14 : Int32) (y49_0_15 : Int32) (y49_0_26 : Int32) (y49_0_27 : Int32) (y49_0_29 : Int32) (y49_0_30 : Int32) (y49_0_31 : Int32) (y49_0_32 : Int32) (y49_0_33 : Int32) (y49_0_36 : Int32), Bd x49_4 (0) (11) → Bd x49_6 (0) (100) → Bd y49_0_6 (0) (1200) → Bd y49_0_7 (0) (1200) → Bd y49_0_8 (0) (4) → Bd y49_0_12 (0) (3) → Bd y49_0_26 (0) (11) → Bd y49_0_27 (-1) (400) → Bd y49_0_29 (0) (2) → Bd y49_0_30 (0) (11) → Bd y49_0_31 (-1) (468) → (-1) * x49_6.toInt + 100 < ((n : Nat) : Int) → InvM g ad S_49 → (∀ j, j ∉ ([0] : List Nat) → S_49 j = S14 j) → S_49 0 = .inr (12, [.int y49_0_0, .ref (ad 1), .ref (ad 2), .ref (ad 3), .ref (ad 4), .ref (ad 5), .int y49_0_6, .int y49_0_7, .int y49_0_8, .int y49_0_9, .int y49_0_10, .long wy49_0_11, .int y49_0_12, .int y49_0_13, .int y49_0_14, .int y49_0_15, .ref (ad 6), .ref (ad 7), .ref (ad 8), .ref (ad 9), .ref (ad 10), .ref (ad 11), .ref (ad 12), .ref (ad 13), .ref (ad 14), .ref (ad 15), .int y49_0_26, .int y49_0_27, .ref (ad 16), .int y49_0_29, .int y49_0_30, .int y49_0_31, .int y49_0_32, .int y49_0_33, .ref (ad 17), .ref (ad 18), .int y49_0_36, .ref (ad 19)]) → ((arr (S_49 16) (12 * x49_6.toInt.toNat + x49_4.toInt.toNat)).toInt < 100000 ∧ x49_4.toInt < (arr (S_49 7) 0).toInt) → Hp g ad 20 S_49 (FA ad 20) s.heap H locs → lv_has ls 8 [(6, .int x49_6), (5, .int x49_5), (4, .int x49_4), (0, .ref (ad 0)), (1, .int a1), (2, .int a2), (3, .int a3)] → W p l e (Rm 5) s m [.ref (ad 0), .int a1, .int a2, .int a3].toArray below meth c H locs 0 0 (MQ below (va_Qi (fun r S' => InvM g ad S' ∧ (∀ j, j ∉ ([0, 16] : List Nat) → S' j = S j) ∧ Bd r (-1) (99)) (QB g ad 20) (FA ad 20)) [.ref (ad 0), .int a1, .int a2, .int a3].toArray s 0 0 (FA ad 20)) (F0 m 49 ls []) := by
      intro n
      induction n with
      | zero => intro S_49 H locs ls x49_4 x49_5 x49_6 y49_0_0 y49_0_6 y49_0_7 y49_0_8 y49_0_9 y49_0_10 wy49_0_11 y49_0_12 y49_0_13 y49_0_14 y49_0_15 y49_0_26 y49_0_27 y49_0_29 y49_0_30 y49_0_31 y49_0_32 y49_0_33 y49_0_36 Bx49_4 Bx49_6 By49_0_6 By49_0_7 By49_0_8 By49_0_12 By49_0_26 By49_0_27 By49_0_29 By49_0_30 By49_0_31 hn49_ hI hf49 cl49_0 hC49 hQ hl; exfalso; have := (Bx49_6).2; omega
      | succ n49_ ih49 =>
        intro S_49 H locs ls x49_4 x49_5 x49_6 y49_0_0 y49_0_6 y49_0_7 y49_0_8 y49_0_9 y49_0_10 wy49_0_11 y49_0_12 y49_0_13 y49_0_14 y49_0_15 y49_0_26 y49_0_27 y49_0_29 y49_0_30 y49_0_31 y49_0_32 y49_0_33 y49_0_36 Bx49_4 Bx49_6 By49_0_6 By49_0_7 By49_0_8 By49_0_12 By49_0_26 By49_0_27 By49_0_29 By49_0_30 By49_0_31 hn49_ hI hf49 cl49_0 hC49 hQ hl
        refine lv_aload_n hx hb dX12_pushOf_49 rfl (lv_at hl 3 rfl) ?_
        have tb80 : TBp (S_49 7) (S_49 8) (S_49 10) (S_49 16) a2 (-1) := (tb_tr u14_0 (hf49 7 (by decide)) (hf49 8 (by decide)) (hf49 10 (by decide)) (hf49 16 (by decide)))
        have c81 : S_49 7 = .inl (g.2 0, 50, .inl f1) := ((hf49 7 (by decide)).trans ((o14 7 (by decide)).trans c2))
        have hb82 : Bd (arr (S_49 7) 0) 1 12 := by rw [arr_of c81, ee5]; exact b11
        have hn83 : (arr (S_49 7) 0).toInt = v4.toInt := by rw [arr_of c81, ee5]
        have b84 : Bd x49_6 (0) (99) := ⟨(Bx49_6).1, po_b tb80 (by omega) hC49.2 Bx49_6 hC49.1⟩
        refine xget E hQ 0 (by decide) cl49_0 rfl 28 (by decide) q1496 rfl dX12_pushOf_50 ?_
        refine lv_bipush (v := 12) hx hb dX12_pushOf_53 (by decide) ?_
        refine lv_iload hx hb dX12_pushOf_55 (lv_at hl 0 rfl) ?_
        refine lv_imul hx hb dX12_pushOf_57 ?_
        refine lv_topi (fun z85 e86 => ?_)
        have t87 := ib_cmul (q := 12) e86 (by decide) (by decide) b84 (by decide) (by decide)
        have b88 : Bd z85 (0) (1188) := ib_mulb t87 (by decide) b84
        refine lv_iload hx hb dX12_pushOf_58 (lv_at hl 2 rfl) ?_
        refine lv_iadd hx hb dX12_pushOf_60 ?_
        refine lv_topi (fun z89 e90 => ?_)
        have t91 := ib_add e90 b88 Bx49_4 (by decide) (by decide)
        have b92 : Bd z89 (0) (1199) := ib_addb t91 b88 Bx49_4
        have c93 : S_49 16 = .inl (g.2 0, 1212, .inl f46) := ((hf49 16 (by decide)).trans c47)
        refine xiald E hQ 16 (by decide) c93 (ib_in b92 (by decide) (by decide)) dX12_pushOf_61 ?_
        refine lv_topi (fun z94 e95 => ?_)
        have b96 : Bd z94 (0) (100000) := (by rw [e95]; exact b48 _)
        refine lv_if_le (tgt := 189) hx hb dX12_pushOf_62 (by decide) (fun k97 => ?_) (fun k97 => ?_)
        · have h98 := ib_le k97
          have b99 : Bd z94 (0) (0) := ⟨(b96).1, ((rf_le b96 (by decide : Bd 0 (0) (0)) h98).1).2⟩
          refine lv_iconst (v := (-1)) hx hb dX12_pushOf_189 (by decide) ?_
          exact xri E hr hlk hQ (⟨hI, (o_trans (o_trans o_refl o14 (by decide)) hf49 (by decide)), (ib_wk (by decide : Bd (-1) (-1) (-1)) (by decide) (by decide))⟩) dX12_pushOf_190
        · have h100 := ib_nle k97
          have b101 : Bd z94 (1) (100000) := ⟨((rf_lt (by decide : Bd 0 (0) (0)) b96 h100).2).1, (b96).2⟩
          refine lv_aload_n hx hb dX12_pushOf_65 rfl (lv_at hl 3 rfl) ?_
          refine lv_iconst (v := 0) hx hb dX12_pushOf_66 (by decide) ?_
          refine xputi E hs hQ 0 (by decide) cl49_0 rfl 29 (by decide) q1497 rfl rfl (Nat.le_of_ble_eq_true rfl) dX12_pushOf_67 (fun H locs S102 eS102 hQ => ?_)
          have hI := invM_up_0 hI eS102 ⟨y49_0_0, y49_0_6, y49_0_7, y49_0_8, y49_0_9, y49_0_10, wy49_0_11, y49_0_12, y49_0_13, y49_0_14, y49_0_15, y49_0_26, y49_0_27, 0, y49_0_30, y49_0_31, y49_0_32, y49_0_33, y49_0_36, rfl, By49_0_6, By49_0_7, By49_0_8, By49_0_12, By49_0_26, By49_0_27, (ib_wk (by decide : Bd 0 (0) (0)) (by decide) (by decide)), By49_0_30, By49_0_31⟩
          have c103 : S102 0 = .inr (12, [.int y49_0_0, .ref (ad 1), .ref (ad 2), .ref (ad 3), .ref (ad 4), .ref (ad 5), .int y49_0_6, .int y49_0_7, .int y49_0_8, .int y49_0_9, .int y49_0_10, .long wy49_0_11, .int y49_0_12, .int y49_0_13, .int y49_0_14, .int y49_0_15, .ref (ad 6), .ref (ad 7), .ref (ad 8), .ref (ad 9), .ref (ad 10), .ref (ad 11), .ref (ad 12), .ref (ad 13), .ref (ad 14), .ref (ad 15), .int y49_0_26, .int y49_0_27, .ref (ad 16), .int 0, .int y49_0_30, .int y49_0_31, .int y49_0_32, .int y49_0_33, .ref (ad 17), .ref (ad 18), .int y49_0_36, .ref (ad 19)]) := up_at eS102 rfl
          refine lv_iconst (v := 2) hx hb dX12_pushOf_70 (by decide) ?_
          refine lv_istore (lv' := [(7, .int 2), (6, .int x49_6), (5, .int x49_5), (4, .int x49_4), (0, .ref (ad 0)), (1, .int a1), (2, .int a2), (3, .int a3)]) hx hb dX12_pushOf_71 hl (by decide) rfl (fun ls hl => ?_)
          refine lv_iload hx hb dX12_pushOf_73 (lv_at hl 0 rfl) ?_
          refine lv_if_le (tgt := 117) hx hb dX12_pushOf_75 (by decide) (fun k104 => ?_) (fun k104 => ?_)
          · have h105 := ib_le k104
            exact absurd h105 (by decide)
          · have h106 := ib_nle k104
            refine lv_aload_n hx hb dX12_pushOf_78 rfl (lv_at hl 4 rfl) ?_
            refine lv_iload hx hb dX12_pushOf_79 (lv_at hl 1 rfl) ?_
            refine lv_iload hx hb dX12_pushOf_81 (lv_at hl 3 rfl) ?_
            refine lv_iload hx hb dX12_pushOf_83 (lv_at hl 0 rfl) ?_
            refine lv_iload_n hx hb dX12_pushOf_85 rfl (lv_at hl 6 rfl) ?_
            have c107 : S102 7 = .inl (g.2 0, 50, .inl f1) := (up_ne eS102 (by decide) c81)
            have q108 : elm (S102 7) 0 = v4.toInt := (elm_of c107 0).trans (congrArg Int32.toInt (ee5))
            have q109 : elm (S102 7) 1 = v7.toInt := (elm_of c107 1).trans (congrArg Int32.toInt (ee8))
            refine xcVi E hs hQ hml hl.1 0 (gX12_pushBy_0 l g ad hD S102 hI x49_6 x49_4 2 a2 b84 Bx49_4 (by omega) (by omega)) mX12_pushBy q1930 (by decide) c103 rfl rfl ⟨(Nat.le_of_ble_eq_true rfl), (Nat.le_of_ble_eq_true rfl)⟩ ⟨(Nat.le_of_ble_eq_true rfl), (Nat.le_of_ble_eq_true rfl)⟩ (Nat.le_of_ble_eq_true rfl) rfl dX12_pushOf_86 (fun r110 S110 H locs hp110 hQ _ => ?_)
            obtain ⟨rfl, b110, fg110⟩ := hp110
            refine lv_aload_n hx hb dX12_pushOf_89 rfl (lv_at hl 4 rfl) ?_
            refine xget E hQ 0 (by decide) c103 rfl 28 (by decide) q1496 rfl dX12_pushOf_90 ?_
            refine lv_bipush (v := 12) hx hb dX12_pushOf_93 (by decide) ?_
            refine lv_iload hx hb dX12_pushOf_95 (lv_at hl 1 rfl) ?_
            refine lv_imul hx hb dX12_pushOf_97 ?_
            refine lv_topi (fun z111 e112 => ?_)
            have t113 := ib_cmul (q := 12) e112 (by decide) (by decide) b84 (by decide) (by decide)
            have b114 : Bd z111 (0) (1188) := ib_mulb t113 (by decide) b84
            refine lv_iload hx hb dX12_pushOf_98 (lv_at hl 3 rfl) ?_
            refine lv_iadd hx hb dX12_pushOf_100 ?_
            refine lv_topi (fun z115 e116 => ?_)
            have t117 := ib_add e116 b114 Bx49_4 (by decide) (by decide)
            have b118 : Bd z115 (0) (1199) := ib_addb t117 b114 Bx49_4
            have c119 : S102 16 = .inl (g.2 0, 1212, .inl f46) := (up_ne eS102 (by decide) c93)
            refine xiald E hQ 16 (by decide) c119 (ib_in b118 (by decide) (by decide)) dX12_pushOf_101 ?_
            refine lv_topi (fun z120 e121 => ?_)
            have b122 : Bd z120 (0) (100000) := (by rw [e121]; exact b48 _)
            have t123 : z120.toInt = z94.toInt := by rw [e121, e95, show z115.toNatClampNeg = z89.toNatClampNeg from by show z115.toInt.toNat = z89.toInt.toNat; omega]
            refine lv_icmp_ne (tgt := 111) hx hb dX12_pushOf_102 (by decide) (fun k124 => ?_) (fun k124 => ?_)
            · have h125 := ib_ne k124
              refine lv_iinc (v := 1) (lv' := [(7, .int 1), (6, .int x49_6), (5, .int x49_5), (4, .int x49_4), (0, .ref (ad 0)), (1, .int a1), (2, .int a2), (3, .int a3)]) hx hb dX12_pushOf_111 hl (k := 0) rfl (by decide) (by decide) rfl (fun ls hl => ?_)
              refine lv_goto (tgt := 73) hx hb dX12_pushOf_114 (by decide) ?_
              refine lv_iload hx hb dX12_pushOf_73 (lv_at hl 0 rfl) ?_
              refine lv_if_le (tgt := 117) hx hb dX12_pushOf_75 (by decide) (fun k126 => ?_) (fun k126 => ?_)
              · have h127 := ib_le k126
                exact absurd h127 (by decide)
              · have h128 := ib_nle k126
                refine lv_aload_n hx hb dX12_pushOf_78 rfl (lv_at hl 4 rfl) ?_
                refine lv_iload hx hb dX12_pushOf_79 (lv_at hl 1 rfl) ?_
                refine lv_iload hx hb dX12_pushOf_81 (lv_at hl 3 rfl) ?_
                refine lv_iload hx hb dX12_pushOf_83 (lv_at hl 0 rfl) ?_
                refine lv_iload_n hx hb dX12_pushOf_85 rfl (lv_at hl 6 rfl) ?_
                refine xcVi E hs hQ hml hl.1 0 (gX12_pushBy_0 l g ad hD S102 hI x49_6 x49_4 1 a2 b84 Bx49_4 (by omega) (by omega)) mX12_pushBy q1930 (by decide) c103 rfl rfl ⟨(Nat.le_of_ble_eq_true rfl), (Nat.le_of_ble_eq_true rfl)⟩ ⟨(Nat.le_of_ble_eq_true rfl), (Nat.le_of_ble_eq_true rfl)⟩ (Nat.le_of_ble_eq_true rfl) rfl dX12_pushOf_86 (fun r129 S129 H locs hp129 hQ _ => ?_)
                obtain ⟨rfl, b129, fg129⟩ := hp129
                refine lv_aload_n hx hb dX12_pushOf_89 rfl (lv_at hl 4 rfl) ?_
                refine xget E hQ 0 (by decide) c103 rfl 28 (by decide) q1496 rfl dX12_pushOf_90 ?_
                refine lv_bipush (v := 12) hx hb dX12_pushOf_93 (by decide) ?_
                refine lv_iload hx hb dX12_pushOf_95 (lv_at hl 1 rfl) ?_
                refine lv_imul hx hb dX12_pushOf_97 ?_
                refine lv_topi (fun z130 e131 => ?_)
                have t132 := ib_cmul (q := 12) e131 (by decide) (by decide) b84 (by decide) (by decide)
                have b133 : Bd z130 (0) (1188) := ib_mulb t132 (by decide) b84
                refine lv_iload hx hb dX12_pushOf_98 (lv_at hl 3 rfl) ?_
                refine lv_iadd hx hb dX12_pushOf_100 ?_
                refine lv_topi (fun z134 e135 => ?_)
                have t136 := ib_add e135 b133 Bx49_4 (by decide) (by decide)
                have b137 : Bd z134 (0) (1199) := ib_addb t136 b133 Bx49_4
                refine xiald E hQ 16 (by decide) c119 (ib_in b137 (by decide) (by decide)) dX12_pushOf_101 ?_
                refine lv_topi (fun z138 e139 => ?_)
                have b140 : Bd z138 (0) (100000) := (by rw [e139]; exact b48 _)
                have t141 : z138.toInt = z94.toInt := by rw [e139, e95, show z134.toNatClampNeg = z89.toNatClampNeg from by show z134.toInt.toNat = z89.toInt.toNat; omega]
                refine lv_icmp_ne (tgt := 111) hx hb dX12_pushOf_102 (by decide) (fun k142 => ?_) (fun k142 => ?_)
                · have h143 := ib_ne k142
                  refine lv_iinc (v := 0) (lv' := [(7, .int 0), (6, .int x49_6), (5, .int x49_5), (4, .int x49_4), (0, .ref (ad 0)), (1, .int a1), (2, .int a2), (3, .int a3)]) hx hb dX12_pushOf_111 hl (k := 0) rfl (by decide) (by decide) rfl (fun ls hl => ?_)
                  refine lv_goto (tgt := 73) hx hb dX12_pushOf_114 (by decide) ?_
                  refine lv_iload hx hb dX12_pushOf_73 (lv_at hl 0 rfl) ?_
                  refine lv_if_le (tgt := 117) hx hb dX12_pushOf_75 (by decide) (fun k144 => ?_) (fun k144 => ?_)
                  · have h145 := ib_le k144
                    refine lv_aload_n hx hb dX12_pushOf_117 rfl (lv_at hl 4 rfl) ?_
                    refine xget E hQ 0 (by decide) c103 rfl 29 (by decide) q1497 rfl dX12_pushOf_118 ?_
                    refine lv_if_le (tgt := 133) hx hb dX12_pushOf_121 (by decide) (fun k146 => ?_) (fun k146 => ?_)
                    · have h147 := ib_le k146
                      refine lv_iload hx hb dX12_pushOf_133 (lv_at hl 2 rfl) ?_
                      refine lv_aload_n hx hb dX12_pushOf_135 rfl (lv_at hl 4 rfl) ?_
                      refine xget E hQ 0 (by decide) c103 rfl 29 (by decide) q1497 rfl dX12_pushOf_136 ?_
                      refine lv_if_le (tgt := 146) hx hb dX12_pushOf_139 (by decide) (fun k148 => ?_) (fun k148 => ?_)
                      · have h149 := ib_le k148
                        refine lv_iconst (v := 0) hx hb dX12_pushOf_146 (by decide) ?_
                        refine lv_iadd hx hb dX12_pushOf_147 ?_
                        refine lv_topi (fun z150 e151 => ?_)
                        have t152 := ib_add e151 (ib_full x49_5) (by decide : Bd 0 (0) (0)) (by decide) (by decide)
                        have b153 : Bd z150 (-2147483648) (2147483647) := ib_addb t152 (ib_full x49_5) (by decide : Bd 0 (0) (0))
                        have t152 : z150.toInt = x49_5.toInt + 0 := fold_add t152 rfl (by decide)
                        refine lv_istore (lv' := [(5, .int z150), (7, .int 0), (6, .int x49_6), (4, .int x49_4), (0, .ref (ad 0)), (1, .int a1), (2, .int a2), (3, .int a3)]) hx hb dX12_pushOf_148 hl (by decide) rfl (fun ls hl => ?_)
                        refine lv_aload_n hx hb dX12_pushOf_150 rfl (lv_at hl 4 rfl) ?_
                        refine lv_aload_n hx hb dX12_pushOf_151 rfl (lv_at hl 4 rfl) ?_
                        refine lv_iload hx hb dX12_pushOf_152 (lv_at hl 3 rfl) ?_
                        refine lv_aload_n hx hb dX12_pushOf_154 rfl (lv_at hl 4 rfl) ?_
                        refine xget E hQ 0 (by decide) c103 rfl 29 (by decide) q1497 rfl dX12_pushOf_155 ?_
                        refine xcVi E hs hQ hml hl.1 0 (gX12_shoved_0 l g ad hD S102 hI x49_4 0 Bx49_4 (by omega)) mX12_shoved q1838 (by decide) c103 rfl rfl ⟨(Nat.le_of_ble_eq_true rfl), (Nat.le_of_ble_eq_true rfl)⟩ ⟨(Nat.le_of_ble_eq_true rfl), (Nat.le_of_ble_eq_true rfl)⟩ (Nat.le_of_ble_eq_true rfl) rfl dX12_pushOf_158 (fun r154 S154 H locs hp154 hQ _ => ?_)
                        obtain ⟨rfl, b154, fg154⟩ := hp154
                        refine lv_iload hx hb dX12_pushOf_161 (lv_at hl 2 rfl) ?_
                        refine xcVi E hs hQ hml hl.1 0 (gX12_on_0 l g ad hD S102 hI r154 x49_6 b154 (by omega) (by omega)) mX12_on q1804 (by decide) c103 rfl rfl ⟨(Nat.le_of_ble_eq_true rfl), (Nat.le_of_ble_eq_true rfl)⟩ ⟨(Nat.le_of_ble_eq_true rfl), (Nat.le_of_ble_eq_true rfl)⟩ (Nat.le_of_ble_eq_true rfl) rfl dX12_pushOf_163 (fun r155 S155 H locs hp155 hQ _ => ?_)
                        obtain ⟨rfl, b155, g155_0, fg155⟩ := hp155
                        refine lv_istore (lv' := [(7, .int r155), (5, .int z150), (6, .int x49_6), (4, .int x49_4), (0, .ref (ad 0)), (1, .int a1), (2, .int a2), (3, .int a3)]) hx hb dX12_pushOf_166 hl (by decide) rfl (fun ls hl => ?_)
                        refine lv_aload_n hx hb dX12_pushOf_168 rfl (lv_at hl 4 rfl) ?_
                        refine lv_iload hx hb dX12_pushOf_169 (lv_at hl 0 rfl) ?_
                        refine xcVi E hs hQ hml hl.1 0 (gX12_isBeach_0 l g ad hD S102 hI r155) mX12_isBeach q1755 (by decide) c103 rfl rfl ⟨(Nat.le_of_ble_eq_true rfl), (Nat.le_of_ble_eq_true rfl)⟩ ⟨(Nat.le_of_ble_eq_true rfl), (Nat.le_of_ble_eq_true rfl)⟩ (Nat.le_of_ble_eq_true rfl) rfl dX12_pushOf_171 (fun r156 S156 H locs hp156 hQ _ => ?_)
                        obtain ⟨rfl, b156, fg156⟩ := hp156
                        refine lv_if_eq (tgt := 179) hx hb dX12_pushOf_174 (by decide) (fun k157 => ?_) (fun k157 => ?_)
                        · have h158 := ib_eq k157
                          have b159 : Bd r156 (0) (0) := ⟨(b156).1, ((rf_eq b156 (by decide : Bd 0 (0) (0)) h158).1).2⟩
                          refine lv_iload hx hb dX12_pushOf_179 (lv_at hl 0 rfl) ?_
                          refine lv_istore (lv' := [(4, .int r155), (7, .int r155), (5, .int z150), (6, .int x49_6), (0, .ref (ad 0)), (1, .int a1), (2, .int a2), (3, .int a3)]) hx hb dX12_pushOf_181 hl (by decide) rfl (fun ls hl => ?_)
                          obtain ⟨z160, e161⟩ : ∃ z : Int32, z = x49_6 + 1 := ⟨_, rfl⟩
                          have t162 := ib_add e161 b84 (by decide : Bd 1 (1) (1)) (by decide) (by decide)
                          have b163 : Bd z160 (1) (100) := ib_addb t162 b84 (by decide : Bd 1 (1) (1))
                          have t162 : z160.toInt = x49_6.toInt + 1 := fold_add t162 rfl (by decide)
                          refine lv_iinc (v := z160) (lv' := [(6, .int z160), (4, .int r155), (7, .int r155), (5, .int z150), (0, .ref (ad 0)), (1, .int a1), (2, .int a2), (3, .int a3)]) hx hb dX12_pushOf_183 hl (k := 3) rfl (by rw [e161]; rfl) (by decide) rfl (fun ls hl => ?_)
                          refine lv_goto (tgt := 49) hx hb dX12_pushOf_186 (by decide) ?_
                          have tv164 : z94 = arr (S_49 16) (12 * x49_6.toInt.toNat + x49_4.toInt.toNat) := by rw [e95, arr_of c93]; congr 1; show z89.toInt.toNat = _; omega
                          have ht165 : z94.toInt < 100000 := by rw [tv164]; exact hC49.1
                          have pq166 := (po_0 (e7 := S_49 7) (e8 := S_49 8) (e10 := S_49 10) (e16 := S_49 16) hb82 b84 (fg154.trans (by rw [(up_eq (j := 7) eS102 (by decide)), (up_eq (j := 8) eS102 (by decide)), (up_eq (j := 10) eS102 (by decide))])) (fg155.trans (by rw [(up_eq (j := 7) eS102 (by decide)), (up_eq (j := 8) eS102 (by decide)), (up_eq (j := 10) eS102 (by decide))])) (fg156.trans (by rw [(up_eq (j := 7) eS102 (by decide)), (up_eq (j := 8) eS102 (by decide)), (up_eq (j := 10) eS102 (by decide))])) b159 (fg129.trans (by rw [(up_eq (j := 7) eS102 (by decide)), (up_eq (j := 8) eS102 (by decide)), (up_eq (j := 10) eS102 (by decide)), (up_eq (j := 16) eS102 (by decide))])) (fg110.trans (by rw [(up_eq (j := 7) eS102 (by decide)), (up_eq (j := 8) eS102 (by decide)), (up_eq (j := 10) eS102 (by decide)), (up_eq (j := 16) eS102 (by decide))])) (by omega) (by omega) (tv164.trans (tb80.2 x49_6 x49_4 (by omega) (by omega) (by omega) (by omega) hC49.2)) ht165)
                          have hbd := fOn_bd (e7 := S_49 7) (e8 := S_49 8) (e10 := S_49 10) hb82 r154 x49_6
                          rw [← (fg155.trans (by rw [(up_eq (j := 7) eS102 (by decide)), (up_eq (j := 8) eS102 (by decide)), (up_eq (j := 10) eS102 (by decide))]))] at hbd
                          exact ih49 _ _ _ _ r155 z150 z160 y49_0_0 y49_0_6 y49_0_7 y49_0_8 y49_0_9 y49_0_10 wy49_0_11 y49_0_12 y49_0_13 y49_0_14 y49_0_15 y49_0_26 y49_0_27 0 y49_0_30 y49_0_31 y49_0_32 y49_0_33 y49_0_36 b155 (ib_wk b163 (by decide) (by decide)) By49_0_6 By49_0_7 By49_0_8 By49_0_12 By49_0_26 By49_0_27 (ib_wk (by decide : Bd 0 (0) (0)) (by decide) (by decide)) By49_0_30 By49_0_31 (by have : (0 : Int32).toInt = 0 := (by decide); omega) hI (up_o hf49 eS102 (by decide)) c103 ⟨by rw [(up_eq (j := 16) eS102 (by decide)), show 12 * z160.toInt.toNat + r155.toInt.toNat = 12 * (x49_6.toInt.toNat + 1) + r155.toInt.toNat by omega]; exact pq166, by rw [(up_eq (j := 7) eS102 (by decide))]; exact hbd.2⟩ hQ (lv_sub hl [0, 3, 1, 4, 5, 6, 7] rfl)
                        · have h167 := ib_ne k157
                          have b168 : Bd r156 (1) (1) := rf_nlo b156 (by decide : Bd 0 (0) (0)) h167
                          refine lv_iconst (v := (-1)) hx hb dX12_pushOf_177 (by decide) ?_
                          exact xri E hr hlk hQ (⟨hI, (up_o (o_trans (o_trans o_refl o14 (by decide)) hf49 (by decide)) eS102 (by decide)), (ib_wk (by decide : Bd (-1) (-1) (-1)) (by decide) (by decide))⟩) dX12_pushOf_178
                      · have h169 := ib_nle k148
                        exact absurd h169 (by decide)
                    · have h170 := ib_nle k146
                      exact absurd h170 (by decide)
                  · have h171 := ib_nle k144
                    exact absurd h171 (by decide)
                · have h172 := ib_eq k142
                  have b173 : Bd r129 (0) (100000) := ⟨(b129).1, ((rf_eq b129 b140 h172).1).2⟩
                  refine lv_aload_n hx hb dX12_pushOf_105 rfl (lv_at hl 4 rfl) ?_
                  refine lv_iload hx hb dX12_pushOf_106 (lv_at hl 0 rfl) ?_
                  refine xputi E hs hQ 0 (by decide) c103 rfl 29 (by decide) q1497 rfl rfl (Nat.le_of_ble_eq_true rfl) dX12_pushOf_108 (fun H locs S174 eS174 hQ => ?_)
                  have hI := invM_up_0 hI eS174 ⟨y49_0_0, y49_0_6, y49_0_7, y49_0_8, y49_0_9, y49_0_10, wy49_0_11, y49_0_12, y49_0_13, y49_0_14, y49_0_15, y49_0_26, y49_0_27, 1, y49_0_30, y49_0_31, y49_0_32, y49_0_33, y49_0_36, rfl, By49_0_6, By49_0_7, By49_0_8, By49_0_12, By49_0_26, By49_0_27, (ib_wk (by decide : Bd 1 (1) (1)) (by decide) (by decide)), By49_0_30, By49_0_31⟩
                  have c175 : S174 0 = .inr (12, [.int y49_0_0, .ref (ad 1), .ref (ad 2), .ref (ad 3), .ref (ad 4), .ref (ad 5), .int y49_0_6, .int y49_0_7, .int y49_0_8, .int y49_0_9, .int y49_0_10, .long wy49_0_11, .int y49_0_12, .int y49_0_13, .int y49_0_14, .int y49_0_15, .ref (ad 6), .ref (ad 7), .ref (ad 8), .ref (ad 9), .ref (ad 10), .ref (ad 11), .ref (ad 12), .ref (ad 13), .ref (ad 14), .ref (ad 15), .int y49_0_26, .int y49_0_27, .ref (ad 16), .int 1, .int y49_0_30, .int y49_0_31, .int y49_0_32, .int y49_0_33, .ref (ad 17), .ref (ad 18), .int y49_0_36, .ref (ad 19)]) := up_at eS174 rfl
                  refine lv_iinc (v := 0) (lv' := [(7, .int 0), (6, .int x49_6), (5, .int x49_5), (4, .int x49_4), (0, .ref (ad 0)), (1, .int a1), (2, .int a2), (3, .int a3)]) hx hb dX12_pushOf_111 hl (k := 0) rfl (by decide) (by decide) rfl (fun ls hl => ?_)
                  refine lv_goto (tgt := 73) hx hb dX12_pushOf_114 (by decide) ?_
                  refine lv_iload hx hb dX12_pushOf_73 (lv_at hl 0 rfl) ?_
                  refine lv_if_le (tgt := 117) hx hb dX12_pushOf_75 (by decide) (fun k176 => ?_) (fun k176 => ?_)
                  · have h177 := ib_le k176
                    refine lv_aload_n hx hb dX12_pushOf_117 rfl (lv_at hl 4 rfl) ?_
                    refine xget E hQ 0 (by decide) c175 rfl 29 (by decide) q1497 rfl dX12_pushOf_118 ?_
                    refine lv_if_le (tgt := 133) hx hb dX12_pushOf_121 (by decide) (fun k178 => ?_) (fun k178 => ?_)
                    · have h179 := ib_le k178
                      exact absurd h179 (by decide)
                    · have h180 := ib_nle k178
                      refine lv_iload hx hb dX12_pushOf_124 (lv_at hl 2 rfl) ?_
                      refine lv_iload_n hx hb dX12_pushOf_126 rfl (lv_at hl 7 rfl) ?_
                      refine lv_icmp_ne (tgt := 133) hx hb dX12_pushOf_127 (by decide) (fun k181 => ?_) (fun k181 => ?_)
                      · have h182 := ib_ne k181
                        refine lv_iload hx hb dX12_pushOf_133 (lv_at hl 2 rfl) ?_
                        refine lv_aload_n hx hb dX12_pushOf_135 rfl (lv_at hl 4 rfl) ?_
                        refine xget E hQ 0 (by decide) c175 rfl 29 (by decide) q1497 rfl dX12_pushOf_136 ?_
                        refine lv_if_le (tgt := 146) hx hb dX12_pushOf_139 (by decide) (fun k183 => ?_) (fun k183 => ?_)
                        · have h184 := ib_le k183
                          exact absurd h184 (by decide)
                        · have h185 := ib_nle k183
                          refine lv_iconst (v := 1) hx hb dX12_pushOf_142 (by decide) ?_
                          refine lv_goto (tgt := 147) hx hb dX12_pushOf_143 (by decide) ?_
                          refine lv_iadd hx hb dX12_pushOf_147 ?_
                          refine lv_topi (fun z186 e187 => ?_)
                          refine lv_istore (lv' := [(5, .int z186), (7, .int 0), (6, .int x49_6), (4, .int x49_4), (0, .ref (ad 0)), (1, .int a1), (2, .int a2), (3, .int a3)]) hx hb dX12_pushOf_148 hl (by decide) rfl (fun ls hl => ?_)
                          refine lv_aload_n hx hb dX12_pushOf_150 rfl (lv_at hl 4 rfl) ?_
                          refine lv_aload_n hx hb dX12_pushOf_151 rfl (lv_at hl 4 rfl) ?_
                          refine lv_iload hx hb dX12_pushOf_152 (lv_at hl 3 rfl) ?_
                          refine lv_aload_n hx hb dX12_pushOf_154 rfl (lv_at hl 4 rfl) ?_
                          refine xget E hQ 0 (by decide) c175 rfl 29 (by decide) q1497 rfl dX12_pushOf_155 ?_
                          have c188 : S174 7 = .inl (g.2 0, 50, .inl f1) := (up_ne eS174 (by decide) c107)
                          have q189 : elm (S174 7) 0 = v4.toInt := (elm_of c188 0).trans (congrArg Int32.toInt (ee5))
                          refine xcVi E hs hQ hml hl.1 0 (gX12_shoved_0 l g ad hD S174 hI x49_4 1 Bx49_4 (by omega)) mX12_shoved q1838 (by decide) c175 rfl rfl ⟨(Nat.le_of_ble_eq_true rfl), (Nat.le_of_ble_eq_true rfl)⟩ ⟨(Nat.le_of_ble_eq_true rfl), (Nat.le_of_ble_eq_true rfl)⟩ (Nat.le_of_ble_eq_true rfl) rfl dX12_pushOf_158 (fun r190 S190 H locs hp190 hQ _ => ?_)
                          obtain ⟨rfl, b190, fg190⟩ := hp190
                          refine lv_iload hx hb dX12_pushOf_161 (lv_at hl 2 rfl) ?_
                          have q191 : elm (S174 7) 1 = v7.toInt := (elm_of c188 1).trans (congrArg Int32.toInt (ee8))
                          refine xcVi E hs hQ hml hl.1 0 (gX12_on_0 l g ad hD S174 hI r190 x49_6 b190 (by omega) (by omega)) mX12_on q1804 (by decide) c175 rfl rfl ⟨(Nat.le_of_ble_eq_true rfl), (Nat.le_of_ble_eq_true rfl)⟩ ⟨(Nat.le_of_ble_eq_true rfl), (Nat.le_of_ble_eq_true rfl)⟩ (Nat.le_of_ble_eq_true rfl) rfl dX12_pushOf_163 (fun r192 S192 H locs hp192 hQ _ => ?_)
                          obtain ⟨rfl, b192, g192_0, fg192⟩ := hp192
                          refine lv_istore (lv' := [(7, .int r192), (5, .int z186), (6, .int x49_6), (4, .int x49_4), (0, .ref (ad 0)), (1, .int a1), (2, .int a2), (3, .int a3)]) hx hb dX12_pushOf_166 hl (by decide) rfl (fun ls hl => ?_)
                          refine lv_aload_n hx hb dX12_pushOf_168 rfl (lv_at hl 4 rfl) ?_
                          refine lv_iload hx hb dX12_pushOf_169 (lv_at hl 0 rfl) ?_
                          refine xcVi E hs hQ hml hl.1 0 (gX12_isBeach_0 l g ad hD S174 hI r192) mX12_isBeach q1755 (by decide) c175 rfl rfl ⟨(Nat.le_of_ble_eq_true rfl), (Nat.le_of_ble_eq_true rfl)⟩ ⟨(Nat.le_of_ble_eq_true rfl), (Nat.le_of_ble_eq_true rfl)⟩ (Nat.le_of_ble_eq_true rfl) rfl dX12_pushOf_171 (fun r193 S193 H locs hp193 hQ _ => ?_)
                          obtain ⟨rfl, b193, fg193⟩ := hp193
                          refine lv_if_eq (tgt := 179) hx hb dX12_pushOf_174 (by decide) (fun k194 => ?_) (fun k194 => ?_)
                          · have h195 := ib_eq k194
                            have b196 : Bd r193 (0) (0) := ⟨(b193).1, ((rf_eq b193 (by decide : Bd 0 (0) (0)) h195).1).2⟩
                            refine lv_iload hx hb dX12_pushOf_179 (lv_at hl 0 rfl) ?_
                            refine lv_istore (lv' := [(4, .int r192), (7, .int r192), (5, .int z186), (6, .int x49_6), (0, .ref (ad 0)), (1, .int a1), (2, .int a2), (3, .int a3)]) hx hb dX12_pushOf_181 hl (by decide) rfl (fun ls hl => ?_)
                            obtain ⟨z197, e198⟩ : ∃ z : Int32, z = x49_6 + 1 := ⟨_, rfl⟩
                            have t199 := ib_add e198 b84 (by decide : Bd 1 (1) (1)) (by decide) (by decide)
                            have b200 : Bd z197 (1) (100) := ib_addb t199 b84 (by decide : Bd 1 (1) (1))
                            have t199 : z197.toInt = x49_6.toInt + 1 := fold_add t199 rfl (by decide)
                            refine lv_iinc (v := z197) (lv' := [(6, .int z197), (4, .int r192), (7, .int r192), (5, .int z186), (0, .ref (ad 0)), (1, .int a1), (2, .int a2), (3, .int a3)]) hx hb dX12_pushOf_183 hl (k := 3) rfl (by rw [e198]; rfl) (by decide) rfl (fun ls hl => ?_)
                            refine lv_goto (tgt := 49) hx hb dX12_pushOf_186 (by decide) ?_
                            have tv201 : z94 = arr (S_49 16) (12 * x49_6.toInt.toNat + x49_4.toInt.toNat) := by rw [e95, arr_of c93]; congr 1; show z89.toInt.toNat = _; omega
                            have ht202 : z94.toInt < 100000 := by rw [tv201]; exact hC49.1
                            have hT203 : ∀ i, Bd (arr (S_49 16) i) 0 100000 := fun i => by rw [arr_of c93]; exact b48 i
                            have pq204 := (po_w (e7 := S_49 7) (e8 := S_49 8) (e10 := S_49 10) (e16 := S_49 16) hb82 hT203 b84 (by decide) (fg190.trans (by rw [((up_eq (j := 7) eS174 (by decide)).trans (up_eq (j := 7) eS102 (by decide))), ((up_eq (j := 8) eS174 (by decide)).trans (up_eq (j := 8) eS102 (by decide))), ((up_eq (j := 10) eS174 (by decide)).trans (up_eq (j := 10) eS102 (by decide)))])) (fg192.trans (by rw [((up_eq (j := 7) eS174 (by decide)).trans (up_eq (j := 7) eS102 (by decide))), ((up_eq (j := 8) eS174 (by decide)).trans (up_eq (j := 8) eS102 (by decide))), ((up_eq (j := 10) eS174 (by decide)).trans (up_eq (j := 10) eS102 (by decide)))])) (fg193.trans (by rw [((up_eq (j := 7) eS174 (by decide)).trans (up_eq (j := 7) eS102 (by decide))), ((up_eq (j := 8) eS174 (by decide)).trans (up_eq (j := 8) eS102 (by decide))), ((up_eq (j := 10) eS174 (by decide)).trans (up_eq (j := 10) eS102 (by decide)))])) b196 (fg129.trans (by rw [(up_eq (j := 7) eS102 (by decide)), (up_eq (j := 8) eS102 (by decide)), (up_eq (j := 10) eS102 (by decide)), (up_eq (j := 16) eS102 (by decide))])) (t := z94) (by omega) ht202)
                            have hbd := fOn_bd (e7 := S_49 7) (e8 := S_49 8) (e10 := S_49 10) hb82 r190 x49_6
                            rw [← (fg192.trans (by rw [((up_eq (j := 7) eS174 (by decide)).trans (up_eq (j := 7) eS102 (by decide))), ((up_eq (j := 8) eS174 (by decide)).trans (up_eq (j := 8) eS102 (by decide))), ((up_eq (j := 10) eS174 (by decide)).trans (up_eq (j := 10) eS102 (by decide)))]))] at hbd
                            exact ih49 _ _ _ _ r192 z186 z197 y49_0_0 y49_0_6 y49_0_7 y49_0_8 y49_0_9 y49_0_10 wy49_0_11 y49_0_12 y49_0_13 y49_0_14 y49_0_15 y49_0_26 y49_0_27 1 y49_0_30 y49_0_31 y49_0_32 y49_0_33 y49_0_36 b192 (ib_wk b200 (by decide) (by decide)) By49_0_6 By49_0_7 By49_0_8 By49_0_12 By49_0_26 By49_0_27 (ib_wk (by decide : Bd 1 (1) (1)) (by decide) (by decide)) By49_0_30 By49_0_31 (by have : (1 : Int32).toInt = 1 := (by decide); omega) hI (up_o (up_o hf49 eS102 (by decide)) eS174 (by decide)) c175 ⟨by rw [((up_eq (j := 16) eS174 (by decide)).trans (up_eq (j := 16) eS102 (by decide))), show 12 * z197.toInt.toNat + r192.toInt.toNat = 12 * (x49_6.toInt.toNat + 1) + r192.toInt.toNat by omega]; exact pq204, by rw [((up_eq (j := 7) eS174 (by decide)).trans (up_eq (j := 7) eS102 (by decide)))]; exact hbd.2⟩ hQ (lv_sub hl [0, 3, 1, 4, 5, 6, 7] rfl)
                          · have h205 := ib_ne k194
                            have b206 : Bd r193 (1) (1) := rf_nlo b193 (by decide : Bd 0 (0) (0)) h205
                            refine lv_iconst (v := (-1)) hx hb dX12_pushOf_177 (by decide) ?_
                            exact xri E hr hlk hQ (⟨hI, (up_o (up_o (o_trans (o_trans o_refl o14 (by decide)) hf49 (by decide)) eS102 (by decide)) eS174 (by decide)), (ib_wk (by decide : Bd (-1) (-1) (-1)) (by decide) (by decide))⟩) dX12_pushOf_178
                      · have h207 := ib_eq k181
                        refine lv_iload hx hb dX12_pushOf_130 (lv_at hl 1 rfl) ?_
                        exact xri E hr hlk hQ (⟨hI, (up_o (up_o (o_trans (o_trans o_refl o14 (by decide)) hf49 (by decide)) eS102 (by decide)) eS174 (by decide)), (ib_wk b84 (by decide) (by decide))⟩) dX12_pushOf_132
                  · have h208 := ib_nle k176
                    exact absurd h208 (by decide)
            · have h209 := ib_eq k124
              have b210 : Bd r110 (0) (100000) := ⟨(b110).1, ((rf_eq b110 b122 h209).1).2⟩
              refine lv_aload_n hx hb dX12_pushOf_105 rfl (lv_at hl 4 rfl) ?_
              refine lv_iload hx hb dX12_pushOf_106 (lv_at hl 0 rfl) ?_
              refine xputi E hs hQ 0 (by decide) c103 rfl 29 (by decide) q1497 rfl rfl (Nat.le_of_ble_eq_true rfl) dX12_pushOf_108 (fun H locs S211 eS211 hQ => ?_)
              have hI := invM_up_0 hI eS211 ⟨y49_0_0, y49_0_6, y49_0_7, y49_0_8, y49_0_9, y49_0_10, wy49_0_11, y49_0_12, y49_0_13, y49_0_14, y49_0_15, y49_0_26, y49_0_27, 2, y49_0_30, y49_0_31, y49_0_32, y49_0_33, y49_0_36, rfl, By49_0_6, By49_0_7, By49_0_8, By49_0_12, By49_0_26, By49_0_27, (ib_wk (by decide : Bd 2 (2) (2)) (by decide) (by decide)), By49_0_30, By49_0_31⟩
              have c212 : S211 0 = .inr (12, [.int y49_0_0, .ref (ad 1), .ref (ad 2), .ref (ad 3), .ref (ad 4), .ref (ad 5), .int y49_0_6, .int y49_0_7, .int y49_0_8, .int y49_0_9, .int y49_0_10, .long wy49_0_11, .int y49_0_12, .int y49_0_13, .int y49_0_14, .int y49_0_15, .ref (ad 6), .ref (ad 7), .ref (ad 8), .ref (ad 9), .ref (ad 10), .ref (ad 11), .ref (ad 12), .ref (ad 13), .ref (ad 14), .ref (ad 15), .int y49_0_26, .int y49_0_27, .ref (ad 16), .int 2, .int y49_0_30, .int y49_0_31, .int y49_0_32, .int y49_0_33, .ref (ad 17), .ref (ad 18), .int y49_0_36, .ref (ad 19)]) := up_at eS211 rfl
              refine lv_iinc (v := 1) (lv' := [(7, .int 1), (6, .int x49_6), (5, .int x49_5), (4, .int x49_4), (0, .ref (ad 0)), (1, .int a1), (2, .int a2), (3, .int a3)]) hx hb dX12_pushOf_111 hl (k := 0) rfl (by decide) (by decide) rfl (fun ls hl => ?_)
              refine lv_goto (tgt := 73) hx hb dX12_pushOf_114 (by decide) ?_
              refine lv_iload hx hb dX12_pushOf_73 (lv_at hl 0 rfl) ?_
              refine lv_if_le (tgt := 117) hx hb dX12_pushOf_75 (by decide) (fun k213 => ?_) (fun k213 => ?_)
              · have h214 := ib_le k213
                exact absurd h214 (by decide)
              · have h215 := ib_nle k213
                refine lv_aload_n hx hb dX12_pushOf_78 rfl (lv_at hl 4 rfl) ?_
                refine lv_iload hx hb dX12_pushOf_79 (lv_at hl 1 rfl) ?_
                refine lv_iload hx hb dX12_pushOf_81 (lv_at hl 3 rfl) ?_
                refine lv_iload hx hb dX12_pushOf_83 (lv_at hl 0 rfl) ?_
                refine lv_iload_n hx hb dX12_pushOf_85 rfl (lv_at hl 6 rfl) ?_
                have c216 : S211 7 = .inl (g.2 0, 50, .inl f1) := (up_ne eS211 (by decide) c107)
                have q217 : elm (S211 7) 0 = v4.toInt := (elm_of c216 0).trans (congrArg Int32.toInt (ee5))
                have q218 : elm (S211 7) 1 = v7.toInt := (elm_of c216 1).trans (congrArg Int32.toInt (ee8))
                refine xcVi E hs hQ hml hl.1 0 (gX12_pushBy_0 l g ad hD S211 hI x49_6 x49_4 1 a2 b84 Bx49_4 (by omega) (by omega)) mX12_pushBy q1930 (by decide) c212 rfl rfl ⟨(Nat.le_of_ble_eq_true rfl), (Nat.le_of_ble_eq_true rfl)⟩ ⟨(Nat.le_of_ble_eq_true rfl), (Nat.le_of_ble_eq_true rfl)⟩ (Nat.le_of_ble_eq_true rfl) rfl dX12_pushOf_86 (fun r219 S219 H locs hp219 hQ _ => ?_)
                obtain ⟨rfl, b219, fg219⟩ := hp219
                refine lv_aload_n hx hb dX12_pushOf_89 rfl (lv_at hl 4 rfl) ?_
                refine xget E hQ 0 (by decide) c212 rfl 28 (by decide) q1496 rfl dX12_pushOf_90 ?_
                refine lv_bipush (v := 12) hx hb dX12_pushOf_93 (by decide) ?_
                refine lv_iload hx hb dX12_pushOf_95 (lv_at hl 1 rfl) ?_
                refine lv_imul hx hb dX12_pushOf_97 ?_
                refine lv_topi (fun z220 e221 => ?_)
                have t222 := ib_cmul (q := 12) e221 (by decide) (by decide) b84 (by decide) (by decide)
                have b223 : Bd z220 (0) (1188) := ib_mulb t222 (by decide) b84
                refine lv_iload hx hb dX12_pushOf_98 (lv_at hl 3 rfl) ?_
                refine lv_iadd hx hb dX12_pushOf_100 ?_
                refine lv_topi (fun z224 e225 => ?_)
                have t226 := ib_add e225 b223 Bx49_4 (by decide) (by decide)
                have b227 : Bd z224 (0) (1199) := ib_addb t226 b223 Bx49_4
                have c228 : S211 16 = .inl (g.2 0, 1212, .inl f46) := (up_ne eS211 (by decide) c119)
                refine xiald E hQ 16 (by decide) c228 (ib_in b227 (by decide) (by decide)) dX12_pushOf_101 ?_
                refine lv_topi (fun z229 e230 => ?_)
                have b231 : Bd z229 (0) (100000) := (by rw [e230]; exact b48 _)
                have t232 : z229.toInt = z94.toInt := by rw [e230, e95, show z224.toNatClampNeg = z89.toNatClampNeg from by show z224.toInt.toNat = z89.toInt.toNat; omega]
                refine lv_icmp_ne (tgt := 111) hx hb dX12_pushOf_102 (by decide) (fun k233 => ?_) (fun k233 => ?_)
                · have h234 := ib_ne k233
                  refine lv_iinc (v := 0) (lv' := [(7, .int 0), (6, .int x49_6), (5, .int x49_5), (4, .int x49_4), (0, .ref (ad 0)), (1, .int a1), (2, .int a2), (3, .int a3)]) hx hb dX12_pushOf_111 hl (k := 0) rfl (by decide) (by decide) rfl (fun ls hl => ?_)
                  refine lv_goto (tgt := 73) hx hb dX12_pushOf_114 (by decide) ?_
                  refine lv_iload hx hb dX12_pushOf_73 (lv_at hl 0 rfl) ?_
                  refine lv_if_le (tgt := 117) hx hb dX12_pushOf_75 (by decide) (fun k235 => ?_) (fun k235 => ?_)
                  · have h236 := ib_le k235
                    refine lv_aload_n hx hb dX12_pushOf_117 rfl (lv_at hl 4 rfl) ?_
                    refine xget E hQ 0 (by decide) c212 rfl 29 (by decide) q1497 rfl dX12_pushOf_118 ?_
                    refine lv_if_le (tgt := 133) hx hb dX12_pushOf_121 (by decide) (fun k237 => ?_) (fun k237 => ?_)
                    · have h238 := ib_le k237
                      exact absurd h238 (by decide)
                    · have h239 := ib_nle k237
                      refine lv_iload hx hb dX12_pushOf_124 (lv_at hl 2 rfl) ?_
                      refine lv_iload_n hx hb dX12_pushOf_126 rfl (lv_at hl 7 rfl) ?_
                      refine lv_icmp_ne (tgt := 133) hx hb dX12_pushOf_127 (by decide) (fun k240 => ?_) (fun k240 => ?_)
                      · have h241 := ib_ne k240
                        refine lv_iload hx hb dX12_pushOf_133 (lv_at hl 2 rfl) ?_
                        refine lv_aload_n hx hb dX12_pushOf_135 rfl (lv_at hl 4 rfl) ?_
                        refine xget E hQ 0 (by decide) c212 rfl 29 (by decide) q1497 rfl dX12_pushOf_136 ?_
                        refine lv_if_le (tgt := 146) hx hb dX12_pushOf_139 (by decide) (fun k242 => ?_) (fun k242 => ?_)
                        · have h243 := ib_le k242
                          exact absurd h243 (by decide)
                        · have h244 := ib_nle k242
                          refine lv_iconst (v := 1) hx hb dX12_pushOf_142 (by decide) ?_
                          refine lv_goto (tgt := 147) hx hb dX12_pushOf_143 (by decide) ?_
                          refine lv_iadd hx hb dX12_pushOf_147 ?_
                          refine lv_topi (fun z245 e246 => ?_)
                          refine lv_istore (lv' := [(5, .int z245), (7, .int 0), (6, .int x49_6), (4, .int x49_4), (0, .ref (ad 0)), (1, .int a1), (2, .int a2), (3, .int a3)]) hx hb dX12_pushOf_148 hl (by decide) rfl (fun ls hl => ?_)
                          refine lv_aload_n hx hb dX12_pushOf_150 rfl (lv_at hl 4 rfl) ?_
                          refine lv_aload_n hx hb dX12_pushOf_151 rfl (lv_at hl 4 rfl) ?_
                          refine lv_iload hx hb dX12_pushOf_152 (lv_at hl 3 rfl) ?_
                          refine lv_aload_n hx hb dX12_pushOf_154 rfl (lv_at hl 4 rfl) ?_
                          refine xget E hQ 0 (by decide) c212 rfl 29 (by decide) q1497 rfl dX12_pushOf_155 ?_
                          refine xcVi E hs hQ hml hl.1 0 (gX12_shoved_0 l g ad hD S211 hI x49_4 2 Bx49_4 (by omega)) mX12_shoved q1838 (by decide) c212 rfl rfl ⟨(Nat.le_of_ble_eq_true rfl), (Nat.le_of_ble_eq_true rfl)⟩ ⟨(Nat.le_of_ble_eq_true rfl), (Nat.le_of_ble_eq_true rfl)⟩ (Nat.le_of_ble_eq_true rfl) rfl dX12_pushOf_158 (fun r247 S247 H locs hp247 hQ _ => ?_)
                          obtain ⟨rfl, b247, fg247⟩ := hp247
                          refine lv_iload hx hb dX12_pushOf_161 (lv_at hl 2 rfl) ?_
                          refine xcVi E hs hQ hml hl.1 0 (gX12_on_0 l g ad hD S211 hI r247 x49_6 b247 (by omega) (by omega)) mX12_on q1804 (by decide) c212 rfl rfl ⟨(Nat.le_of_ble_eq_true rfl), (Nat.le_of_ble_eq_true rfl)⟩ ⟨(Nat.le_of_ble_eq_true rfl), (Nat.le_of_ble_eq_true rfl)⟩ (Nat.le_of_ble_eq_true rfl) rfl dX12_pushOf_163 (fun r248 S248 H locs hp248 hQ _ => ?_)
                          obtain ⟨rfl, b248, g248_0, fg248⟩ := hp248
                          refine lv_istore (lv' := [(7, .int r248), (5, .int z245), (6, .int x49_6), (4, .int x49_4), (0, .ref (ad 0)), (1, .int a1), (2, .int a2), (3, .int a3)]) hx hb dX12_pushOf_166 hl (by decide) rfl (fun ls hl => ?_)
                          refine lv_aload_n hx hb dX12_pushOf_168 rfl (lv_at hl 4 rfl) ?_
                          refine lv_iload hx hb dX12_pushOf_169 (lv_at hl 0 rfl) ?_
                          refine xcVi E hs hQ hml hl.1 0 (gX12_isBeach_0 l g ad hD S211 hI r248) mX12_isBeach q1755 (by decide) c212 rfl rfl ⟨(Nat.le_of_ble_eq_true rfl), (Nat.le_of_ble_eq_true rfl)⟩ ⟨(Nat.le_of_ble_eq_true rfl), (Nat.le_of_ble_eq_true rfl)⟩ (Nat.le_of_ble_eq_true rfl) rfl dX12_pushOf_171 (fun r249 S249 H locs hp249 hQ _ => ?_)
                          obtain ⟨rfl, b249, fg249⟩ := hp249
                          refine lv_if_eq (tgt := 179) hx hb dX12_pushOf_174 (by decide) (fun k250 => ?_) (fun k250 => ?_)
                          · have h251 := ib_eq k250
                            have b252 : Bd r249 (0) (0) := ⟨(b249).1, ((rf_eq b249 (by decide : Bd 0 (0) (0)) h251).1).2⟩
                            refine lv_iload hx hb dX12_pushOf_179 (lv_at hl 0 rfl) ?_
                            refine lv_istore (lv' := [(4, .int r248), (7, .int r248), (5, .int z245), (6, .int x49_6), (0, .ref (ad 0)), (1, .int a1), (2, .int a2), (3, .int a3)]) hx hb dX12_pushOf_181 hl (by decide) rfl (fun ls hl => ?_)
                            obtain ⟨z253, e254⟩ : ∃ z : Int32, z = x49_6 + 1 := ⟨_, rfl⟩
                            have t255 := ib_add e254 b84 (by decide : Bd 1 (1) (1)) (by decide) (by decide)
                            have b256 : Bd z253 (1) (100) := ib_addb t255 b84 (by decide : Bd 1 (1) (1))
                            have t255 : z253.toInt = x49_6.toInt + 1 := fold_add t255 rfl (by decide)
                            refine lv_iinc (v := z253) (lv' := [(6, .int z253), (4, .int r248), (7, .int r248), (5, .int z245), (0, .ref (ad 0)), (1, .int a1), (2, .int a2), (3, .int a3)]) hx hb dX12_pushOf_183 hl (k := 3) rfl (by rw [e254]; rfl) (by decide) rfl (fun ls hl => ?_)
                            refine lv_goto (tgt := 49) hx hb dX12_pushOf_186 (by decide) ?_
                            have tv257 : z94 = arr (S_49 16) (12 * x49_6.toInt.toNat + x49_4.toInt.toNat) := by rw [e95, arr_of c93]; congr 1; show z89.toInt.toNat = _; omega
                            have ht258 : z94.toInt < 100000 := by rw [tv257]; exact hC49.1
                            have hT259 : ∀ i, Bd (arr (S_49 16) i) 0 100000 := fun i => by rw [arr_of c93]; exact b48 i
                            have pq260 := (po_w (e7 := S_49 7) (e8 := S_49 8) (e10 := S_49 10) (e16 := S_49 16) hb82 hT259 b84 (by decide) (fg247.trans (by rw [((up_eq (j := 7) eS211 (by decide)).trans (up_eq (j := 7) eS102 (by decide))), ((up_eq (j := 8) eS211 (by decide)).trans (up_eq (j := 8) eS102 (by decide))), ((up_eq (j := 10) eS211 (by decide)).trans (up_eq (j := 10) eS102 (by decide)))])) (fg248.trans (by rw [((up_eq (j := 7) eS211 (by decide)).trans (up_eq (j := 7) eS102 (by decide))), ((up_eq (j := 8) eS211 (by decide)).trans (up_eq (j := 8) eS102 (by decide))), ((up_eq (j := 10) eS211 (by decide)).trans (up_eq (j := 10) eS102 (by decide)))])) (fg249.trans (by rw [((up_eq (j := 7) eS211 (by decide)).trans (up_eq (j := 7) eS102 (by decide))), ((up_eq (j := 8) eS211 (by decide)).trans (up_eq (j := 8) eS102 (by decide))), ((up_eq (j := 10) eS211 (by decide)).trans (up_eq (j := 10) eS102 (by decide)))])) b252 (fg110.trans (by rw [(up_eq (j := 7) eS102 (by decide)), (up_eq (j := 8) eS102 (by decide)), (up_eq (j := 10) eS102 (by decide)), (up_eq (j := 16) eS102 (by decide))])) (t := z94) (by omega) ht258)
                            have hbd := fOn_bd (e7 := S_49 7) (e8 := S_49 8) (e10 := S_49 10) hb82 r247 x49_6
                            rw [← (fg248.trans (by rw [((up_eq (j := 7) eS211 (by decide)).trans (up_eq (j := 7) eS102 (by decide))), ((up_eq (j := 8) eS211 (by decide)).trans (up_eq (j := 8) eS102 (by decide))), ((up_eq (j := 10) eS211 (by decide)).trans (up_eq (j := 10) eS102 (by decide)))]))] at hbd
                            exact ih49 _ _ _ _ r248 z245 z253 y49_0_0 y49_0_6 y49_0_7 y49_0_8 y49_0_9 y49_0_10 wy49_0_11 y49_0_12 y49_0_13 y49_0_14 y49_0_15 y49_0_26 y49_0_27 2 y49_0_30 y49_0_31 y49_0_32 y49_0_33 y49_0_36 b248 (ib_wk b256 (by decide) (by decide)) By49_0_6 By49_0_7 By49_0_8 By49_0_12 By49_0_26 By49_0_27 (ib_wk (by decide : Bd 2 (2) (2)) (by decide) (by decide)) By49_0_30 By49_0_31 (by have : (2 : Int32).toInt = 2 := (by decide); omega) hI (up_o (up_o hf49 eS102 (by decide)) eS211 (by decide)) c212 ⟨by rw [((up_eq (j := 16) eS211 (by decide)).trans (up_eq (j := 16) eS102 (by decide))), show 12 * z253.toInt.toNat + r248.toInt.toNat = 12 * (x49_6.toInt.toNat + 1) + r248.toInt.toNat by omega]; exact pq260, by rw [((up_eq (j := 7) eS211 (by decide)).trans (up_eq (j := 7) eS102 (by decide)))]; exact hbd.2⟩ hQ (lv_sub hl [0, 3, 1, 4, 5, 6, 7] rfl)
                          · have h261 := ib_ne k250
                            have b262 : Bd r249 (1) (1) := rf_nlo b249 (by decide : Bd 0 (0) (0)) h261
                            refine lv_iconst (v := (-1)) hx hb dX12_pushOf_177 (by decide) ?_
                            exact xri E hr hlk hQ (⟨hI, (up_o (up_o (o_trans (o_trans o_refl o14 (by decide)) hf49 (by decide)) eS102 (by decide)) eS211 (by decide)), (ib_wk (by decide : Bd (-1) (-1) (-1)) (by decide) (by decide))⟩) dX12_pushOf_178
                      · have h263 := ib_eq k240
                        refine lv_iload hx hb dX12_pushOf_130 (lv_at hl 1 rfl) ?_
                        exact xri E hr hlk hQ (⟨hI, (up_o (up_o (o_trans (o_trans o_refl o14 (by decide)) hf49 (by decide)) eS102 (by decide)) eS211 (by decide)), (ib_wk b84 (by decide) (by decide))⟩) dX12_pushOf_132
                  · have h264 := ib_nle k235
                    exact absurd h264 (by decide)
                · have h265 := ib_eq k233
                  have b266 : Bd r219 (0) (100000) := ⟨(b219).1, ((rf_eq b219 b231 h265).1).2⟩
                  refine lv_aload_n hx hb dX12_pushOf_105 rfl (lv_at hl 4 rfl) ?_
                  refine lv_iload hx hb dX12_pushOf_106 (lv_at hl 0 rfl) ?_
                  refine xputi E hs hQ 0 (by decide) c212 rfl 29 (by decide) q1497 rfl rfl (Nat.le_of_ble_eq_true rfl) dX12_pushOf_108 (fun H locs S267 eS267 hQ => ?_)
                  have hI := invM_up_0 hI eS267 ⟨y49_0_0, y49_0_6, y49_0_7, y49_0_8, y49_0_9, y49_0_10, wy49_0_11, y49_0_12, y49_0_13, y49_0_14, y49_0_15, y49_0_26, y49_0_27, 1, y49_0_30, y49_0_31, y49_0_32, y49_0_33, y49_0_36, rfl, By49_0_6, By49_0_7, By49_0_8, By49_0_12, By49_0_26, By49_0_27, (ib_wk (by decide : Bd 1 (1) (1)) (by decide) (by decide)), By49_0_30, By49_0_31⟩
                  have c268 : S267 0 = .inr (12, [.int y49_0_0, .ref (ad 1), .ref (ad 2), .ref (ad 3), .ref (ad 4), .ref (ad 5), .int y49_0_6, .int y49_0_7, .int y49_0_8, .int y49_0_9, .int y49_0_10, .long wy49_0_11, .int y49_0_12, .int y49_0_13, .int y49_0_14, .int y49_0_15, .ref (ad 6), .ref (ad 7), .ref (ad 8), .ref (ad 9), .ref (ad 10), .ref (ad 11), .ref (ad 12), .ref (ad 13), .ref (ad 14), .ref (ad 15), .int y49_0_26, .int y49_0_27, .ref (ad 16), .int 1, .int y49_0_30, .int y49_0_31, .int y49_0_32, .int y49_0_33, .ref (ad 17), .ref (ad 18), .int y49_0_36, .ref (ad 19)]) := up_at eS267 rfl
                  refine lv_iinc (v := 0) (lv' := [(7, .int 0), (6, .int x49_6), (5, .int x49_5), (4, .int x49_4), (0, .ref (ad 0)), (1, .int a1), (2, .int a2), (3, .int a3)]) hx hb dX12_pushOf_111 hl (k := 0) rfl (by decide) (by decide) rfl (fun ls hl => ?_)
                  refine lv_goto (tgt := 73) hx hb dX12_pushOf_114 (by decide) ?_
                  refine lv_iload hx hb dX12_pushOf_73 (lv_at hl 0 rfl) ?_
                  refine lv_if_le (tgt := 117) hx hb dX12_pushOf_75 (by decide) (fun k269 => ?_) (fun k269 => ?_)
                  · have h270 := ib_le k269
                    refine lv_aload_n hx hb dX12_pushOf_117 rfl (lv_at hl 4 rfl) ?_
                    refine xget E hQ 0 (by decide) c268 rfl 29 (by decide) q1497 rfl dX12_pushOf_118 ?_
                    refine lv_if_le (tgt := 133) hx hb dX12_pushOf_121 (by decide) (fun k271 => ?_) (fun k271 => ?_)
                    · have h272 := ib_le k271
                      exact absurd h272 (by decide)
                    · have h273 := ib_nle k271
                      refine lv_iload hx hb dX12_pushOf_124 (lv_at hl 2 rfl) ?_
                      refine lv_iload_n hx hb dX12_pushOf_126 rfl (lv_at hl 7 rfl) ?_
                      refine lv_icmp_ne (tgt := 133) hx hb dX12_pushOf_127 (by decide) (fun k274 => ?_) (fun k274 => ?_)
                      · have h275 := ib_ne k274
                        refine lv_iload hx hb dX12_pushOf_133 (lv_at hl 2 rfl) ?_
                        refine lv_aload_n hx hb dX12_pushOf_135 rfl (lv_at hl 4 rfl) ?_
                        refine xget E hQ 0 (by decide) c268 rfl 29 (by decide) q1497 rfl dX12_pushOf_136 ?_
                        refine lv_if_le (tgt := 146) hx hb dX12_pushOf_139 (by decide) (fun k276 => ?_) (fun k276 => ?_)
                        · have h277 := ib_le k276
                          exact absurd h277 (by decide)
                        · have h278 := ib_nle k276
                          refine lv_iconst (v := 1) hx hb dX12_pushOf_142 (by decide) ?_
                          refine lv_goto (tgt := 147) hx hb dX12_pushOf_143 (by decide) ?_
                          refine lv_iadd hx hb dX12_pushOf_147 ?_
                          refine lv_topi (fun z279 e280 => ?_)
                          refine lv_istore (lv' := [(5, .int z279), (7, .int 0), (6, .int x49_6), (4, .int x49_4), (0, .ref (ad 0)), (1, .int a1), (2, .int a2), (3, .int a3)]) hx hb dX12_pushOf_148 hl (by decide) rfl (fun ls hl => ?_)
                          refine lv_aload_n hx hb dX12_pushOf_150 rfl (lv_at hl 4 rfl) ?_
                          refine lv_aload_n hx hb dX12_pushOf_151 rfl (lv_at hl 4 rfl) ?_
                          refine lv_iload hx hb dX12_pushOf_152 (lv_at hl 3 rfl) ?_
                          refine lv_aload_n hx hb dX12_pushOf_154 rfl (lv_at hl 4 rfl) ?_
                          refine xget E hQ 0 (by decide) c268 rfl 29 (by decide) q1497 rfl dX12_pushOf_155 ?_
                          have c281 : S267 7 = .inl (g.2 0, 50, .inl f1) := (up_ne eS267 (by decide) c216)
                          have q282 : elm (S267 7) 0 = v4.toInt := (elm_of c281 0).trans (congrArg Int32.toInt (ee5))
                          refine xcVi E hs hQ hml hl.1 0 (gX12_shoved_0 l g ad hD S267 hI x49_4 1 Bx49_4 (by omega)) mX12_shoved q1838 (by decide) c268 rfl rfl ⟨(Nat.le_of_ble_eq_true rfl), (Nat.le_of_ble_eq_true rfl)⟩ ⟨(Nat.le_of_ble_eq_true rfl), (Nat.le_of_ble_eq_true rfl)⟩ (Nat.le_of_ble_eq_true rfl) rfl dX12_pushOf_158 (fun r283 S283 H locs hp283 hQ _ => ?_)
                          obtain ⟨rfl, b283, fg283⟩ := hp283
                          refine lv_iload hx hb dX12_pushOf_161 (lv_at hl 2 rfl) ?_
                          have q284 : elm (S267 7) 1 = v7.toInt := (elm_of c281 1).trans (congrArg Int32.toInt (ee8))
                          refine xcVi E hs hQ hml hl.1 0 (gX12_on_0 l g ad hD S267 hI r283 x49_6 b283 (by omega) (by omega)) mX12_on q1804 (by decide) c268 rfl rfl ⟨(Nat.le_of_ble_eq_true rfl), (Nat.le_of_ble_eq_true rfl)⟩ ⟨(Nat.le_of_ble_eq_true rfl), (Nat.le_of_ble_eq_true rfl)⟩ (Nat.le_of_ble_eq_true rfl) rfl dX12_pushOf_163 (fun r285 S285 H locs hp285 hQ _ => ?_)
                          obtain ⟨rfl, b285, g285_0, fg285⟩ := hp285
                          refine lv_istore (lv' := [(7, .int r285), (5, .int z279), (6, .int x49_6), (4, .int x49_4), (0, .ref (ad 0)), (1, .int a1), (2, .int a2), (3, .int a3)]) hx hb dX12_pushOf_166 hl (by decide) rfl (fun ls hl => ?_)
                          refine lv_aload_n hx hb dX12_pushOf_168 rfl (lv_at hl 4 rfl) ?_
                          refine lv_iload hx hb dX12_pushOf_169 (lv_at hl 0 rfl) ?_
                          refine xcVi E hs hQ hml hl.1 0 (gX12_isBeach_0 l g ad hD S267 hI r285) mX12_isBeach q1755 (by decide) c268 rfl rfl ⟨(Nat.le_of_ble_eq_true rfl), (Nat.le_of_ble_eq_true rfl)⟩ ⟨(Nat.le_of_ble_eq_true rfl), (Nat.le_of_ble_eq_true rfl)⟩ (Nat.le_of_ble_eq_true rfl) rfl dX12_pushOf_171 (fun r286 S286 H locs hp286 hQ _ => ?_)
                          obtain ⟨rfl, b286, fg286⟩ := hp286
                          refine lv_if_eq (tgt := 179) hx hb dX12_pushOf_174 (by decide) (fun k287 => ?_) (fun k287 => ?_)
                          · have h288 := ib_eq k287
                            have b289 : Bd r286 (0) (0) := ⟨(b286).1, ((rf_eq b286 (by decide : Bd 0 (0) (0)) h288).1).2⟩
                            refine lv_iload hx hb dX12_pushOf_179 (lv_at hl 0 rfl) ?_
                            refine lv_istore (lv' := [(4, .int r285), (7, .int r285), (5, .int z279), (6, .int x49_6), (0, .ref (ad 0)), (1, .int a1), (2, .int a2), (3, .int a3)]) hx hb dX12_pushOf_181 hl (by decide) rfl (fun ls hl => ?_)
                            obtain ⟨z290, e291⟩ : ∃ z : Int32, z = x49_6 + 1 := ⟨_, rfl⟩
                            have t292 := ib_add e291 b84 (by decide : Bd 1 (1) (1)) (by decide) (by decide)
                            have b293 : Bd z290 (1) (100) := ib_addb t292 b84 (by decide : Bd 1 (1) (1))
                            have t292 : z290.toInt = x49_6.toInt + 1 := fold_add t292 rfl (by decide)
                            refine lv_iinc (v := z290) (lv' := [(6, .int z290), (4, .int r285), (7, .int r285), (5, .int z279), (0, .ref (ad 0)), (1, .int a1), (2, .int a2), (3, .int a3)]) hx hb dX12_pushOf_183 hl (k := 3) rfl (by rw [e291]; rfl) (by decide) rfl (fun ls hl => ?_)
                            refine lv_goto (tgt := 49) hx hb dX12_pushOf_186 (by decide) ?_
                            have tv294 : z94 = arr (S_49 16) (12 * x49_6.toInt.toNat + x49_4.toInt.toNat) := by rw [e95, arr_of c93]; congr 1; show z89.toInt.toNat = _; omega
                            have ht295 : z94.toInt < 100000 := by rw [tv294]; exact hC49.1
                            have hT296 : ∀ i, Bd (arr (S_49 16) i) 0 100000 := fun i => by rw [arr_of c93]; exact b48 i
                            have pq297 := (po_w (e7 := S_49 7) (e8 := S_49 8) (e10 := S_49 10) (e16 := S_49 16) hb82 hT296 b84 (by decide) (fg283.trans (by rw [((up_eq (j := 7) eS267 (by decide)).trans ((up_eq (j := 7) eS211 (by decide)).trans (up_eq (j := 7) eS102 (by decide)))), ((up_eq (j := 8) eS267 (by decide)).trans ((up_eq (j := 8) eS211 (by decide)).trans (up_eq (j := 8) eS102 (by decide)))), ((up_eq (j := 10) eS267 (by decide)).trans ((up_eq (j := 10) eS211 (by decide)).trans (up_eq (j := 10) eS102 (by decide))))])) (fg285.trans (by rw [((up_eq (j := 7) eS267 (by decide)).trans ((up_eq (j := 7) eS211 (by decide)).trans (up_eq (j := 7) eS102 (by decide)))), ((up_eq (j := 8) eS267 (by decide)).trans ((up_eq (j := 8) eS211 (by decide)).trans (up_eq (j := 8) eS102 (by decide)))), ((up_eq (j := 10) eS267 (by decide)).trans ((up_eq (j := 10) eS211 (by decide)).trans (up_eq (j := 10) eS102 (by decide))))])) (fg286.trans (by rw [((up_eq (j := 7) eS267 (by decide)).trans ((up_eq (j := 7) eS211 (by decide)).trans (up_eq (j := 7) eS102 (by decide)))), ((up_eq (j := 8) eS267 (by decide)).trans ((up_eq (j := 8) eS211 (by decide)).trans (up_eq (j := 8) eS102 (by decide)))), ((up_eq (j := 10) eS267 (by decide)).trans ((up_eq (j := 10) eS211 (by decide)).trans (up_eq (j := 10) eS102 (by decide))))])) b289 (fg219.trans (by rw [((up_eq (j := 7) eS211 (by decide)).trans (up_eq (j := 7) eS102 (by decide))), ((up_eq (j := 8) eS211 (by decide)).trans (up_eq (j := 8) eS102 (by decide))), ((up_eq (j := 10) eS211 (by decide)).trans (up_eq (j := 10) eS102 (by decide))), ((up_eq (j := 16) eS211 (by decide)).trans (up_eq (j := 16) eS102 (by decide)))])) (t := z94) (by omega) ht295)
                            have hbd := fOn_bd (e7 := S_49 7) (e8 := S_49 8) (e10 := S_49 10) hb82 r283 x49_6
                            rw [← (fg285.trans (by rw [((up_eq (j := 7) eS267 (by decide)).trans ((up_eq (j := 7) eS211 (by decide)).trans (up_eq (j := 7) eS102 (by decide)))), ((up_eq (j := 8) eS267 (by decide)).trans ((up_eq (j := 8) eS211 (by decide)).trans (up_eq (j := 8) eS102 (by decide)))), ((up_eq (j := 10) eS267 (by decide)).trans ((up_eq (j := 10) eS211 (by decide)).trans (up_eq (j := 10) eS102 (by decide))))]))] at hbd
                            exact ih49 _ _ _ _ r285 z279 z290 y49_0_0 y49_0_6 y49_0_7 y49_0_8 y49_0_9 y49_0_10 wy49_0_11 y49_0_12 y49_0_13 y49_0_14 y49_0_15 y49_0_26 y49_0_27 1 y49_0_30 y49_0_31 y49_0_32 y49_0_33 y49_0_36 b285 (ib_wk b293 (by decide) (by decide)) By49_0_6 By49_0_7 By49_0_8 By49_0_12 By49_0_26 By49_0_27 (ib_wk (by decide : Bd 1 (1) (1)) (by decide) (by decide)) By49_0_30 By49_0_31 (by have : (1 : Int32).toInt = 1 := (by decide); omega) hI (up_o (up_o (up_o hf49 eS102 (by decide)) eS211 (by decide)) eS267 (by decide)) c268 ⟨by rw [((up_eq (j := 16) eS267 (by decide)).trans ((up_eq (j := 16) eS211 (by decide)).trans (up_eq (j := 16) eS102 (by decide)))), show 12 * z290.toInt.toNat + r285.toInt.toNat = 12 * (x49_6.toInt.toNat + 1) + r285.toInt.toNat by omega]; exact pq297, by rw [((up_eq (j := 7) eS267 (by decide)).trans ((up_eq (j := 7) eS211 (by decide)).trans (up_eq (j := 7) eS102 (by decide))))]; exact hbd.2⟩ hQ (lv_sub hl [0, 3, 1, 4, 5, 6, 7] rfl)
                          · have h298 := ib_ne k287
                            have b299 : Bd r286 (1) (1) := rf_nlo b286 (by decide : Bd 0 (0) (0)) h298
                            refine lv_iconst (v := (-1)) hx hb dX12_pushOf_177 (by decide) ?_
                            exact xri E hr hlk hQ (⟨hI, (up_o (up_o (up_o (o_trans (o_trans o_refl o14 (by decide)) hf49 (by decide)) eS102 (by decide)) eS211 (by decide)) eS267 (by decide)), (ib_wk (by decide : Bd (-1) (-1) (-1)) (by decide) (by decide))⟩) dX12_pushOf_178
                      · have h300 := ib_eq k274
                        refine lv_iload hx hb dX12_pushOf_130 (lv_at hl 1 rfl) ?_
                        exact xri E hr hlk hQ (⟨hI, (up_o (up_o (up_o (o_trans (o_trans o_refl o14 (by decide)) hf49 (by decide)) eS102 (by decide)) eS211 (by decide)) eS267 (by decide)), (ib_wk b84 (by decide) (by decide))⟩) dX12_pushOf_132
                  · have h301 := ib_nle k269
                    exact absurd h301 (by decide)
    obtain ⟨n49, hn49⟩ := fu_n ((-1) * z77.toInt + 100)
    have c302 : S14 7 = .inl (g.2 0, 50, .inl f1) := ((o14 7 (by decide)).trans c2)
    have hb303 : Bd (arr (S14 7) 0) 1 12 := by rw [arr_of c302, ee5]; exact b11
    have hn304 : (arr (S14 7) 0).toInt = v4.toInt := by rw [arr_of c302, ee5]
    have hz : (arr (S14 16) (12 * z77.toInt.toNat + z66.toInt.toNat)).toInt < 100000 := by rw [arr_of c47, show 12 * z77.toInt.toNat + z66.toInt.toNat = r45.toNatClampNeg from by have q0 : r45.toNatClampNeg = r45.toInt.toNat := rfl; omega, ← e50]; omega
    exact loop49 n49 _ _ _ _ z66 0 z77 v15 v16 v18 v20 v22 v23 w24 v25 v27 v28 v29 v30 v32 v34 v36 v38 v40 v41 v42 b68 (ib_wk b79 (by decide) (by decide)) b17 b19 b21 b26 b31 b33 b35 b37 b39 (by have : (0 : Int32).toInt = 0 := (by decide); omega) hI o_refl c44 ⟨hz, by omega⟩ hQ (lv_sub hl [0, 1, 2, 3, 4, 5, 6] rfl)
  · have h305 := ib_nlt k52
    have b306 : Bd z49 (100000) (100000) := ⟨((rf_le (by decide : Bd 100000 (100000) (100000)) b51 h305).2).1, (b51).2⟩
    refine lv_iconst (v := (-1)) hx hb dX12_pushOf_20 (by decide) ?_
    exact xri E hr hlk hQ (⟨hI, (o_trans o_refl o14 (by decide)), (ib_wk (by decide : Bd (-1) (-1) (-1)) (by decide) (by decide))⟩) dX12_pushOf_21
set_option maxHeartbeats 4000000 in
set_option maxRecDepth 100000 in
theorem gX12_push_0 (l : Launch) (g : GG) (ad : Nat → Nat) (hD : Dj ad 20) (S : SS) (hI : InvM g ad S) (a1 : Int32) (a2 : Int32) (a3 : Int32) (hq1 : 0 ≤ 12 * elm (S 7) 1 + (-1) * elm (S 7) 0) (hq2 : 0 ≤ 12 * elm (S 7) 3 + (-1) * elm (S 7) 0) (hq3 : 0 ≤ 8 * elm (S 7) 0 + (-1) * elm (S 7) 6) (hq4 : 0 ≤ 3 * elm (S 7) 0 + (-1) * elm (S 7) 8) (hq5 : 0 ≤ 40000 * elm (S 7) 0 + (-1) * elm (S 6) 0) : Met l yX12_push (wG (.code yX12_push cX12_push 4 (some .int))) (Rm 6) (XPre g ad 20 S [.ref (ad 0), .int a1, .int a2, .int a3]) (va_Qi (fun r S' => InvM g ad S' ∧ (∀ j, j ∉ ([0, 16] : List Nat) → S' j = S j) ∧ Bd r (-2) (99)) (QB g ad 20) (FA ad 20)) 0 0 (FA ad 20) := by
  refine xmet cX12_push "EbbWreckModel" (by decide) rfl (Nat.le_of_ble_eq_true rfl) (fun p e s m below meth c E hr hlk hml hQ ls hl => ?_)
  have hx := E.1
  have hb := E.2.1
  have hs : Sp ad 20 (FA ad 20) := Sp.fa hD
  have hl : lv_has ls 4 [(0, .ref (ad 0)), (1, .int a1), (2, .int a2), (3, .int a3)] := hl
  obtain ⟨f1, c2, b3⟩ := invM_7 hI
  obtain ⟨v4, ee5⟩ : ∃ z : Int32, f1 1 = z := ⟨_, rfl⟩
  have b6 : Bd v4 (0) (12) := (by rw [← ee5]; exact b3.2.1 1 (by decide))
  obtain ⟨v7, ee8⟩ : ∃ z : Int32, f1 0 = z := ⟨_, rfl⟩
  have b9 : Bd v7 (0) (12) := (by rw [← ee8]; exact b3.1 0 (by decide))
  obtain ⟨v10, ee11⟩ : ∃ z : Int32, f1 3 = z := ⟨_, rfl⟩
  have b12 : Bd v10 (0) (12) := (by rw [← ee11]; exact b3.2.2.2.1 3 (by decide))
  obtain ⟨v13, ee14⟩ : ∃ z : Int32, f1 6 = z := ⟨_, rfl⟩
  have b15 : Bd v13 (0) (8) := (by rw [← ee14]; exact b3.2.2.2.2.1 6 (by decide))
  obtain ⟨v16, ee17⟩ : ∃ z : Int32, f1 8 = z := ⟨_, rfl⟩
  have b18 : Bd v16 (0) (3) := (by rw [← ee17]; exact b3.2.2.2.2.2.2.1 8 (by decide))
  obtain ⟨f19, c20, b21⟩ := invM_6 hI
  obtain ⟨v22, ee23⟩ : ∃ z : Int32, f19 0 = z := ⟨_, rfl⟩
  have b24 : Bd v22 (0) (40000) := (by rw [← ee23]; exact b21 0)
  have q25 : elm (S 7) 1 = v4.toInt := (elm_of c2 1).trans (congrArg Int32.toInt (ee5))
  have q26 : elm (S 7) 0 = v7.toInt := (elm_of c2 0).trans (congrArg Int32.toInt (ee8))
  have q27 : elm (S 7) 3 = v10.toInt := (elm_of c2 3).trans (congrArg Int32.toInt (ee11))
  have q28 : elm (S 7) 6 = v13.toInt := (elm_of c2 6).trans (congrArg Int32.toInt (ee14))
  have q29 : elm (S 7) 8 = v16.toInt := (elm_of c2 8).trans (congrArg Int32.toInt (ee17))
  have q30 : elm (S 6) 0 = v22.toInt := (elm_of c20 0).trans (congrArg Int32.toInt (ee23))
  refine lv_aload_n hx hb dX12_push_0 rfl (lv_at hl 0 rfl) ?_
  refine lv_iconst (v := 0) hx hb dX12_push_1 (by decide) ?_
  obtain ⟨v31, v32, v34, v36, v38, v39, w40, v41, v43, v44, v45, v46, v48, v50, v52, v54, v56, v57, v58, c59, b33, b35, b37, b42, b47, b49, b51, b53, b55⟩ := invM_0 hI
  have c59 : S 0 = .inr (12, [.int v31, .ref (ad 1), .ref (ad 2), .ref (ad 3), .ref (ad 4), .ref (ad 5), .int v32, .int v34, .int v36, .int v38, .int v39, .long w40, .int v41, .int v43, .int v44, .int v45, .ref (ad 6), .ref (ad 7), .ref (ad 8), .ref (ad 9), .ref (ad 10), .ref (ad 11), .ref (ad 12), .ref (ad 13), .ref (ad 14), .ref (ad 15), .int v46, .int v48, .ref (ad 16), .int v50, .int v52, .int v54, .int v56, .int v57, .ref (ad 17), .ref (ad 18), .int v58, .ref (ad 19)]) := c59
  refine xputi E hs hQ 0 (by decide) c59 rfl 0 (by decide) q1468 rfl rfl (Nat.le_of_ble_eq_true rfl) dX12_push_2 (fun H locs S60 eS60 hQ => ?_)
  have hI := invM_up_0 hI eS60 ⟨0, v32, v34, v36, v38, v39, w40, v41, v43, v44, v45, v46, v48, v50, v52, v54, v56, v57, v58, rfl, b33, b35, b37, b42, b47, b49, b51, b53, b55⟩
  have c61 : S60 0 = .inr (12, [.int 0, .ref (ad 1), .ref (ad 2), .ref (ad 3), .ref (ad 4), .ref (ad 5), .int v32, .int v34, .int v36, .int v38, .int v39, .long w40, .int v41, .int v43, .int v44, .int v45, .ref (ad 6), .ref (ad 7), .ref (ad 8), .ref (ad 9), .ref (ad 10), .ref (ad 11), .ref (ad 12), .ref (ad 13), .ref (ad 14), .ref (ad 15), .int v46, .int v48, .ref (ad 16), .int v50, .int v52, .int v54, .int v56, .int v57, .ref (ad 17), .ref (ad 18), .int v58, .ref (ad 19)]) := up_at eS60 rfl
  refine lv_aload_n hx hb dX12_push_5 rfl (lv_at hl 0 rfl) ?_
  refine lv_iload_n hx hb dX12_push_6 rfl (lv_at hl 1 rfl) ?_
  refine lv_iload_n hx hb dX12_push_7 rfl (lv_at hl 2 rfl) ?_
  have c62 : S60 6 = .inl (g.2 0, 5, .inl f19) := (up_ne eS60 (by decide) c20)
  have c63 : S60 7 = .inl (g.2 0, 50, .inl f1) := (up_ne eS60 (by decide) c2)
  refine xcVi E hs hQ hml hl.1 0 (gX12_isPush_0 l g ad hD S60 hI a1 a2) mX12_isPush q1922 (by decide) c61 rfl rfl ⟨(Nat.le_of_ble_eq_true rfl), (Nat.le_of_ble_eq_true rfl)⟩ ⟨(Nat.le_of_ble_eq_true rfl), (Nat.le_of_ble_eq_true rfl)⟩ (Nat.le_of_ble_eq_true rfl) rfl dX12_push_8 (fun r64 S64 H locs hp64 hQ _ => ?_)
  obtain ⟨rfl, b64, g64_0⟩ := hp64
  have q65 : elm (S60 6) 0 = v22.toInt := (elm_of c62 0).trans (congrArg Int32.toInt (ee23))
  have q66 : elm (S60 7) 6 = v13.toInt := (elm_of c63 6).trans (congrArg Int32.toInt (ee14))
  refine lv_if_eq (tgt := 24) hx hb dX12_push_11 (by decide) (fun k67 => ?_) (fun k67 => ?_)
  · have h68 := ib_eq k67
    have b69 : Bd r64 (0) (0) := ⟨(b64).1, ((rf_eq b64 (by decide : Bd 0 (0) (0)) h68).1).2⟩
    clear g64_0
    refine lv_bipush (v := (-2)) hx hb dX12_push_24 (by decide) ?_
    exact xri E hr hlk hQ (⟨hI, (up_o o_refl eS60 (by decide)), (ib_wk (by decide : Bd (-2) (-2) (-2)) (by decide) (by decide))⟩) dX12_push_26
  · have h70 := ib_ne k67
    have b71 : Bd r64 (1) (1) := rf_nlo b64 (by decide : Bd 0 (0) (0)) h70
    have g72 := g64_0.resolve_left (by omega)
    clear g64_0
    have b73 : Bd v22 (1) (40000) := ⟨by omega, (b24).2⟩
    have b74 : Bd a1 (0) (7) := ⟨by omega, by omega⟩
    have b75 : Bd v13 (1) (8) := ⟨by omega, (b15).2⟩
    refine lv_aload_n hx hb dX12_push_14 rfl (lv_at hl 0 rfl) ?_
    refine lv_iload_n hx hb dX12_push_15 rfl (lv_at hl 1 rfl) ?_
    refine lv_iload_n hx hb dX12_push_16 rfl (lv_at hl 2 rfl) ?_
    refine lv_iload_n hx hb dX12_push_17 rfl (lv_at hl 3 rfl) ?_
    have q76 : elm (S60 7) 0 = v7.toInt := (elm_of c63 0).trans (congrArg Int32.toInt (ee8))
    have q77 : elm (S60 7) 1 = v4.toInt := (elm_of c63 1).trans (congrArg Int32.toInt (ee5))
    refine xcVi E hs hQ hml hl.1 0 (gX12_pushOf_0 l g ad hD S60 hI a1 a2 a3 b74 (by omega) (by omega)) mX12_pushOf q1942 (by decide) c61 rfl rfl ⟨(Nat.le_of_ble_eq_true rfl), (Nat.le_of_ble_eq_true rfl)⟩ ⟨(Nat.le_of_ble_eq_true rfl), (Nat.le_of_ble_eq_true rfl)⟩ (Nat.le_of_ble_eq_true rfl) rfl dX12_push_18 (fun r78 S78 H locs hp78 hQ _ => ?_)
    obtain ⟨hI, o78, b78⟩ := hp78
    refine lv_goto (tgt := 26) hx hb dX12_push_21 (by decide) ?_
    exact xri E hr hlk hQ (⟨hI, (o_trans (up_o o_refl eS60 (by decide)) o78 (by decide)), (ib_wk b78 (by decide) (by decide))⟩) dX12_push_26
set_option maxHeartbeats 4000000 in
set_option maxRecDepth 100000 in
theorem gX12_way_0 (l : Launch) (g : GG) (ad : Nat → Nat) (hD : Dj ad 20) (S : SS) (hI : InvM g ad S) (a1 : Int32) (a2 : Int32) (a3 : Int32) (hq1 : 0 ≤ 12 * elm (S 7) 1 + (-1) * elm (S 7) 0) (hq2 : 0 ≤ 12 * elm (S 7) 3 + (-1) * elm (S 7) 0) (hq3 : 0 ≤ 8 * elm (S 7) 0 + (-1) * elm (S 7) 6) (hq4 : 0 ≤ 3 * elm (S 7) 0 + (-1) * elm (S 7) 8) (hq5 : 0 ≤ 40000 * elm (S 7) 0 + (-1) * elm (S 6) 0) : Met l yX12_way (wG (.code yX12_way cX12_way 4 (some .int))) (Rm 6) (XPre g ad 20 S [.ref (ad 0), .int a1, .int a2, .int a3]) (va_Qi (fun r S' => InvM g ad S' ∧ (∀ j, j ∉ ([0, 16] : List Nat) → S' j = S j) ∧ Bd r (-2) (1)) (QB g ad 20) (FA ad 20)) 0 0 (FA ad 20) := by
  refine xmet cX12_way "EbbWreckModel" (by decide) rfl (Nat.le_of_ble_eq_true rfl) (fun p e s m below meth c E hr hlk hml hQ ls hl => ?_)
  have hx := E.1
  have hb := E.2.1
  have hs : Sp ad 20 (FA ad 20) := Sp.fa hD
  have hl : lv_has ls 4 [(0, .ref (ad 0)), (1, .int a1), (2, .int a2), (3, .int a3)] := hl
  obtain ⟨f1, c2, b3⟩ := invM_7 hI
  obtain ⟨v4, ee5⟩ : ∃ z : Int32, f1 1 = z := ⟨_, rfl⟩
  have b6 : Bd v4 (0) (12) := (by rw [← ee5]; exact b3.2.1 1 (by decide))
  obtain ⟨v7, ee8⟩ : ∃ z : Int32, f1 0 = z := ⟨_, rfl⟩
  have b9 : Bd v7 (0) (12) := (by rw [← ee8]; exact b3.1 0 (by decide))
  obtain ⟨v10, ee11⟩ : ∃ z : Int32, f1 3 = z := ⟨_, rfl⟩
  have b12 : Bd v10 (0) (12) := (by rw [← ee11]; exact b3.2.2.2.1 3 (by decide))
  obtain ⟨v13, ee14⟩ : ∃ z : Int32, f1 6 = z := ⟨_, rfl⟩
  have b15 : Bd v13 (0) (8) := (by rw [← ee14]; exact b3.2.2.2.2.1 6 (by decide))
  obtain ⟨v16, ee17⟩ : ∃ z : Int32, f1 8 = z := ⟨_, rfl⟩
  have b18 : Bd v16 (0) (3) := (by rw [← ee17]; exact b3.2.2.2.2.2.2.1 8 (by decide))
  obtain ⟨f19, c20, b21⟩ := invM_6 hI
  obtain ⟨v22, ee23⟩ : ∃ z : Int32, f19 0 = z := ⟨_, rfl⟩
  have b24 : Bd v22 (0) (40000) := (by rw [← ee23]; exact b21 0)
  have q25 : elm (S 7) 1 = v4.toInt := (elm_of c2 1).trans (congrArg Int32.toInt (ee5))
  have q26 : elm (S 7) 0 = v7.toInt := (elm_of c2 0).trans (congrArg Int32.toInt (ee8))
  have q27 : elm (S 7) 3 = v10.toInt := (elm_of c2 3).trans (congrArg Int32.toInt (ee11))
  have q28 : elm (S 7) 6 = v13.toInt := (elm_of c2 6).trans (congrArg Int32.toInt (ee14))
  have q29 : elm (S 7) 8 = v16.toInt := (elm_of c2 8).trans (congrArg Int32.toInt (ee17))
  have q30 : elm (S 6) 0 = v22.toInt := (elm_of c20 0).trans (congrArg Int32.toInt (ee23))
  refine lv_aload_n hx hb dX12_way_0 rfl (lv_at hl 0 rfl) ?_
  refine lv_iconst (v := 0) hx hb dX12_way_1 (by decide) ?_
  obtain ⟨v31, v32, v34, v36, v38, v39, w40, v41, v43, v44, v45, v46, v48, v50, v52, v54, v56, v57, v58, c59, b33, b35, b37, b42, b47, b49, b51, b53, b55⟩ := invM_0 hI
  have c59 : S 0 = .inr (12, [.int v31, .ref (ad 1), .ref (ad 2), .ref (ad 3), .ref (ad 4), .ref (ad 5), .int v32, .int v34, .int v36, .int v38, .int v39, .long w40, .int v41, .int v43, .int v44, .int v45, .ref (ad 6), .ref (ad 7), .ref (ad 8), .ref (ad 9), .ref (ad 10), .ref (ad 11), .ref (ad 12), .ref (ad 13), .ref (ad 14), .ref (ad 15), .int v46, .int v48, .ref (ad 16), .int v50, .int v52, .int v54, .int v56, .int v57, .ref (ad 17), .ref (ad 18), .int v58, .ref (ad 19)]) := c59
  refine xputi E hs hQ 0 (by decide) c59 rfl 0 (by decide) q1468 rfl rfl (Nat.le_of_ble_eq_true rfl) dX12_way_2 (fun H locs S60 eS60 hQ => ?_)
  have hI := invM_up_0 hI eS60 ⟨0, v32, v34, v36, v38, v39, w40, v41, v43, v44, v45, v46, v48, v50, v52, v54, v56, v57, v58, rfl, b33, b35, b37, b42, b47, b49, b51, b53, b55⟩
  have c61 : S60 0 = .inr (12, [.int 0, .ref (ad 1), .ref (ad 2), .ref (ad 3), .ref (ad 4), .ref (ad 5), .int v32, .int v34, .int v36, .int v38, .int v39, .long w40, .int v41, .int v43, .int v44, .int v45, .ref (ad 6), .ref (ad 7), .ref (ad 8), .ref (ad 9), .ref (ad 10), .ref (ad 11), .ref (ad 12), .ref (ad 13), .ref (ad 14), .ref (ad 15), .int v46, .int v48, .ref (ad 16), .int v50, .int v52, .int v54, .int v56, .int v57, .ref (ad 17), .ref (ad 18), .int v58, .ref (ad 19)]) := up_at eS60 rfl
  refine lv_aload_n hx hb dX12_way_5 rfl (lv_at hl 0 rfl) ?_
  refine lv_iload_n hx hb dX12_way_6 rfl (lv_at hl 1 rfl) ?_
  refine lv_iload_n hx hb dX12_way_7 rfl (lv_at hl 2 rfl) ?_
  have c62 : S60 6 = .inl (g.2 0, 5, .inl f19) := (up_ne eS60 (by decide) c20)
  have c63 : S60 7 = .inl (g.2 0, 50, .inl f1) := (up_ne eS60 (by decide) c2)
  refine xcVi E hs hQ hml hl.1 0 (gX12_isPush_0 l g ad hD S60 hI a1 a2) mX12_isPush q1922 (by decide) c61 rfl rfl ⟨(Nat.le_of_ble_eq_true rfl), (Nat.le_of_ble_eq_true rfl)⟩ ⟨(Nat.le_of_ble_eq_true rfl), (Nat.le_of_ble_eq_true rfl)⟩ (Nat.le_of_ble_eq_true rfl) rfl dX12_way_8 (fun r64 S64 H locs hp64 hQ _ => ?_)
  obtain ⟨rfl, b64, g64_0⟩ := hp64
  have q65 : elm (S60 6) 0 = v22.toInt := (elm_of c62 0).trans (congrArg Int32.toInt (ee23))
  have q66 : elm (S60 7) 6 = v13.toInt := (elm_of c63 6).trans (congrArg Int32.toInt (ee14))
  refine lv_if_ne (tgt := 17) hx hb dX12_way_11 (by decide) (fun k67 => ?_) (fun k67 => ?_)
  · have h68 := ib_ne k67
    have b69 : Bd r64 (1) (1) := rf_nlo b64 (by decide : Bd 0 (0) (0)) h68
    have g70 := g64_0.resolve_left (by omega)
    clear g64_0
    have b71 : Bd v22 (1) (40000) := ⟨by omega, (b24).2⟩
    have b72 : Bd a1 (0) (7) := ⟨by omega, by omega⟩
    have b73 : Bd v13 (1) (8) := ⟨by omega, (b15).2⟩
    refine lv_aload_n hx hb dX12_way_17 rfl (lv_at hl 0 rfl) ?_
    refine lv_iload_n hx hb dX12_way_18 rfl (lv_at hl 1 rfl) ?_
    refine lv_iload_n hx hb dX12_way_19 rfl (lv_at hl 2 rfl) ?_
    refine lv_iload_n hx hb dX12_way_20 rfl (lv_at hl 3 rfl) ?_
    have q74 : elm (S60 7) 0 = v7.toInt := (elm_of c63 0).trans (congrArg Int32.toInt (ee8))
    have q75 : elm (S60 7) 1 = v4.toInt := (elm_of c63 1).trans (congrArg Int32.toInt (ee5))
    refine xcVi E hs hQ hml hl.1 0 (gX12_pushOf_0 l g ad hD S60 hI a1 a2 a3 b72 (by omega) (by omega)) mX12_pushOf q1942 (by decide) c61 rfl rfl ⟨(Nat.le_of_ble_eq_true rfl), (Nat.le_of_ble_eq_true rfl)⟩ ⟨(Nat.le_of_ble_eq_true rfl), (Nat.le_of_ble_eq_true rfl)⟩ (Nat.le_of_ble_eq_true rfl) rfl dX12_way_21 (fun r76 S76 H locs hp76 hQ _ => ?_)
    obtain ⟨hI, o76, b76⟩ := hp76
    refine lv_iconst (v := (-1)) hx hb dX12_way_24 (by decide) ?_
    refine lv_icmp_ne (tgt := 32) hx hb dX12_way_25 (by decide) (fun k77 => ?_) (fun k77 => ?_)
    · have h78 := ib_ne k77
      have b79 : Bd r76 (0) (99) := rf_nlo b76 (by decide : Bd (-1) (-1) (-1)) h78
      refine lv_aload_n hx hb dX12_way_32 rfl (lv_at hl 0 rfl) ?_
      obtain ⟨v80, v81, v83, v85, v87, v88, w89, v90, v92, v93, v94, v95, v97, v99, v101, v103, v105, v106, v107, c108, b82, b84, b86, b91, b96, b98, b100, b102, b104⟩ := invM_0 hI
      have c108 : S76 0 = .inr (12, [.int v80, .ref (ad 1), .ref (ad 2), .ref (ad 3), .ref (ad 4), .ref (ad 5), .int v81, .int v83, .int v85, .int v87, .int v88, .long w89, .int v90, .int v92, .int v93, .int v94, .ref (ad 6), .ref (ad 7), .ref (ad 8), .ref (ad 9), .ref (ad 10), .ref (ad 11), .ref (ad 12), .ref (ad 13), .ref (ad 14), .ref (ad 15), .int v95, .int v97, .ref (ad 16), .int v99, .int v101, .int v103, .int v105, .int v106, .ref (ad 17), .ref (ad 18), .int v107, .ref (ad 19)]) := c108
      refine xget E hQ 0 (by decide) c108 rfl 29 (by decide) q1497 rfl dX12_way_33 ?_
      refine lv_iconst (v := 1) hx hb dX12_way_36 (by decide) ?_
      refine lv_isub hx hb dX12_way_37 ?_
      refine lv_topi (fun z109 e110 => ?_)
      have t111 := ib_sub e110 b100 (by decide : Bd 1 (1) (1)) (by decide) (by decide)
      have b112 : Bd z109 (-1) (1) := ib_subb t111 b100 (by decide : Bd 1 (1) (1))
      have t111 : z109.toInt = v99.toInt - 1 := fold_sub t111 rfl (by decide)
      exact xri E hr hlk hQ (⟨hI, (o_trans (up_o o_refl eS60 (by decide)) o76 (by decide)), (ib_wk b112 (by decide) (by decide))⟩) dX12_way_38
    · have h113 := ib_eq k77
      have b114 : Bd r76 (-1) (-1) := ⟨(b76).1, ((rf_eq b76 (by decide : Bd (-1) (-1) (-1)) h113).1).2⟩
      refine lv_iconst (v := (-1)) hx hb dX12_way_28 (by decide) ?_
      refine lv_goto (tgt := 38) hx hb dX12_way_29 (by decide) ?_
      exact xri E hr hlk hQ (⟨hI, (o_trans (up_o o_refl eS60 (by decide)) o76 (by decide)), (ib_wk (by decide : Bd (-1) (-1) (-1)) (by decide) (by decide))⟩) dX12_way_38
  · have h115 := ib_eq k67
    have b116 : Bd r64 (0) (0) := ⟨(b64).1, ((rf_eq b64 (by decide : Bd 0 (0) (0)) h115).1).2⟩
    clear g64_0
    refine lv_bipush (v := (-2)) hx hb dX12_way_14 (by decide) ?_
    exact xri E hr hlk hQ (⟨hI, (up_o o_refl eS60 (by decide)), (ib_wk (by decide : Bd (-2) (-2) (-2)) (by decide) (by decide))⟩) dX12_way_16
