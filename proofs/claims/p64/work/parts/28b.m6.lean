set_option maxHeartbeats 4000000 in
set_option maxRecDepth 100000 in
theorem gX12_lasts_0 (l : Launch) (g : GG) (ad : Nat → Nat) (hD : Dj ad 20) (S : SS) (hI : InvM g ad S) (a1 : Int32) (hq1 : 0 ≤ 12 * elm (S 7) 1 + (-1) * elm (S 7) 0) (hq2 : 0 ≤ 12 * elm (S 7) 3 + (-1) * elm (S 7) 0) (hq3 : 0 ≤ 8 * elm (S 7) 0 + (-1) * elm (S 7) 6) (hq4 : 0 ≤ 3 * elm (S 7) 0 + (-1) * elm (S 7) 8) (hq5 : 0 ≤ 40000 * elm (S 7) 0 + (-1) * elm (S 6) 0) : Met l yX12_lasts (wG (.code yX12_lasts cX12_lasts 3 (some .int))) (Rm 2) (XPre g ad 20 S [.ref (ad 0), .int a1]) (va_Qi (fun r S' => InvM g ad S' ∧ (∀ j, j ∉ ([0] : List Nat) → S' j = S j) ∧ Bd r (-2) (36)) (QB g ad 20) (FA ad 20)) 0 0 (FA ad 20) := by
  refine xmet cX12_lasts "EbbWreckModel" (by decide) rfl (Nat.le_of_ble_eq_true rfl) (fun p e s m below meth c E hr hlk hml hQ ls hl => ?_)
  have hx := E.1
  have hb := E.2.1
  have hs : Sp ad 20 (FA ad 20) := Sp.fa hD
  have hl : lv_has ls 3 [(0, .ref (ad 0)), (1, .int a1)] := hl
  obtain ⟨f1, c2, b3⟩ := invM_7 hI
  obtain ⟨v4, ee5⟩ : ∃ z : Int32, f1 1 = z := ⟨_, rfl⟩
  have b6 : Bd v4 (0) (12) := (by rw [← ee5]; exact b3.2.1 1 (by decide))
  obtain ⟨v7, ee8⟩ : ∃ z : Int32, f1 0 = z := ⟨_, rfl⟩
  have b9 : Bd v7 (0) (12) := (by rw [← ee8]; exact b3.1 0 (by decide))
  obtain ⟨v10, ee11⟩ : ∃ z : Int32, f1 3 = z := ⟨_, rfl⟩
  have b12 : Bd v10 (0) (12) := (by rw [← ee11]; exact b3.2.2.2.1 3 (by decide))
  obtain ⟨v13, ee14⟩ : ∃ z : Int32, f1 6 = z := ⟨_, rfl⟩
  have b15 : Bd v13 (0) (8) := (by rw [← ee14]; exact b3.2.2.2.2.1 6 (by decide))
  obtain ⟨v16, ee17⟩ : ∃ z : Int32, f1 8 = z := ⟨_, rfl⟩
  have b18 : Bd v16 (0) (3) := (by rw [← ee17]; exact b3.2.2.2.2.2.2.1 8 (by decide))
  obtain ⟨f19, c20, b21⟩ := invM_6 hI
  obtain ⟨v22, ee23⟩ : ∃ z : Int32, f19 0 = z := ⟨_, rfl⟩
  have b24 : Bd v22 (0) (40000) := (by rw [← ee23]; exact b21 0)
  have q25 : elm (S 7) 1 = v4.toInt := (elm_of c2 1).trans (congrArg Int32.toInt (ee5))
  have q26 : elm (S 7) 0 = v7.toInt := (elm_of c2 0).trans (congrArg Int32.toInt (ee8))
  have q27 : elm (S 7) 3 = v10.toInt := (elm_of c2 3).trans (congrArg Int32.toInt (ee11))
  have q28 : elm (S 7) 6 = v13.toInt := (elm_of c2 6).trans (congrArg Int32.toInt (ee14))
  have q29 : elm (S 7) 8 = v16.toInt := (elm_of c2 8).trans (congrArg Int32.toInt (ee17))
  have q30 : elm (S 6) 0 = v22.toInt := (elm_of c20 0).trans (congrArg Int32.toInt (ee23))
  refine lv_aload_n hx hb dX12_lasts_0 rfl (lv_at hl 0 rfl) ?_
  refine lv_iconst (v := 0) hx hb dX12_lasts_1 (by decide) ?_
  obtain ⟨v31, v32, v34, v36, v38, v39, w40, v41, v43, v44, v45, v46, v48, v50, v52, v54, v56, v57, v58, c59, b33, b35, b37, b42, b47, b49, b51, b53, b55⟩ := invM_0 hI
  have c59 : S 0 = .inr (12, [.int v31, .ref (ad 1), .ref (ad 2), .ref (ad 3), .ref (ad 4), .ref (ad 5), .int v32, .int v34, .int v36, .int v38, .int v39, .long w40, .int v41, .int v43, .int v44, .int v45, .ref (ad 6), .ref (ad 7), .ref (ad 8), .ref (ad 9), .ref (ad 10), .ref (ad 11), .ref (ad 12), .ref (ad 13), .ref (ad 14), .ref (ad 15), .int v46, .int v48, .ref (ad 16), .int v50, .int v52, .int v54, .int v56, .int v57, .ref (ad 17), .ref (ad 18), .int v58, .ref (ad 19)]) := c59
  refine xputi E hs hQ 0 (by decide) c59 rfl 0 (by decide) q1468 rfl rfl (Nat.le_of_ble_eq_true rfl) dX12_lasts_2 (fun H locs S60 eS60 hQ => ?_)
  have hI := invM_up_0 hI eS60 ⟨0, v32, v34, v36, v38, v39, w40, v41, v43, v44, v45, v46, v48, v50, v52, v54, v56, v57, v58, rfl, b33, b35, b37, b42, b47, b49, b51, b53, b55⟩
  have c61 : S60 0 = .inr (12, [.int 0, .ref (ad 1), .ref (ad 2), .ref (ad 3), .ref (ad 4), .ref (ad 5), .int v32, .int v34, .int v36, .int v38, .int v39, .long w40, .int v41, .int v43, .int v44, .int v45, .ref (ad 6), .ref (ad 7), .ref (ad 8), .ref (ad 9), .ref (ad 10), .ref (ad 11), .ref (ad 12), .ref (ad 13), .ref (ad 14), .ref (ad 15), .int v46, .int v48, .ref (ad 16), .int v50, .int v52, .int v54, .int v56, .int v57, .ref (ad 17), .ref (ad 18), .int v58, .ref (ad 19)]) := up_at eS60 rfl
  refine lv_aload_n hx hb dX12_lasts_5 rfl (lv_at hl 0 rfl) ?_
  have c62 : S60 6 = .inl (g.2 0, 5, .inl f19) := (up_ne eS60 (by decide) c20)
  refine xcVi E hs hQ hml hl.1 0 (gX12_isShore_0 l g ad hD S60 hI ) mX12_isShore q1782 (by decide) c61 rfl rfl ⟨(Nat.le_of_ble_eq_true rfl), (Nat.le_of_ble_eq_true rfl)⟩ ⟨(Nat.le_of_ble_eq_true rfl), (Nat.le_of_ble_eq_true rfl)⟩ (Nat.le_of_ble_eq_true rfl) rfl dX12_lasts_6 (fun r63 S63 H locs hp63 hQ _ => ?_)
  obtain ⟨rfl, b63, g63_0⟩ := hp63
  have q64 : elm (S60 6) 0 = v22.toInt := (elm_of c62 0).trans (congrArg Int32.toInt (ee23))
  refine lv_if_eq (tgt := 24) hx hb dX12_lasts_9 (by decide) (fun k65 => ?_) (fun k65 => ?_)
  · have h66 := ib_eq k65
    have b67 : Bd r63 (0) (0) := ⟨(b63).1, ((rf_eq b63 (by decide : Bd 0 (0) (0)) h66).1).2⟩
    clear g63_0
    refine lv_bipush (v := (-2)) hx hb dX12_lasts_24 (by decide) ?_
    exact xri E hr hlk hQ (⟨hI, (up_o o_refl eS60 (by decide)), (ib_wk (by decide : Bd (-2) (-2) (-2)) (by decide) (by decide))⟩) dX12_lasts_26
  · have h68 := ib_ne k65
    have b69 : Bd r63 (1) (1) := rf_nlo b63 (by decide : Bd 0 (0) (0)) h68
    have g70 := g63_0.resolve_left (by omega)
    clear g63_0
    have b71 : Bd v22 (1) (40000) := ⟨by omega, (b24).2⟩
    refine lv_iload_n hx hb dX12_lasts_12 rfl (lv_at hl 1 rfl) ?_
    refine lv_i2l hx hb dX12_lasts_13 rfl ?_
    refine lv_topl (fun w72 e73 => ?_)
    have t74 : w72.toInt = a1.toInt := by rw [e73]; exact i2l_i _
    have b75 : BdL w72 (-2147483648) (2147483647) := (by have h1 := ((ib_full a1)).1; have h2 := ((ib_full a1)).2; exact ⟨by omega, by omega⟩)
    refine lv_lconst (v := 0) hx hb dX12_lasts_14 (by decide) ?_
    refine lv_ldc2 (v := 2000000000) hx hb E.2.2.1 (E.2.2.2.1 _ q1786) dX12_lasts_15 ?_
    have q76 : (0 : Int64).toInt = 0 := by decide
    have q77 : (2000000000 : Int64).toInt = 2000000000 := by decide
    refine xcSi E hs hQ hml hl.1 (gX12_in l g ad hD S60 hI w72 0 2000000000) mX12_in q1591 rfl ⟨(Nat.le_of_ble_eq_true rfl), (Nat.le_of_ble_eq_true rfl)⟩ ⟨(Nat.le_of_ble_eq_true rfl), (Nat.le_of_ble_eq_true rfl)⟩ (Nat.le_of_ble_eq_true rfl) rfl dX12_lasts_18 (fun r78 S78 H locs hp78 hQ => ?_)
    obtain ⟨rfl, b78, g78_0, u78_0⟩ := hp78
    refine lv_if_ne (tgt := 27) hx hb dX12_lasts_21 (by decide) (fun k79 => ?_) (fun k79 => ?_)
    · have h80 := ib_ne k79
      have b81 : Bd r78 (1) (1) := rf_nlo b78 (by decide : Bd 0 (0) (0)) h80
      have g82 := g78_0.resolve_left (by omega)
      clear g78_0
      have b83 : BdL w72 (0) (2000000000) := ⟨by omega, by omega⟩
      have b84 : Bd a1 (0) (2000000000) := ⟨by omega, by omega⟩
      refine lv_iconst (v := 1) hx hb dX12_lasts_27 (by decide) ?_
      refine lv_istore_n (lv' := [(2, .int 1), (0, .ref (ad 0)), (1, .int a1)]) hx hb dX12_lasts_28 rfl hl (by decide) rfl (fun ls hl => ?_)
      have loop29 : ∀ (n : Nat) (H : Heap) (locs : List Loc) (ls : Array Slot) (x29_2 : Int32), Bd x29_2 (1) (39) → (-1) * x29_2.toInt + 39 < ((n : Nat) : Int) → LSp (S60 7) (S60 8) (S60 10) a1 x29_2 → Hp g ad 20 S60 (FA ad 20) s.heap H locs → lv_has ls 3 [(2, .int x29_2), (0, .ref (ad 0)), (1, .int a1)] → W p l e (Rm 2) s m [.ref (ad 0), .int a1].toArray below meth c H locs 0 0 (MQ below (va_Qi (fun r S' => InvM g ad S' ∧ (∀ j, j ∉ ([0] : List Nat) → S' j = S j) ∧ Bd r (-2) (36)) (QB g ad 20) (FA ad 20)) [.ref (ad 0), .int a1].toArray s 0 0 (FA ad 20)) (F0 m 29 ls []) := by
        intro n
        induction n with
        | zero => intro H locs ls x29_2 Bx29_2 hn29_ hC29 hQ hl; exfalso; have := (Bx29_2).2; omega
        | succ n29_ ih29 =>
          intro H locs ls x29_2 Bx29_2 hn29_ hC29 hQ hl
          refine lv_aload_n hx hb dX12_lasts_29 rfl (lv_at hl 1 rfl) ?_
          have c85 : S60 7 = .inl (g.2 0, 50, .inl f1) := (up_ne eS60 (by decide) c2)
          have b86 : Bd v4 (1) (12) := ⟨by omega, (b6).2⟩
          have hb87 : Bd (arr (S60 7) 1) (1) (12) := by rw [arr_of c85, ee5]; exact b86
          obtain ⟨v88, ee89⟩ : ∃ z : Int32, f1 2 = z := ⟨_, rfl⟩
          have b90 : Bd v88 (0) (6) := (by rw [← ee89]; exact b3.2.2.1 2 (by decide))
          have hb91 : Bd (arr (S60 7) 2) (0) (6) := by rw [arr_of c85, ee89]; exact b90
          have b92 : Bd v10 (1) (12) := ⟨by omega, (b12).2⟩
          have hb93 : Bd (arr (S60 7) 3) (1) (12) := by rw [arr_of c85, ee11]; exact b92
          have b94 : Bd x29_2 (1) (36) := ⟨(Bx29_2).1, ls_bd (e8 := S60 8) (e10 := S60 10) (ib_wk hb87 (by decide) (by decide)) (ib_wk hb91 (by decide) (by decide)) (ib_wk hb93 (by decide) (by decide)) b84 hC29⟩
          refine lv_iload_n hx hb dX12_lasts_30 rfl (lv_at hl 2 rfl) ?_
          refine lv_iload_n hx hb dX12_lasts_31 rfl (lv_at hl 0 rfl) ?_
          refine lv_iadd hx hb dX12_lasts_32 ?_
          refine lv_topi (fun z95 e96 => ?_)
          have t97 := ib_add e96 b84 b94 (by decide) (by decide)
          have b98 : Bd z95 (1) (2000000036) := ib_addb t97 b84 b94
          have q99 : elm (S60 7) 1 = v4.toInt := (elm_of c85 1).trans (congrArg Int32.toInt (ee5))
          refine xcVi E hs hQ hml hl.1 0 (gX12_phaseOf_0 l g ad hD S60 hI z95 (by omega)) mX12_phaseOf q1787 (by decide) c61 rfl rfl ⟨(Nat.le_of_ble_eq_true rfl), (Nat.le_of_ble_eq_true rfl)⟩ ⟨(Nat.le_of_ble_eq_true rfl), (Nat.le_of_ble_eq_true rfl)⟩ (Nat.le_of_ble_eq_true rfl) rfl dX12_lasts_33 (fun r100 S100 H locs hp100 hQ _ => ?_)
          obtain ⟨rfl, b100, fg100⟩ := hp100
          refine lv_aload_n hx hb dX12_lasts_36 rfl (lv_at hl 1 rfl) ?_
          refine lv_iload_n hx hb dX12_lasts_37 rfl (lv_at hl 2 rfl) ?_
          refine xcVi E hs hQ hml hl.1 0 (gX12_phaseOf_0 l g ad hD S60 hI a1 (by omega)) mX12_phaseOf q1787 (by decide) c61 rfl rfl ⟨(Nat.le_of_ble_eq_true rfl), (Nat.le_of_ble_eq_true rfl)⟩ ⟨(Nat.le_of_ble_eq_true rfl), (Nat.le_of_ble_eq_true rfl)⟩ (Nat.le_of_ble_eq_true rfl) rfl dX12_lasts_38 (fun r101 S101 H locs hp101 hQ _ => ?_)
          obtain ⟨rfl, b101, fg101⟩ := hp101
          refine lv_icmp_ne (tgt := 50) hx hb dX12_lasts_41 (by decide) (fun k102 => ?_) (fun k102 => ?_)
          · have h103 := ib_ne k102
            refine lv_iload_n hx hb dX12_lasts_50 rfl (lv_at hl 0 rfl) ?_
            exact xri E hr hlk hQ (⟨hI, (up_o o_refl eS60 (by decide)), (ib_wk b94 (by decide) (by decide))⟩) dX12_lasts_51
          · have h104 := ib_eq k102
            obtain ⟨z105, e106⟩ : ∃ z : Int32, z = x29_2 + 1 := ⟨_, rfl⟩
            have t107 := ib_add e106 b94 (by decide : Bd 1 (1) (1)) (by decide) (by decide)
            have b108 : Bd z105 (2) (37) := ib_addb t107 b94 (by decide : Bd 1 (1) (1))
            have t107 : z105.toInt = x29_2.toInt + 1 := fold_add t107 rfl (by decide)
            refine lv_iinc (v := z105) (lv' := [(2, .int z105), (0, .ref (ad 0)), (1, .int a1)]) hx hb dX12_lasts_44 hl (k := 0) rfl (by rw [e106]; rfl) (by decide) rfl (fun ls hl => ?_)
            refine lv_goto (tgt := 29) hx hb dX12_lasts_47 (by decide) ?_
            exact ih29 _ _ _ z105 (ib_wk b108 (by decide) (by decide)) (by omega) (ls_s hC29 (by omega) (by omega) e96 fg100 fg101 (Int32.toInt_inj.mp (by omega))) hQ (lv_sub hl [0, 1, 2] rfl)
      obtain ⟨n29, hn29⟩ := fu_n (38)
      exact loop29 n29 _ _ _ 1 (ib_wk (by decide : Bd 1 (1) (1)) (by decide) (by decide)) (by have : (1 : Int32).toInt = 1 := (by decide); omega) ls_1 hQ (lv_sub hl [0, 1, 2] rfl)
    · have h109 := ib_eq k79
      have b110 : Bd r78 (0) (0) := ⟨(b78).1, ((rf_eq b78 (by decide : Bd 0 (0) (0)) h109).1).2⟩
      clear g78_0
      refine lv_bipush (v := (-2)) hx hb dX12_lasts_24 (by decide) ?_
      exact xri E hr hlk hQ (⟨hI, (up_o o_refl eS60 (by decide)), (ib_wk (by decide : Bd (-2) (-2) (-2)) (by decide) (by decide))⟩) dX12_lasts_26
set_option maxHeartbeats 4000000 in
set_option maxRecDepth 100000 in
theorem gX12_laysPushesT (l : Launch) (g : GG) (ad : Nat → Nat) (hD : Dj ad 20) (S : SS) (hI : InvM g ad S) (a1 : Int32) (hq1 : 0 ≤ elm (S 7) 0 + (-1)) (hq2 : 0 ≤ elm (S 7) 1 + (-1)) : Met l yX12_laysPushes (wG (.code yX12_laysPushes cX12_laysPushes 6 none)) (Rm 4) (XPre g ad 20 S [.ref (ad 0), .int a1]) (va_Qv (fun S' => InvM g ad S' ∧ (∀ j, j ∉ ([16] : List Nat) → S' j = S j) ∧ (TBp (S' 7) (S' 8) (S' 10) (S' 16) a1 (-1))) (QB g ad 20) (FA ad 20)) 0 0 (FA ad 20) := by
  refine xmet cX12_laysPushes "EbbWreckModel" (by decide) rfl (Nat.le_of_ble_eq_true rfl) (fun p e s m below meth c E hr hlk hml hQ ls hl => ?_)
  have hx := E.1
  have hb := E.2.1
  have hs : Sp ad 20 (FA ad 20) := Sp.fa hD
  have hl : lv_has ls 6 [(0, .ref (ad 0)), (1, .int a1)] := hl
  obtain ⟨f1, c2, b3⟩ := invM_7 hI
  obtain ⟨v4, ee5⟩ : ∃ z : Int32, f1 0 = z := ⟨_, rfl⟩
  have b6 : Bd v4 (0) (12) := (by rw [← ee5]; exact b3.1 0 (by decide))
  obtain ⟨v7, ee8⟩ : ∃ z : Int32, f1 1 = z := ⟨_, rfl⟩
  have b9 : Bd v7 (0) (12) := (by rw [← ee8]; exact b3.2.1 1 (by decide))
  have q10 : elm (S 7) 0 = v4.toInt := (elm_of c2 0).trans (congrArg Int32.toInt (ee5))
  have b11 : Bd v4 (1) (12) := ⟨by omega, (b6).2⟩
  have q12 : elm (S 7) 1 = v7.toInt := (elm_of c2 1).trans (congrArg Int32.toInt (ee8))
  have b13 : Bd v7 (1) (12) := ⟨by omega, (b9).2⟩
  refine lv_iconst (v := 0) hx hb dX12_laysPushes_0 (by decide) ?_
  refine lv_istore_n (lv' := [(2, .int 0), (0, .ref (ad 0)), (1, .int a1)]) hx hb dX12_laysPushes_1 rfl hl (by decide) rfl (fun ls hl => ?_)
  have loop2 : ∀ (n : Nat) (S_2 : SS) (H : Heap) (locs : List Loc) (ls : Array Slot) (x2_2 : Int32), Bd x2_2 (0) (12) → (-1) * x2_2.toInt + 12 < ((n : Nat) : Int) → InvM g ad S_2 → (∀ j, j ∉ ([16] : List Nat) → S_2 j = S j) → TB2 (S_2 16) x2_2.toInt → Hp g ad 20 S_2 (FA ad 20) s.heap H locs → lv_has ls 6 [(2, .int x2_2), (0, .ref (ad 0)), (1, .int a1)] → W p l e (Rm 4) s m [.ref (ad 0), .int a1].toArray below meth c H locs 0 0 (MQ below (va_Qv (fun S' => InvM g ad S' ∧ (∀ j, j ∉ ([16] : List Nat) → S' j = S j) ∧ (TBp (S' 7) (S' 8) (S' 10) (S' 16) a1 (-1))) (QB g ad 20) (FA ad 20)) [.ref (ad 0), .int a1].toArray s 0 0 (FA ad 20)) (F0 m 2 ls []) := by
    intro n
    induction n with
    | zero => intro S_2 H locs ls x2_2 Bx2_2 hn2_ hI hf2 hC2 hQ hl; exfalso; have := (Bx2_2).2; omega
    | succ n2_ ih2 =>
      intro S_2 H locs ls x2_2 Bx2_2 hn2_ hI hf2 hC2 hQ hl
      refine lv_iload_n hx hb dX12_laysPushes_2 rfl (lv_at hl 0 rfl) ?_
      refine lv_aload_n hx hb dX12_laysPushes_3 rfl (lv_at hl 1 rfl) ?_
      obtain ⟨v14, v15, v17, v19, v21, v22, w23, v24, v26, v27, v28, v29, v31, v33, v35, v37, v39, v40, v41, c42, b16, b18, b20, b25, b30, b32, b34, b36, b38⟩ := invM_0 hI
      have c42 : S_2 0 = .inr (12, [.int v14, .ref (ad 1), .ref (ad 2), .ref (ad 3), .ref (ad 4), .ref (ad 5), .int v15, .int v17, .int v19, .int v21, .int v22, .long w23, .int v24, .int v26, .int v27, .int v28, .ref (ad 6), .ref (ad 7), .ref (ad 8), .ref (ad 9), .ref (ad 10), .ref (ad 11), .ref (ad 12), .ref (ad 13), .ref (ad 14), .ref (ad 15), .int v29, .int v31, .ref (ad 16), .int v33, .int v35, .int v37, .int v39, .int v40, .ref (ad 17), .ref (ad 18), .int v41, .ref (ad 19)]) := c42
      refine xget E hQ 0 (by decide) c42 rfl 17 (by decide) q1485 rfl dX12_laysPushes_4 ?_
      refine lv_iconst (v := 0) hx hb dX12_laysPushes_7 (by decide) ?_
      have c43 : S_2 7 = .inl (g.2 0, 50, .inl f1) := ((hf2 7 (by decide)).trans c2)
      refine xiald E hQ 7 (by decide) c43 (vp_in_lit 0 50 (by decide)) dX12_laysPushes_8 ?_
      refine sb_at (P := fun z => W _ _ _ _ _ _ _ _ _ _ _ _ _ _ _ (F0 _ _ _ (.int z :: _))) (show f1 (0 : Int32).toNatClampNeg = v4 from ee5) ?_
      refine lv_icmp_ge (tgt := 30) hx hb dX12_laysPushes_9 (by decide) (fun k44 => ?_) (fun k44 => ?_)
      · have h45 := ib_le k44
        have b46 : Bd x2_2 (1) (12) := ⟨((rf_le b11 Bx2_2 h45).2).1, (Bx2_2).2⟩
        refine lv_bipush (v := 99) hx hb dX12_laysPushes_30 (by decide) ?_
        refine lv_istore_n (lv' := [(2, .int 99), (0, .ref (ad 0)), (1, .int a1)]) hx hb dX12_laysPushes_32 rfl hl (by decide) rfl (fun ls hl => ?_)
        have loop33 : ∀ (n : Nat) (S_33 : SS) (H : Heap) (locs : List Loc) (ls : Array Slot) (x33_2 : Int32), Bd x33_2 (-1) (99) → x33_2.toInt + 1 < ((n : Nat) : Int) → InvM g ad S_33 → (∀ j, j ∉ ([16] : List Nat) → S_33 j = S_2 j) → TBp (S_33 7) (S_33 8) (S_33 10) (S_33 16) a1 x33_2.toInt → Hp g ad 20 S_33 (FA ad 20) s.heap H locs → lv_has ls 6 [(2, .int x33_2), (0, .ref (ad 0)), (1, .int a1)] → W p l e (Rm 4) s m [.ref (ad 0), .int a1].toArray below meth c H locs 0 0 (MQ below (va_Qv (fun S' => InvM g ad S' ∧ (∀ j, j ∉ ([16] : List Nat) → S' j = S j) ∧ (TBp (S' 7) (S' 8) (S' 10) (S' 16) a1 (-1))) (QB g ad 20) (FA ad 20)) [.ref (ad 0), .int a1].toArray s 0 0 (FA ad 20)) (F0 m 33 ls []) := by
          intro n
          induction n with
          | zero => intro S_33 H locs ls x33_2 Bx33_2 hn33_ hI hf33 hC33 hQ hl; exfalso; have := (Bx33_2).1; omega
          | succ n33_ ih33 =>
            intro S_33 H locs ls x33_2 Bx33_2 hn33_ hI hf33 hC33 hQ hl
            refine lv_iload_n hx hb dX12_laysPushes_33 rfl (lv_at hl 0 rfl) ?_
            refine lv_if_lt (tgt := 118) hx hb dX12_laysPushes_34 (by decide) (fun k47 => ?_) (fun k47 => ?_)
            · have h48 := ib_lt k47
              have b49 : Bd x33_2 (-1) (-1) := ⟨(Bx33_2).1, ((rf_lt Bx33_2 (by decide : Bd 0 (0) (0)) h48).1).2⟩
              exact xrv E hr hlk hQ (⟨hI, (o_trans (o_trans o_refl hf2 (by decide)) hf33 (by decide)), (by have := hC33; exact ⟨this.1, fun h c q1 => this.2 h c (by omega)⟩)⟩) dX12_laysPushes_118
            · have h50 := ib_nlt k47
              have b51 : Bd x33_2 (0) (99) := ⟨((rf_le (by decide : Bd 0 (0) (0)) Bx33_2 h50).2).1, (Bx33_2).2⟩
              refine lv_iconst (v := 0) hx hb dX12_laysPushes_37 (by decide) ?_
              refine lv_istore_n (lv' := [(3, .int 0), (2, .int x33_2), (0, .ref (ad 0)), (1, .int a1)]) hx hb dX12_laysPushes_38 rfl hl (by decide) rfl (fun ls hl => ?_)
              have loop39 : ∀ (n : Nat) (S_39 : SS) (H : Heap) (locs : List Loc) (ls : Array Slot) (x39_3 : Int32), Bd x39_3 (0) (12) → (-1) * x39_3.toInt + 12 < ((n : Nat) : Int) → InvM g ad S_39 → (∀ j, j ∉ ([16] : List Nat) → S_39 j = S_33 j) → (TBp (S_39 7) (S_39 8) (S_39 10) (S_39 16) a1 x33_2.toInt ∧ TBr (S_39 7) (S_39 8) (S_39 10) (S_39 16) a1 x33_2 x39_3.toInt) → Hp g ad 20 S_39 (FA ad 20) s.heap H locs → lv_has ls 6 [(3, .int x39_3), (2, .int x33_2), (0, .ref (ad 0)), (1, .int a1)] → W p l e (Rm 4) s m [.ref (ad 0), .int a1].toArray below meth c H locs 0 0 (MQ below (va_Qv (fun S' => InvM g ad S' ∧ (∀ j, j ∉ ([16] : List Nat) → S' j = S j) ∧ (TBp (S' 7) (S' 8) (S' 10) (S' 16) a1 (-1))) (QB g ad 20) (FA ad 20)) [.ref (ad 0), .int a1].toArray s 0 0 (FA ad 20)) (F0 m 39 ls []) := by
                intro n
                induction n with
                | zero => intro S_39 H locs ls x39_3 Bx39_3 hn39_ hI hf39 hC39 hQ hl; exfalso; have := (Bx39_3).2; omega
                | succ n39_ ih39 =>
                  intro S_39 H locs ls x39_3 Bx39_3 hn39_ hI hf39 hC39 hQ hl
                  refine lv_iload_n hx hb dX12_laysPushes_39 rfl (lv_at hl 0 rfl) ?_
                  have c52 : S_39 7 = .inl (g.2 0, 50, .inl f1) := ((hf39 7 (by decide)).trans ((hf33 7 (by decide)).trans c43))
                  have hb53 : Bd (arr (S_39 7) 0) 1 12 := by rw [arr_of c52, ee5]; exact b11
                  have hn54 : (arr (S_39 7) 0).toInt = v4.toInt := by rw [arr_of c52, ee5]
                  refine lv_aload_n hx hb dX12_laysPushes_40 rfl (lv_at hl 2 rfl) ?_
                  have c55 : S_39 0 = .inr (12, [.int v14, .ref (ad 1), .ref (ad 2), .ref (ad 3), .ref (ad 4), .ref (ad 5), .int v15, .int v17, .int v19, .int v21, .int v22, .long w23, .int v24, .int v26, .int v27, .int v28, .ref (ad 6), .ref (ad 7), .ref (ad 8), .ref (ad 9), .ref (ad 10), .ref (ad 11), .ref (ad 12), .ref (ad 13), .ref (ad 14), .ref (ad 15), .int v29, .int v31, .ref (ad 16), .int v33, .int v35, .int v37, .int v39, .int v40, .ref (ad 17), .ref (ad 18), .int v41, .ref (ad 19)]) := ((hf39 0 (by decide)).trans ((hf33 0 (by decide)).trans c42))
                  refine xget E hQ 0 (by decide) c55 rfl 17 (by decide) q1485 rfl dX12_laysPushes_41 ?_
                  refine lv_iconst (v := 0) hx hb dX12_laysPushes_44 (by decide) ?_
                  refine xiald E hQ 7 (by decide) c52 (vp_in_lit 0 50 (by decide)) dX12_laysPushes_45 ?_
                  refine sb_at (P := fun z => W _ _ _ _ _ _ _ _ _ _ _ _ _ _ _ (F0 _ _ _ (.int z :: _))) (show f1 (0 : Int32).toNatClampNeg = v4 from ee5) ?_
                  refine lv_icmp_ge (tgt := 112) hx hb dX12_laysPushes_46 (by decide) (fun k56 => ?_) (fun k56 => ?_)
                  · have h57 := ib_le k56
                    have b58 : Bd x39_3 (1) (12) := ⟨((rf_le b11 Bx39_3 h57).2).1, (Bx39_3).2⟩
                    obtain ⟨z59, e60⟩ : ∃ z : Int32, z = x33_2 + (-1) := ⟨_, rfl⟩
                    have t61 := ib_add e60 b51 (by decide : Bd (-1) (-1) (-1)) (by decide) (by decide)
                    have b62 : Bd z59 (-1) (98) := ib_addb t61 b51 (by decide : Bd (-1) (-1) (-1))
                    have t61 : z59.toInt = x33_2.toInt + (-1) := fold_add t61 rfl (by decide)
                    refine lv_iinc (v := z59) (lv' := [(2, .int z59), (3, .int x39_3), (0, .ref (ad 0)), (1, .int a1)]) hx hb dX12_laysPushes_112 hl (k := 1) rfl (by rw [e60]; rfl) (by decide) rfl (fun ls hl => ?_)
                    refine lv_goto (tgt := 33) hx hb dX12_laysPushes_115 (by decide) ?_
                    exact ih33 _ _ _ _ z59 (ib_wk b62 (by decide) (by decide)) (by omega) hI (o_trans hf33 hf39 (by decide)) (tb_d hC39.1 hC39.2 (by omega) rfl (by omega)) hQ (lv_sub hl [0, 2, 3] rfl)
                  · have h63 := ib_nle k56
                    have b64 : Bd x39_3 (0) (11) := ⟨(Bx39_3).1, ((rf_lt Bx39_3 b11 h63).1).2⟩
                    refine lv_ldc (v := 100000) hx hb E.2.2.1 (E.2.2.2.1 _ q1648) dX12_laysPushes_49 ?_
                    refine lv_istore (lv' := [(4, .int 100000), (3, .int x39_3), (2, .int x33_2), (0, .ref (ad 0)), (1, .int a1)]) hx hb dX12_laysPushes_51 hl (by decide) rfl (fun ls hl => ?_)
                    refine lv_iconst (v := 0) hx hb dX12_laysPushes_53 (by decide) ?_
                    refine lv_istore (lv' := [(5, .int 0), (4, .int 100000), (3, .int x39_3), (2, .int x33_2), (0, .ref (ad 0)), (1, .int a1)]) hx hb dX12_laysPushes_54 hl (by decide) rfl (fun ls hl => ?_)
                    refine lv_iload hx hb dX12_laysPushes_56 (lv_at hl 0 rfl) ?_
                    refine lv_iconst (v := 3) hx hb dX12_laysPushes_58 (by decide) ?_
                    refine lv_icmp_ge (tgt := 93) hx hb dX12_laysPushes_59 (by decide) (fun k65 => ?_) (fun k65 => ?_)
                    · have h66 := ib_le k65
                      exact absurd h66 (by decide)
                    · have h67 := ib_nle k65
                      refine lv_aload_n hx hb dX12_laysPushes_62 rfl (lv_at hl 4 rfl) ?_
                      refine lv_iload_n hx hb dX12_laysPushes_63 rfl (lv_at hl 3 rfl) ?_
                      refine lv_iload_n hx hb dX12_laysPushes_64 rfl (lv_at hl 2 rfl) ?_
                      refine lv_iload hx hb dX12_laysPushes_65 (lv_at hl 0 rfl) ?_
                      refine lv_iload_n hx hb dX12_laysPushes_67 rfl (lv_at hl 5 rfl) ?_
                      have q68 : elm (S_39 7) 0 = v4.toInt := (elm_of c52 0).trans (congrArg Int32.toInt (ee5))
                      have q69 : elm (S_39 7) 1 = v7.toInt := (elm_of c52 1).trans (congrArg Int32.toInt (ee8))
                      refine xcVi E hs hQ hml hl.1 0 (gX12_pushBy_0 l g ad hD S_39 hI x33_2 x39_3 0 a1 b51 b64 (by omega) (by omega)) mX12_pushBy q1930 (by decide) c55 rfl rfl ⟨(Nat.le_of_ble_eq_true rfl), (Nat.le_of_ble_eq_true rfl)⟩ ⟨(Nat.le_of_ble_eq_true rfl), (Nat.le_of_ble_eq_true rfl)⟩ (Nat.le_of_ble_eq_true rfl) rfl dX12_laysPushes_68 (fun r70 S70 H locs hp70 hQ _ => ?_)
                      obtain ⟨rfl, b70, fg70⟩ := hp70
                      refine lv_iload hx hb dX12_laysPushes_71 (lv_at hl 1 rfl) ?_
                      refine lv_icmp_ge (tgt := 87) hx hb dX12_laysPushes_73 (by decide) (fun k71 => ?_) (fun k71 => ?_)
                      · have h72 := ib_le k71
                        have b73 : Bd r70 (100000) (100001) := ⟨((rf_le (by decide : Bd 100000 (100000) (100000)) b70 h72).2).1, (b70).2⟩
                        refine lv_iinc (v := 1) (lv' := [(5, .int 1), (4, .int 100000), (3, .int x39_3), (2, .int x33_2), (0, .ref (ad 0)), (1, .int a1)]) hx hb dX12_laysPushes_87 hl (k := 0) rfl (by decide) (by decide) rfl (fun ls hl => ?_)
                        refine lv_goto (tgt := 56) hx hb dX12_laysPushes_90 (by decide) ?_
                        refine lv_iload hx hb dX12_laysPushes_56 (lv_at hl 0 rfl) ?_
                        refine lv_iconst (v := 3) hx hb dX12_laysPushes_58 (by decide) ?_
                        refine lv_icmp_ge (tgt := 93) hx hb dX12_laysPushes_59 (by decide) (fun k74 => ?_) (fun k74 => ?_)
                        · have h75 := ib_le k74
                          exact absurd h75 (by decide)
                        · have h76 := ib_nle k74
                          refine lv_aload_n hx hb dX12_laysPushes_62 rfl (lv_at hl 4 rfl) ?_
                          refine lv_iload_n hx hb dX12_laysPushes_63 rfl (lv_at hl 3 rfl) ?_
                          refine lv_iload_n hx hb dX12_laysPushes_64 rfl (lv_at hl 2 rfl) ?_
                          refine lv_iload hx hb dX12_laysPushes_65 (lv_at hl 0 rfl) ?_
                          refine lv_iload_n hx hb dX12_laysPushes_67 rfl (lv_at hl 5 rfl) ?_
                          refine xcVi E hs hQ hml hl.1 0 (gX12_pushBy_0 l g ad hD S_39 hI x33_2 x39_3 1 a1 b51 b64 (by omega) (by omega)) mX12_pushBy q1930 (by decide) c55 rfl rfl ⟨(Nat.le_of_ble_eq_true rfl), (Nat.le_of_ble_eq_true rfl)⟩ ⟨(Nat.le_of_ble_eq_true rfl), (Nat.le_of_ble_eq_true rfl)⟩ (Nat.le_of_ble_eq_true rfl) rfl dX12_laysPushes_68 (fun r77 S77 H locs hp77 hQ _ => ?_)
                          obtain ⟨rfl, b77, fg77⟩ := hp77
                          refine lv_iload hx hb dX12_laysPushes_71 (lv_at hl 1 rfl) ?_
                          refine lv_icmp_ge (tgt := 87) hx hb dX12_laysPushes_73 (by decide) (fun k78 => ?_) (fun k78 => ?_)
                          · have h79 := ib_le k78
                            have b80 : Bd r77 (100000) (100001) := ⟨((rf_le (by decide : Bd 100000 (100000) (100000)) b77 h79).2).1, (b77).2⟩
                            refine lv_iinc (v := 2) (lv' := [(5, .int 2), (4, .int 100000), (3, .int x39_3), (2, .int x33_2), (0, .ref (ad 0)), (1, .int a1)]) hx hb dX12_laysPushes_87 hl (k := 0) rfl (by decide) (by decide) rfl (fun ls hl => ?_)
                            refine lv_goto (tgt := 56) hx hb dX12_laysPushes_90 (by decide) ?_
                            refine lv_iload hx hb dX12_laysPushes_56 (lv_at hl 0 rfl) ?_
                            refine lv_iconst (v := 3) hx hb dX12_laysPushes_58 (by decide) ?_
                            refine lv_icmp_ge (tgt := 93) hx hb dX12_laysPushes_59 (by decide) (fun k81 => ?_) (fun k81 => ?_)
                            · have h82 := ib_le k81
                              exact absurd h82 (by decide)
                            · have h83 := ib_nle k81
                              refine lv_aload_n hx hb dX12_laysPushes_62 rfl (lv_at hl 4 rfl) ?_
                              refine lv_iload_n hx hb dX12_laysPushes_63 rfl (lv_at hl 3 rfl) ?_
                              refine lv_iload_n hx hb dX12_laysPushes_64 rfl (lv_at hl 2 rfl) ?_
                              refine lv_iload hx hb dX12_laysPushes_65 (lv_at hl 0 rfl) ?_
                              refine lv_iload_n hx hb dX12_laysPushes_67 rfl (lv_at hl 5 rfl) ?_
                              refine xcVi E hs hQ hml hl.1 0 (gX12_pushBy_0 l g ad hD S_39 hI x33_2 x39_3 2 a1 b51 b64 (by omega) (by omega)) mX12_pushBy q1930 (by decide) c55 rfl rfl ⟨(Nat.le_of_ble_eq_true rfl), (Nat.le_of_ble_eq_true rfl)⟩ ⟨(Nat.le_of_ble_eq_true rfl), (Nat.le_of_ble_eq_true rfl)⟩ (Nat.le_of_ble_eq_true rfl) rfl dX12_laysPushes_68 (fun r84 S84 H locs hp84 hQ _ => ?_)
                              obtain ⟨rfl, b84, fg84⟩ := hp84
                              refine lv_iload hx hb dX12_laysPushes_71 (lv_at hl 1 rfl) ?_
                              refine lv_icmp_ge (tgt := 87) hx hb dX12_laysPushes_73 (by decide) (fun k85 => ?_) (fun k85 => ?_)
                              · have h86 := ib_le k85
                                have b87 : Bd r84 (100000) (100001) := ⟨((rf_le (by decide : Bd 100000 (100000) (100000)) b84 h86).2).1, (b84).2⟩
                                refine lv_iinc (v := 3) (lv' := [(5, .int 3), (4, .int 100000), (3, .int x39_3), (2, .int x33_2), (0, .ref (ad 0)), (1, .int a1)]) hx hb dX12_laysPushes_87 hl (k := 0) rfl (by decide) (by decide) rfl (fun ls hl => ?_)
                                refine lv_goto (tgt := 56) hx hb dX12_laysPushes_90 (by decide) ?_
                                refine lv_iload hx hb dX12_laysPushes_56 (lv_at hl 0 rfl) ?_
                                refine lv_iconst (v := 3) hx hb dX12_laysPushes_58 (by decide) ?_
                                refine lv_icmp_ge (tgt := 93) hx hb dX12_laysPushes_59 (by decide) (fun k88 => ?_) (fun k88 => ?_)
                                · have h89 := ib_le k88
                                  refine lv_aload_n hx hb dX12_laysPushes_93 rfl (lv_at hl 4 rfl) ?_
                                  refine xget E hQ 0 (by decide) c55 rfl 28 (by decide) q1496 rfl dX12_laysPushes_94 ?_
                                  refine lv_bipush (v := 12) hx hb dX12_laysPushes_97 (by decide) ?_
                                  refine lv_iload_n hx hb dX12_laysPushes_99 rfl (lv_at hl 3 rfl) ?_
                                  refine lv_imul hx hb dX12_laysPushes_100 ?_
                                  refine lv_topi (fun z90 e91 => ?_)
                                  have t92 := ib_cmul (q := 12) e91 (by decide) (by decide) b51 (by decide) (by decide)
                                  have b93 : Bd z90 (0) (1188) := ib_mulb t92 (by decide) b51
                                  refine lv_iload_n hx hb dX12_laysPushes_101 rfl (lv_at hl 2 rfl) ?_
                                  refine lv_iadd hx hb dX12_laysPushes_102 ?_
                                  refine lv_topi (fun z94 e95 => ?_)
                                  have t96 := ib_add e95 b93 b64 (by decide) (by decide)
                                  have b97 : Bd z94 (0) (1199) := ib_addb t96 b93 b64
                                  refine lv_iload hx hb dX12_laysPushes_103 (lv_at hl 1 rfl) ?_
                                  have bb98 := best3_of fg70 fg77 fg84 (stp_t k71) (stp_t k78) (stp_t k85)
                                  obtain ⟨f99, c100, b101⟩ := invM_16 hI
                                  refine xiast E hs hQ 16 (by decide) c100 (ib_in b97 (by decide) (by decide)) dX12_laysPushes_105 (fun H locs S102 eS102 hQ => ?_)
                                  have hI := invM_up_16 hI eS102 ⟨_, rfl, upd_b b101 (ib_wk (by decide : Bd 100000 (100000) (100000)) (by decide) (by decide))⟩
                                  have b104 : ∀ j, Bd ((upd f99 (z94 : Int32).toNatClampNeg 100000) j) (0) (100000) := upd_b b101 (ib_wk (by decide : Bd 100000 (100000) (100000)) (by decide) (by decide))
                                  have c103 : S102 16 = .inl (g.2 0, 1212, .inl (upd f99 (z94 : Int32).toNatClampNeg 100000)) := up_at eS102 rfl
                                  obtain ⟨z105, e106⟩ : ∃ z : Int32, z = x39_3 + 1 := ⟨_, rfl⟩
                                  have t107 := ib_add e106 b64 (by decide : Bd 1 (1) (1)) (by decide) (by decide)
                                  have b108 : Bd z105 (1) (12) := ib_addb t107 b64 (by decide : Bd 1 (1) (1))
                                  have t107 : z105.toInt = x39_3.toInt + 1 := fold_add t107 rfl (by decide)
                                  refine lv_iinc (v := z105) (lv' := [(3, .int z105), (5, .int 3), (4, .int 100000), (2, .int x33_2), (0, .ref (ad 0)), (1, .int a1)]) hx hb dX12_laysPushes_106 hl (k := 2) rfl (by rw [e106]; rfl) (by decide) rfl (fun ls hl => ?_)
                                  refine lv_goto (tgt := 39) hx hb dX12_laysPushes_109 (by decide) ?_
                                  exact ih39 _ _ _ _ z105 (ib_wk b108 (by decide) (by decide)) (by omega) hI (up_o hf39 eS102 (by decide)) (by rw [(up_eq (j := 7) eS102 (by decide)), (up_eq (j := 8) eS102 (by decide)), (up_eq (j := 10) eS102 (by decide))]; exact (tb_s hb53 hC39.1 hC39.2 c100 c103 bb98 b51 b64 (by omega) (by omega) (by omega) (by omega))) hQ (lv_sub hl [0, 3, 4, 5] rfl)
                                · have h109 := ib_nle k88
                                  exact absurd h109 (by decide)
                              · have h110 := ib_nle k85
                                have b111 : Bd r84 (0) (99999) := ⟨(b84).1, ((rf_lt b84 (by decide : Bd 100000 (100000) (100000)) h110).1).2⟩
                                refine lv_aload_n hx hb dX12_laysPushes_76 rfl (lv_at hl 4 rfl) ?_
                                refine lv_iload_n hx hb dX12_laysPushes_77 rfl (lv_at hl 3 rfl) ?_
                                refine lv_iload_n hx hb dX12_laysPushes_78 rfl (lv_at hl 2 rfl) ?_
                                refine lv_iload hx hb dX12_laysPushes_79 (lv_at hl 0 rfl) ?_
                                refine lv_iload_n hx hb dX12_laysPushes_81 rfl (lv_at hl 5 rfl) ?_
                                refine xcVi E hs hQ hml hl.1 0 (gX12_pushBy_0 l g ad hD S_39 hI x33_2 x39_3 2 a1 b51 b64 (by omega) (by omega)) mX12_pushBy q1930 (by decide) c55 rfl rfl ⟨(Nat.le_of_ble_eq_true rfl), (Nat.le_of_ble_eq_true rfl)⟩ ⟨(Nat.le_of_ble_eq_true rfl), (Nat.le_of_ble_eq_true rfl)⟩ (Nat.le_of_ble_eq_true rfl) rfl dX12_laysPushes_82 (fun r112 S112 H locs hp112 hQ _ => ?_)
                                obtain ⟨rfl, b112, fg112⟩ := hp112
                                have t113 : r112.toInt = r84.toInt := by rw [fg112, fg84]
                                have b114 : Bd r112 (0) (99999) := ⟨(b112).1, by omega⟩
                                refine lv_istore (lv' := [(4, .int r112), (5, .int 2), (3, .int x39_3), (2, .int x33_2), (0, .ref (ad 0)), (1, .int a1)]) hx hb dX12_laysPushes_85 hl (by decide) rfl (fun ls hl => ?_)
                                refine lv_iinc (v := 3) (lv' := [(5, .int 3), (4, .int r112), (3, .int x39_3), (2, .int x33_2), (0, .ref (ad 0)), (1, .int a1)]) hx hb dX12_laysPushes_87 hl (k := 1) rfl (by decide) (by decide) rfl (fun ls hl => ?_)
                                refine lv_goto (tgt := 56) hx hb dX12_laysPushes_90 (by decide) ?_
                                refine lv_iload hx hb dX12_laysPushes_56 (lv_at hl 0 rfl) ?_
                                refine lv_iconst (v := 3) hx hb dX12_laysPushes_58 (by decide) ?_
                                refine lv_icmp_ge (tgt := 93) hx hb dX12_laysPushes_59 (by decide) (fun k115 => ?_) (fun k115 => ?_)
                                · have h116 := ib_le k115
                                  refine lv_aload_n hx hb dX12_laysPushes_93 rfl (lv_at hl 4 rfl) ?_
                                  refine xget E hQ 0 (by decide) c55 rfl 28 (by decide) q1496 rfl dX12_laysPushes_94 ?_
                                  refine lv_bipush (v := 12) hx hb dX12_laysPushes_97 (by decide) ?_
                                  refine lv_iload_n hx hb dX12_laysPushes_99 rfl (lv_at hl 3 rfl) ?_
                                  refine lv_imul hx hb dX12_laysPushes_100 ?_
                                  refine lv_topi (fun z117 e118 => ?_)
                                  have t119 := ib_cmul (q := 12) e118 (by decide) (by decide) b51 (by decide) (by decide)
                                  have b120 : Bd z117 (0) (1188) := ib_mulb t119 (by decide) b51
                                  refine lv_iload_n hx hb dX12_laysPushes_101 rfl (lv_at hl 2 rfl) ?_
                                  refine lv_iadd hx hb dX12_laysPushes_102 ?_
                                  refine lv_topi (fun z121 e122 => ?_)
                                  have t123 := ib_add e122 b120 b64 (by decide) (by decide)
                                  have b124 : Bd z121 (0) (1199) := ib_addb t123 b120 b64
                                  refine lv_iload hx hb dX12_laysPushes_103 (lv_at hl 1 rfl) ?_
                                  have bb125 := best3_of fg70 fg77 fg84 (stp_t k71) (stp_t k78) (stp_f k85 (fg112.trans fg84.symm))
                                  obtain ⟨f126, c127, b128⟩ := invM_16 hI
                                  refine xiast E hs hQ 16 (by decide) c127 (ib_in b124 (by decide) (by decide)) dX12_laysPushes_105 (fun H locs S129 eS129 hQ => ?_)
                                  have hI := invM_up_16 hI eS129 ⟨_, rfl, upd_b b128 (ib_wk b114 (by decide) (by decide))⟩
                                  have b131 : ∀ j, Bd ((upd f126 (z121 : Int32).toNatClampNeg r112) j) (0) (100000) := upd_b b128 (ib_wk b114 (by decide) (by decide))
                                  have c130 : S129 16 = .inl (g.2 0, 1212, .inl (upd f126 (z121 : Int32).toNatClampNeg r112)) := up_at eS129 rfl
                                  obtain ⟨z132, e133⟩ : ∃ z : Int32, z = x39_3 + 1 := ⟨_, rfl⟩
                                  have t134 := ib_add e133 b64 (by decide : Bd 1 (1) (1)) (by decide) (by decide)
                                  have b135 : Bd z132 (1) (12) := ib_addb t134 b64 (by decide : Bd 1 (1) (1))
                                  have t134 : z132.toInt = x39_3.toInt + 1 := fold_add t134 rfl (by decide)
                                  refine lv_iinc (v := z132) (lv' := [(3, .int z132), (5, .int 3), (4, .int r112), (2, .int x33_2), (0, .ref (ad 0)), (1, .int a1)]) hx hb dX12_laysPushes_106 hl (k := 2) rfl (by rw [e133]; rfl) (by decide) rfl (fun ls hl => ?_)
                                  refine lv_goto (tgt := 39) hx hb dX12_laysPushes_109 (by decide) ?_
                                  exact ih39 _ _ _ _ z132 (ib_wk b135 (by decide) (by decide)) (by omega) hI (up_o hf39 eS129 (by decide)) (by rw [(up_eq (j := 7) eS129 (by decide)), (up_eq (j := 8) eS129 (by decide)), (up_eq (j := 10) eS129 (by decide))]; exact (tb_s hb53 hC39.1 hC39.2 c127 c130 bb125 b51 b64 (by omega) (by omega) (by omega) (by omega))) hQ (lv_sub hl [0, 3, 4, 5] rfl)
                                · have h136 := ib_nle k115
                                  exact absurd h136 (by decide)
                          · have h137 := ib_nle k78
                            have b138 : Bd r77 (0) (99999) := ⟨(b77).1, ((rf_lt b77 (by decide : Bd 100000 (100000) (100000)) h137).1).2⟩
                            refine lv_aload_n hx hb dX12_laysPushes_76 rfl (lv_at hl 4 rfl) ?_
                            refine lv_iload_n hx hb dX12_laysPushes_77 rfl (lv_at hl 3 rfl) ?_
                            refine lv_iload_n hx hb dX12_laysPushes_78 rfl (lv_at hl 2 rfl) ?_
                            refine lv_iload hx hb dX12_laysPushes_79 (lv_at hl 0 rfl) ?_
                            refine lv_iload_n hx hb dX12_laysPushes_81 rfl (lv_at hl 5 rfl) ?_
                            refine xcVi E hs hQ hml hl.1 0 (gX12_pushBy_0 l g ad hD S_39 hI x33_2 x39_3 1 a1 b51 b64 (by omega) (by omega)) mX12_pushBy q1930 (by decide) c55 rfl rfl ⟨(Nat.le_of_ble_eq_true rfl), (Nat.le_of_ble_eq_true rfl)⟩ ⟨(Nat.le_of_ble_eq_true rfl), (Nat.le_of_ble_eq_true rfl)⟩ (Nat.le_of_ble_eq_true rfl) rfl dX12_laysPushes_82 (fun r139 S139 H locs hp139 hQ _ => ?_)
                            obtain ⟨rfl, b139, fg139⟩ := hp139
                            have t140 : r139.toInt = r77.toInt := by rw [fg139, fg77]
                            have b141 : Bd r139 (0) (99999) := ⟨(b139).1, by omega⟩
                            refine lv_istore (lv' := [(4, .int r139), (5, .int 1), (3, .int x39_3), (2, .int x33_2), (0, .ref (ad 0)), (1, .int a1)]) hx hb dX12_laysPushes_85 hl (by decide) rfl (fun ls hl => ?_)
                            refine lv_iinc (v := 2) (lv' := [(5, .int 2), (4, .int r139), (3, .int x39_3), (2, .int x33_2), (0, .ref (ad 0)), (1, .int a1)]) hx hb dX12_laysPushes_87 hl (k := 1) rfl (by decide) (by decide) rfl (fun ls hl => ?_)
                            refine lv_goto (tgt := 56) hx hb dX12_laysPushes_90 (by decide) ?_
                            refine lv_iload hx hb dX12_laysPushes_56 (lv_at hl 0 rfl) ?_
                            refine lv_iconst (v := 3) hx hb dX12_laysPushes_58 (by decide) ?_
                            refine lv_icmp_ge (tgt := 93) hx hb dX12_laysPushes_59 (by decide) (fun k142 => ?_) (fun k142 => ?_)
                            · have h143 := ib_le k142
                              exact absurd h143 (by decide)
                            · have h144 := ib_nle k142
                              refine lv_aload_n hx hb dX12_laysPushes_62 rfl (lv_at hl 4 rfl) ?_
                              refine lv_iload_n hx hb dX12_laysPushes_63 rfl (lv_at hl 3 rfl) ?_
                              refine lv_iload_n hx hb dX12_laysPushes_64 rfl (lv_at hl 2 rfl) ?_
                              refine lv_iload hx hb dX12_laysPushes_65 (lv_at hl 0 rfl) ?_
                              refine lv_iload_n hx hb dX12_laysPushes_67 rfl (lv_at hl 5 rfl) ?_
                              refine xcVi E hs hQ hml hl.1 0 (gX12_pushBy_0 l g ad hD S_39 hI x33_2 x39_3 2 a1 b51 b64 (by omega) (by omega)) mX12_pushBy q1930 (by decide) c55 rfl rfl ⟨(Nat.le_of_ble_eq_true rfl), (Nat.le_of_ble_eq_true rfl)⟩ ⟨(Nat.le_of_ble_eq_true rfl), (Nat.le_of_ble_eq_true rfl)⟩ (Nat.le_of_ble_eq_true rfl) rfl dX12_laysPushes_68 (fun r145 S145 H locs hp145 hQ _ => ?_)
                              obtain ⟨rfl, b145, fg145⟩ := hp145
                              refine lv_iload hx hb dX12_laysPushes_71 (lv_at hl 1 rfl) ?_
                              refine lv_icmp_ge (tgt := 87) hx hb dX12_laysPushes_73 (by decide) (fun k146 => ?_) (fun k146 => ?_)
                              · have h147 := ib_le k146
                                refine lv_iinc (v := 3) (lv' := [(5, .int 3), (4, .int r139), (3, .int x39_3), (2, .int x33_2), (0, .ref (ad 0)), (1, .int a1)]) hx hb dX12_laysPushes_87 hl (k := 0) rfl (by decide) (by decide) rfl (fun ls hl => ?_)
                                refine lv_goto (tgt := 56) hx hb dX12_laysPushes_90 (by decide) ?_
                                refine lv_iload hx hb dX12_laysPushes_56 (lv_at hl 0 rfl) ?_
                                refine lv_iconst (v := 3) hx hb dX12_laysPushes_58 (by decide) ?_
                                refine lv_icmp_ge (tgt := 93) hx hb dX12_laysPushes_59 (by decide) (fun k148 => ?_) (fun k148 => ?_)
                                · have h149 := ib_le k148
                                  refine lv_aload_n hx hb dX12_laysPushes_93 rfl (lv_at hl 4 rfl) ?_
                                  refine xget E hQ 0 (by decide) c55 rfl 28 (by decide) q1496 rfl dX12_laysPushes_94 ?_
                                  refine lv_bipush (v := 12) hx hb dX12_laysPushes_97 (by decide) ?_
                                  refine lv_iload_n hx hb dX12_laysPushes_99 rfl (lv_at hl 3 rfl) ?_
                                  refine lv_imul hx hb dX12_laysPushes_100 ?_
                                  refine lv_topi (fun z150 e151 => ?_)
                                  have t152 := ib_cmul (q := 12) e151 (by decide) (by decide) b51 (by decide) (by decide)
                                  have b153 : Bd z150 (0) (1188) := ib_mulb t152 (by decide) b51
                                  refine lv_iload_n hx hb dX12_laysPushes_101 rfl (lv_at hl 2 rfl) ?_
                                  refine lv_iadd hx hb dX12_laysPushes_102 ?_
                                  refine lv_topi (fun z154 e155 => ?_)
                                  have t156 := ib_add e155 b153 b64 (by decide) (by decide)
                                  have b157 : Bd z154 (0) (1199) := ib_addb t156 b153 b64
                                  refine lv_iload hx hb dX12_laysPushes_103 (lv_at hl 1 rfl) ?_
                                  have bb158 := best3_of fg70 fg77 fg145 (stp_t k71) (stp_f k78 (fg139.trans fg77.symm)) (stp_t k146)
                                  obtain ⟨f159, c160, b161⟩ := invM_16 hI
                                  refine xiast E hs hQ 16 (by decide) c160 (ib_in b157 (by decide) (by decide)) dX12_laysPushes_105 (fun H locs S162 eS162 hQ => ?_)
                                  have hI := invM_up_16 hI eS162 ⟨_, rfl, upd_b b161 (ib_wk b141 (by decide) (by decide))⟩
                                  have b164 : ∀ j, Bd ((upd f159 (z154 : Int32).toNatClampNeg r139) j) (0) (100000) := upd_b b161 (ib_wk b141 (by decide) (by decide))
                                  have c163 : S162 16 = .inl (g.2 0, 1212, .inl (upd f159 (z154 : Int32).toNatClampNeg r139)) := up_at eS162 rfl
                                  obtain ⟨z165, e166⟩ : ∃ z : Int32, z = x39_3 + 1 := ⟨_, rfl⟩
                                  have t167 := ib_add e166 b64 (by decide : Bd 1 (1) (1)) (by decide) (by decide)
                                  have b168 : Bd z165 (1) (12) := ib_addb t167 b64 (by decide : Bd 1 (1) (1))
                                  have t167 : z165.toInt = x39_3.toInt + 1 := fold_add t167 rfl (by decide)
                                  refine lv_iinc (v := z165) (lv' := [(3, .int z165), (5, .int 3), (4, .int r139), (2, .int x33_2), (0, .ref (ad 0)), (1, .int a1)]) hx hb dX12_laysPushes_106 hl (k := 2) rfl (by rw [e166]; rfl) (by decide) rfl (fun ls hl => ?_)
                                  refine lv_goto (tgt := 39) hx hb dX12_laysPushes_109 (by decide) ?_
                                  exact ih39 _ _ _ _ z165 (ib_wk b168 (by decide) (by decide)) (by omega) hI (up_o hf39 eS162 (by decide)) (by rw [(up_eq (j := 7) eS162 (by decide)), (up_eq (j := 8) eS162 (by decide)), (up_eq (j := 10) eS162 (by decide))]; exact (tb_s hb53 hC39.1 hC39.2 c160 c163 bb158 b51 b64 (by omega) (by omega) (by omega) (by omega))) hQ (lv_sub hl [0, 3, 4, 5] rfl)
                                · have h169 := ib_nle k148
                                  exact absurd h169 (by decide)
                              · have h170 := ib_nle k146
                                have b171 : Bd r145 (0) (99998) := ⟨(b145).1, ((rf_lt b145 b141 h170).1).2⟩
                                have b172 : Bd r139 (1) (99999) := ⟨((rf_lt b145 b141 h170).2).1, (b141).2⟩
                                refine lv_aload_n hx hb dX12_laysPushes_76 rfl (lv_at hl 4 rfl) ?_
                                refine lv_iload_n hx hb dX12_laysPushes_77 rfl (lv_at hl 3 rfl) ?_
                                refine lv_iload_n hx hb dX12_laysPushes_78 rfl (lv_at hl 2 rfl) ?_
                                refine lv_iload hx hb dX12_laysPushes_79 (lv_at hl 0 rfl) ?_
                                refine lv_iload_n hx hb dX12_laysPushes_81 rfl (lv_at hl 5 rfl) ?_
                                refine xcVi E hs hQ hml hl.1 0 (gX12_pushBy_0 l g ad hD S_39 hI x33_2 x39_3 2 a1 b51 b64 (by omega) (by omega)) mX12_pushBy q1930 (by decide) c55 rfl rfl ⟨(Nat.le_of_ble_eq_true rfl), (Nat.le_of_ble_eq_true rfl)⟩ ⟨(Nat.le_of_ble_eq_true rfl), (Nat.le_of_ble_eq_true rfl)⟩ (Nat.le_of_ble_eq_true rfl) rfl dX12_laysPushes_82 (fun r173 S173 H locs hp173 hQ _ => ?_)
                                obtain ⟨rfl, b173, fg173⟩ := hp173
                                have t174 : r173.toInt = r145.toInt := by rw [fg173, fg145]
                                have b175 : Bd r173 (0) (99998) := ⟨(b173).1, by omega⟩
                                refine lv_istore (lv' := [(4, .int r173), (5, .int 2), (3, .int x39_3), (2, .int x33_2), (0, .ref (ad 0)), (1, .int a1)]) hx hb dX12_laysPushes_85 hl (by decide) rfl (fun ls hl => ?_)
                                refine lv_iinc (v := 3) (lv' := [(5, .int 3), (4, .int r173), (3, .int x39_3), (2, .int x33_2), (0, .ref (ad 0)), (1, .int a1)]) hx hb dX12_laysPushes_87 hl (k := 1) rfl (by decide) (by decide) rfl (fun ls hl => ?_)
                                refine lv_goto (tgt := 56) hx hb dX12_laysPushes_90 (by decide) ?_
                                refine lv_iload hx hb dX12_laysPushes_56 (lv_at hl 0 rfl) ?_
                                refine lv_iconst (v := 3) hx hb dX12_laysPushes_58 (by decide) ?_
                                refine lv_icmp_ge (tgt := 93) hx hb dX12_laysPushes_59 (by decide) (fun k176 => ?_) (fun k176 => ?_)
                                · have h177 := ib_le k176
                                  refine lv_aload_n hx hb dX12_laysPushes_93 rfl (lv_at hl 4 rfl) ?_
                                  refine xget E hQ 0 (by decide) c55 rfl 28 (by decide) q1496 rfl dX12_laysPushes_94 ?_
                                  refine lv_bipush (v := 12) hx hb dX12_laysPushes_97 (by decide) ?_
                                  refine lv_iload_n hx hb dX12_laysPushes_99 rfl (lv_at hl 3 rfl) ?_
                                  refine lv_imul hx hb dX12_laysPushes_100 ?_
                                  refine lv_topi (fun z178 e179 => ?_)
                                  have t180 := ib_cmul (q := 12) e179 (by decide) (by decide) b51 (by decide) (by decide)
                                  have b181 : Bd z178 (0) (1188) := ib_mulb t180 (by decide) b51
                                  refine lv_iload_n hx hb dX12_laysPushes_101 rfl (lv_at hl 2 rfl) ?_
                                  refine lv_iadd hx hb dX12_laysPushes_102 ?_
                                  refine lv_topi (fun z182 e183 => ?_)
                                  have t184 := ib_add e183 b181 b64 (by decide) (by decide)
                                  have b185 : Bd z182 (0) (1199) := ib_addb t184 b181 b64
                                  refine lv_iload hx hb dX12_laysPushes_103 (lv_at hl 1 rfl) ?_
                                  have bb186 := best3_of fg70 fg77 fg145 (stp_t k71) (stp_f k78 (fg139.trans fg77.symm)) (stp_f k146 (fg173.trans fg145.symm))
                                  obtain ⟨f187, c188, b189⟩ := invM_16 hI
                                  refine xiast E hs hQ 16 (by decide) c188 (ib_in b185 (by decide) (by decide)) dX12_laysPushes_105 (fun H locs S190 eS190 hQ => ?_)
                                  have hI := invM_up_16 hI eS190 ⟨_, rfl, upd_b b189 (ib_wk b175 (by decide) (by decide))⟩
                                  have b192 : ∀ j, Bd ((upd f187 (z182 : Int32).toNatClampNeg r173) j) (0) (100000) := upd_b b189 (ib_wk b175 (by decide) (by decide))
                                  have c191 : S190 16 = .inl (g.2 0, 1212, .inl (upd f187 (z182 : Int32).toNatClampNeg r173)) := up_at eS190 rfl
                                  obtain ⟨z193, e194⟩ : ∃ z : Int32, z = x39_3 + 1 := ⟨_, rfl⟩
                                  have t195 := ib_add e194 b64 (by decide : Bd 1 (1) (1)) (by decide) (by decide)
                                  have b196 : Bd z193 (1) (12) := ib_addb t195 b64 (by decide : Bd 1 (1) (1))
                                  have t195 : z193.toInt = x39_3.toInt + 1 := fold_add t195 rfl (by decide)
                                  refine lv_iinc (v := z193) (lv' := [(3, .int z193), (5, .int 3), (4, .int r173), (2, .int x33_2), (0, .ref (ad 0)), (1, .int a1)]) hx hb dX12_laysPushes_106 hl (k := 2) rfl (by rw [e194]; rfl) (by decide) rfl (fun ls hl => ?_)
                                  refine lv_goto (tgt := 39) hx hb dX12_laysPushes_109 (by decide) ?_
                                  exact ih39 _ _ _ _ z193 (ib_wk b196 (by decide) (by decide)) (by omega) hI (up_o hf39 eS190 (by decide)) (by rw [(up_eq (j := 7) eS190 (by decide)), (up_eq (j := 8) eS190 (by decide)), (up_eq (j := 10) eS190 (by decide))]; exact (tb_s hb53 hC39.1 hC39.2 c188 c191 bb186 b51 b64 (by omega) (by omega) (by omega) (by omega))) hQ (lv_sub hl [0, 3, 4, 5] rfl)
                                · have h197 := ib_nle k176
                                  exact absurd h197 (by decide)
                      · have h198 := ib_nle k71
                        have b199 : Bd r70 (0) (99999) := ⟨(b70).1, ((rf_lt b70 (by decide : Bd 100000 (100000) (100000)) h198).1).2⟩
                        refine lv_aload_n hx hb dX12_laysPushes_76 rfl (lv_at hl 4 rfl) ?_
                        refine lv_iload_n hx hb dX12_laysPushes_77 rfl (lv_at hl 3 rfl) ?_
                        refine lv_iload_n hx hb dX12_laysPushes_78 rfl (lv_at hl 2 rfl) ?_
                        refine lv_iload hx hb dX12_laysPushes_79 (lv_at hl 0 rfl) ?_
                        refine lv_iload_n hx hb dX12_laysPushes_81 rfl (lv_at hl 5 rfl) ?_
                        refine xcVi E hs hQ hml hl.1 0 (gX12_pushBy_0 l g ad hD S_39 hI x33_2 x39_3 0 a1 b51 b64 (by omega) (by omega)) mX12_pushBy q1930 (by decide) c55 rfl rfl ⟨(Nat.le_of_ble_eq_true rfl), (Nat.le_of_ble_eq_true rfl)⟩ ⟨(Nat.le_of_ble_eq_true rfl), (Nat.le_of_ble_eq_true rfl)⟩ (Nat.le_of_ble_eq_true rfl) rfl dX12_laysPushes_82 (fun r200 S200 H locs hp200 hQ _ => ?_)
                        obtain ⟨rfl, b200, fg200⟩ := hp200
                        have t201 : r200.toInt = r70.toInt := by rw [fg200, fg70]
                        have b202 : Bd r200 (0) (99999) := ⟨(b200).1, by omega⟩
                        refine lv_istore (lv' := [(4, .int r200), (5, .int 0), (3, .int x39_3), (2, .int x33_2), (0, .ref (ad 0)), (1, .int a1)]) hx hb dX12_laysPushes_85 hl (by decide) rfl (fun ls hl => ?_)
                        refine lv_iinc (v := 1) (lv' := [(5, .int 1), (4, .int r200), (3, .int x39_3), (2, .int x33_2), (0, .ref (ad 0)), (1, .int a1)]) hx hb dX12_laysPushes_87 hl (k := 1) rfl (by decide) (by decide) rfl (fun ls hl => ?_)
                        refine lv_goto (tgt := 56) hx hb dX12_laysPushes_90 (by decide) ?_
                        refine lv_iload hx hb dX12_laysPushes_56 (lv_at hl 0 rfl) ?_
                        refine lv_iconst (v := 3) hx hb dX12_laysPushes_58 (by decide) ?_
                        refine lv_icmp_ge (tgt := 93) hx hb dX12_laysPushes_59 (by decide) (fun k203 => ?_) (fun k203 => ?_)
                        · have h204 := ib_le k203
                          exact absurd h204 (by decide)
                        · have h205 := ib_nle k203
                          refine lv_aload_n hx hb dX12_laysPushes_62 rfl (lv_at hl 4 rfl) ?_
                          refine lv_iload_n hx hb dX12_laysPushes_63 rfl (lv_at hl 3 rfl) ?_
                          refine lv_iload_n hx hb dX12_laysPushes_64 rfl (lv_at hl 2 rfl) ?_
                          refine lv_iload hx hb dX12_laysPushes_65 (lv_at hl 0 rfl) ?_
                          refine lv_iload_n hx hb dX12_laysPushes_67 rfl (lv_at hl 5 rfl) ?_
                          refine xcVi E hs hQ hml hl.1 0 (gX12_pushBy_0 l g ad hD S_39 hI x33_2 x39_3 1 a1 b51 b64 (by omega) (by omega)) mX12_pushBy q1930 (by decide) c55 rfl rfl ⟨(Nat.le_of_ble_eq_true rfl), (Nat.le_of_ble_eq_true rfl)⟩ ⟨(Nat.le_of_ble_eq_true rfl), (Nat.le_of_ble_eq_true rfl)⟩ (Nat.le_of_ble_eq_true rfl) rfl dX12_laysPushes_68 (fun r206 S206 H locs hp206 hQ _ => ?_)
                          obtain ⟨rfl, b206, fg206⟩ := hp206
                          refine lv_iload hx hb dX12_laysPushes_71 (lv_at hl 1 rfl) ?_
                          refine lv_icmp_ge (tgt := 87) hx hb dX12_laysPushes_73 (by decide) (fun k207 => ?_) (fun k207 => ?_)
                          · have h208 := ib_le k207
                            refine lv_iinc (v := 2) (lv' := [(5, .int 2), (4, .int r200), (3, .int x39_3), (2, .int x33_2), (0, .ref (ad 0)), (1, .int a1)]) hx hb dX12_laysPushes_87 hl (k := 0) rfl (by decide) (by decide) rfl (fun ls hl => ?_)
                            refine lv_goto (tgt := 56) hx hb dX12_laysPushes_90 (by decide) ?_
                            refine lv_iload hx hb dX12_laysPushes_56 (lv_at hl 0 rfl) ?_
                            refine lv_iconst (v := 3) hx hb dX12_laysPushes_58 (by decide) ?_
                            refine lv_icmp_ge (tgt := 93) hx hb dX12_laysPushes_59 (by decide) (fun k209 => ?_) (fun k209 => ?_)
                            · have h210 := ib_le k209
                              exact absurd h210 (by decide)
                            · have h211 := ib_nle k209
                              refine lv_aload_n hx hb dX12_laysPushes_62 rfl (lv_at hl 4 rfl) ?_
                              refine lv_iload_n hx hb dX12_laysPushes_63 rfl (lv_at hl 3 rfl) ?_
                              refine lv_iload_n hx hb dX12_laysPushes_64 rfl (lv_at hl 2 rfl) ?_
                              refine lv_iload hx hb dX12_laysPushes_65 (lv_at hl 0 rfl) ?_
                              refine lv_iload_n hx hb dX12_laysPushes_67 rfl (lv_at hl 5 rfl) ?_
                              refine xcVi E hs hQ hml hl.1 0 (gX12_pushBy_0 l g ad hD S_39 hI x33_2 x39_3 2 a1 b51 b64 (by omega) (by omega)) mX12_pushBy q1930 (by decide) c55 rfl rfl ⟨(Nat.le_of_ble_eq_true rfl), (Nat.le_of_ble_eq_true rfl)⟩ ⟨(Nat.le_of_ble_eq_true rfl), (Nat.le_of_ble_eq_true rfl)⟩ (Nat.le_of_ble_eq_true rfl) rfl dX12_laysPushes_68 (fun r212 S212 H locs hp212 hQ _ => ?_)
                              obtain ⟨rfl, b212, fg212⟩ := hp212
                              refine lv_iload hx hb dX12_laysPushes_71 (lv_at hl 1 rfl) ?_
                              refine lv_icmp_ge (tgt := 87) hx hb dX12_laysPushes_73 (by decide) (fun k213 => ?_) (fun k213 => ?_)
                              · have h214 := ib_le k213
                                refine lv_iinc (v := 3) (lv' := [(5, .int 3), (4, .int r200), (3, .int x39_3), (2, .int x33_2), (0, .ref (ad 0)), (1, .int a1)]) hx hb dX12_laysPushes_87 hl (k := 0) rfl (by decide) (by decide) rfl (fun ls hl => ?_)
                                refine lv_goto (tgt := 56) hx hb dX12_laysPushes_90 (by decide) ?_
                                refine lv_iload hx hb dX12_laysPushes_56 (lv_at hl 0 rfl) ?_
                                refine lv_iconst (v := 3) hx hb dX12_laysPushes_58 (by decide) ?_
                                refine lv_icmp_ge (tgt := 93) hx hb dX12_laysPushes_59 (by decide) (fun k215 => ?_) (fun k215 => ?_)
                                · have h216 := ib_le k215
                                  refine lv_aload_n hx hb dX12_laysPushes_93 rfl (lv_at hl 4 rfl) ?_
                                  refine xget E hQ 0 (by decide) c55 rfl 28 (by decide) q1496 rfl dX12_laysPushes_94 ?_
                                  refine lv_bipush (v := 12) hx hb dX12_laysPushes_97 (by decide) ?_
                                  refine lv_iload_n hx hb dX12_laysPushes_99 rfl (lv_at hl 3 rfl) ?_
                                  refine lv_imul hx hb dX12_laysPushes_100 ?_
                                  refine lv_topi (fun z217 e218 => ?_)
                                  have t219 := ib_cmul (q := 12) e218 (by decide) (by decide) b51 (by decide) (by decide)
                                  have b220 : Bd z217 (0) (1188) := ib_mulb t219 (by decide) b51
                                  refine lv_iload_n hx hb dX12_laysPushes_101 rfl (lv_at hl 2 rfl) ?_
                                  refine lv_iadd hx hb dX12_laysPushes_102 ?_
                                  refine lv_topi (fun z221 e222 => ?_)
                                  have t223 := ib_add e222 b220 b64 (by decide) (by decide)
                                  have b224 : Bd z221 (0) (1199) := ib_addb t223 b220 b64
                                  refine lv_iload hx hb dX12_laysPushes_103 (lv_at hl 1 rfl) ?_
                                  have bb225 := best3_of fg70 fg206 fg212 (stp_f k71 (fg200.trans fg70.symm)) (stp_t k207) (stp_t k213)
                                  obtain ⟨f226, c227, b228⟩ := invM_16 hI
                                  refine xiast E hs hQ 16 (by decide) c227 (ib_in b224 (by decide) (by decide)) dX12_laysPushes_105 (fun H locs S229 eS229 hQ => ?_)
                                  have hI := invM_up_16 hI eS229 ⟨_, rfl, upd_b b228 (ib_wk b202 (by decide) (by decide))⟩
                                  have b231 : ∀ j, Bd ((upd f226 (z221 : Int32).toNatClampNeg r200) j) (0) (100000) := upd_b b228 (ib_wk b202 (by decide) (by decide))
                                  have c230 : S229 16 = .inl (g.2 0, 1212, .inl (upd f226 (z221 : Int32).toNatClampNeg r200)) := up_at eS229 rfl
                                  obtain ⟨z232, e233⟩ : ∃ z : Int32, z = x39_3 + 1 := ⟨_, rfl⟩
                                  have t234 := ib_add e233 b64 (by decide : Bd 1 (1) (1)) (by decide) (by decide)
                                  have b235 : Bd z232 (1) (12) := ib_addb t234 b64 (by decide : Bd 1 (1) (1))
                                  have t234 : z232.toInt = x39_3.toInt + 1 := fold_add t234 rfl (by decide)
                                  refine lv_iinc (v := z232) (lv' := [(3, .int z232), (5, .int 3), (4, .int r200), (2, .int x33_2), (0, .ref (ad 0)), (1, .int a1)]) hx hb dX12_laysPushes_106 hl (k := 2) rfl (by rw [e233]; rfl) (by decide) rfl (fun ls hl => ?_)
                                  refine lv_goto (tgt := 39) hx hb dX12_laysPushes_109 (by decide) ?_
                                  exact ih39 _ _ _ _ z232 (ib_wk b235 (by decide) (by decide)) (by omega) hI (up_o hf39 eS229 (by decide)) (by rw [(up_eq (j := 7) eS229 (by decide)), (up_eq (j := 8) eS229 (by decide)), (up_eq (j := 10) eS229 (by decide))]; exact (tb_s hb53 hC39.1 hC39.2 c227 c230 bb225 b51 b64 (by omega) (by omega) (by omega) (by omega))) hQ (lv_sub hl [0, 3, 4, 5] rfl)
                                · have h236 := ib_nle k215
                                  exact absurd h236 (by decide)
                              · have h237 := ib_nle k213
                                have b238 : Bd r212 (0) (99998) := ⟨(b212).1, ((rf_lt b212 b202 h237).1).2⟩
                                have b239 : Bd r200 (1) (99999) := ⟨((rf_lt b212 b202 h237).2).1, (b202).2⟩
                                refine lv_aload_n hx hb dX12_laysPushes_76 rfl (lv_at hl 4 rfl) ?_
                                refine lv_iload_n hx hb dX12_laysPushes_77 rfl (lv_at hl 3 rfl) ?_
                                refine lv_iload_n hx hb dX12_laysPushes_78 rfl (lv_at hl 2 rfl) ?_
                                refine lv_iload hx hb dX12_laysPushes_79 (lv_at hl 0 rfl) ?_
                                refine lv_iload_n hx hb dX12_laysPushes_81 rfl (lv_at hl 5 rfl) ?_
                                refine xcVi E hs hQ hml hl.1 0 (gX12_pushBy_0 l g ad hD S_39 hI x33_2 x39_3 2 a1 b51 b64 (by omega) (by omega)) mX12_pushBy q1930 (by decide) c55 rfl rfl ⟨(Nat.le_of_ble_eq_true rfl), (Nat.le_of_ble_eq_true rfl)⟩ ⟨(Nat.le_of_ble_eq_true rfl), (Nat.le_of_ble_eq_true rfl)⟩ (Nat.le_of_ble_eq_true rfl) rfl dX12_laysPushes_82 (fun r240 S240 H locs hp240 hQ _ => ?_)
                                obtain ⟨rfl, b240, fg240⟩ := hp240
                                have t241 : r240.toInt = r212.toInt := by rw [fg240, fg212]
                                have b242 : Bd r240 (0) (99998) := ⟨(b240).1, by omega⟩
                                refine lv_istore (lv' := [(4, .int r240), (5, .int 2), (3, .int x39_3), (2, .int x33_2), (0, .ref (ad 0)), (1, .int a1)]) hx hb dX12_laysPushes_85 hl (by decide) rfl (fun ls hl => ?_)
                                refine lv_iinc (v := 3) (lv' := [(5, .int 3), (4, .int r240), (3, .int x39_3), (2, .int x33_2), (0, .ref (ad 0)), (1, .int a1)]) hx hb dX12_laysPushes_87 hl (k := 1) rfl (by decide) (by decide) rfl (fun ls hl => ?_)
                                refine lv_goto (tgt := 56) hx hb dX12_laysPushes_90 (by decide) ?_
                                refine lv_iload hx hb dX12_laysPushes_56 (lv_at hl 0 rfl) ?_
                                refine lv_iconst (v := 3) hx hb dX12_laysPushes_58 (by decide) ?_
                                refine lv_icmp_ge (tgt := 93) hx hb dX12_laysPushes_59 (by decide) (fun k243 => ?_) (fun k243 => ?_)
                                · have h244 := ib_le k243
                                  refine lv_aload_n hx hb dX12_laysPushes_93 rfl (lv_at hl 4 rfl) ?_
                                  refine xget E hQ 0 (by decide) c55 rfl 28 (by decide) q1496 rfl dX12_laysPushes_94 ?_
                                  refine lv_bipush (v := 12) hx hb dX12_laysPushes_97 (by decide) ?_
                                  refine lv_iload_n hx hb dX12_laysPushes_99 rfl (lv_at hl 3 rfl) ?_
                                  refine lv_imul hx hb dX12_laysPushes_100 ?_
                                  refine lv_topi (fun z245 e246 => ?_)
                                  have t247 := ib_cmul (q := 12) e246 (by decide) (by decide) b51 (by decide) (by decide)
                                  have b248 : Bd z245 (0) (1188) := ib_mulb t247 (by decide) b51
                                  refine lv_iload_n hx hb dX12_laysPushes_101 rfl (lv_at hl 2 rfl) ?_
                                  refine lv_iadd hx hb dX12_laysPushes_102 ?_
                                  refine lv_topi (fun z249 e250 => ?_)
                                  have t251 := ib_add e250 b248 b64 (by decide) (by decide)
                                  have b252 : Bd z249 (0) (1199) := ib_addb t251 b248 b64
                                  refine lv_iload hx hb dX12_laysPushes_103 (lv_at hl 1 rfl) ?_
                                  have bb253 := best3_of fg70 fg206 fg212 (stp_f k71 (fg200.trans fg70.symm)) (stp_t k207) (stp_f k213 (fg240.trans fg212.symm))
                                  obtain ⟨f254, c255, b256⟩ := invM_16 hI
                                  refine xiast E hs hQ 16 (by decide) c255 (ib_in b252 (by decide) (by decide)) dX12_laysPushes_105 (fun H locs S257 eS257 hQ => ?_)
                                  have hI := invM_up_16 hI eS257 ⟨_, rfl, upd_b b256 (ib_wk b242 (by decide) (by decide))⟩
                                  have b259 : ∀ j, Bd ((upd f254 (z249 : Int32).toNatClampNeg r240) j) (0) (100000) := upd_b b256 (ib_wk b242 (by decide) (by decide))
                                  have c258 : S257 16 = .inl (g.2 0, 1212, .inl (upd f254 (z249 : Int32).toNatClampNeg r240)) := up_at eS257 rfl
                                  obtain ⟨z260, e261⟩ : ∃ z : Int32, z = x39_3 + 1 := ⟨_, rfl⟩
                                  have t262 := ib_add e261 b64 (by decide : Bd 1 (1) (1)) (by decide) (by decide)
                                  have b263 : Bd z260 (1) (12) := ib_addb t262 b64 (by decide : Bd 1 (1) (1))
                                  have t262 : z260.toInt = x39_3.toInt + 1 := fold_add t262 rfl (by decide)
                                  refine lv_iinc (v := z260) (lv' := [(3, .int z260), (5, .int 3), (4, .int r240), (2, .int x33_2), (0, .ref (ad 0)), (1, .int a1)]) hx hb dX12_laysPushes_106 hl (k := 2) rfl (by rw [e261]; rfl) (by decide) rfl (fun ls hl => ?_)
                                  refine lv_goto (tgt := 39) hx hb dX12_laysPushes_109 (by decide) ?_
                                  exact ih39 _ _ _ _ z260 (ib_wk b263 (by decide) (by decide)) (by omega) hI (up_o hf39 eS257 (by decide)) (by rw [(up_eq (j := 7) eS257 (by decide)), (up_eq (j := 8) eS257 (by decide)), (up_eq (j := 10) eS257 (by decide))]; exact (tb_s hb53 hC39.1 hC39.2 c255 c258 bb253 b51 b64 (by omega) (by omega) (by omega) (by omega))) hQ (lv_sub hl [0, 3, 4, 5] rfl)
                                · have h264 := ib_nle k243
                                  exact absurd h264 (by decide)
                          · have h265 := ib_nle k207
                            have b266 : Bd r206 (0) (99998) := ⟨(b206).1, ((rf_lt b206 b202 h265).1).2⟩
                            have b267 : Bd r200 (1) (99999) := ⟨((rf_lt b206 b202 h265).2).1, (b202).2⟩
                            refine lv_aload_n hx hb dX12_laysPushes_76 rfl (lv_at hl 4 rfl) ?_
                            refine lv_iload_n hx hb dX12_laysPushes_77 rfl (lv_at hl 3 rfl) ?_
                            refine lv_iload_n hx hb dX12_laysPushes_78 rfl (lv_at hl 2 rfl) ?_
                            refine lv_iload hx hb dX12_laysPushes_79 (lv_at hl 0 rfl) ?_
                            refine lv_iload_n hx hb dX12_laysPushes_81 rfl (lv_at hl 5 rfl) ?_
                            refine xcVi E hs hQ hml hl.1 0 (gX12_pushBy_0 l g ad hD S_39 hI x33_2 x39_3 1 a1 b51 b64 (by omega) (by omega)) mX12_pushBy q1930 (by decide) c55 rfl rfl ⟨(Nat.le_of_ble_eq_true rfl), (Nat.le_of_ble_eq_true rfl)⟩ ⟨(Nat.le_of_ble_eq_true rfl), (Nat.le_of_ble_eq_true rfl)⟩ (Nat.le_of_ble_eq_true rfl) rfl dX12_laysPushes_82 (fun r268 S268 H locs hp268 hQ _ => ?_)
                            obtain ⟨rfl, b268, fg268⟩ := hp268
                            have t269 : r268.toInt = r206.toInt := by rw [fg268, fg206]
                            have b270 : Bd r268 (0) (99998) := ⟨(b268).1, by omega⟩
                            refine lv_istore (lv' := [(4, .int r268), (5, .int 1), (3, .int x39_3), (2, .int x33_2), (0, .ref (ad 0)), (1, .int a1)]) hx hb dX12_laysPushes_85 hl (by decide) rfl (fun ls hl => ?_)
                            refine lv_iinc (v := 2) (lv' := [(5, .int 2), (4, .int r268), (3, .int x39_3), (2, .int x33_2), (0, .ref (ad 0)), (1, .int a1)]) hx hb dX12_laysPushes_87 hl (k := 1) rfl (by decide) (by decide) rfl (fun ls hl => ?_)
                            refine lv_goto (tgt := 56) hx hb dX12_laysPushes_90 (by decide) ?_
                            refine lv_iload hx hb dX12_laysPushes_56 (lv_at hl 0 rfl) ?_
                            refine lv_iconst (v := 3) hx hb dX12_laysPushes_58 (by decide) ?_
                            refine lv_icmp_ge (tgt := 93) hx hb dX12_laysPushes_59 (by decide) (fun k271 => ?_) (fun k271 => ?_)
                            · have h272 := ib_le k271
                              exact absurd h272 (by decide)
                            · have h273 := ib_nle k271
                              refine lv_aload_n hx hb dX12_laysPushes_62 rfl (lv_at hl 4 rfl) ?_
                              refine lv_iload_n hx hb dX12_laysPushes_63 rfl (lv_at hl 3 rfl) ?_
                              refine lv_iload_n hx hb dX12_laysPushes_64 rfl (lv_at hl 2 rfl) ?_
                              refine lv_iload hx hb dX12_laysPushes_65 (lv_at hl 0 rfl) ?_
                              refine lv_iload_n hx hb dX12_laysPushes_67 rfl (lv_at hl 5 rfl) ?_
                              refine xcVi E hs hQ hml hl.1 0 (gX12_pushBy_0 l g ad hD S_39 hI x33_2 x39_3 2 a1 b51 b64 (by omega) (by omega)) mX12_pushBy q1930 (by decide) c55 rfl rfl ⟨(Nat.le_of_ble_eq_true rfl), (Nat.le_of_ble_eq_true rfl)⟩ ⟨(Nat.le_of_ble_eq_true rfl), (Nat.le_of_ble_eq_true rfl)⟩ (Nat.le_of_ble_eq_true rfl) rfl dX12_laysPushes_68 (fun r274 S274 H locs hp274 hQ _ => ?_)
                              obtain ⟨rfl, b274, fg274⟩ := hp274
                              refine lv_iload hx hb dX12_laysPushes_71 (lv_at hl 1 rfl) ?_
                              refine lv_icmp_ge (tgt := 87) hx hb dX12_laysPushes_73 (by decide) (fun k275 => ?_) (fun k275 => ?_)
                              · have h276 := ib_le k275
                                refine lv_iinc (v := 3) (lv' := [(5, .int 3), (4, .int r268), (3, .int x39_3), (2, .int x33_2), (0, .ref (ad 0)), (1, .int a1)]) hx hb dX12_laysPushes_87 hl (k := 0) rfl (by decide) (by decide) rfl (fun ls hl => ?_)
                                refine lv_goto (tgt := 56) hx hb dX12_laysPushes_90 (by decide) ?_
                                refine lv_iload hx hb dX12_laysPushes_56 (lv_at hl 0 rfl) ?_
                                refine lv_iconst (v := 3) hx hb dX12_laysPushes_58 (by decide) ?_
                                refine lv_icmp_ge (tgt := 93) hx hb dX12_laysPushes_59 (by decide) (fun k277 => ?_) (fun k277 => ?_)
                                · have h278 := ib_le k277
                                  refine lv_aload_n hx hb dX12_laysPushes_93 rfl (lv_at hl 4 rfl) ?_
                                  refine xget E hQ 0 (by decide) c55 rfl 28 (by decide) q1496 rfl dX12_laysPushes_94 ?_
                                  refine lv_bipush (v := 12) hx hb dX12_laysPushes_97 (by decide) ?_
                                  refine lv_iload_n hx hb dX12_laysPushes_99 rfl (lv_at hl 3 rfl) ?_
                                  refine lv_imul hx hb dX12_laysPushes_100 ?_
                                  refine lv_topi (fun z279 e280 => ?_)
                                  have t281 := ib_cmul (q := 12) e280 (by decide) (by decide) b51 (by decide) (by decide)
                                  have b282 : Bd z279 (0) (1188) := ib_mulb t281 (by decide) b51
                                  refine lv_iload_n hx hb dX12_laysPushes_101 rfl (lv_at hl 2 rfl) ?_
                                  refine lv_iadd hx hb dX12_laysPushes_102 ?_
                                  refine lv_topi (fun z283 e284 => ?_)
                                  have t285 := ib_add e284 b282 b64 (by decide) (by decide)
                                  have b286 : Bd z283 (0) (1199) := ib_addb t285 b282 b64
                                  refine lv_iload hx hb dX12_laysPushes_103 (lv_at hl 1 rfl) ?_
                                  have bb287 := best3_of fg70 fg206 fg274 (stp_f k71 (fg200.trans fg70.symm)) (stp_f k207 (fg268.trans fg206.symm)) (stp_t k275)
                                  obtain ⟨f288, c289, b290⟩ := invM_16 hI
                                  refine xiast E hs hQ 16 (by decide) c289 (ib_in b286 (by decide) (by decide)) dX12_laysPushes_105 (fun H locs S291 eS291 hQ => ?_)
                                  have hI := invM_up_16 hI eS291 ⟨_, rfl, upd_b b290 (ib_wk b270 (by decide) (by decide))⟩
                                  have b293 : ∀ j, Bd ((upd f288 (z283 : Int32).toNatClampNeg r268) j) (0) (100000) := upd_b b290 (ib_wk b270 (by decide) (by decide))
                                  have c292 : S291 16 = .inl (g.2 0, 1212, .inl (upd f288 (z283 : Int32).toNatClampNeg r268)) := up_at eS291 rfl
                                  obtain ⟨z294, e295⟩ : ∃ z : Int32, z = x39_3 + 1 := ⟨_, rfl⟩
                                  have t296 := ib_add e295 b64 (by decide : Bd 1 (1) (1)) (by decide) (by decide)
                                  have b297 : Bd z294 (1) (12) := ib_addb t296 b64 (by decide : Bd 1 (1) (1))
                                  have t296 : z294.toInt = x39_3.toInt + 1 := fold_add t296 rfl (by decide)
                                  refine lv_iinc (v := z294) (lv' := [(3, .int z294), (5, .int 3), (4, .int r268), (2, .int x33_2), (0, .ref (ad 0)), (1, .int a1)]) hx hb dX12_laysPushes_106 hl (k := 2) rfl (by rw [e295]; rfl) (by decide) rfl (fun ls hl => ?_)
                                  refine lv_goto (tgt := 39) hx hb dX12_laysPushes_109 (by decide) ?_
                                  exact ih39 _ _ _ _ z294 (ib_wk b297 (by decide) (by decide)) (by omega) hI (up_o hf39 eS291 (by decide)) (by rw [(up_eq (j := 7) eS291 (by decide)), (up_eq (j := 8) eS291 (by decide)), (up_eq (j := 10) eS291 (by decide))]; exact (tb_s hb53 hC39.1 hC39.2 c289 c292 bb287 b51 b64 (by omega) (by omega) (by omega) (by omega))) hQ (lv_sub hl [0, 3, 4, 5] rfl)
                                · have h298 := ib_nle k277
                                  exact absurd h298 (by decide)
                              · have h299 := ib_nle k275
                                have b300 : Bd r274 (0) (99997) := ⟨(b274).1, ((rf_lt b274 b270 h299).1).2⟩
                                have b301 : Bd r268 (1) (99998) := ⟨((rf_lt b274 b270 h299).2).1, (b270).2⟩
                                refine lv_aload_n hx hb dX12_laysPushes_76 rfl (lv_at hl 4 rfl) ?_
                                refine lv_iload_n hx hb dX12_laysPushes_77 rfl (lv_at hl 3 rfl) ?_
                                refine lv_iload_n hx hb dX12_laysPushes_78 rfl (lv_at hl 2 rfl) ?_
                                refine lv_iload hx hb dX12_laysPushes_79 (lv_at hl 0 rfl) ?_
                                refine lv_iload_n hx hb dX12_laysPushes_81 rfl (lv_at hl 5 rfl) ?_
                                refine xcVi E hs hQ hml hl.1 0 (gX12_pushBy_0 l g ad hD S_39 hI x33_2 x39_3 2 a1 b51 b64 (by omega) (by omega)) mX12_pushBy q1930 (by decide) c55 rfl rfl ⟨(Nat.le_of_ble_eq_true rfl), (Nat.le_of_ble_eq_true rfl)⟩ ⟨(Nat.le_of_ble_eq_true rfl), (Nat.le_of_ble_eq_true rfl)⟩ (Nat.le_of_ble_eq_true rfl) rfl dX12_laysPushes_82 (fun r302 S302 H locs hp302 hQ _ => ?_)
                                obtain ⟨rfl, b302, fg302⟩ := hp302
                                have t303 : r302.toInt = r274.toInt := by rw [fg302, fg274]
                                have b304 : Bd r302 (0) (99997) := ⟨(b302).1, by omega⟩
                                refine lv_istore (lv' := [(4, .int r302), (5, .int 2), (3, .int x39_3), (2, .int x33_2), (0, .ref (ad 0)), (1, .int a1)]) hx hb dX12_laysPushes_85 hl (by decide) rfl (fun ls hl => ?_)
                                refine lv_iinc (v := 3) (lv' := [(5, .int 3), (4, .int r302), (3, .int x39_3), (2, .int x33_2), (0, .ref (ad 0)), (1, .int a1)]) hx hb dX12_laysPushes_87 hl (k := 1) rfl (by decide) (by decide) rfl (fun ls hl => ?_)
                                refine lv_goto (tgt := 56) hx hb dX12_laysPushes_90 (by decide) ?_
                                refine lv_iload hx hb dX12_laysPushes_56 (lv_at hl 0 rfl) ?_
                                refine lv_iconst (v := 3) hx hb dX12_laysPushes_58 (by decide) ?_
                                refine lv_icmp_ge (tgt := 93) hx hb dX12_laysPushes_59 (by decide) (fun k305 => ?_) (fun k305 => ?_)
                                · have h306 := ib_le k305
                                  refine lv_aload_n hx hb dX12_laysPushes_93 rfl (lv_at hl 4 rfl) ?_
                                  refine xget E hQ 0 (by decide) c55 rfl 28 (by decide) q1496 rfl dX12_laysPushes_94 ?_
                                  refine lv_bipush (v := 12) hx hb dX12_laysPushes_97 (by decide) ?_
                                  refine lv_iload_n hx hb dX12_laysPushes_99 rfl (lv_at hl 3 rfl) ?_
                                  refine lv_imul hx hb dX12_laysPushes_100 ?_
                                  refine lv_topi (fun z307 e308 => ?_)
                                  have t309 := ib_cmul (q := 12) e308 (by decide) (by decide) b51 (by decide) (by decide)
                                  have b310 : Bd z307 (0) (1188) := ib_mulb t309 (by decide) b51
                                  refine lv_iload_n hx hb dX12_laysPushes_101 rfl (lv_at hl 2 rfl) ?_
                                  refine lv_iadd hx hb dX12_laysPushes_102 ?_
                                  refine lv_topi (fun z311 e312 => ?_)
                                  have t313 := ib_add e312 b310 b64 (by decide) (by decide)
                                  have b314 : Bd z311 (0) (1199) := ib_addb t313 b310 b64
                                  refine lv_iload hx hb dX12_laysPushes_103 (lv_at hl 1 rfl) ?_
                                  have bb315 := best3_of fg70 fg206 fg274 (stp_f k71 (fg200.trans fg70.symm)) (stp_f k207 (fg268.trans fg206.symm)) (stp_f k275 (fg302.trans fg274.symm))
                                  obtain ⟨f316, c317, b318⟩ := invM_16 hI
                                  refine xiast E hs hQ 16 (by decide) c317 (ib_in b314 (by decide) (by decide)) dX12_laysPushes_105 (fun H locs S319 eS319 hQ => ?_)
                                  have hI := invM_up_16 hI eS319 ⟨_, rfl, upd_b b318 (ib_wk b304 (by decide) (by decide))⟩
                                  have b321 : ∀ j, Bd ((upd f316 (z311 : Int32).toNatClampNeg r302) j) (0) (100000) := upd_b b318 (ib_wk b304 (by decide) (by decide))
                                  have c320 : S319 16 = .inl (g.2 0, 1212, .inl (upd f316 (z311 : Int32).toNatClampNeg r302)) := up_at eS319 rfl
                                  obtain ⟨z322, e323⟩ : ∃ z : Int32, z = x39_3 + 1 := ⟨_, rfl⟩
                                  have t324 := ib_add e323 b64 (by decide : Bd 1 (1) (1)) (by decide) (by decide)
                                  have b325 : Bd z322 (1) (12) := ib_addb t324 b64 (by decide : Bd 1 (1) (1))
                                  have t324 : z322.toInt = x39_3.toInt + 1 := fold_add t324 rfl (by decide)
                                  refine lv_iinc (v := z322) (lv' := [(3, .int z322), (5, .int 3), (4, .int r302), (2, .int x33_2), (0, .ref (ad 0)), (1, .int a1)]) hx hb dX12_laysPushes_106 hl (k := 2) rfl (by rw [e323]; rfl) (by decide) rfl (fun ls hl => ?_)
                                  refine lv_goto (tgt := 39) hx hb dX12_laysPushes_109 (by decide) ?_
                                  exact ih39 _ _ _ _ z322 (ib_wk b325 (by decide) (by decide)) (by omega) hI (up_o hf39 eS319 (by decide)) (by rw [(up_eq (j := 7) eS319 (by decide)), (up_eq (j := 8) eS319 (by decide)), (up_eq (j := 10) eS319 (by decide))]; exact (tb_s hb53 hC39.1 hC39.2 c317 c320 bb315 b51 b64 (by omega) (by omega) (by omega) (by omega))) hQ (lv_sub hl [0, 3, 4, 5] rfl)
                                · have h326 := ib_nle k305
                                  exact absurd h326 (by decide)
              obtain ⟨n39, hn39⟩ := fu_n (12)
              exact loop39 n39 _ _ _ _ 0 (ib_wk (by decide : Bd 0 (0) (0)) (by decide) (by decide)) (by have : (0 : Int32).toInt = 0 := (by decide); omega) hI o_refl ⟨hC33, tb_r0 (by decide)⟩ hQ (lv_sub hl [0, 1, 2, 3] rfl)
        obtain ⟨n33, hn33⟩ := fu_n (100)
        have hb327 : Bd (arr (S_2 7) 0) 1 12 := by rw [arr_of c43, ee5]; exact b11
        have hn328 : (arr (S_2 7) 0).toInt = v4.toInt := by rw [arr_of c43, ee5]
        exact loop33 n33 _ _ _ _ 99 (ib_wk (by decide : Bd 99 (99) (99)) (by decide) (by decide)) (by have : (99 : Int32).toInt = 99 := (by decide); omega) hI o_refl (tb_e (n := x2_2.toInt) hC2 (by omega) (by decide)) hQ (lv_sub hl [0, 1, 2] rfl)
      · have h329 := ib_nle k44
        have b330 : Bd x2_2 (0) (11) := ⟨(Bx2_2).1, ((rf_lt Bx2_2 b11 h329).1).2⟩
        refine lv_aload_n hx hb dX12_laysPushes_12 rfl (lv_at hl 1 rfl) ?_
        refine xget E hQ 0 (by decide) c42 rfl 28 (by decide) q1496 rfl dX12_laysPushes_13 ?_
        refine lv_sipush (v := 1200) hx hb dX12_laysPushes_16 (by decide) ?_
        refine lv_iload_n hx hb dX12_laysPushes_19 rfl (lv_at hl 0 rfl) ?_
        refine lv_iadd hx hb dX12_laysPushes_20 ?_
        refine lv_topi (fun z331 e332 => ?_)
        have t333 := ib_add e332 (by decide : Bd 1200 (1200) (1200)) b330 (by decide) (by decide)
        have b334 : Bd z331 (1200) (1211) := ib_addb t333 (by decide : Bd 1200 (1200) (1200)) b330
        have t333 : z331.toInt = 1200 + x2_2.toInt := fold_add t333 (by decide) rfl
        refine lv_ldc (v := 100000) hx hb E.2.2.1 (E.2.2.2.1 _ q1648) dX12_laysPushes_21 ?_
        obtain ⟨f335, c336, b337⟩ := invM_16 hI
        refine xiast E hs hQ 16 (by decide) c336 (ib_in b334 (by decide) (by decide)) dX12_laysPushes_23 (fun H locs S338 eS338 hQ => ?_)
        have hI := invM_up_16 hI eS338 ⟨_, rfl, upd_b b337 (ib_wk (by decide : Bd 100000 (100000) (100000)) (by decide) (by decide))⟩
        have b340 : ∀ j, Bd ((upd f335 (z331 : Int32).toNatClampNeg 100000) j) (0) (100000) := upd_b b337 (ib_wk (by decide : Bd 100000 (100000) (100000)) (by decide) (by decide))
        have c339 : S338 16 = .inl (g.2 0, 1212, .inl (upd f335 (z331 : Int32).toNatClampNeg 100000)) := up_at eS338 rfl
        obtain ⟨z341, e342⟩ : ∃ z : Int32, z = x2_2 + 1 := ⟨_, rfl⟩
        have t343 := ib_add e342 b330 (by decide : Bd 1 (1) (1)) (by decide) (by decide)
        have b344 : Bd z341 (1) (12) := ib_addb t343 b330 (by decide : Bd 1 (1) (1))
        have t343 : z341.toInt = x2_2.toInt + 1 := fold_add t343 rfl (by decide)
        refine lv_iinc (v := z341) (lv' := [(2, .int z341), (0, .ref (ad 0)), (1, .int a1)]) hx hb dX12_laysPushes_24 hl (k := 0) rfl (by rw [e342]; rfl) (by decide) rfl (fun ls hl => ?_)
        refine lv_goto (tgt := 2) hx hb dX12_laysPushes_27 (by decide) ?_
        exact ih2 _ _ _ _ z341 (ib_wk b344 (by decide) (by decide)) (by omega) hI (up_o hf2 eS338 (by decide)) (tb_2 (x := x2_2) hC2 c336 c339 rfl (by omega) (by omega) (by omega)) hQ (lv_sub hl [0, 1, 2] rfl)
  obtain ⟨n2, hn2⟩ := fu_n (12)
  exact loop2 n2 _ _ _ _ 0 (ib_wk (by decide : Bd 0 (0) (0)) (by decide) (by decide)) (by have : (0 : Int32).toInt = 0 := (by decide); omega) hI o_refl (tb_0 (by decide)) hQ (lv_sub hl [0, 1, 2] rfl)
def fFirst (e9 : va_E) (a1 : Int32) : Int32 := (((12 : Int32) * (arr e9 (((3 : Int32) * a1) + (2 : Int32)).toNatClampNeg)) + (arr e9 (((3 : Int32) * a1) + (1 : Int32)).toNatClampNeg))
set_option maxHeartbeats 4000000 in
set_option maxRecDepth 100000 in
theorem gX12_firstF (l : Launch) (g : GG) (ad : Nat → Nat) (hD : Dj ad 20) (S : SS) (hI : InvM g ad S) (a1 : Int32) (ba1 : Bd a1 (0) (7)) : Met l yX12_first (wG (.code yX12_first cX12_first 2 (some .int))) (Rm 0) (XPre g ad 20 S [.ref (ad 0), .int a1]) (va_Qi (fun r S' => S = S' ∧ Bd r (0) (1199) ∧ r = fFirst (S 9) a1) (QB g ad 20) (FA ad 20)) 0 0 (FA ad 20) := by
  refine xmet cX12_first "EbbWreckModel" (by decide) rfl (Nat.le_of_ble_eq_true rfl) (fun p e s m below meth c E hr hlk hml hQ ls hl => ?_)
  have hx := E.1
  have hb := E.2.1
  have hs : Sp ad 20 (FA ad 20) := Sp.fa hD
  have hl : lv_has ls 2 [(0, .ref (ad 0)), (1, .int a1)] := hl
  refine lv_bipush (v := 12) hx hb dX12_first_0 (by decide) ?_
  refine lv_aload_n hx hb dX12_first_2 rfl (lv_at hl 0 rfl) ?_
  obtain ⟨v1, v2, v4, v6, v8, v9, w10, v11, v13, v14, v15, v16, v18, v20, v22, v24, v26, v27, v28, c29, b3, b5, b7, b12, b17, b19, b21, b23, b25⟩ := invM_0 hI
  have c29 : S 0 = .inr (12, [.int v1, .ref (ad 1), .ref (ad 2), .ref (ad 3), .ref (ad 4), .ref (ad 5), .int v2, .int v4, .int v6, .int v8, .int v9, .long w10, .int v11, .int v13, .int v14, .int v15, .ref (ad 6), .ref (ad 7), .ref (ad 8), .ref (ad 9), .ref (ad 10), .ref (ad 11), .ref (ad 12), .ref (ad 13), .ref (ad 14), .ref (ad 15), .int v16, .int v18, .ref (ad 16), .int v20, .int v22, .int v24, .int v26, .int v27, .ref (ad 17), .ref (ad 18), .int v28, .ref (ad 19)]) := c29
  refine xget E hQ 0 (by decide) c29 rfl 19 (by decide) q1487 rfl dX12_first_3 ?_
  refine lv_iconst (v := 3) hx hb dX12_first_6 (by decide) ?_
  refine lv_iload_n hx hb dX12_first_7 rfl (lv_at hl 1 rfl) ?_
  refine lv_imul hx hb dX12_first_8 ?_
  refine lv_topi (fun z30 e31 => ?_)
  have t32 := ib_cmul (q := 3) e31 (by decide) (by decide) ba1 (by decide) (by decide)
  have b33 : Bd z30 (0) (21) := ib_mulb t32 (by decide) ba1
  have tt34 : z30 = ((3 : Int32) * a1) := by rw [e31]
  refine lv_iconst (v := 2) hx hb dX12_first_9 (by decide) ?_
  refine lv_iadd hx hb dX12_first_10 ?_
  refine lv_topi (fun z35 e36 => ?_)
  have t37 := ib_add e36 b33 (by decide : Bd 2 (2) (2)) (by decide) (by decide)
  have b38 : Bd z35 (2) (23) := ib_addb t37 b33 (by decide : Bd 2 (2) (2))
  have t37 : z35.toInt = z30.toInt + 2 := fold_add t37 rfl (by decide)
  have tt39 : z35 = (((3 : Int32) * a1) + (2 : Int32)) := by rw [e36, tt34]
  obtain ⟨f40, c41, b42⟩ := invM_9 hI
  refine xiald E hQ 9 (by decide) c41 (ib_in b38 (by decide) (by decide)) dX12_first_11 ?_
  refine lv_topi (fun z43 e44 => ?_)
  have b45 : Bd z43 (0) (99) := (by rw [e44]; exact b42.2 _ (by rw [clampN b38]; omega))
  have tt46 : z43 = (arr (S 9) (((3 : Int32) * a1) + (2 : Int32)).toNatClampNeg) := by rw [e44, arr_of c41, tt39]
  refine lv_imul hx hb dX12_first_12 ?_
  refine lv_topi (fun z47 e48 => ?_)
  have t49 := ib_cmul (q := 12) e48 (by decide) (by decide) b45 (by decide) (by decide)
  have b50 : Bd z47 (0) (1188) := ib_mulb t49 (by decide) b45
  have tt51 : z47 = ((12 : Int32) * (arr (S 9) (((3 : Int32) * a1) + (2 : Int32)).toNatClampNeg)) := by rw [e48, tt46]
  refine lv_aload_n hx hb dX12_first_13 rfl (lv_at hl 0 rfl) ?_
  refine xget E hQ 0 (by decide) c29 rfl 19 (by decide) q1487 rfl dX12_first_14 ?_
  refine lv_iconst (v := 3) hx hb dX12_first_17 (by decide) ?_
  refine lv_iload_n hx hb dX12_first_18 rfl (lv_at hl 1 rfl) ?_
  refine lv_imul hx hb dX12_first_19 ?_
  refine lv_topi (fun z52 e53 => ?_)
  have t54 := ib_cmul (q := 3) e53 (by decide) (by decide) ba1 (by decide) (by decide)
  have b55 : Bd z52 (0) (21) := ib_mulb t54 (by decide) ba1
  have tt56 : z52 = ((3 : Int32) * a1) := by rw [e53]
  refine lv_iconst (v := 1) hx hb dX12_first_20 (by decide) ?_
  refine lv_iadd hx hb dX12_first_21 ?_
  refine lv_topi (fun z57 e58 => ?_)
  have t59 := ib_add e58 b55 (by decide : Bd 1 (1) (1)) (by decide) (by decide)
  have b60 : Bd z57 (1) (22) := ib_addb t59 b55 (by decide : Bd 1 (1) (1))
  have t59 : z57.toInt = z52.toInt + 1 := fold_add t59 rfl (by decide)
  have tt61 : z57 = (((3 : Int32) * a1) + (1 : Int32)) := by rw [e58, tt56]
  refine xiald E hQ 9 (by decide) c41 (ib_in b60 (by decide) (by decide)) dX12_first_22 ?_
  refine lv_topi (fun z62 e63 => ?_)
  have b64 : Bd z62 (0) (11) := (by rw [e63]; exact b42.1 _ (by rw [clampN b60]; omega))
  have tt65 : z62 = (arr (S 9) (((3 : Int32) * a1) + (1 : Int32)).toNatClampNeg) := by rw [e63, arr_of c41, tt61]
  refine lv_iadd hx hb dX12_first_23 ?_
  refine lv_topi (fun z66 e67 => ?_)
  have t68 := ib_add e67 b50 b64 (by decide) (by decide)
  have b69 : Bd z66 (0) (1199) := ib_addb t68 b50 b64
  have tt70 : z66 = (((12 : Int32) * (arr (S 9) (((3 : Int32) * a1) + (2 : Int32)).toNatClampNeg)) + (arr (S 9) (((3 : Int32) * a1) + (1 : Int32)).toNatClampNeg)) := by rw [e67, tt51, tt65]
  exact xri E hr hlk hQ (⟨rfl, b69, (by rw [fFirst]; exact tt70)⟩) dX12_first_24
set_option maxHeartbeats 4000000 in
set_option maxRecDepth 100000 in
theorem gX12_pushOf_0 (l : Launch) (g : GG) (ad : Nat → Nat) (hD : Dj ad 20) (S : SS) (hI : InvM g ad S) (a1 : Int32) (a2 : Int32) (a3 : Int32) (ba1 : Bd a1 (0) (7)) (hq1 : 0 ≤ elm (S 7) 0 + (-1)) (hq2 : 0 ≤ elm (S 7) 1 + (-1)) (hq3 : 0 ≤ elm (S 7) 6 + (-1) * a1.toInt + (-1)) (hHT0 : HTp (S 7) (S 9) 0) : Met l yX12_pushOf (wG (.code yX12_pushOf cX12_pushOf 8 (some .int))) (Rm 5) (XPre g ad 20 S [.ref (ad 0), .int a1, .int a2, .int a3]) (va_Qi (fun r S' => InvM g ad S' ∧ (∀ j, j ∉ ([0, 16] : List Nat) → S' j = S j) ∧ Bd r (-1) (99)) (QB g ad 20) (FA ad 20)) 0 0 (FA ad 20) := by
  refine xmet cX12_pushOf "EbbWreckModel" (by decide) rfl (Nat.le_of_ble_eq_true rfl) (fun p e s m below meth c E hr hlk hml hQ ls hl => ?_)
  have hx := E.1
  have hb := E.2.1
  have hs : Sp ad 20 (FA ad 20) := Sp.fa hD
  have hl : lv_has ls 8 [(0, .ref (ad 0)), (1, .int a1), (2, .int a2), (3, .int a3)] := hl
  obtain ⟨f1, c2, b3⟩ := invM_7 hI
  obtain ⟨v4, ee5⟩ : ∃ z : Int32, f1 0 = z := ⟨_, rfl⟩
  have b6 : Bd v4 (0) (12) := (by rw [← ee5]; exact b3.1 0 (by decide))
  obtain ⟨v7, ee8⟩ : ∃ z : Int32, f1 1 = z := ⟨_, rfl⟩
  have b9 : Bd v7 (0) (12) := (by rw [← ee8]; exact b3.2.1 1 (by decide))
  obtain ⟨v10, ee11⟩ : ∃ z : Int32, f1 6 = z := ⟨_, rfl⟩
  have b12 : Bd v10 (0) (8) := (by rw [← ee11]; exact b3.2.2.2.2.1 6 (by decide))
  have q13 : elm (S 7) 0 = v4.toInt := (elm_of c2 0).trans (congrArg Int32.toInt (ee5))
  have b14 : Bd v4 (1) (12) := ⟨by omega, (b6).2⟩
  have q15 : elm (S 7) 1 = v7.toInt := (elm_of c2 1).trans (congrArg Int32.toInt (ee8))
  have b16 : Bd v7 (1) (12) := ⟨by omega, (b9).2⟩
  have q17 : elm (S 7) 6 = v10.toInt := (elm_of c2 6).trans (congrArg Int32.toInt (ee11))
  have b18 : Bd v10 (1) (8) := ⟨by omega, (b12).2⟩
  refine lv_aload_n hx hb dX12_pushOf_0 rfl (lv_at hl 0 rfl) ?_
  refine lv_iload_n hx hb dX12_pushOf_1 rfl (lv_at hl 2 rfl) ?_
  obtain ⟨v20, v21, v23, v25, v27, v28, w29, v30, v32, v33, v34, v35, v37, v39, v41, v43, v45, v46, v47, c48, b22, b24, b26, b31, b36, b38, b40, b42, b44⟩ := invM_0 hI
  have c48 : S 0 = .inr (12, [.int v20, .ref (ad 1), .ref (ad 2), .ref (ad 3), .ref (ad 4), .ref (ad 5), .int v21, .int v23, .int v25, .int v27, .int v28, .long w29, .int v30, .int v32, .int v33, .int v34, .ref (ad 6), .ref (ad 7), .ref (ad 8), .ref (ad 9), .ref (ad 10), .ref (ad 11), .ref (ad 12), .ref (ad 13), .ref (ad 14), .ref (ad 15), .int v35, .int v37, .ref (ad 16), .int v39, .int v41, .int v43, .int v45, .int v46, .ref (ad 17), .ref (ad 18), .int v47, .ref (ad 19)]) := c48
  refine xcVv E hs hQ hml hl.1 0 (gX12_laysPushesT l g ad hD S hI a2 (by omega) (by omega)) mX12_laysPushes q1926 (by decide) c48 rfl rfl ⟨(Nat.le_of_ble_eq_true rfl), (Nat.le_of_ble_eq_true rfl)⟩ ⟨(Nat.le_of_ble_eq_true rfl), (Nat.le_of_ble_eq_true rfl)⟩ (Nat.le_of_ble_eq_true rfl) rfl dX12_pushOf_2 (fun S19 H locs hp19 hQ _ => ?_)
  obtain ⟨hI, o19, u19_0⟩ := hp19
  refine lv_aload_n hx hb dX12_pushOf_5 rfl (lv_at hl 0 rfl) ?_
  have c49 : S19 0 = .inr (12, [.int v20, .ref (ad 1), .ref (ad 2), .ref (ad 3), .ref (ad 4), .ref (ad 5), .int v21, .int v23, .int v25, .int v27, .int v28, .long w29, .int v30, .int v32, .int v33, .int v34, .ref (ad 6), .ref (ad 7), .ref (ad 8), .ref (ad 9), .ref (ad 10), .ref (ad 11), .ref (ad 12), .ref (ad 13), .ref (ad 14), .ref (ad 15), .int v35, .int v37, .ref (ad 16), .int v39, .int v41, .int v43, .int v45, .int v46, .ref (ad 17), .ref (ad 18), .int v47, .ref (ad 19)]) := ((o19 0 (by decide)).trans c48)
  refine xget E hQ 0 (by decide) c49 rfl 28 (by decide) q1496 rfl dX12_pushOf_6 ?_
  refine lv_aload_n hx hb dX12_pushOf_9 rfl (lv_at hl 0 rfl) ?_
  refine lv_iload_n hx hb dX12_pushOf_10 rfl (lv_at hl 1 rfl) ?_
  refine xcVi E hs hQ hml hl.1 0 (gX12_firstF l g ad hD S19 hI a1 ba1) mX12_first q1934 (by decide) c49 rfl rfl ⟨(Nat.le_of_ble_eq_true rfl), (Nat.le_of_ble_eq_true rfl)⟩ ⟨(Nat.le_of_ble_eq_true rfl), (Nat.le_of_ble_eq_true rfl)⟩ (Nat.le_of_ble_eq_true rfl) rfl dX12_pushOf_11 (fun r50 S50 H locs hp50 hQ _ => ?_)
  obtain ⟨rfl, b50, fg50⟩ := hp50
  obtain ⟨f51, c52, b53⟩ := invM_16 hI
  refine xiald E hQ 16 (by decide) c52 (ib_in b50 (by decide) (by decide)) dX12_pushOf_14 ?_
  refine lv_topi (fun z54 e55 => ?_)
  have b56 : Bd z54 (0) (100000) := (by rw [e55]; exact b53 _)
  refine lv_ldc (v := 100000) hx hb E.2.2.1 (E.2.2.2.1 _ q1648) dX12_pushOf_15 ?_
  refine lv_icmp_lt (tgt := 22) hx hb dX12_pushOf_17 (by decide) (fun k57 => ?_) (fun k57 => ?_)
  · have h58 := ib_lt k57
    have b59 : Bd z54 (0) (99999) := ⟨(b56).1, ((rf_lt b56 (by decide : Bd 100000 (100000) (100000)) h58).1).2⟩
    refine lv_aload_n hx hb dX12_pushOf_22 rfl (lv_at hl 0 rfl) ?_
    refine xget E hQ 0 (by decide) c49 rfl 19 (by decide) q1487 rfl dX12_pushOf_23 ?_
    refine lv_iconst (v := 3) hx hb dX12_pushOf_26 (by decide) ?_
    refine lv_iload_n hx hb dX12_pushOf_27 rfl (lv_at hl 1 rfl) ?_
    refine lv_imul hx hb dX12_pushOf_28 ?_
    refine lv_topi (fun z60 e61 => ?_)
    have t62 := ib_cmul (q := 3) e61 (by decide) (by decide) ba1 (by decide) (by decide)
    have b63 : Bd z60 (0) (21) := ib_mulb t62 (by decide) ba1
    refine lv_iconst (v := 1) hx hb dX12_pushOf_29 (by decide) ?_
    refine lv_iadd hx hb dX12_pushOf_30 ?_
    refine lv_topi (fun z64 e65 => ?_)
    have t66 := ib_add e65 b63 (by decide : Bd 1 (1) (1)) (by decide) (by decide)
    have b67 : Bd z64 (1) (22) := ib_addb t66 b63 (by decide : Bd 1 (1) (1))
    have t66 : z64.toInt = z60.toInt + 1 := fold_add t66 rfl (by decide)
    obtain ⟨f68, c69, b70⟩ := invM_9 hI
    refine xiald E hQ 9 (by decide) c69 (ib_in b67 (by decide) (by decide)) dX12_pushOf_31 ?_
    refine lv_topi (fun z71 e72 => ?_)
    have b73 : Bd z71 (0) (11) := (by rw [e72]; exact b70.1 _ (by rw [clampN b67]; omega))
    have tt74 : z71 = f68 ((3 : Int32) * a1 + 1).toNatClampNeg := by rw [e72, e65, e61]
    refine lv_istore (lv' := [(4, .int z71), (0, .ref (ad 0)), (1, .int a1), (2, .int a2), (3, .int a3)]) hx hb dX12_pushOf_32 hl (by decide) rfl (fun ls hl => ?_)
    refine lv_iconst (v := 0) hx hb dX12_pushOf_34 (by decide) ?_
    refine lv_istore (lv' := [(5, .int 0), (4, .int z71), (0, .ref (ad 0)), (1, .int a1), (2, .int a2), (3, .int a3)]) hx hb dX12_pushOf_35 hl (by decide) rfl (fun ls hl => ?_)
    refine lv_aload_n hx hb dX12_pushOf_37 rfl (lv_at hl 2 rfl) ?_
    refine xget E hQ 0 (by decide) c49 rfl 19 (by decide) q1487 rfl dX12_pushOf_38 ?_
    refine lv_iconst (v := 3) hx hb dX12_pushOf_41 (by decide) ?_
    refine lv_iload_n hx hb dX12_pushOf_42 rfl (lv_at hl 3 rfl) ?_
    refine lv_imul hx hb dX12_pushOf_43 ?_
    refine lv_topi (fun z75 e76 => ?_)
    have t77 := ib_cmul (q := 3) e76 (by decide) (by decide) ba1 (by decide) (by decide)
    have b78 : Bd z75 (0) (21) := ib_mulb t77 (by decide) ba1
    refine lv_iconst (v := 2) hx hb dX12_pushOf_44 (by decide) ?_
    refine lv_iadd hx hb dX12_pushOf_45 ?_
    refine lv_topi (fun z79 e80 => ?_)
    have t81 := ib_add e80 b78 (by decide : Bd 2 (2) (2)) (by decide) (by decide)
    have b82 : Bd z79 (2) (23) := ib_addb t81 b78 (by decide : Bd 2 (2) (2))
    have t81 : z79.toInt = z75.toInt + 2 := fold_add t81 rfl (by decide)
    refine xiald E hQ 9 (by decide) c69 (ib_in b82 (by decide) (by decide)) dX12_pushOf_46 ?_
    refine lv_topi (fun z83 e84 => ?_)
    have b85 : Bd z83 (0) (99) := (by rw [e84]; exact b70.2 _ (by rw [clampN b82]; omega))
    have tt86 : z83 = f68 ((3 : Int32) * a1 + 2).toNatClampNeg := by rw [e84, e80, e76]
    refine lv_istore (lv' := [(6, .int z83), (5, .int 0), (4, .int z71), (0, .ref (ad 0)), (1, .int a1), (2, .int a2), (3, .int a3)]) hx hb dX12_pushOf_47 hl (by decide) rfl (fun ls hl => ?_)
    have loop49 : ∀ (n : Nat) (S_49 : SS) (H : Heap) (locs : List Loc) (ls : Array Slot) (x49_4 : Int32) (x49_5 : Int32) (x49_6 : Int32) (y49_0_0 : Int32) (y49_0_6 : Int32) (y49_0_7 : Int32) (y49_0_8 : Int32) (y49_0_9 : Int32) (y49_0_10 : Int32) (wy49_0_11 : Int64) (y49_0_12 : Int32) (y49_0_13 : Int32) (y49_0_14 : Int32) (y49_0_15 : Int32) (y49_0_26 : Int32) (y49_0_27 : Int32) (y49_0_29 : Int32) (y49_0_30 : Int32) (y49_0_31 : Int32) (y49_0_32 : Int32) (y49_0_33 : Int32) (y49_0_36 : Int32), Bd x49_4 (0) (11) → Bd x49_6 (0) (100) → Bd y49_0_6 (0) (1200) → Bd y49_0_7 (0) (1200) → Bd y49_0_8 (0) (4) → Bd y49_0_12 (0) (3) → Bd y49_0_26 (0) (11) → Bd y49_0_27 (-1) (400) → Bd y49_0_29 (0) (2) → Bd y49_0_30 (0) (11) → Bd y49_0_31 (-1) (468) → (-1) * x49_6.toInt + 100 < ((n : Nat) : Int) → InvM g ad S_49 → (∀ j, j ∉ ([0] : List Nat) → S_49 j = S19 j) → S_49 0 = .inr (12, [.int y49_0_0, .ref (ad 1), .ref (ad 2), .ref (ad 3), .ref (ad 4), .ref (ad 5), .int y49_0_6, .int y49_0_7, .int y49_0_8, .int y49_0_9, .int y49_0_10, .long wy49_0_11, .int y49_0_12, .int y49_0_13, .int y49_0_14, .int y49_0_15, .ref (ad 6), .ref (ad 7), .ref (ad 8), .ref (ad 9), .ref (ad 10), .ref (ad 11), .ref (ad 12), .ref (ad 13), .ref (ad 14), .ref (ad 15), .int y49_0_26, .int y49_0_27, .ref (ad 16), .int y49_0_29, .int y49_0_30, .int y49_0_31, .int y49_0_32, .int y49_0_33, .ref (ad 17), .ref (ad 18), .int y49_0_36, .ref (ad 19)]) → ((arr (S_49 16) (12 * x49_6.toInt.toNat + x49_4.toInt.toNat)).toInt < 100000 ∧ x49_4.toInt < (arr (S_49 7) 0).toInt) → Hp g ad 20 S_49 (FA ad 20) s.heap H locs → lv_has ls 8 [(6, .int x49_6), (5, .int x49_5), (4, .int x49_4), (0, .ref (ad 0)), (1, .int a1), (2, .int a2), (3, .int a3)] → W p l e (Rm 5) s m [.ref (ad 0), .int a1, .int a2, .int a3].toArray below meth c H locs 0 0 (MQ below (va_Qi (fun r S' => InvM g ad S' ∧ (∀ j, j ∉ ([0, 16] : List Nat) → S' j = S j) ∧ Bd r (-1) (99)) (QB g ad 20) (FA ad 20)) [.ref (ad 0), .int a1, .int a2, .int a3].toArray s 0 0 (FA ad 20)) (F0 m 49 ls []) := by
      intro n
      induction n with
      | zero => intro S_49 H locs ls x49_4 x49_5 x49_6 y49_0_0 y49_0_6 y49_0_7 y49_0_8 y49_0_9 y49_0_10 wy49_0_11 y49_0_12 y49_0_13 y49_0_14 y49_0_15 y49_0_26 y49_0_27 y49_0_29 y49_0_30 y49_0_31 y49_0_32 y49_0_33 y49_0_36 Bx49_4 Bx49_6 By49_0_6 By49_0_7 By49_0_8 By49_0_12 By49_0_26 By49_0_27 By49_0_29 By49_0_30 By49_0_31 hn49_ hI hf49 cl49_0 hC49 hQ hl; exfalso; have := (Bx49_6).2; omega
      | succ n49_ ih49 =>
        intro S_49 H locs ls x49_4 x49_5 x49_6 y49_0_0 y49_0_6 y49_0_7 y49_0_8 y49_0_9 y49_0_10 wy49_0_11 y49_0_12 y49_0_13 y49_0_14 y49_0_15 y49_0_26 y49_0_27 y49_0_29 y49_0_30 y49_0_31 y49_0_32 y49_0_33 y49_0_36 Bx49_4 Bx49_6 By49_0_6 By49_0_7 By49_0_8 By49_0_12 By49_0_26 By49_0_27 By49_0_29 By49_0_30 By49_0_31 hn49_ hI hf49 cl49_0 hC49 hQ hl
        refine lv_aload_n hx hb dX12_pushOf_49 rfl (lv_at hl 3 rfl) ?_
        have tb87 : TBp (S_49 7) (S_49 8) (S_49 10) (S_49 16) a2 (-1) := (tb_tr u19_0 (hf49 7 (by decide)) (hf49 8 (by decide)) (hf49 10 (by decide)) (hf49 16 (by decide)))
        have c88 : S_49 7 = .inl (g.2 0, 50, .inl f1) := ((hf49 7 (by decide)).trans ((o19 7 (by decide)).trans c2))
        have hb89 : Bd (arr (S_49 7) 0) 1 12 := by rw [arr_of c88, ee5]; exact b14
        have hn90 : (arr (S_49 7) 0).toInt = v4.toInt := by rw [arr_of c88, ee5]
        have b91 : Bd x49_6 (0) (99) := ⟨(Bx49_6).1, po_b tb87 (by omega) hC49.2 Bx49_6 hC49.1⟩
        refine xget E hQ 0 (by decide) cl49_0 rfl 28 (by decide) q1496 rfl dX12_pushOf_50 ?_
        refine lv_bipush (v := 12) hx hb dX12_pushOf_53 (by decide) ?_
        refine lv_iload hx hb dX12_pushOf_55 (lv_at hl 0 rfl) ?_
        refine lv_imul hx hb dX12_pushOf_57 ?_
        refine lv_topi (fun z92 e93 => ?_)
        have t94 := ib_cmul (q := 12) e93 (by decide) (by decide) b91 (by decide) (by decide)
        have b95 : Bd z92 (0) (1188) := ib_mulb t94 (by decide) b91
        refine lv_iload hx hb dX12_pushOf_58 (lv_at hl 2 rfl) ?_
        refine lv_iadd hx hb dX12_pushOf_60 ?_
        refine lv_topi (fun z96 e97 => ?_)
        have t98 := ib_add e97 b95 Bx49_4 (by decide) (by decide)
        have b99 : Bd z96 (0) (1199) := ib_addb t98 b95 Bx49_4
        have c100 : S_49 16 = .inl (g.2 0, 1212, .inl f51) := ((hf49 16 (by decide)).trans c52)
        refine xiald E hQ 16 (by decide) c100 (ib_in b99 (by decide) (by decide)) dX12_pushOf_61 ?_
        refine lv_topi (fun z101 e102 => ?_)
        have b103 : Bd z101 (0) (100000) := (by rw [e102]; exact b53 _)
        refine lv_if_le (tgt := 189) hx hb dX12_pushOf_62 (by decide) (fun k104 => ?_) (fun k104 => ?_)
        · have h105 := ib_le k104
          have b106 : Bd z101 (0) (0) := ⟨(b103).1, ((rf_le b103 (by decide : Bd 0 (0) (0)) h105).1).2⟩
          refine lv_iconst (v := (-1)) hx hb dX12_pushOf_189 (by decide) ?_
          exact xri E hr hlk hQ (⟨hI, (o_trans (o_trans o_refl o19 (by decide)) hf49 (by decide)), (ib_wk (by decide : Bd (-1) (-1) (-1)) (by decide) (by decide))⟩) dX12_pushOf_190
        · have h107 := ib_nle k104
          have b108 : Bd z101 (1) (100000) := ⟨((rf_lt (by decide : Bd 0 (0) (0)) b103 h107).2).1, (b103).2⟩
          refine lv_aload_n hx hb dX12_pushOf_65 rfl (lv_at hl 3 rfl) ?_
          refine lv_iconst (v := 0) hx hb dX12_pushOf_66 (by decide) ?_
          refine xputi E hs hQ 0 (by decide) cl49_0 rfl 29 (by decide) q1497 rfl rfl (Nat.le_of_ble_eq_true rfl) dX12_pushOf_67 (fun H locs S109 eS109 hQ => ?_)
          have hI := invM_up_0 hI eS109 ⟨y49_0_0, y49_0_6, y49_0_7, y49_0_8, y49_0_9, y49_0_10, wy49_0_11, y49_0_12, y49_0_13, y49_0_14, y49_0_15, y49_0_26, y49_0_27, 0, y49_0_30, y49_0_31, y49_0_32, y49_0_33, y49_0_36, rfl, By49_0_6, By49_0_7, By49_0_8, By49_0_12, By49_0_26, By49_0_27, (ib_wk (by decide : Bd 0 (0) (0)) (by decide) (by decide)), By49_0_30, By49_0_31⟩
          have c110 : S109 0 = .inr (12, [.int y49_0_0, .ref (ad 1), .ref (ad 2), .ref (ad 3), .ref (ad 4), .ref (ad 5), .int y49_0_6, .int y49_0_7, .int y49_0_8, .int y49_0_9, .int y49_0_10, .long wy49_0_11, .int y49_0_12, .int y49_0_13, .int y49_0_14, .int y49_0_15, .ref (ad 6), .ref (ad 7), .ref (ad 8), .ref (ad 9), .ref (ad 10), .ref (ad 11), .ref (ad 12), .ref (ad 13), .ref (ad 14), .ref (ad 15), .int y49_0_26, .int y49_0_27, .ref (ad 16), .int 0, .int y49_0_30, .int y49_0_31, .int y49_0_32, .int y49_0_33, .ref (ad 17), .ref (ad 18), .int y49_0_36, .ref (ad 19)]) := up_at eS109 rfl
          refine lv_iconst (v := 2) hx hb dX12_pushOf_70 (by decide) ?_
          refine lv_istore (lv' := [(7, .int 2), (6, .int x49_6), (5, .int x49_5), (4, .int x49_4), (0, .ref (ad 0)), (1, .int a1), (2, .int a2), (3, .int a3)]) hx hb dX12_pushOf_71 hl (by decide) rfl (fun ls hl => ?_)
          refine lv_iload hx hb dX12_pushOf_73 (lv_at hl 0 rfl) ?_
          refine lv_if_le (tgt := 117) hx hb dX12_pushOf_75 (by decide) (fun k111 => ?_) (fun k111 => ?_)
          · have h112 := ib_le k111
            exact absurd h112 (by decide)
          · have h113 := ib_nle k111
            refine lv_aload_n hx hb dX12_pushOf_78 rfl (lv_at hl 4 rfl) ?_
            refine lv_iload hx hb dX12_pushOf_79 (lv_at hl 1 rfl) ?_
            refine lv_iload hx hb dX12_pushOf_81 (lv_at hl 3 rfl) ?_
            refine lv_iload hx hb dX12_pushOf_83 (lv_at hl 0 rfl) ?_
            refine lv_iload_n hx hb dX12_pushOf_85 rfl (lv_at hl 6 rfl) ?_
            have c114 : S109 7 = .inl (g.2 0, 50, .inl f1) := (up_ne eS109 (by decide) c88)
            have q115 : elm (S109 7) 0 = v4.toInt := (elm_of c114 0).trans (congrArg Int32.toInt (ee5))
            have q116 : elm (S109 7) 1 = v7.toInt := (elm_of c114 1).trans (congrArg Int32.toInt (ee8))
            refine xcVi E hs hQ hml hl.1 0 (gX12_pushBy_0 l g ad hD S109 hI x49_6 x49_4 2 a2 b91 Bx49_4 (by omega) (by omega)) mX12_pushBy q1930 (by decide) c110 rfl rfl ⟨(Nat.le_of_ble_eq_true rfl), (Nat.le_of_ble_eq_true rfl)⟩ ⟨(Nat.le_of_ble_eq_true rfl), (Nat.le_of_ble_eq_true rfl)⟩ (Nat.le_of_ble_eq_true rfl) rfl dX12_pushOf_86 (fun r117 S117 H locs hp117 hQ _ => ?_)
            obtain ⟨rfl, b117, fg117⟩ := hp117
            refine lv_aload_n hx hb dX12_pushOf_89 rfl (lv_at hl 4 rfl) ?_
            refine xget E hQ 0 (by decide) c110 rfl 28 (by decide) q1496 rfl dX12_pushOf_90 ?_
            refine lv_bipush (v := 12) hx hb dX12_pushOf_93 (by decide) ?_
            refine lv_iload hx hb dX12_pushOf_95 (lv_at hl 1 rfl) ?_
            refine lv_imul hx hb dX12_pushOf_97 ?_
            refine lv_topi (fun z118 e119 => ?_)
            have t120 := ib_cmul (q := 12) e119 (by decide) (by decide) b91 (by decide) (by decide)
            have b121 : Bd z118 (0) (1188) := ib_mulb t120 (by decide) b91
            refine lv_iload hx hb dX12_pushOf_98 (lv_at hl 3 rfl) ?_
            refine lv_iadd hx hb dX12_pushOf_100 ?_
            refine lv_topi (fun z122 e123 => ?_)
            have t124 := ib_add e123 b121 Bx49_4 (by decide) (by decide)
            have b125 : Bd z122 (0) (1199) := ib_addb t124 b121 Bx49_4
            have c126 : S109 16 = .inl (g.2 0, 1212, .inl f51) := (up_ne eS109 (by decide) c100)
            refine xiald E hQ 16 (by decide) c126 (ib_in b125 (by decide) (by decide)) dX12_pushOf_101 ?_
            refine lv_topi (fun z127 e128 => ?_)
            have b129 : Bd z127 (0) (100000) := (by rw [e128]; exact b53 _)
            have t130 : z127.toInt = z101.toInt := by rw [e128, e102, show z122.toNatClampNeg = z96.toNatClampNeg from by show z122.toInt.toNat = z96.toInt.toNat; omega]
            refine lv_icmp_ne (tgt := 111) hx hb dX12_pushOf_102 (by decide) (fun k131 => ?_) (fun k131 => ?_)
            · have h132 := ib_ne k131
              refine lv_iinc (v := 1) (lv' := [(7, .int 1), (6, .int x49_6), (5, .int x49_5), (4, .int x49_4), (0, .ref (ad 0)), (1, .int a1), (2, .int a2), (3, .int a3)]) hx hb dX12_pushOf_111 hl (k := 0) rfl (by decide) (by decide) rfl (fun ls hl => ?_)
              refine lv_goto (tgt := 73) hx hb dX12_pushOf_114 (by decide) ?_
              refine lv_iload hx hb dX12_pushOf_73 (lv_at hl 0 rfl) ?_
              refine lv_if_le (tgt := 117) hx hb dX12_pushOf_75 (by decide) (fun k133 => ?_) (fun k133 => ?_)
              · have h134 := ib_le k133
                exact absurd h134 (by decide)
              · have h135 := ib_nle k133
                refine lv_aload_n hx hb dX12_pushOf_78 rfl (lv_at hl 4 rfl) ?_
                refine lv_iload hx hb dX12_pushOf_79 (lv_at hl 1 rfl) ?_
                refine lv_iload hx hb dX12_pushOf_81 (lv_at hl 3 rfl) ?_
                refine lv_iload hx hb dX12_pushOf_83 (lv_at hl 0 rfl) ?_
                refine lv_iload_n hx hb dX12_pushOf_85 rfl (lv_at hl 6 rfl) ?_
                refine xcVi E hs hQ hml hl.1 0 (gX12_pushBy_0 l g ad hD S109 hI x49_6 x49_4 1 a2 b91 Bx49_4 (by omega) (by omega)) mX12_pushBy q1930 (by decide) c110 rfl rfl ⟨(Nat.le_of_ble_eq_true rfl), (Nat.le_of_ble_eq_true rfl)⟩ ⟨(Nat.le_of_ble_eq_true rfl), (Nat.le_of_ble_eq_true rfl)⟩ (Nat.le_of_ble_eq_true rfl) rfl dX12_pushOf_86 (fun r136 S136 H locs hp136 hQ _ => ?_)
                obtain ⟨rfl, b136, fg136⟩ := hp136
                refine lv_aload_n hx hb dX12_pushOf_89 rfl (lv_at hl 4 rfl) ?_
                refine xget E hQ 0 (by decide) c110 rfl 28 (by decide) q1496 rfl dX12_pushOf_90 ?_
                refine lv_bipush (v := 12) hx hb dX12_pushOf_93 (by decide) ?_
                refine lv_iload hx hb dX12_pushOf_95 (lv_at hl 1 rfl) ?_
                refine lv_imul hx hb dX12_pushOf_97 ?_
                refine lv_topi (fun z137 e138 => ?_)
                have t139 := ib_cmul (q := 12) e138 (by decide) (by decide) b91 (by decide) (by decide)
                have b140 : Bd z137 (0) (1188) := ib_mulb t139 (by decide) b91
                refine lv_iload hx hb dX12_pushOf_98 (lv_at hl 3 rfl) ?_
                refine lv_iadd hx hb dX12_pushOf_100 ?_
                refine lv_topi (fun z141 e142 => ?_)
                have t143 := ib_add e142 b140 Bx49_4 (by decide) (by decide)
                have b144 : Bd z141 (0) (1199) := ib_addb t143 b140 Bx49_4
                refine xiald E hQ 16 (by decide) c126 (ib_in b144 (by decide) (by decide)) dX12_pushOf_101 ?_
                refine lv_topi (fun z145 e146 => ?_)
                have b147 : Bd z145 (0) (100000) := (by rw [e146]; exact b53 _)
                have t148 : z145.toInt = z101.toInt := by rw [e146, e102, show z141.toNatClampNeg = z96.toNatClampNeg from by show z141.toInt.toNat = z96.toInt.toNat; omega]
                refine lv_icmp_ne (tgt := 111) hx hb dX12_pushOf_102 (by decide) (fun k149 => ?_) (fun k149 => ?_)
                · have h150 := ib_ne k149
                  refine lv_iinc (v := 0) (lv' := [(7, .int 0), (6, .int x49_6), (5, .int x49_5), (4, .int x49_4), (0, .ref (ad 0)), (1, .int a1), (2, .int a2), (3, .int a3)]) hx hb dX12_pushOf_111 hl (k := 0) rfl (by decide) (by decide) rfl (fun ls hl => ?_)
                  refine lv_goto (tgt := 73) hx hb dX12_pushOf_114 (by decide) ?_
                  refine lv_iload hx hb dX12_pushOf_73 (lv_at hl 0 rfl) ?_
                  refine lv_if_le (tgt := 117) hx hb dX12_pushOf_75 (by decide) (fun k151 => ?_) (fun k151 => ?_)
                  · have h152 := ib_le k151
                    refine lv_aload_n hx hb dX12_pushOf_117 rfl (lv_at hl 4 rfl) ?_
                    refine xget E hQ 0 (by decide) c110 rfl 29 (by decide) q1497 rfl dX12_pushOf_118 ?_
                    refine lv_if_le (tgt := 133) hx hb dX12_pushOf_121 (by decide) (fun k153 => ?_) (fun k153 => ?_)
                    · have h154 := ib_le k153
                      refine lv_iload hx hb dX12_pushOf_133 (lv_at hl 2 rfl) ?_
                      refine lv_aload_n hx hb dX12_pushOf_135 rfl (lv_at hl 4 rfl) ?_
                      refine xget E hQ 0 (by decide) c110 rfl 29 (by decide) q1497 rfl dX12_pushOf_136 ?_
                      refine lv_if_le (tgt := 146) hx hb dX12_pushOf_139 (by decide) (fun k155 => ?_) (fun k155 => ?_)
                      · have h156 := ib_le k155
                        refine lv_iconst (v := 0) hx hb dX12_pushOf_146 (by decide) ?_
                        refine lv_iadd hx hb dX12_pushOf_147 ?_
                        refine lv_topi (fun z157 e158 => ?_)
                        have t159 := ib_add e158 (ib_full x49_5) (by decide : Bd 0 (0) (0)) (by decide) (by decide)
                        have b160 : Bd z157 (-2147483648) (2147483647) := ib_addb t159 (ib_full x49_5) (by decide : Bd 0 (0) (0))
                        have t159 : z157.toInt = x49_5.toInt + 0 := fold_add t159 rfl (by decide)
                        refine lv_istore (lv' := [(5, .int z157), (7, .int 0), (6, .int x49_6), (4, .int x49_4), (0, .ref (ad 0)), (1, .int a1), (2, .int a2), (3, .int a3)]) hx hb dX12_pushOf_148 hl (by decide) rfl (fun ls hl => ?_)
                        refine lv_aload_n hx hb dX12_pushOf_150 rfl (lv_at hl 4 rfl) ?_
                        refine lv_aload_n hx hb dX12_pushOf_151 rfl (lv_at hl 4 rfl) ?_
                        refine lv_iload hx hb dX12_pushOf_152 (lv_at hl 3 rfl) ?_
                        refine lv_aload_n hx hb dX12_pushOf_154 rfl (lv_at hl 4 rfl) ?_
                        refine xget E hQ 0 (by decide) c110 rfl 29 (by decide) q1497 rfl dX12_pushOf_155 ?_
                        refine xcVi E hs hQ hml hl.1 0 (gX12_shoved_0 l g ad hD S109 hI x49_4 0 Bx49_4 (by omega)) mX12_shoved q1838 (by decide) c110 rfl rfl ⟨(Nat.le_of_ble_eq_true rfl), (Nat.le_of_ble_eq_true rfl)⟩ ⟨(Nat.le_of_ble_eq_true rfl), (Nat.le_of_ble_eq_true rfl)⟩ (Nat.le_of_ble_eq_true rfl) rfl dX12_pushOf_158 (fun r161 S161 H locs hp161 hQ _ => ?_)
                        obtain ⟨rfl, b161, fg161⟩ := hp161
                        refine lv_iload hx hb dX12_pushOf_161 (lv_at hl 2 rfl) ?_
                        refine xcVi E hs hQ hml hl.1 0 (gX12_on_0 l g ad hD S109 hI r161 x49_6 b161 (by omega) (by omega)) mX12_on q1804 (by decide) c110 rfl rfl ⟨(Nat.le_of_ble_eq_true rfl), (Nat.le_of_ble_eq_true rfl)⟩ ⟨(Nat.le_of_ble_eq_true rfl), (Nat.le_of_ble_eq_true rfl)⟩ (Nat.le_of_ble_eq_true rfl) rfl dX12_pushOf_163 (fun r162 S162 H locs hp162 hQ _ => ?_)
                        obtain ⟨rfl, b162, g162_0, fg162⟩ := hp162
                        refine lv_istore (lv' := [(7, .int r162), (5, .int z157), (6, .int x49_6), (4, .int x49_4), (0, .ref (ad 0)), (1, .int a1), (2, .int a2), (3, .int a3)]) hx hb dX12_pushOf_166 hl (by decide) rfl (fun ls hl => ?_)
                        refine lv_aload_n hx hb dX12_pushOf_168 rfl (lv_at hl 4 rfl) ?_
                        refine lv_iload hx hb dX12_pushOf_169 (lv_at hl 0 rfl) ?_
                        refine xcVi E hs hQ hml hl.1 0 (gX12_isBeach_0 l g ad hD S109 hI r162) mX12_isBeach q1755 (by decide) c110 rfl rfl ⟨(Nat.le_of_ble_eq_true rfl), (Nat.le_of_ble_eq_true rfl)⟩ ⟨(Nat.le_of_ble_eq_true rfl), (Nat.le_of_ble_eq_true rfl)⟩ (Nat.le_of_ble_eq_true rfl) rfl dX12_pushOf_171 (fun r163 S163 H locs hp163 hQ _ => ?_)
                        obtain ⟨rfl, b163, fg163⟩ := hp163
                        refine lv_if_eq (tgt := 179) hx hb dX12_pushOf_174 (by decide) (fun k164 => ?_) (fun k164 => ?_)
                        · have h165 := ib_eq k164
                          have b166 : Bd r163 (0) (0) := ⟨(b163).1, ((rf_eq b163 (by decide : Bd 0 (0) (0)) h165).1).2⟩
                          refine lv_iload hx hb dX12_pushOf_179 (lv_at hl 0 rfl) ?_
                          refine lv_istore (lv' := [(4, .int r162), (7, .int r162), (5, .int z157), (6, .int x49_6), (0, .ref (ad 0)), (1, .int a1), (2, .int a2), (3, .int a3)]) hx hb dX12_pushOf_181 hl (by decide) rfl (fun ls hl => ?_)
                          obtain ⟨z167, e168⟩ : ∃ z : Int32, z = x49_6 + 1 := ⟨_, rfl⟩
                          have t169 := ib_add e168 b91 (by decide : Bd 1 (1) (1)) (by decide) (by decide)
                          have b170 : Bd z167 (1) (100) := ib_addb t169 b91 (by decide : Bd 1 (1) (1))
                          have t169 : z167.toInt = x49_6.toInt + 1 := fold_add t169 rfl (by decide)
                          refine lv_iinc (v := z167) (lv' := [(6, .int z167), (4, .int r162), (7, .int r162), (5, .int z157), (0, .ref (ad 0)), (1, .int a1), (2, .int a2), (3, .int a3)]) hx hb dX12_pushOf_183 hl (k := 3) rfl (by rw [e168]; rfl) (by decide) rfl (fun ls hl => ?_)
                          refine lv_goto (tgt := 49) hx hb dX12_pushOf_186 (by decide) ?_
                          have tv171 : z101 = arr (S_49 16) (12 * x49_6.toInt.toNat + x49_4.toInt.toNat) := by rw [e102, arr_of c100]; congr 1; show z96.toInt.toNat = _; omega
                          have ht172 : z101.toInt < 100000 := by rw [tv171]; exact hC49.1
                          have gg173 : r161 = fShoved (S_49 7) (S_49 8) (S_49 10) x49_4 0 := fg161.trans (by rw [(up_eq (j := 7) eS109 (by decide)), (up_eq (j := 8) eS109 (by decide)), (up_eq (j := 10) eS109 (by decide))])
                          have gg174 : r162 = fOn (S_49 7) (S_49 8) (S_49 10) r161 x49_6 := fg162.trans (by rw [(up_eq (j := 7) eS109 (by decide)), (up_eq (j := 8) eS109 (by decide)), (up_eq (j := 10) eS109 (by decide))])
                          have gg175 : r163 = fBeach (S_49 7) (S_49 8) (S_49 10) r162 := fg163.trans (by rw [(up_eq (j := 7) eS109 (by decide)), (up_eq (j := 8) eS109 (by decide)), (up_eq (j := 10) eS109 (by decide))])
                          have gg176 : r136 = fPush (S_49 7) (S_49 8) (S_49 10) (S_49 16) x49_6 x49_4 1 a2 := fg136.trans (by rw [(up_eq (j := 7) eS109 (by decide)), (up_eq (j := 8) eS109 (by decide)), (up_eq (j := 10) eS109 (by decide)), (up_eq (j := 16) eS109 (by decide))])
                          have gg177 : r117 = fPush (S_49 7) (S_49 8) (S_49 10) (S_49 16) x49_6 x49_4 2 a2 := fg117.trans (by rw [(up_eq (j := 7) eS109 (by decide)), (up_eq (j := 8) eS109 (by decide)), (up_eq (j := 10) eS109 (by decide)), (up_eq (j := 16) eS109 (by decide))])
                          have pq178 := (po_0 (e7 := S_49 7) (e8 := S_49 8) (e10 := S_49 10) (e16 := S_49 16) hb89 b91 gg173 gg174 gg175 b166 gg176 gg177 (by omega) (by omega) (tv171.trans (tb87.2 x49_6 x49_4 (by omega) (by omega) (by omega) (by omega) hC49.2)) ht172)
                          have hbd := fOn_bd (e7 := S_49 7) (e8 := S_49 8) (e10 := S_49 10) hb89 r161 x49_6
                          have gg179 : r162 = fOn (S_49 7) (S_49 8) (S_49 10) r161 x49_6 := fg162.trans (by rw [(up_eq (j := 7) eS109 (by decide)), (up_eq (j := 8) eS109 (by decide)), (up_eq (j := 10) eS109 (by decide))])
                          rw [← gg179] at hbd
                          exact ih49 _ _ _ _ r162 z157 z167 y49_0_0 y49_0_6 y49_0_7 y49_0_8 y49_0_9 y49_0_10 wy49_0_11 y49_0_12 y49_0_13 y49_0_14 y49_0_15 y49_0_26 y49_0_27 0 y49_0_30 y49_0_31 y49_0_32 y49_0_33 y49_0_36 b162 (ib_wk b170 (by decide) (by decide)) By49_0_6 By49_0_7 By49_0_8 By49_0_12 By49_0_26 By49_0_27 (ib_wk (by decide : Bd 0 (0) (0)) (by decide) (by decide)) By49_0_30 By49_0_31 (by have : (0 : Int32).toInt = 0 := (by decide); omega) hI (up_o hf49 eS109 (by decide)) c110 ⟨by rw [(up_eq (j := 16) eS109 (by decide)), show 12 * z167.toInt.toNat + r162.toInt.toNat = 12 * (x49_6.toInt.toNat + 1) + r162.toInt.toNat by omega]; exact pq178, by rw [(up_eq (j := 7) eS109 (by decide))]; exact hbd.2⟩ hQ (lv_sub hl [0, 3, 1, 4, 5, 6, 7] rfl)
                        · have h180 := ib_ne k164
                          have b181 : Bd r163 (1) (1) := rf_nlo b163 (by decide : Bd 0 (0) (0)) h180
                          refine lv_iconst (v := (-1)) hx hb dX12_pushOf_177 (by decide) ?_
                          exact xri E hr hlk hQ (⟨hI, (up_o (o_trans (o_trans o_refl o19 (by decide)) hf49 (by decide)) eS109 (by decide)), (ib_wk (by decide : Bd (-1) (-1) (-1)) (by decide) (by decide))⟩) dX12_pushOf_178
                      · have h182 := ib_nle k155
                        exact absurd h182 (by decide)
                    · have h183 := ib_nle k153
                      exact absurd h183 (by decide)
                  · have h184 := ib_nle k151
                    exact absurd h184 (by decide)
                · have h185 := ib_eq k149
                  have b186 : Bd r136 (0) (100000) := ⟨(b136).1, ((rf_eq b136 b147 h185).1).2⟩
                  refine lv_aload_n hx hb dX12_pushOf_105 rfl (lv_at hl 4 rfl) ?_
                  refine lv_iload hx hb dX12_pushOf_106 (lv_at hl 0 rfl) ?_
                  refine xputi E hs hQ 0 (by decide) c110 rfl 29 (by decide) q1497 rfl rfl (Nat.le_of_ble_eq_true rfl) dX12_pushOf_108 (fun H locs S187 eS187 hQ => ?_)
                  have hI := invM_up_0 hI eS187 ⟨y49_0_0, y49_0_6, y49_0_7, y49_0_8, y49_0_9, y49_0_10, wy49_0_11, y49_0_12, y49_0_13, y49_0_14, y49_0_15, y49_0_26, y49_0_27, 1, y49_0_30, y49_0_31, y49_0_32, y49_0_33, y49_0_36, rfl, By49_0_6, By49_0_7, By49_0_8, By49_0_12, By49_0_26, By49_0_27, (ib_wk (by decide : Bd 1 (1) (1)) (by decide) (by decide)), By49_0_30, By49_0_31⟩
                  have c188 : S187 0 = .inr (12, [.int y49_0_0, .ref (ad 1), .ref (ad 2), .ref (ad 3), .ref (ad 4), .ref (ad 5), .int y49_0_6, .int y49_0_7, .int y49_0_8, .int y49_0_9, .int y49_0_10, .long wy49_0_11, .int y49_0_12, .int y49_0_13, .int y49_0_14, .int y49_0_15, .ref (ad 6), .ref (ad 7), .ref (ad 8), .ref (ad 9), .ref (ad 10), .ref (ad 11), .ref (ad 12), .ref (ad 13), .ref (ad 14), .ref (ad 15), .int y49_0_26, .int y49_0_27, .ref (ad 16), .int 1, .int y49_0_30, .int y49_0_31, .int y49_0_32, .int y49_0_33, .ref (ad 17), .ref (ad 18), .int y49_0_36, .ref (ad 19)]) := up_at eS187 rfl
                  refine lv_iinc (v := 0) (lv' := [(7, .int 0), (6, .int x49_6), (5, .int x49_5), (4, .int x49_4), (0, .ref (ad 0)), (1, .int a1), (2, .int a2), (3, .int a3)]) hx hb dX12_pushOf_111 hl (k := 0) rfl (by decide) (by decide) rfl (fun ls hl => ?_)
                  refine lv_goto (tgt := 73) hx hb dX12_pushOf_114 (by decide) ?_
                  refine lv_iload hx hb dX12_pushOf_73 (lv_at hl 0 rfl) ?_
                  refine lv_if_le (tgt := 117) hx hb dX12_pushOf_75 (by decide) (fun k189 => ?_) (fun k189 => ?_)
                  · have h190 := ib_le k189
                    refine lv_aload_n hx hb dX12_pushOf_117 rfl (lv_at hl 4 rfl) ?_
                    refine xget E hQ 0 (by decide) c188 rfl 29 (by decide) q1497 rfl dX12_pushOf_118 ?_
                    refine lv_if_le (tgt := 133) hx hb dX12_pushOf_121 (by decide) (fun k191 => ?_) (fun k191 => ?_)
                    · have h192 := ib_le k191
                      exact absurd h192 (by decide)
                    · have h193 := ib_nle k191
                      refine lv_iload hx hb dX12_pushOf_124 (lv_at hl 2 rfl) ?_
                      refine lv_iload_n hx hb dX12_pushOf_126 rfl (lv_at hl 7 rfl) ?_
                      refine lv_icmp_ne (tgt := 133) hx hb dX12_pushOf_127 (by decide) (fun k194 => ?_) (fun k194 => ?_)
                      · have h195 := ib_ne k194
                        refine lv_iload hx hb dX12_pushOf_133 (lv_at hl 2 rfl) ?_
                        refine lv_aload_n hx hb dX12_pushOf_135 rfl (lv_at hl 4 rfl) ?_
                        refine xget E hQ 0 (by decide) c188 rfl 29 (by decide) q1497 rfl dX12_pushOf_136 ?_
                        refine lv_if_le (tgt := 146) hx hb dX12_pushOf_139 (by decide) (fun k196 => ?_) (fun k196 => ?_)
                        · have h197 := ib_le k196
                          exact absurd h197 (by decide)
                        · have h198 := ib_nle k196
                          refine lv_iconst (v := 1) hx hb dX12_pushOf_142 (by decide) ?_
                          refine lv_goto (tgt := 147) hx hb dX12_pushOf_143 (by decide) ?_
                          refine lv_iadd hx hb dX12_pushOf_147 ?_
                          refine lv_topi (fun z199 e200 => ?_)
                          refine lv_istore (lv' := [(5, .int z199), (7, .int 0), (6, .int x49_6), (4, .int x49_4), (0, .ref (ad 0)), (1, .int a1), (2, .int a2), (3, .int a3)]) hx hb dX12_pushOf_148 hl (by decide) rfl (fun ls hl => ?_)
                          refine lv_aload_n hx hb dX12_pushOf_150 rfl (lv_at hl 4 rfl) ?_
                          refine lv_aload_n hx hb dX12_pushOf_151 rfl (lv_at hl 4 rfl) ?_
                          refine lv_iload hx hb dX12_pushOf_152 (lv_at hl 3 rfl) ?_
                          refine lv_aload_n hx hb dX12_pushOf_154 rfl (lv_at hl 4 rfl) ?_
                          refine xget E hQ 0 (by decide) c188 rfl 29 (by decide) q1497 rfl dX12_pushOf_155 ?_
                          have c201 : S187 7 = .inl (g.2 0, 50, .inl f1) := (up_ne eS187 (by decide) c114)
                          have q202 : elm (S187 7) 0 = v4.toInt := (elm_of c201 0).trans (congrArg Int32.toInt (ee5))
                          refine xcVi E hs hQ hml hl.1 0 (gX12_shoved_0 l g ad hD S187 hI x49_4 1 Bx49_4 (by omega)) mX12_shoved q1838 (by decide) c188 rfl rfl ⟨(Nat.le_of_ble_eq_true rfl), (Nat.le_of_ble_eq_true rfl)⟩ ⟨(Nat.le_of_ble_eq_true rfl), (Nat.le_of_ble_eq_true rfl)⟩ (Nat.le_of_ble_eq_true rfl) rfl dX12_pushOf_158 (fun r203 S203 H locs hp203 hQ _ => ?_)
                          obtain ⟨rfl, b203, fg203⟩ := hp203
                          refine lv_iload hx hb dX12_pushOf_161 (lv_at hl 2 rfl) ?_
                          have q204 : elm (S187 7) 1 = v7.toInt := (elm_of c201 1).trans (congrArg Int32.toInt (ee8))
                          refine xcVi E hs hQ hml hl.1 0 (gX12_on_0 l g ad hD S187 hI r203 x49_6 b203 (by omega) (by omega)) mX12_on q1804 (by decide) c188 rfl rfl ⟨(Nat.le_of_ble_eq_true rfl), (Nat.le_of_ble_eq_true rfl)⟩ ⟨(Nat.le_of_ble_eq_true rfl), (Nat.le_of_ble_eq_true rfl)⟩ (Nat.le_of_ble_eq_true rfl) rfl dX12_pushOf_163 (fun r205 S205 H locs hp205 hQ _ => ?_)
                          obtain ⟨rfl, b205, g205_0, fg205⟩ := hp205
                          refine lv_istore (lv' := [(7, .int r205), (5, .int z199), (6, .int x49_6), (4, .int x49_4), (0, .ref (ad 0)), (1, .int a1), (2, .int a2), (3, .int a3)]) hx hb dX12_pushOf_166 hl (by decide) rfl (fun ls hl => ?_)
                          refine lv_aload_n hx hb dX12_pushOf_168 rfl (lv_at hl 4 rfl) ?_
                          refine lv_iload hx hb dX12_pushOf_169 (lv_at hl 0 rfl) ?_
                          refine xcVi E hs hQ hml hl.1 0 (gX12_isBeach_0 l g ad hD S187 hI r205) mX12_isBeach q1755 (by decide) c188 rfl rfl ⟨(Nat.le_of_ble_eq_true rfl), (Nat.le_of_ble_eq_true rfl)⟩ ⟨(Nat.le_of_ble_eq_true rfl), (Nat.le_of_ble_eq_true rfl)⟩ (Nat.le_of_ble_eq_true rfl) rfl dX12_pushOf_171 (fun r206 S206 H locs hp206 hQ _ => ?_)
                          obtain ⟨rfl, b206, fg206⟩ := hp206
                          refine lv_if_eq (tgt := 179) hx hb dX12_pushOf_174 (by decide) (fun k207 => ?_) (fun k207 => ?_)
                          · have h208 := ib_eq k207
                            have b209 : Bd r206 (0) (0) := ⟨(b206).1, ((rf_eq b206 (by decide : Bd 0 (0) (0)) h208).1).2⟩
                            refine lv_iload hx hb dX12_pushOf_179 (lv_at hl 0 rfl) ?_
                            refine lv_istore (lv' := [(4, .int r205), (7, .int r205), (5, .int z199), (6, .int x49_6), (0, .ref (ad 0)), (1, .int a1), (2, .int a2), (3, .int a3)]) hx hb dX12_pushOf_181 hl (by decide) rfl (fun ls hl => ?_)
                            obtain ⟨z210, e211⟩ : ∃ z : Int32, z = x49_6 + 1 := ⟨_, rfl⟩
                            have t212 := ib_add e211 b91 (by decide : Bd 1 (1) (1)) (by decide) (by decide)
                            have b213 : Bd z210 (1) (100) := ib_addb t212 b91 (by decide : Bd 1 (1) (1))
                            have t212 : z210.toInt = x49_6.toInt + 1 := fold_add t212 rfl (by decide)
                            refine lv_iinc (v := z210) (lv' := [(6, .int z210), (4, .int r205), (7, .int r205), (5, .int z199), (0, .ref (ad 0)), (1, .int a1), (2, .int a2), (3, .int a3)]) hx hb dX12_pushOf_183 hl (k := 3) rfl (by rw [e211]; rfl) (by decide) rfl (fun ls hl => ?_)
                            refine lv_goto (tgt := 49) hx hb dX12_pushOf_186 (by decide) ?_
                            have tv214 : z101 = arr (S_49 16) (12 * x49_6.toInt.toNat + x49_4.toInt.toNat) := by rw [e102, arr_of c100]; congr 1; show z96.toInt.toNat = _; omega
                            have ht215 : z101.toInt < 100000 := by rw [tv214]; exact hC49.1
                            have hT216 : ∀ i, Bd (arr (S_49 16) i) 0 100000 := fun i => by rw [arr_of c100]; exact b53 i
                            have gg217 : r203 = fShoved (S_49 7) (S_49 8) (S_49 10) x49_4 1 := fg203.trans (by rw [((up_eq (j := 7) eS187 (by decide)).trans (up_eq (j := 7) eS109 (by decide))), ((up_eq (j := 8) eS187 (by decide)).trans (up_eq (j := 8) eS109 (by decide))), ((up_eq (j := 10) eS187 (by decide)).trans (up_eq (j := 10) eS109 (by decide)))])
                            have gg218 : r205 = fOn (S_49 7) (S_49 8) (S_49 10) r203 x49_6 := fg205.trans (by rw [((up_eq (j := 7) eS187 (by decide)).trans (up_eq (j := 7) eS109 (by decide))), ((up_eq (j := 8) eS187 (by decide)).trans (up_eq (j := 8) eS109 (by decide))), ((up_eq (j := 10) eS187 (by decide)).trans (up_eq (j := 10) eS109 (by decide)))])
                            have gg219 : r206 = fBeach (S_49 7) (S_49 8) (S_49 10) r205 := fg206.trans (by rw [((up_eq (j := 7) eS187 (by decide)).trans (up_eq (j := 7) eS109 (by decide))), ((up_eq (j := 8) eS187 (by decide)).trans (up_eq (j := 8) eS109 (by decide))), ((up_eq (j := 10) eS187 (by decide)).trans (up_eq (j := 10) eS109 (by decide)))])
                            have gg220 : r136 = fPush (S_49 7) (S_49 8) (S_49 10) (S_49 16) x49_6 x49_4 1 a2 := fg136.trans (by rw [(up_eq (j := 7) eS109 (by decide)), (up_eq (j := 8) eS109 (by decide)), (up_eq (j := 10) eS109 (by decide)), (up_eq (j := 16) eS109 (by decide))])
                            have pq221 := (po_w (e7 := S_49 7) (e8 := S_49 8) (e10 := S_49 10) (e16 := S_49 16) hb89 hT216 b91 (by decide) gg217 gg218 gg219 b209 gg220 (t := z101) (by omega) ht215)
                            have hbd := fOn_bd (e7 := S_49 7) (e8 := S_49 8) (e10 := S_49 10) hb89 r203 x49_6
                            have gg222 : r205 = fOn (S_49 7) (S_49 8) (S_49 10) r203 x49_6 := fg205.trans (by rw [((up_eq (j := 7) eS187 (by decide)).trans (up_eq (j := 7) eS109 (by decide))), ((up_eq (j := 8) eS187 (by decide)).trans (up_eq (j := 8) eS109 (by decide))), ((up_eq (j := 10) eS187 (by decide)).trans (up_eq (j := 10) eS109 (by decide)))])
                            rw [← gg222] at hbd
                            exact ih49 _ _ _ _ r205 z199 z210 y49_0_0 y49_0_6 y49_0_7 y49_0_8 y49_0_9 y49_0_10 wy49_0_11 y49_0_12 y49_0_13 y49_0_14 y49_0_15 y49_0_26 y49_0_27 1 y49_0_30 y49_0_31 y49_0_32 y49_0_33 y49_0_36 b205 (ib_wk b213 (by decide) (by decide)) By49_0_6 By49_0_7 By49_0_8 By49_0_12 By49_0_26 By49_0_27 (ib_wk (by decide : Bd 1 (1) (1)) (by decide) (by decide)) By49_0_30 By49_0_31 (by have : (1 : Int32).toInt = 1 := (by decide); omega) hI (up_o (up_o hf49 eS109 (by decide)) eS187 (by decide)) c188 ⟨by rw [((up_eq (j := 16) eS187 (by decide)).trans (up_eq (j := 16) eS109 (by decide))), show 12 * z210.toInt.toNat + r205.toInt.toNat = 12 * (x49_6.toInt.toNat + 1) + r205.toInt.toNat by omega]; exact pq221, by rw [((up_eq (j := 7) eS187 (by decide)).trans (up_eq (j := 7) eS109 (by decide)))]; exact hbd.2⟩ hQ (lv_sub hl [0, 3, 1, 4, 5, 6, 7] rfl)
                          · have h223 := ib_ne k207
                            have b224 : Bd r206 (1) (1) := rf_nlo b206 (by decide : Bd 0 (0) (0)) h223
                            refine lv_iconst (v := (-1)) hx hb dX12_pushOf_177 (by decide) ?_
                            exact xri E hr hlk hQ (⟨hI, (up_o (up_o (o_trans (o_trans o_refl o19 (by decide)) hf49 (by decide)) eS109 (by decide)) eS187 (by decide)), (ib_wk (by decide : Bd (-1) (-1) (-1)) (by decide) (by decide))⟩) dX12_pushOf_178
                      · have h225 := ib_eq k194
                        refine lv_iload hx hb dX12_pushOf_130 (lv_at hl 1 rfl) ?_
                        exact xri E hr hlk hQ (⟨hI, (up_o (up_o (o_trans (o_trans o_refl o19 (by decide)) hf49 (by decide)) eS109 (by decide)) eS187 (by decide)), (ib_wk b91 (by decide) (by decide))⟩) dX12_pushOf_132
                  · have h226 := ib_nle k189
                    exact absurd h226 (by decide)
            · have h227 := ib_eq k131
              have b228 : Bd r117 (0) (100000) := ⟨(b117).1, ((rf_eq b117 b129 h227).1).2⟩
              refine lv_aload_n hx hb dX12_pushOf_105 rfl (lv_at hl 4 rfl) ?_
              refine lv_iload hx hb dX12_pushOf_106 (lv_at hl 0 rfl) ?_
              refine xputi E hs hQ 0 (by decide) c110 rfl 29 (by decide) q1497 rfl rfl (Nat.le_of_ble_eq_true rfl) dX12_pushOf_108 (fun H locs S229 eS229 hQ => ?_)
              have hI := invM_up_0 hI eS229 ⟨y49_0_0, y49_0_6, y49_0_7, y49_0_8, y49_0_9, y49_0_10, wy49_0_11, y49_0_12, y49_0_13, y49_0_14, y49_0_15, y49_0_26, y49_0_27, 2, y49_0_30, y49_0_31, y49_0_32, y49_0_33, y49_0_36, rfl, By49_0_6, By49_0_7, By49_0_8, By49_0_12, By49_0_26, By49_0_27, (ib_wk (by decide : Bd 2 (2) (2)) (by decide) (by decide)), By49_0_30, By49_0_31⟩
              have c230 : S229 0 = .inr (12, [.int y49_0_0, .ref (ad 1), .ref (ad 2), .ref (ad 3), .ref (ad 4), .ref (ad 5), .int y49_0_6, .int y49_0_7, .int y49_0_8, .int y49_0_9, .int y49_0_10, .long wy49_0_11, .int y49_0_12, .int y49_0_13, .int y49_0_14, .int y49_0_15, .ref (ad 6), .ref (ad 7), .ref (ad 8), .ref (ad 9), .ref (ad 10), .ref (ad 11), .ref (ad 12), .ref (ad 13), .ref (ad 14), .ref (ad 15), .int y49_0_26, .int y49_0_27, .ref (ad 16), .int 2, .int y49_0_30, .int y49_0_31, .int y49_0_32, .int y49_0_33, .ref (ad 17), .ref (ad 18), .int y49_0_36, .ref (ad 19)]) := up_at eS229 rfl
              refine lv_iinc (v := 1) (lv' := [(7, .int 1), (6, .int x49_6), (5, .int x49_5), (4, .int x49_4), (0, .ref (ad 0)), (1, .int a1), (2, .int a2), (3, .int a3)]) hx hb dX12_pushOf_111 hl (k := 0) rfl (by decide) (by decide) rfl (fun ls hl => ?_)
              refine lv_goto (tgt := 73) hx hb dX12_pushOf_114 (by decide) ?_
              refine lv_iload hx hb dX12_pushOf_73 (lv_at hl 0 rfl) ?_
              refine lv_if_le (tgt := 117) hx hb dX12_pushOf_75 (by decide) (fun k231 => ?_) (fun k231 => ?_)
              · have h232 := ib_le k231
                exact absurd h232 (by decide)
              · have h233 := ib_nle k231
                refine lv_aload_n hx hb dX12_pushOf_78 rfl (lv_at hl 4 rfl) ?_
                refine lv_iload hx hb dX12_pushOf_79 (lv_at hl 1 rfl) ?_
                refine lv_iload hx hb dX12_pushOf_81 (lv_at hl 3 rfl) ?_
                refine lv_iload hx hb dX12_pushOf_83 (lv_at hl 0 rfl) ?_
                refine lv_iload_n hx hb dX12_pushOf_85 rfl (lv_at hl 6 rfl) ?_
                have c234 : S229 7 = .inl (g.2 0, 50, .inl f1) := (up_ne eS229 (by decide) c114)
                have q235 : elm (S229 7) 0 = v4.toInt := (elm_of c234 0).trans (congrArg Int32.toInt (ee5))
                have q236 : elm (S229 7) 1 = v7.toInt := (elm_of c234 1).trans (congrArg Int32.toInt (ee8))
                refine xcVi E hs hQ hml hl.1 0 (gX12_pushBy_0 l g ad hD S229 hI x49_6 x49_4 1 a2 b91 Bx49_4 (by omega) (by omega)) mX12_pushBy q1930 (by decide) c230 rfl rfl ⟨(Nat.le_of_ble_eq_true rfl), (Nat.le_of_ble_eq_true rfl)⟩ ⟨(Nat.le_of_ble_eq_true rfl), (Nat.le_of_ble_eq_true rfl)⟩ (Nat.le_of_ble_eq_true rfl) rfl dX12_pushOf_86 (fun r237 S237 H locs hp237 hQ _ => ?_)
                obtain ⟨rfl, b237, fg237⟩ := hp237
                refine lv_aload_n hx hb dX12_pushOf_89 rfl (lv_at hl 4 rfl) ?_
                refine xget E hQ 0 (by decide) c230 rfl 28 (by decide) q1496 rfl dX12_pushOf_90 ?_
                refine lv_bipush (v := 12) hx hb dX12_pushOf_93 (by decide) ?_
                refine lv_iload hx hb dX12_pushOf_95 (lv_at hl 1 rfl) ?_
                refine lv_imul hx hb dX12_pushOf_97 ?_
                refine lv_topi (fun z238 e239 => ?_)
                have t240 := ib_cmul (q := 12) e239 (by decide) (by decide) b91 (by decide) (by decide)
                have b241 : Bd z238 (0) (1188) := ib_mulb t240 (by decide) b91
                refine lv_iload hx hb dX12_pushOf_98 (lv_at hl 3 rfl) ?_
                refine lv_iadd hx hb dX12_pushOf_100 ?_
                refine lv_topi (fun z242 e243 => ?_)
                have t244 := ib_add e243 b241 Bx49_4 (by decide) (by decide)
                have b245 : Bd z242 (0) (1199) := ib_addb t244 b241 Bx49_4
                have c246 : S229 16 = .inl (g.2 0, 1212, .inl f51) := (up_ne eS229 (by decide) c126)
                refine xiald E hQ 16 (by decide) c246 (ib_in b245 (by decide) (by decide)) dX12_pushOf_101 ?_
                refine lv_topi (fun z247 e248 => ?_)
                have b249 : Bd z247 (0) (100000) := (by rw [e248]; exact b53 _)
                have t250 : z247.toInt = z101.toInt := by rw [e248, e102, show z242.toNatClampNeg = z96.toNatClampNeg from by show z242.toInt.toNat = z96.toInt.toNat; omega]
                refine lv_icmp_ne (tgt := 111) hx hb dX12_pushOf_102 (by decide) (fun k251 => ?_) (fun k251 => ?_)
                · have h252 := ib_ne k251
                  refine lv_iinc (v := 0) (lv' := [(7, .int 0), (6, .int x49_6), (5, .int x49_5), (4, .int x49_4), (0, .ref (ad 0)), (1, .int a1), (2, .int a2), (3, .int a3)]) hx hb dX12_pushOf_111 hl (k := 0) rfl (by decide) (by decide) rfl (fun ls hl => ?_)
                  refine lv_goto (tgt := 73) hx hb dX12_pushOf_114 (by decide) ?_
                  refine lv_iload hx hb dX12_pushOf_73 (lv_at hl 0 rfl) ?_
                  refine lv_if_le (tgt := 117) hx hb dX12_pushOf_75 (by decide) (fun k253 => ?_) (fun k253 => ?_)
                  · have h254 := ib_le k253
                    refine lv_aload_n hx hb dX12_pushOf_117 rfl (lv_at hl 4 rfl) ?_
                    refine xget E hQ 0 (by decide) c230 rfl 29 (by decide) q1497 rfl dX12_pushOf_118 ?_
                    refine lv_if_le (tgt := 133) hx hb dX12_pushOf_121 (by decide) (fun k255 => ?_) (fun k255 => ?_)
                    · have h256 := ib_le k255
                      exact absurd h256 (by decide)
                    · have h257 := ib_nle k255
                      refine lv_iload hx hb dX12_pushOf_124 (lv_at hl 2 rfl) ?_
                      refine lv_iload_n hx hb dX12_pushOf_126 rfl (lv_at hl 7 rfl) ?_
                      refine lv_icmp_ne (tgt := 133) hx hb dX12_pushOf_127 (by decide) (fun k258 => ?_) (fun k258 => ?_)
                      · have h259 := ib_ne k258
                        refine lv_iload hx hb dX12_pushOf_133 (lv_at hl 2 rfl) ?_
                        refine lv_aload_n hx hb dX12_pushOf_135 rfl (lv_at hl 4 rfl) ?_
                        refine xget E hQ 0 (by decide) c230 rfl 29 (by decide) q1497 rfl dX12_pushOf_136 ?_
                        refine lv_if_le (tgt := 146) hx hb dX12_pushOf_139 (by decide) (fun k260 => ?_) (fun k260 => ?_)
                        · have h261 := ib_le k260
                          exact absurd h261 (by decide)
                        · have h262 := ib_nle k260
                          refine lv_iconst (v := 1) hx hb dX12_pushOf_142 (by decide) ?_
                          refine lv_goto (tgt := 147) hx hb dX12_pushOf_143 (by decide) ?_
                          refine lv_iadd hx hb dX12_pushOf_147 ?_
                          refine lv_topi (fun z263 e264 => ?_)
                          refine lv_istore (lv' := [(5, .int z263), (7, .int 0), (6, .int x49_6), (4, .int x49_4), (0, .ref (ad 0)), (1, .int a1), (2, .int a2), (3, .int a3)]) hx hb dX12_pushOf_148 hl (by decide) rfl (fun ls hl => ?_)
                          refine lv_aload_n hx hb dX12_pushOf_150 rfl (lv_at hl 4 rfl) ?_
                          refine lv_aload_n hx hb dX12_pushOf_151 rfl (lv_at hl 4 rfl) ?_
                          refine lv_iload hx hb dX12_pushOf_152 (lv_at hl 3 rfl) ?_
                          refine lv_aload_n hx hb dX12_pushOf_154 rfl (lv_at hl 4 rfl) ?_
                          refine xget E hQ 0 (by decide) c230 rfl 29 (by decide) q1497 rfl dX12_pushOf_155 ?_
                          refine xcVi E hs hQ hml hl.1 0 (gX12_shoved_0 l g ad hD S229 hI x49_4 2 Bx49_4 (by omega)) mX12_shoved q1838 (by decide) c230 rfl rfl ⟨(Nat.le_of_ble_eq_true rfl), (Nat.le_of_ble_eq_true rfl)⟩ ⟨(Nat.le_of_ble_eq_true rfl), (Nat.le_of_ble_eq_true rfl)⟩ (Nat.le_of_ble_eq_true rfl) rfl dX12_pushOf_158 (fun r265 S265 H locs hp265 hQ _ => ?_)
                          obtain ⟨rfl, b265, fg265⟩ := hp265
                          refine lv_iload hx hb dX12_pushOf_161 (lv_at hl 2 rfl) ?_
                          refine xcVi E hs hQ hml hl.1 0 (gX12_on_0 l g ad hD S229 hI r265 x49_6 b265 (by omega) (by omega)) mX12_on q1804 (by decide) c230 rfl rfl ⟨(Nat.le_of_ble_eq_true rfl), (Nat.le_of_ble_eq_true rfl)⟩ ⟨(Nat.le_of_ble_eq_true rfl), (Nat.le_of_ble_eq_true rfl)⟩ (Nat.le_of_ble_eq_true rfl) rfl dX12_pushOf_163 (fun r266 S266 H locs hp266 hQ _ => ?_)
                          obtain ⟨rfl, b266, g266_0, fg266⟩ := hp266
                          refine lv_istore (lv' := [(7, .int r266), (5, .int z263), (6, .int x49_6), (4, .int x49_4), (0, .ref (ad 0)), (1, .int a1), (2, .int a2), (3, .int a3)]) hx hb dX12_pushOf_166 hl (by decide) rfl (fun ls hl => ?_)
                          refine lv_aload_n hx hb dX12_pushOf_168 rfl (lv_at hl 4 rfl) ?_
                          refine lv_iload hx hb dX12_pushOf_169 (lv_at hl 0 rfl) ?_
                          refine xcVi E hs hQ hml hl.1 0 (gX12_isBeach_0 l g ad hD S229 hI r266) mX12_isBeach q1755 (by decide) c230 rfl rfl ⟨(Nat.le_of_ble_eq_true rfl), (Nat.le_of_ble_eq_true rfl)⟩ ⟨(Nat.le_of_ble_eq_true rfl), (Nat.le_of_ble_eq_true rfl)⟩ (Nat.le_of_ble_eq_true rfl) rfl dX12_pushOf_171 (fun r267 S267 H locs hp267 hQ _ => ?_)
                          obtain ⟨rfl, b267, fg267⟩ := hp267
                          refine lv_if_eq (tgt := 179) hx hb dX12_pushOf_174 (by decide) (fun k268 => ?_) (fun k268 => ?_)
                          · have h269 := ib_eq k268
                            have b270 : Bd r267 (0) (0) := ⟨(b267).1, ((rf_eq b267 (by decide : Bd 0 (0) (0)) h269).1).2⟩
                            refine lv_iload hx hb dX12_pushOf_179 (lv_at hl 0 rfl) ?_
                            refine lv_istore (lv' := [(4, .int r266), (7, .int r266), (5, .int z263), (6, .int x49_6), (0, .ref (ad 0)), (1, .int a1), (2, .int a2), (3, .int a3)]) hx hb dX12_pushOf_181 hl (by decide) rfl (fun ls hl => ?_)
                            obtain ⟨z271, e272⟩ : ∃ z : Int32, z = x49_6 + 1 := ⟨_, rfl⟩
                            have t273 := ib_add e272 b91 (by decide : Bd 1 (1) (1)) (by decide) (by decide)
                            have b274 : Bd z271 (1) (100) := ib_addb t273 b91 (by decide : Bd 1 (1) (1))
                            have t273 : z271.toInt = x49_6.toInt + 1 := fold_add t273 rfl (by decide)
                            refine lv_iinc (v := z271) (lv' := [(6, .int z271), (4, .int r266), (7, .int r266), (5, .int z263), (0, .ref (ad 0)), (1, .int a1), (2, .int a2), (3, .int a3)]) hx hb dX12_pushOf_183 hl (k := 3) rfl (by rw [e272]; rfl) (by decide) rfl (fun ls hl => ?_)
                            refine lv_goto (tgt := 49) hx hb dX12_pushOf_186 (by decide) ?_
                            have tv275 : z101 = arr (S_49 16) (12 * x49_6.toInt.toNat + x49_4.toInt.toNat) := by rw [e102, arr_of c100]; congr 1; show z96.toInt.toNat = _; omega
                            have ht276 : z101.toInt < 100000 := by rw [tv275]; exact hC49.1
                            have hT277 : ∀ i, Bd (arr (S_49 16) i) 0 100000 := fun i => by rw [arr_of c100]; exact b53 i
                            have gg278 : r265 = fShoved (S_49 7) (S_49 8) (S_49 10) x49_4 2 := fg265.trans (by rw [((up_eq (j := 7) eS229 (by decide)).trans (up_eq (j := 7) eS109 (by decide))), ((up_eq (j := 8) eS229 (by decide)).trans (up_eq (j := 8) eS109 (by decide))), ((up_eq (j := 10) eS229 (by decide)).trans (up_eq (j := 10) eS109 (by decide)))])
                            have gg279 : r266 = fOn (S_49 7) (S_49 8) (S_49 10) r265 x49_6 := fg266.trans (by rw [((up_eq (j := 7) eS229 (by decide)).trans (up_eq (j := 7) eS109 (by decide))), ((up_eq (j := 8) eS229 (by decide)).trans (up_eq (j := 8) eS109 (by decide))), ((up_eq (j := 10) eS229 (by decide)).trans (up_eq (j := 10) eS109 (by decide)))])
                            have gg280 : r267 = fBeach (S_49 7) (S_49 8) (S_49 10) r266 := fg267.trans (by rw [((up_eq (j := 7) eS229 (by decide)).trans (up_eq (j := 7) eS109 (by decide))), ((up_eq (j := 8) eS229 (by decide)).trans (up_eq (j := 8) eS109 (by decide))), ((up_eq (j := 10) eS229 (by decide)).trans (up_eq (j := 10) eS109 (by decide)))])
                            have gg281 : r117 = fPush (S_49 7) (S_49 8) (S_49 10) (S_49 16) x49_6 x49_4 2 a2 := fg117.trans (by rw [(up_eq (j := 7) eS109 (by decide)), (up_eq (j := 8) eS109 (by decide)), (up_eq (j := 10) eS109 (by decide)), (up_eq (j := 16) eS109 (by decide))])
                            have pq282 := (po_w (e7 := S_49 7) (e8 := S_49 8) (e10 := S_49 10) (e16 := S_49 16) hb89 hT277 b91 (by decide) gg278 gg279 gg280 b270 gg281 (t := z101) (by omega) ht276)
                            have hbd := fOn_bd (e7 := S_49 7) (e8 := S_49 8) (e10 := S_49 10) hb89 r265 x49_6
                            have gg283 : r266 = fOn (S_49 7) (S_49 8) (S_49 10) r265 x49_6 := fg266.trans (by rw [((up_eq (j := 7) eS229 (by decide)).trans (up_eq (j := 7) eS109 (by decide))), ((up_eq (j := 8) eS229 (by decide)).trans (up_eq (j := 8) eS109 (by decide))), ((up_eq (j := 10) eS229 (by decide)).trans (up_eq (j := 10) eS109 (by decide)))])
                            rw [← gg283] at hbd
                            exact ih49 _ _ _ _ r266 z263 z271 y49_0_0 y49_0_6 y49_0_7 y49_0_8 y49_0_9 y49_0_10 wy49_0_11 y49_0_12 y49_0_13 y49_0_14 y49_0_15 y49_0_26 y49_0_27 2 y49_0_30 y49_0_31 y49_0_32 y49_0_33 y49_0_36 b266 (ib_wk b274 (by decide) (by decide)) By49_0_6 By49_0_7 By49_0_8 By49_0_12 By49_0_26 By49_0_27 (ib_wk (by decide : Bd 2 (2) (2)) (by decide) (by decide)) By49_0_30 By49_0_31 (by have : (2 : Int32).toInt = 2 := (by decide); omega) hI (up_o (up_o hf49 eS109 (by decide)) eS229 (by decide)) c230 ⟨by rw [((up_eq (j := 16) eS229 (by decide)).trans (up_eq (j := 16) eS109 (by decide))), show 12 * z271.toInt.toNat + r266.toInt.toNat = 12 * (x49_6.toInt.toNat + 1) + r266.toInt.toNat by omega]; exact pq282, by rw [((up_eq (j := 7) eS229 (by decide)).trans (up_eq (j := 7) eS109 (by decide)))]; exact hbd.2⟩ hQ (lv_sub hl [0, 3, 1, 4, 5, 6, 7] rfl)
                          · have h284 := ib_ne k268
                            have b285 : Bd r267 (1) (1) := rf_nlo b267 (by decide : Bd 0 (0) (0)) h284
                            refine lv_iconst (v := (-1)) hx hb dX12_pushOf_177 (by decide) ?_
                            exact xri E hr hlk hQ (⟨hI, (up_o (up_o (o_trans (o_trans o_refl o19 (by decide)) hf49 (by decide)) eS109 (by decide)) eS229 (by decide)), (ib_wk (by decide : Bd (-1) (-1) (-1)) (by decide) (by decide))⟩) dX12_pushOf_178
                      · have h286 := ib_eq k258
                        refine lv_iload hx hb dX12_pushOf_130 (lv_at hl 1 rfl) ?_
                        exact xri E hr hlk hQ (⟨hI, (up_o (up_o (o_trans (o_trans o_refl o19 (by decide)) hf49 (by decide)) eS109 (by decide)) eS229 (by decide)), (ib_wk b91 (by decide) (by decide))⟩) dX12_pushOf_132
                  · have h287 := ib_nle k253
                    exact absurd h287 (by decide)
                · have h288 := ib_eq k251
                  have b289 : Bd r237 (0) (100000) := ⟨(b237).1, ((rf_eq b237 b249 h288).1).2⟩
                  refine lv_aload_n hx hb dX12_pushOf_105 rfl (lv_at hl 4 rfl) ?_
                  refine lv_iload hx hb dX12_pushOf_106 (lv_at hl 0 rfl) ?_
                  refine xputi E hs hQ 0 (by decide) c230 rfl 29 (by decide) q1497 rfl rfl (Nat.le_of_ble_eq_true rfl) dX12_pushOf_108 (fun H locs S290 eS290 hQ => ?_)
                  have hI := invM_up_0 hI eS290 ⟨y49_0_0, y49_0_6, y49_0_7, y49_0_8, y49_0_9, y49_0_10, wy49_0_11, y49_0_12, y49_0_13, y49_0_14, y49_0_15, y49_0_26, y49_0_27, 1, y49_0_30, y49_0_31, y49_0_32, y49_0_33, y49_0_36, rfl, By49_0_6, By49_0_7, By49_0_8, By49_0_12, By49_0_26, By49_0_27, (ib_wk (by decide : Bd 1 (1) (1)) (by decide) (by decide)), By49_0_30, By49_0_31⟩
                  have c291 : S290 0 = .inr (12, [.int y49_0_0, .ref (ad 1), .ref (ad 2), .ref (ad 3), .ref (ad 4), .ref (ad 5), .int y49_0_6, .int y49_0_7, .int y49_0_8, .int y49_0_9, .int y49_0_10, .long wy49_0_11, .int y49_0_12, .int y49_0_13, .int y49_0_14, .int y49_0_15, .ref (ad 6), .ref (ad 7), .ref (ad 8), .ref (ad 9), .ref (ad 10), .ref (ad 11), .ref (ad 12), .ref (ad 13), .ref (ad 14), .ref (ad 15), .int y49_0_26, .int y49_0_27, .ref (ad 16), .int 1, .int y49_0_30, .int y49_0_31, .int y49_0_32, .int y49_0_33, .ref (ad 17), .ref (ad 18), .int y49_0_36, .ref (ad 19)]) := up_at eS290 rfl
                  refine lv_iinc (v := 0) (lv' := [(7, .int 0), (6, .int x49_6), (5, .int x49_5), (4, .int x49_4), (0, .ref (ad 0)), (1, .int a1), (2, .int a2), (3, .int a3)]) hx hb dX12_pushOf_111 hl (k := 0) rfl (by decide) (by decide) rfl (fun ls hl => ?_)
                  refine lv_goto (tgt := 73) hx hb dX12_pushOf_114 (by decide) ?_
                  refine lv_iload hx hb dX12_pushOf_73 (lv_at hl 0 rfl) ?_
                  refine lv_if_le (tgt := 117) hx hb dX12_pushOf_75 (by decide) (fun k292 => ?_) (fun k292 => ?_)
                  · have h293 := ib_le k292
                    refine lv_aload_n hx hb dX12_pushOf_117 rfl (lv_at hl 4 rfl) ?_
                    refine xget E hQ 0 (by decide) c291 rfl 29 (by decide) q1497 rfl dX12_pushOf_118 ?_
                    refine lv_if_le (tgt := 133) hx hb dX12_pushOf_121 (by decide) (fun k294 => ?_) (fun k294 => ?_)
                    · have h295 := ib_le k294
                      exact absurd h295 (by decide)
                    · have h296 := ib_nle k294
                      refine lv_iload hx hb dX12_pushOf_124 (lv_at hl 2 rfl) ?_
                      refine lv_iload_n hx hb dX12_pushOf_126 rfl (lv_at hl 7 rfl) ?_
                      refine lv_icmp_ne (tgt := 133) hx hb dX12_pushOf_127 (by decide) (fun k297 => ?_) (fun k297 => ?_)
                      · have h298 := ib_ne k297
                        refine lv_iload hx hb dX12_pushOf_133 (lv_at hl 2 rfl) ?_
                        refine lv_aload_n hx hb dX12_pushOf_135 rfl (lv_at hl 4 rfl) ?_
                        refine xget E hQ 0 (by decide) c291 rfl 29 (by decide) q1497 rfl dX12_pushOf_136 ?_
                        refine lv_if_le (tgt := 146) hx hb dX12_pushOf_139 (by decide) (fun k299 => ?_) (fun k299 => ?_)
                        · have h300 := ib_le k299
                          exact absurd h300 (by decide)
                        · have h301 := ib_nle k299
                          refine lv_iconst (v := 1) hx hb dX12_pushOf_142 (by decide) ?_
                          refine lv_goto (tgt := 147) hx hb dX12_pushOf_143 (by decide) ?_
                          refine lv_iadd hx hb dX12_pushOf_147 ?_
                          refine lv_topi (fun z302 e303 => ?_)
                          refine lv_istore (lv' := [(5, .int z302), (7, .int 0), (6, .int x49_6), (4, .int x49_4), (0, .ref (ad 0)), (1, .int a1), (2, .int a2), (3, .int a3)]) hx hb dX12_pushOf_148 hl (by decide) rfl (fun ls hl => ?_)
                          refine lv_aload_n hx hb dX12_pushOf_150 rfl (lv_at hl 4 rfl) ?_
                          refine lv_aload_n hx hb dX12_pushOf_151 rfl (lv_at hl 4 rfl) ?_
                          refine lv_iload hx hb dX12_pushOf_152 (lv_at hl 3 rfl) ?_
                          refine lv_aload_n hx hb dX12_pushOf_154 rfl (lv_at hl 4 rfl) ?_
                          refine xget E hQ 0 (by decide) c291 rfl 29 (by decide) q1497 rfl dX12_pushOf_155 ?_
                          have c304 : S290 7 = .inl (g.2 0, 50, .inl f1) := (up_ne eS290 (by decide) c234)
                          have q305 : elm (S290 7) 0 = v4.toInt := (elm_of c304 0).trans (congrArg Int32.toInt (ee5))
                          refine xcVi E hs hQ hml hl.1 0 (gX12_shoved_0 l g ad hD S290 hI x49_4 1 Bx49_4 (by omega)) mX12_shoved q1838 (by decide) c291 rfl rfl ⟨(Nat.le_of_ble_eq_true rfl), (Nat.le_of_ble_eq_true rfl)⟩ ⟨(Nat.le_of_ble_eq_true rfl), (Nat.le_of_ble_eq_true rfl)⟩ (Nat.le_of_ble_eq_true rfl) rfl dX12_pushOf_158 (fun r306 S306 H locs hp306 hQ _ => ?_)
                          obtain ⟨rfl, b306, fg306⟩ := hp306
                          refine lv_iload hx hb dX12_pushOf_161 (lv_at hl 2 rfl) ?_
                          have q307 : elm (S290 7) 1 = v7.toInt := (elm_of c304 1).trans (congrArg Int32.toInt (ee8))
                          refine xcVi E hs hQ hml hl.1 0 (gX12_on_0 l g ad hD S290 hI r306 x49_6 b306 (by omega) (by omega)) mX12_on q1804 (by decide) c291 rfl rfl ⟨(Nat.le_of_ble_eq_true rfl), (Nat.le_of_ble_eq_true rfl)⟩ ⟨(Nat.le_of_ble_eq_true rfl), (Nat.le_of_ble_eq_true rfl)⟩ (Nat.le_of_ble_eq_true rfl) rfl dX12_pushOf_163 (fun r308 S308 H locs hp308 hQ _ => ?_)
                          obtain ⟨rfl, b308, g308_0, fg308⟩ := hp308
                          refine lv_istore (lv' := [(7, .int r308), (5, .int z302), (6, .int x49_6), (4, .int x49_4), (0, .ref (ad 0)), (1, .int a1), (2, .int a2), (3, .int a3)]) hx hb dX12_pushOf_166 hl (by decide) rfl (fun ls hl => ?_)
                          refine lv_aload_n hx hb dX12_pushOf_168 rfl (lv_at hl 4 rfl) ?_
                          refine lv_iload hx hb dX12_pushOf_169 (lv_at hl 0 rfl) ?_
                          refine xcVi E hs hQ hml hl.1 0 (gX12_isBeach_0 l g ad hD S290 hI r308) mX12_isBeach q1755 (by decide) c291 rfl rfl ⟨(Nat.le_of_ble_eq_true rfl), (Nat.le_of_ble_eq_true rfl)⟩ ⟨(Nat.le_of_ble_eq_true rfl), (Nat.le_of_ble_eq_true rfl)⟩ (Nat.le_of_ble_eq_true rfl) rfl dX12_pushOf_171 (fun r309 S309 H locs hp309 hQ _ => ?_)
                          obtain ⟨rfl, b309, fg309⟩ := hp309
                          refine lv_if_eq (tgt := 179) hx hb dX12_pushOf_174 (by decide) (fun k310 => ?_) (fun k310 => ?_)
                          · have h311 := ib_eq k310
                            have b312 : Bd r309 (0) (0) := ⟨(b309).1, ((rf_eq b309 (by decide : Bd 0 (0) (0)) h311).1).2⟩
                            refine lv_iload hx hb dX12_pushOf_179 (lv_at hl 0 rfl) ?_
                            refine lv_istore (lv' := [(4, .int r308), (7, .int r308), (5, .int z302), (6, .int x49_6), (0, .ref (ad 0)), (1, .int a1), (2, .int a2), (3, .int a3)]) hx hb dX12_pushOf_181 hl (by decide) rfl (fun ls hl => ?_)
                            obtain ⟨z313, e314⟩ : ∃ z : Int32, z = x49_6 + 1 := ⟨_, rfl⟩
                            have t315 := ib_add e314 b91 (by decide : Bd 1 (1) (1)) (by decide) (by decide)
                            have b316 : Bd z313 (1) (100) := ib_addb t315 b91 (by decide : Bd 1 (1) (1))
                            have t315 : z313.toInt = x49_6.toInt + 1 := fold_add t315 rfl (by decide)
                            refine lv_iinc (v := z313) (lv' := [(6, .int z313), (4, .int r308), (7, .int r308), (5, .int z302), (0, .ref (ad 0)), (1, .int a1), (2, .int a2), (3, .int a3)]) hx hb dX12_pushOf_183 hl (k := 3) rfl (by rw [e314]; rfl) (by decide) rfl (fun ls hl => ?_)
                            refine lv_goto (tgt := 49) hx hb dX12_pushOf_186 (by decide) ?_
                            have tv317 : z101 = arr (S_49 16) (12 * x49_6.toInt.toNat + x49_4.toInt.toNat) := by rw [e102, arr_of c100]; congr 1; show z96.toInt.toNat = _; omega
                            have ht318 : z101.toInt < 100000 := by rw [tv317]; exact hC49.1
                            have hT319 : ∀ i, Bd (arr (S_49 16) i) 0 100000 := fun i => by rw [arr_of c100]; exact b53 i
                            have gg320 : r306 = fShoved (S_49 7) (S_49 8) (S_49 10) x49_4 1 := fg306.trans (by rw [((up_eq (j := 7) eS290 (by decide)).trans ((up_eq (j := 7) eS229 (by decide)).trans (up_eq (j := 7) eS109 (by decide)))), ((up_eq (j := 8) eS290 (by decide)).trans ((up_eq (j := 8) eS229 (by decide)).trans (up_eq (j := 8) eS109 (by decide)))), ((up_eq (j := 10) eS290 (by decide)).trans ((up_eq (j := 10) eS229 (by decide)).trans (up_eq (j := 10) eS109 (by decide))))])
                            have gg321 : r308 = fOn (S_49 7) (S_49 8) (S_49 10) r306 x49_6 := fg308.trans (by rw [((up_eq (j := 7) eS290 (by decide)).trans ((up_eq (j := 7) eS229 (by decide)).trans (up_eq (j := 7) eS109 (by decide)))), ((up_eq (j := 8) eS290 (by decide)).trans ((up_eq (j := 8) eS229 (by decide)).trans (up_eq (j := 8) eS109 (by decide)))), ((up_eq (j := 10) eS290 (by decide)).trans ((up_eq (j := 10) eS229 (by decide)).trans (up_eq (j := 10) eS109 (by decide))))])
                            have gg322 : r309 = fBeach (S_49 7) (S_49 8) (S_49 10) r308 := fg309.trans (by rw [((up_eq (j := 7) eS290 (by decide)).trans ((up_eq (j := 7) eS229 (by decide)).trans (up_eq (j := 7) eS109 (by decide)))), ((up_eq (j := 8) eS290 (by decide)).trans ((up_eq (j := 8) eS229 (by decide)).trans (up_eq (j := 8) eS109 (by decide)))), ((up_eq (j := 10) eS290 (by decide)).trans ((up_eq (j := 10) eS229 (by decide)).trans (up_eq (j := 10) eS109 (by decide))))])
                            have gg323 : r237 = fPush (S_49 7) (S_49 8) (S_49 10) (S_49 16) x49_6 x49_4 1 a2 := fg237.trans (by rw [((up_eq (j := 7) eS229 (by decide)).trans (up_eq (j := 7) eS109 (by decide))), ((up_eq (j := 8) eS229 (by decide)).trans (up_eq (j := 8) eS109 (by decide))), ((up_eq (j := 10) eS229 (by decide)).trans (up_eq (j := 10) eS109 (by decide))), ((up_eq (j := 16) eS229 (by decide)).trans (up_eq (j := 16) eS109 (by decide)))])
                            have pq324 := (po_w (e7 := S_49 7) (e8 := S_49 8) (e10 := S_49 10) (e16 := S_49 16) hb89 hT319 b91 (by decide) gg320 gg321 gg322 b312 gg323 (t := z101) (by omega) ht318)
                            have hbd := fOn_bd (e7 := S_49 7) (e8 := S_49 8) (e10 := S_49 10) hb89 r306 x49_6
                            have gg325 : r308 = fOn (S_49 7) (S_49 8) (S_49 10) r306 x49_6 := fg308.trans (by rw [((up_eq (j := 7) eS290 (by decide)).trans ((up_eq (j := 7) eS229 (by decide)).trans (up_eq (j := 7) eS109 (by decide)))), ((up_eq (j := 8) eS290 (by decide)).trans ((up_eq (j := 8) eS229 (by decide)).trans (up_eq (j := 8) eS109 (by decide)))), ((up_eq (j := 10) eS290 (by decide)).trans ((up_eq (j := 10) eS229 (by decide)).trans (up_eq (j := 10) eS109 (by decide))))])
                            rw [← gg325] at hbd
                            exact ih49 _ _ _ _ r308 z302 z313 y49_0_0 y49_0_6 y49_0_7 y49_0_8 y49_0_9 y49_0_10 wy49_0_11 y49_0_12 y49_0_13 y49_0_14 y49_0_15 y49_0_26 y49_0_27 1 y49_0_30 y49_0_31 y49_0_32 y49_0_33 y49_0_36 b308 (ib_wk b316 (by decide) (by decide)) By49_0_6 By49_0_7 By49_0_8 By49_0_12 By49_0_26 By49_0_27 (ib_wk (by decide : Bd 1 (1) (1)) (by decide) (by decide)) By49_0_30 By49_0_31 (by have : (1 : Int32).toInt = 1 := (by decide); omega) hI (up_o (up_o (up_o hf49 eS109 (by decide)) eS229 (by decide)) eS290 (by decide)) c291 ⟨by rw [((up_eq (j := 16) eS290 (by decide)).trans ((up_eq (j := 16) eS229 (by decide)).trans (up_eq (j := 16) eS109 (by decide)))), show 12 * z313.toInt.toNat + r308.toInt.toNat = 12 * (x49_6.toInt.toNat + 1) + r308.toInt.toNat by omega]; exact pq324, by rw [((up_eq (j := 7) eS290 (by decide)).trans ((up_eq (j := 7) eS229 (by decide)).trans (up_eq (j := 7) eS109 (by decide))))]; exact hbd.2⟩ hQ (lv_sub hl [0, 3, 1, 4, 5, 6, 7] rfl)
                          · have h326 := ib_ne k310
                            have b327 : Bd r309 (1) (1) := rf_nlo b309 (by decide : Bd 0 (0) (0)) h326
                            refine lv_iconst (v := (-1)) hx hb dX12_pushOf_177 (by decide) ?_
                            exact xri E hr hlk hQ (⟨hI, (up_o (up_o (up_o (o_trans (o_trans o_refl o19 (by decide)) hf49 (by decide)) eS109 (by decide)) eS229 (by decide)) eS290 (by decide)), (ib_wk (by decide : Bd (-1) (-1) (-1)) (by decide) (by decide))⟩) dX12_pushOf_178
                      · have h328 := ib_eq k297
                        refine lv_iload hx hb dX12_pushOf_130 (lv_at hl 1 rfl) ?_
                        exact xri E hr hlk hQ (⟨hI, (up_o (up_o (up_o (o_trans (o_trans o_refl o19 (by decide)) hf49 (by decide)) eS109 (by decide)) eS229 (by decide)) eS290 (by decide)), (ib_wk b91 (by decide) (by decide))⟩) dX12_pushOf_132
                  · have h329 := ib_nle k292
                    exact absurd h329 (by decide)
    obtain ⟨n49, hn49⟩ := fu_n ((-1) * z83.toInt + 100)
    have c330 : S19 7 = .inl (g.2 0, 50, .inl f1) := ((o19 7 (by decide)).trans c2)
    have hb331 : Bd (arr (S19 7) 0) 1 12 := by rw [arr_of c330, ee5]; exact b14
    have hn332 : (arr (S19 7) 0).toInt = v4.toInt := by rw [arr_of c330, ee5]
    have hfi : r50 = (12 : Int32) * z83 + z71 := by rw [fg50, fFirst, arr_of c69, tt86, tt74]
    have hft : r50.toInt = 12 * z83.toInt + z71.toInt := by rw [hfi]; exact mad12 b85 b73
    have hz : (arr (S19 16) (12 * z83.toInt.toNat + z71.toInt.toNat)).toInt < 100000 := by rw [arr_of c52, show 12 * z83.toInt.toNat + z71.toInt.toNat = r50.toNatClampNeg from by have q0 : r50.toNatClampNeg = r50.toInt.toNat := rfl; omega, ← e55]; omega
    have q333 : elm (S19 7) 6 = v10.toInt := (elm_of c330 6).trans (congrArg Int32.toInt (ee11))
    have hu334 := ht_use (ht_tr hHT0 (o19 7 (by decide)) (o19 9 (by decide))) c330 c69 tt74 ba1 (by omega)
    exact loop49 n49 _ _ _ _ z71 0 z83 v20 v21 v23 v25 v27 v28 w29 v30 v32 v33 v34 v35 v37 v39 v41 v43 v45 v46 v47 b73 (ib_wk b85 (by decide) (by decide)) b22 b24 b26 b31 b36 b38 b40 b42 b44 (by have : (0 : Int32).toInt = 0 := (by decide); omega) hI o_refl c49 ⟨hz, hu334⟩ hQ (lv_sub hl [0, 1, 2, 3, 4, 5, 6] rfl)
  · have h335 := ib_nlt k57
    have b336 : Bd z54 (100000) (100000) := ⟨((rf_le (by decide : Bd 100000 (100000) (100000)) b56 h335).2).1, (b56).2⟩
    refine lv_iconst (v := (-1)) hx hb dX12_pushOf_20 (by decide) ?_
    exact xri E hr hlk hQ (⟨hI, (o_trans o_refl o19 (by decide)), (ib_wk (by decide : Bd (-1) (-1) (-1)) (by decide) (by decide))⟩) dX12_pushOf_21
set_option maxHeartbeats 4000000 in
set_option maxRecDepth 100000 in
theorem gX12_push_0 (l : Launch) (g : GG) (ad : Nat → Nat) (hD : Dj ad 20) (S : SS) (hI : InvM g ad S) (a1 : Int32) (a2 : Int32) (a3 : Int32) (hq1 : 0 ≤ 12 * elm (S 7) 1 + (-1) * elm (S 7) 0) (hq2 : 0 ≤ 12 * elm (S 7) 3 + (-1) * elm (S 7) 0) (hq3 : 0 ≤ 8 * elm (S 7) 0 + (-1) * elm (S 7) 6) (hq4 : 0 ≤ 3 * elm (S 7) 0 + (-1) * elm (S 7) 8) (hq5 : 0 ≤ 40000 * elm (S 7) 0 + (-1) * elm (S 6) 0) (hHT0 : HTp (S 7) (S 9) 0) : Met l yX12_push (wG (.code yX12_push cX12_push 4 (some .int))) (Rm 6) (XPre g ad 20 S [.ref (ad 0), .int a1, .int a2, .int a3]) (va_Qi (fun r S' => InvM g ad S' ∧ (∀ j, j ∉ ([0, 16] : List Nat) → S' j = S j) ∧ Bd r (-2) (99)) (QB g ad 20) (FA ad 20)) 0 0 (FA ad 20) := by
  refine xmet cX12_push "EbbWreckModel" (by decide) rfl (Nat.le_of_ble_eq_true rfl) (fun p e s m below meth c E hr hlk hml hQ ls hl => ?_)
  have hx := E.1
  have hb := E.2.1
  have hs : Sp ad 20 (FA ad 20) := Sp.fa hD
  have hl : lv_has ls 4 [(0, .ref (ad 0)), (1, .int a1), (2, .int a2), (3, .int a3)] := hl
  obtain ⟨f1, c2, b3⟩ := invM_7 hI
  obtain ⟨v4, ee5⟩ : ∃ z : Int32, f1 1 = z := ⟨_, rfl⟩
  have b6 : Bd v4 (0) (12) := (by rw [← ee5]; exact b3.2.1 1 (by decide))
  obtain ⟨v7, ee8⟩ : ∃ z : Int32, f1 0 = z := ⟨_, rfl⟩
  have b9 : Bd v7 (0) (12) := (by rw [← ee8]; exact b3.1 0 (by decide))
  obtain ⟨v10, ee11⟩ : ∃ z : Int32, f1 3 = z := ⟨_, rfl⟩
  have b12 : Bd v10 (0) (12) := (by rw [← ee11]; exact b3.2.2.2.1 3 (by decide))
  obtain ⟨v13, ee14⟩ : ∃ z : Int32, f1 6 = z := ⟨_, rfl⟩
  have b15 : Bd v13 (0) (8) := (by rw [← ee14]; exact b3.2.2.2.2.1 6 (by decide))
  obtain ⟨v16, ee17⟩ : ∃ z : Int32, f1 8 = z := ⟨_, rfl⟩
  have b18 : Bd v16 (0) (3) := (by rw [← ee17]; exact b3.2.2.2.2.2.2.1 8 (by decide))
  obtain ⟨f19, c20, b21⟩ := invM_6 hI
  obtain ⟨v22, ee23⟩ : ∃ z : Int32, f19 0 = z := ⟨_, rfl⟩
  have b24 : Bd v22 (0) (40000) := (by rw [← ee23]; exact b21 0)
  have q25 : elm (S 7) 1 = v4.toInt := (elm_of c2 1).trans (congrArg Int32.toInt (ee5))
  have q26 : elm (S 7) 0 = v7.toInt := (elm_of c2 0).trans (congrArg Int32.toInt (ee8))
  have q27 : elm (S 7) 3 = v10.toInt := (elm_of c2 3).trans (congrArg Int32.toInt (ee11))
  have q28 : elm (S 7) 6 = v13.toInt := (elm_of c2 6).trans (congrArg Int32.toInt (ee14))
  have q29 : elm (S 7) 8 = v16.toInt := (elm_of c2 8).trans (congrArg Int32.toInt (ee17))
  have q30 : elm (S 6) 0 = v22.toInt := (elm_of c20 0).trans (congrArg Int32.toInt (ee23))
  refine lv_aload_n hx hb dX12_push_0 rfl (lv_at hl 0 rfl) ?_
  refine lv_iconst (v := 0) hx hb dX12_push_1 (by decide) ?_
  obtain ⟨v31, v32, v34, v36, v38, v39, w40, v41, v43, v44, v45, v46, v48, v50, v52, v54, v56, v57, v58, c59, b33, b35, b37, b42, b47, b49, b51, b53, b55⟩ := invM_0 hI
  have c59 : S 0 = .inr (12, [.int v31, .ref (ad 1), .ref (ad 2), .ref (ad 3), .ref (ad 4), .ref (ad 5), .int v32, .int v34, .int v36, .int v38, .int v39, .long w40, .int v41, .int v43, .int v44, .int v45, .ref (ad 6), .ref (ad 7), .ref (ad 8), .ref (ad 9), .ref (ad 10), .ref (ad 11), .ref (ad 12), .ref (ad 13), .ref (ad 14), .ref (ad 15), .int v46, .int v48, .ref (ad 16), .int v50, .int v52, .int v54, .int v56, .int v57, .ref (ad 17), .ref (ad 18), .int v58, .ref (ad 19)]) := c59
  refine xputi E hs hQ 0 (by decide) c59 rfl 0 (by decide) q1468 rfl rfl (Nat.le_of_ble_eq_true rfl) dX12_push_2 (fun H locs S60 eS60 hQ => ?_)
  have hI := invM_up_0 hI eS60 ⟨0, v32, v34, v36, v38, v39, w40, v41, v43, v44, v45, v46, v48, v50, v52, v54, v56, v57, v58, rfl, b33, b35, b37, b42, b47, b49, b51, b53, b55⟩
  have c61 : S60 0 = .inr (12, [.int 0, .ref (ad 1), .ref (ad 2), .ref (ad 3), .ref (ad 4), .ref (ad 5), .int v32, .int v34, .int v36, .int v38, .int v39, .long w40, .int v41, .int v43, .int v44, .int v45, .ref (ad 6), .ref (ad 7), .ref (ad 8), .ref (ad 9), .ref (ad 10), .ref (ad 11), .ref (ad 12), .ref (ad 13), .ref (ad 14), .ref (ad 15), .int v46, .int v48, .ref (ad 16), .int v50, .int v52, .int v54, .int v56, .int v57, .ref (ad 17), .ref (ad 18), .int v58, .ref (ad 19)]) := up_at eS60 rfl
  refine lv_aload_n hx hb dX12_push_5 rfl (lv_at hl 0 rfl) ?_
  refine lv_iload_n hx hb dX12_push_6 rfl (lv_at hl 1 rfl) ?_
  refine lv_iload_n hx hb dX12_push_7 rfl (lv_at hl 2 rfl) ?_
  have c62 : S60 6 = .inl (g.2 0, 5, .inl f19) := (up_ne eS60 (by decide) c20)
  have c63 : S60 7 = .inl (g.2 0, 50, .inl f1) := (up_ne eS60 (by decide) c2)
  refine xcVi E hs hQ hml hl.1 0 (gX12_isPush_0 l g ad hD S60 hI a1 a2) mX12_isPush q1922 (by decide) c61 rfl rfl ⟨(Nat.le_of_ble_eq_true rfl), (Nat.le_of_ble_eq_true rfl)⟩ ⟨(Nat.le_of_ble_eq_true rfl), (Nat.le_of_ble_eq_true rfl)⟩ (Nat.le_of_ble_eq_true rfl) rfl dX12_push_8 (fun r64 S64 H locs hp64 hQ _ => ?_)
  obtain ⟨rfl, b64, g64_0⟩ := hp64
  have q65 : elm (S60 6) 0 = v22.toInt := (elm_of c62 0).trans (congrArg Int32.toInt (ee23))
  have q66 : elm (S60 7) 6 = v13.toInt := (elm_of c63 6).trans (congrArg Int32.toInt (ee14))
  refine lv_if_eq (tgt := 24) hx hb dX12_push_11 (by decide) (fun k67 => ?_) (fun k67 => ?_)
  · have h68 := ib_eq k67
    have b69 : Bd r64 (0) (0) := ⟨(b64).1, ((rf_eq b64 (by decide : Bd 0 (0) (0)) h68).1).2⟩
    clear g64_0
    refine lv_bipush (v := (-2)) hx hb dX12_push_24 (by decide) ?_
    exact xri E hr hlk hQ (⟨hI, (up_o o_refl eS60 (by decide)), (ib_wk (by decide : Bd (-2) (-2) (-2)) (by decide) (by decide))⟩) dX12_push_26
  · have h70 := ib_ne k67
    have b71 : Bd r64 (1) (1) := rf_nlo b64 (by decide : Bd 0 (0) (0)) h70
    have g72 := g64_0.resolve_left (by omega)
    clear g64_0
    have b73 : Bd v22 (1) (40000) := ⟨by omega, (b24).2⟩
    have b74 : Bd a1 (0) (7) := ⟨by omega, by omega⟩
    have b75 : Bd v13 (1) (8) := ⟨by omega, (b15).2⟩
    refine lv_aload_n hx hb dX12_push_14 rfl (lv_at hl 0 rfl) ?_
    refine lv_iload_n hx hb dX12_push_15 rfl (lv_at hl 1 rfl) ?_
    refine lv_iload_n hx hb dX12_push_16 rfl (lv_at hl 2 rfl) ?_
    refine lv_iload_n hx hb dX12_push_17 rfl (lv_at hl 3 rfl) ?_
    have q76 : elm (S60 7) 0 = v7.toInt := (elm_of c63 0).trans (congrArg Int32.toInt (ee8))
    have q77 : elm (S60 7) 1 = v4.toInt := (elm_of c63 1).trans (congrArg Int32.toInt (ee5))
    refine xcVi E hs hQ hml hl.1 0 (gX12_pushOf_0 l g ad hD S60 hI a1 a2 a3 b74 (by omega) (by omega) (by omega) (ht_tr hHT0 (up_eq (j := 7) eS60 (by decide)) (up_eq (j := 9) eS60 (by decide)))) mX12_pushOf q1942 (by decide) c61 rfl rfl ⟨(Nat.le_of_ble_eq_true rfl), (Nat.le_of_ble_eq_true rfl)⟩ ⟨(Nat.le_of_ble_eq_true rfl), (Nat.le_of_ble_eq_true rfl)⟩ (Nat.le_of_ble_eq_true rfl) rfl dX12_push_18 (fun r78 S78 H locs hp78 hQ _ => ?_)
    obtain ⟨hI, o78, b78⟩ := hp78
    refine lv_goto (tgt := 26) hx hb dX12_push_21 (by decide) ?_
    exact xri E hr hlk hQ (⟨hI, (o_trans (up_o o_refl eS60 (by decide)) o78 (by decide)), (ib_wk b78 (by decide) (by decide))⟩) dX12_push_26
set_option maxHeartbeats 4000000 in
set_option maxRecDepth 100000 in
theorem gX12_way_0 (l : Launch) (g : GG) (ad : Nat → Nat) (hD : Dj ad 20) (S : SS) (hI : InvM g ad S) (a1 : Int32) (a2 : Int32) (a3 : Int32) (hq1 : 0 ≤ 12 * elm (S 7) 1 + (-1) * elm (S 7) 0) (hq2 : 0 ≤ 12 * elm (S 7) 3 + (-1) * elm (S 7) 0) (hq3 : 0 ≤ 8 * elm (S 7) 0 + (-1) * elm (S 7) 6) (hq4 : 0 ≤ 3 * elm (S 7) 0 + (-1) * elm (S 7) 8) (hq5 : 0 ≤ 40000 * elm (S 7) 0 + (-1) * elm (S 6) 0) (hHT0 : HTp (S 7) (S 9) 0) : Met l yX12_way (wG (.code yX12_way cX12_way 4 (some .int))) (Rm 6) (XPre g ad 20 S [.ref (ad 0), .int a1, .int a2, .int a3]) (va_Qi (fun r S' => InvM g ad S' ∧ (∀ j, j ∉ ([0, 16] : List Nat) → S' j = S j) ∧ Bd r (-2) (1)) (QB g ad 20) (FA ad 20)) 0 0 (FA ad 20) := by
  refine xmet cX12_way "EbbWreckModel" (by decide) rfl (Nat.le_of_ble_eq_true rfl) (fun p e s m below meth c E hr hlk hml hQ ls hl => ?_)
  have hx := E.1
  have hb := E.2.1
  have hs : Sp ad 20 (FA ad 20) := Sp.fa hD
  have hl : lv_has ls 4 [(0, .ref (ad 0)), (1, .int a1), (2, .int a2), (3, .int a3)] := hl
  obtain ⟨f1, c2, b3⟩ := invM_7 hI
  obtain ⟨v4, ee5⟩ : ∃ z : Int32, f1 1 = z := ⟨_, rfl⟩
  have b6 : Bd v4 (0) (12) := (by rw [← ee5]; exact b3.2.1 1 (by decide))
  obtain ⟨v7, ee8⟩ : ∃ z : Int32, f1 0 = z := ⟨_, rfl⟩
  have b9 : Bd v7 (0) (12) := (by rw [← ee8]; exact b3.1 0 (by decide))
  obtain ⟨v10, ee11⟩ : ∃ z : Int32, f1 3 = z := ⟨_, rfl⟩
  have b12 : Bd v10 (0) (12) := (by rw [← ee11]; exact b3.2.2.2.1 3 (by decide))
  obtain ⟨v13, ee14⟩ : ∃ z : Int32, f1 6 = z := ⟨_, rfl⟩
  have b15 : Bd v13 (0) (8) := (by rw [← ee14]; exact b3.2.2.2.2.1 6 (by decide))
  obtain ⟨v16, ee17⟩ : ∃ z : Int32, f1 8 = z := ⟨_, rfl⟩
  have b18 : Bd v16 (0) (3) := (by rw [← ee17]; exact b3.2.2.2.2.2.2.1 8 (by decide))
  obtain ⟨f19, c20, b21⟩ := invM_6 hI
  obtain ⟨v22, ee23⟩ : ∃ z : Int32, f19 0 = z := ⟨_, rfl⟩
  have b24 : Bd v22 (0) (40000) := (by rw [← ee23]; exact b21 0)
  have q25 : elm (S 7) 1 = v4.toInt := (elm_of c2 1).trans (congrArg Int32.toInt (ee5))
  have q26 : elm (S 7) 0 = v7.toInt := (elm_of c2 0).trans (congrArg Int32.toInt (ee8))
  have q27 : elm (S 7) 3 = v10.toInt := (elm_of c2 3).trans (congrArg Int32.toInt (ee11))
  have q28 : elm (S 7) 6 = v13.toInt := (elm_of c2 6).trans (congrArg Int32.toInt (ee14))
  have q29 : elm (S 7) 8 = v16.toInt := (elm_of c2 8).trans (congrArg Int32.toInt (ee17))
  have q30 : elm (S 6) 0 = v22.toInt := (elm_of c20 0).trans (congrArg Int32.toInt (ee23))
  refine lv_aload_n hx hb dX12_way_0 rfl (lv_at hl 0 rfl) ?_
  refine lv_iconst (v := 0) hx hb dX12_way_1 (by decide) ?_
  obtain ⟨v31, v32, v34, v36, v38, v39, w40, v41, v43, v44, v45, v46, v48, v50, v52, v54, v56, v57, v58, c59, b33, b35, b37, b42, b47, b49, b51, b53, b55⟩ := invM_0 hI
  have c59 : S 0 = .inr (12, [.int v31, .ref (ad 1), .ref (ad 2), .ref (ad 3), .ref (ad 4), .ref (ad 5), .int v32, .int v34, .int v36, .int v38, .int v39, .long w40, .int v41, .int v43, .int v44, .int v45, .ref (ad 6), .ref (ad 7), .ref (ad 8), .ref (ad 9), .ref (ad 10), .ref (ad 11), .ref (ad 12), .ref (ad 13), .ref (ad 14), .ref (ad 15), .int v46, .int v48, .ref (ad 16), .int v50, .int v52, .int v54, .int v56, .int v57, .ref (ad 17), .ref (ad 18), .int v58, .ref (ad 19)]) := c59
  refine xputi E hs hQ 0 (by decide) c59 rfl 0 (by decide) q1468 rfl rfl (Nat.le_of_ble_eq_true rfl) dX12_way_2 (fun H locs S60 eS60 hQ => ?_)
  have hI := invM_up_0 hI eS60 ⟨0, v32, v34, v36, v38, v39, w40, v41, v43, v44, v45, v46, v48, v50, v52, v54, v56, v57, v58, rfl, b33, b35, b37, b42, b47, b49, b51, b53, b55⟩
  have c61 : S60 0 = .inr (12, [.int 0, .ref (ad 1), .ref (ad 2), .ref (ad 3), .ref (ad 4), .ref (ad 5), .int v32, .int v34, .int v36, .int v38, .int v39, .long w40, .int v41, .int v43, .int v44, .int v45, .ref (ad 6), .ref (ad 7), .ref (ad 8), .ref (ad 9), .ref (ad 10), .ref (ad 11), .ref (ad 12), .ref (ad 13), .ref (ad 14), .ref (ad 15), .int v46, .int v48, .ref (ad 16), .int v50, .int v52, .int v54, .int v56, .int v57, .ref (ad 17), .ref (ad 18), .int v58, .ref (ad 19)]) := up_at eS60 rfl
  refine lv_aload_n hx hb dX12_way_5 rfl (lv_at hl 0 rfl) ?_
  refine lv_iload_n hx hb dX12_way_6 rfl (lv_at hl 1 rfl) ?_
  refine lv_iload_n hx hb dX12_way_7 rfl (lv_at hl 2 rfl) ?_
  have c62 : S60 6 = .inl (g.2 0, 5, .inl f19) := (up_ne eS60 (by decide) c20)
  have c63 : S60 7 = .inl (g.2 0, 50, .inl f1) := (up_ne eS60 (by decide) c2)
  refine xcVi E hs hQ hml hl.1 0 (gX12_isPush_0 l g ad hD S60 hI a1 a2) mX12_isPush q1922 (by decide) c61 rfl rfl ⟨(Nat.le_of_ble_eq_true rfl), (Nat.le_of_ble_eq_true rfl)⟩ ⟨(Nat.le_of_ble_eq_true rfl), (Nat.le_of_ble_eq_true rfl)⟩ (Nat.le_of_ble_eq_true rfl) rfl dX12_way_8 (fun r64 S64 H locs hp64 hQ _ => ?_)
  obtain ⟨rfl, b64, g64_0⟩ := hp64
  have q65 : elm (S60 6) 0 = v22.toInt := (elm_of c62 0).trans (congrArg Int32.toInt (ee23))
  have q66 : elm (S60 7) 6 = v13.toInt := (elm_of c63 6).trans (congrArg Int32.toInt (ee14))
  refine lv_if_ne (tgt := 17) hx hb dX12_way_11 (by decide) (fun k67 => ?_) (fun k67 => ?_)
  · have h68 := ib_ne k67
    have b69 : Bd r64 (1) (1) := rf_nlo b64 (by decide : Bd 0 (0) (0)) h68
    have g70 := g64_0.resolve_left (by omega)
    clear g64_0
    have b71 : Bd v22 (1) (40000) := ⟨by omega, (b24).2⟩
    have b72 : Bd a1 (0) (7) := ⟨by omega, by omega⟩
    have b73 : Bd v13 (1) (8) := ⟨by omega, (b15).2⟩
    refine lv_aload_n hx hb dX12_way_17 rfl (lv_at hl 0 rfl) ?_
    refine lv_iload_n hx hb dX12_way_18 rfl (lv_at hl 1 rfl) ?_
    refine lv_iload_n hx hb dX12_way_19 rfl (lv_at hl 2 rfl) ?_
    refine lv_iload_n hx hb dX12_way_20 rfl (lv_at hl 3 rfl) ?_
    have q74 : elm (S60 7) 0 = v7.toInt := (elm_of c63 0).trans (congrArg Int32.toInt (ee8))
    have q75 : elm (S60 7) 1 = v4.toInt := (elm_of c63 1).trans (congrArg Int32.toInt (ee5))
    refine xcVi E hs hQ hml hl.1 0 (gX12_pushOf_0 l g ad hD S60 hI a1 a2 a3 b72 (by omega) (by omega) (by omega) (ht_tr hHT0 (up_eq (j := 7) eS60 (by decide)) (up_eq (j := 9) eS60 (by decide)))) mX12_pushOf q1942 (by decide) c61 rfl rfl ⟨(Nat.le_of_ble_eq_true rfl), (Nat.le_of_ble_eq_true rfl)⟩ ⟨(Nat.le_of_ble_eq_true rfl), (Nat.le_of_ble_eq_true rfl)⟩ (Nat.le_of_ble_eq_true rfl) rfl dX12_way_21 (fun r76 S76 H locs hp76 hQ _ => ?_)
    obtain ⟨hI, o76, b76⟩ := hp76
    refine lv_iconst (v := (-1)) hx hb dX12_way_24 (by decide) ?_
    refine lv_icmp_ne (tgt := 32) hx hb dX12_way_25 (by decide) (fun k77 => ?_) (fun k77 => ?_)
    · have h78 := ib_ne k77
      have b79 : Bd r76 (0) (99) := rf_nlo b76 (by decide : Bd (-1) (-1) (-1)) h78
      refine lv_aload_n hx hb dX12_way_32 rfl (lv_at hl 0 rfl) ?_
      obtain ⟨v80, v81, v83, v85, v87, v88, w89, v90, v92, v93, v94, v95, v97, v99, v101, v103, v105, v106, v107, c108, b82, b84, b86, b91, b96, b98, b100, b102, b104⟩ := invM_0 hI
      have c108 : S76 0 = .inr (12, [.int v80, .ref (ad 1), .ref (ad 2), .ref (ad 3), .ref (ad 4), .ref (ad 5), .int v81, .int v83, .int v85, .int v87, .int v88, .long w89, .int v90, .int v92, .int v93, .int v94, .ref (ad 6), .ref (ad 7), .ref (ad 8), .ref (ad 9), .ref (ad 10), .ref (ad 11), .ref (ad 12), .ref (ad 13), .ref (ad 14), .ref (ad 15), .int v95, .int v97, .ref (ad 16), .int v99, .int v101, .int v103, .int v105, .int v106, .ref (ad 17), .ref (ad 18), .int v107, .ref (ad 19)]) := c108
      refine xget E hQ 0 (by decide) c108 rfl 29 (by decide) q1497 rfl dX12_way_33 ?_
      refine lv_iconst (v := 1) hx hb dX12_way_36 (by decide) ?_
      refine lv_isub hx hb dX12_way_37 ?_
      refine lv_topi (fun z109 e110 => ?_)
      have t111 := ib_sub e110 b100 (by decide : Bd 1 (1) (1)) (by decide) (by decide)
      have b112 : Bd z109 (-1) (1) := ib_subb t111 b100 (by decide : Bd 1 (1) (1))
      have t111 : z109.toInt = v99.toInt - 1 := fold_sub t111 rfl (by decide)
      exact xri E hr hlk hQ (⟨hI, (o_trans (up_o o_refl eS60 (by decide)) o76 (by decide)), (ib_wk b112 (by decide) (by decide))⟩) dX12_way_38
    · have h113 := ib_eq k77
      have b114 : Bd r76 (-1) (-1) := ⟨(b76).1, ((rf_eq b76 (by decide : Bd (-1) (-1) (-1)) h113).1).2⟩
      refine lv_iconst (v := (-1)) hx hb dX12_way_28 (by decide) ?_
      refine lv_goto (tgt := 38) hx hb dX12_way_29 (by decide) ?_
      exact xri E hr hlk hQ (⟨hI, (o_trans (up_o o_refl eS60 (by decide)) o76 (by decide)), (ib_wk (by decide : Bd (-1) (-1) (-1)) (by decide) (by decide))⟩) dX12_way_38
  · have h115 := ib_eq k67
    have b116 : Bd r64 (0) (0) := ⟨(b64).1, ((rf_eq b64 (by decide : Bd 0 (0) (0)) h115).1).2⟩
    clear g64_0
    refine lv_bipush (v := (-2)) hx hb dX12_way_14 (by decide) ?_
    exact xri E hr hlk hQ (⟨hI, (up_o o_refl eS60 (by decide)), (ib_wk (by decide : Bd (-2) (-2) (-2)) (by decide) (by decide))⟩) dX12_way_16
